section
-- ===== PART A: goes FIRST, ahead of the names: the tables' words, and 'selects' of the private methods out of them =====
/-- a private method of a class that the tables say can be made, by its rows of tables_1 -/
def lw_okq (q : MethodName × Nat) : Prop := (q.1.cls ≠ "java/lang/invoke/MethodHandle" ∧ q.1.cls ≠ "java/lang/invoke/VarHandle") ∧ Cond.instantiable q.1.cls q.2 ∈ tables_1 ∧ Cond.privateMethod q.1 ∈ tables_1 ∧ Cond.instanceMethod q.1 ∈ tables_1
theorem lw_p0 : lw_okq (⟨"OverSands$Telling", "readHead", "(LOverSands$Ground;)V"⟩, 4) := ⟨⟨by decide +kernel, by decide +kernel⟩, List.mem_of_getElem? (i := 21) (by decide +kernel), List.mem_of_getElem? (i := 241) (by decide +kernel), List.mem_of_getElem? (i := 242) (by decide +kernel)⟩
theorem lw_p1 : lw_okq (⟨"OverSands$Telling", "letterHere", "()I"⟩, 4) := ⟨⟨by decide +kernel, by decide +kernel⟩, List.mem_of_getElem? (i := 21) (by decide +kernel), List.mem_of_getElem? (i := 245) (by decide +kernel), List.mem_of_getElem? (i := 246) (by decide +kernel)⟩
theorem lw_p2 : lw_okq (⟨"OverSands$Telling", "figure", "(II)I"⟩, 4) := ⟨⟨by decide +kernel, by decide +kernel⟩, List.mem_of_getElem? (i := 21) (by decide +kernel), List.mem_of_getElem? (i := 249) (by decide +kernel), List.mem_of_getElem? (i := 250) (by decide +kernel)⟩
theorem lw_p3 : lw_okq (⟨"OverSands$Telling", "readPart", "(LOverSands$Ground;)V"⟩, 4) := ⟨⟨by decide +kernel, by decide +kernel⟩, List.mem_of_getElem? (i := 21) (by decide +kernel), List.mem_of_getElem? (i := 260) (by decide +kernel), List.mem_of_getElem? (i := 261) (by decide +kernel)⟩
theorem lw_p4 : lw_okq (⟨"OverSands$Telling", "readWalker", "(LOverSands$Ground;)V"⟩, 4) := ⟨⟨by decide +kernel, by decide +kernel⟩, List.mem_of_getElem? (i := 21) (by decide +kernel), List.mem_of_getElem? (i := 264) (by decide +kernel), List.mem_of_getElem? (i := 265) (by decide +kernel)⟩
theorem lw_p5 : lw_okq (⟨"OverSands$Telling", "readTower", "(LOverSands$Ground;)V"⟩, 4) := ⟨⟨by decide +kernel, by decide +kernel⟩, List.mem_of_getElem? (i := 21) (by decide +kernel), List.mem_of_getElem? (i := 272) (by decide +kernel), List.mem_of_getElem? (i := 273) (by decide +kernel)⟩
theorem lw_p6 : lw_okq (⟨"OverSands$Telling", "readSoft", "(LOverSands$Ground;)V"⟩, 4) := ⟨⟨by decide +kernel, by decide +kernel⟩, List.mem_of_getElem? (i := 21) (by decide +kernel), List.mem_of_getElem? (i := 284) (by decide +kernel), List.mem_of_getElem? (i := 285) (by decide +kernel)⟩
theorem lw_p7 : lw_okq (⟨"OverSands", "waterAt", "(I)I"⟩, 10) := ⟨⟨by decide +kernel, by decide +kernel⟩, List.mem_of_getElem? (i := 13) (by decide +kernel), List.mem_of_getElem? (i := 316) (by decide +kernel), List.mem_of_getElem? (i := 317) (by decide +kernel)⟩
theorem lw_p8 : lw_okq (⟨"OverSands$Moment", "valueOf", "(II)I"⟩, 1) := ⟨⟨by decide +kernel, by decide +kernel⟩, List.mem_of_getElem? (i := 94) (by decide +kernel), List.mem_of_getElem? (i := 332) (by decide +kernel), List.mem_of_getElem? (i := 333) (by decide +kernel)⟩
theorem lw_p9 : lw_okq (⟨"OverSands", "upOn", "(I)I"⟩, 10) := ⟨⟨by decide +kernel, by decide +kernel⟩, List.mem_of_getElem? (i := 13) (by decide +kernel), List.mem_of_getElem? (i := 351) (by decide +kernel), List.mem_of_getElem? (i := 352) (by decide +kernel)⟩
theorem lw_p10 : lw_okq (⟨"OverSands", "isWalker", "(I)Z"⟩, 10) := ⟨⟨by decide +kernel, by decide +kernel⟩, List.mem_of_getElem? (i := 13) (by decide +kernel), List.mem_of_getElem? (i := 367) (by decide +kernel), List.mem_of_getElem? (i := 368) (by decide +kernel)⟩
theorem lw_p11 : lw_okq (⟨"OverSands", "isWalking", "(I)Z"⟩, 10) := ⟨⟨by decide +kernel, by decide +kernel⟩, List.mem_of_getElem? (i := 13) (by decide +kernel), List.mem_of_getElem? (i := 396) (by decide +kernel), List.mem_of_getElem? (i := 397) (by decide +kernel)⟩
theorem lw_p12 : lw_okq (⟨"OverSands$Moment", "setValue", "(III)V"⟩, 1) := ⟨⟨by decide +kernel, by decide +kernel⟩, List.mem_of_getElem? (i := 94) (by decide +kernel), List.mem_of_getElem? (i := 415) (by decide +kernel), List.mem_of_getElem? (i := 416) (by decide +kernel)⟩
theorem lw_p13 : lw_okq (⟨"OverSands", "moveOne", "(I)Z"⟩, 10) := ⟨⟨by decide +kernel, by decide +kernel⟩, List.mem_of_getElem? (i := 13) (by decide +kernel), List.mem_of_getElem? (i := 423) (by decide +kernel), List.mem_of_getElem? (i := 424) (by decide +kernel)⟩
theorem lw_p14 : lw_okq (⟨"OverSands$Trip", "goAlong", "(LOverSands$Ground;II)V"⟩, 6) := ⟨⟨by decide +kernel, by decide +kernel⟩, List.mem_of_getElem? (i := 140) (by decide +kernel), List.mem_of_getElem? (i := 438) (by decide +kernel), List.mem_of_getElem? (i := 439) (by decide +kernel)⟩
theorem lw_p15 : lw_okq (⟨"OverSands", "roomOn", "(I)I"⟩, 10) := ⟨⟨by decide +kernel, by decide +kernel⟩, List.mem_of_getElem? (i := 13) (by decide +kernel), List.mem_of_getElem? (i := 464) (by decide +kernel), List.mem_of_getElem? (i := 465) (by decide +kernel)⟩
def lw_privs_1 : List (MethodName × Nat) := [(⟨"OverSands$Telling", "readHead", "(LOverSands$Ground;)V"⟩, 4), (⟨"OverSands$Telling", "letterHere", "()I"⟩, 4), (⟨"OverSands$Telling", "figure", "(II)I"⟩, 4), (⟨"OverSands$Telling", "readPart", "(LOverSands$Ground;)V"⟩, 4), (⟨"OverSands$Telling", "readWalker", "(LOverSands$Ground;)V"⟩, 4), (⟨"OverSands$Telling", "readTower", "(LOverSands$Ground;)V"⟩, 4), (⟨"OverSands$Telling", "readSoft", "(LOverSands$Ground;)V"⟩, 4), (⟨"OverSands", "waterAt", "(I)I"⟩, 10), (⟨"OverSands$Moment", "valueOf", "(II)I"⟩, 1), (⟨"OverSands", "upOn", "(I)I"⟩, 10), (⟨"OverSands", "isWalker", "(I)Z"⟩, 10), (⟨"OverSands", "isWalking", "(I)Z"⟩, 10), (⟨"OverSands$Moment", "setValue", "(III)V"⟩, 1), (⟨"OverSands", "moveOne", "(I)Z"⟩, 10), (⟨"OverSands$Trip", "goAlong", "(LOverSands$Ground;II)V"⟩, 6), (⟨"OverSands", "roomOn", "(I)I"⟩, 10)]
theorem lw_r1 : ∀ q ∈ lw_privs_1, lw_okq q := List.forall_mem_cons.mpr ⟨lw_p0, List.forall_mem_cons.mpr ⟨lw_p1, List.forall_mem_cons.mpr ⟨lw_p2, List.forall_mem_cons.mpr ⟨lw_p3, List.forall_mem_cons.mpr ⟨lw_p4, List.forall_mem_cons.mpr ⟨lw_p5, List.forall_mem_cons.mpr ⟨lw_p6, List.forall_mem_cons.mpr ⟨lw_p7, List.forall_mem_cons.mpr ⟨lw_p8, List.forall_mem_cons.mpr ⟨lw_p9, List.forall_mem_cons.mpr ⟨lw_p10, List.forall_mem_cons.mpr ⟨lw_p11, List.forall_mem_cons.mpr ⟨lw_p12, List.forall_mem_cons.mpr ⟨lw_p13, List.forall_mem_cons.mpr ⟨lw_p14, List.forall_mem_cons.mpr ⟨lw_p15, fun _ h => absurd h List.not_mem_nil⟩⟩⟩⟩⟩⟩⟩⟩⟩⟩⟩⟩⟩⟩⟩⟩
theorem lw_p16 : lw_okq (⟨"OverSands", "arrival", "(IIII)I"⟩, 10) := ⟨⟨by decide +kernel, by decide +kernel⟩, List.mem_of_getElem? (i := 13) (by decide +kernel), List.mem_of_getElem? (i := 484) (by decide +kernel), List.mem_of_getElem? (i := 485) (by decide +kernel)⟩
theorem lw_p17 : lw_okq (⟨"OverSands", "outlastsStanding", "(III)Z"⟩, 10) := ⟨⟨by decide +kernel, by decide +kernel⟩, List.mem_of_getElem? (i := 13) (by decide +kernel), List.mem_of_getElem? (i := 511) (by decide +kernel), List.mem_of_getElem? (i := 512) (by decide +kernel)⟩
theorem lw_p18 : lw_okq (⟨"OverSands", "isSafe", "(III)Z"⟩, 10) := ⟨⟨by decide +kernel, by decide +kernel⟩, List.mem_of_getElem? (i := 13) (by decide +kernel), List.mem_of_getElem? (i := 515) (by decide +kernel), List.mem_of_getElem? (i := 516) (by decide +kernel)⟩
theorem lw_p19 : lw_okq (⟨"OverSands", "meetingStep", "()I"⟩, 10) := ⟨⟨by decide +kernel, by decide +kernel⟩, List.mem_of_getElem? (i := 13) (by decide +kernel), List.mem_of_getElem? (i := 537) (by decide +kernel), List.mem_of_getElem? (i := 538) (by decide +kernel)⟩
theorem lw_p20 : lw_okq (⟨"OverSands$Wander", "wanderOn", "(II)V"⟩, 2) := ⟨⟨by decide +kernel, by decide +kernel⟩, List.mem_of_getElem? (i := 169) (by decide +kernel), List.mem_of_getElem? (i := 568) (by decide +kernel), List.mem_of_getElem? (i := 569) (by decide +kernel)⟩
theorem lw_p21 : lw_okq (⟨"OverSands", "isOverByLow", "(III)Z"⟩, 10) := ⟨⟨by decide +kernel, by decide +kernel⟩, List.mem_of_getElem? (i := 13) (by decide +kernel), List.mem_of_getElem? (i := 592) (by decide +kernel), List.mem_of_getElem? (i := 593) (by decide +kernel)⟩
theorem lw_p22 : lw_okq (⟨"OverSands", "drawnWay", "()I"⟩, 10) := ⟨⟨by decide +kernel, by decide +kernel⟩, List.mem_of_getElem? (i := 13) (by decide +kernel), List.mem_of_getElem? (i := 604) (by decide +kernel), List.mem_of_getElem? (i := 605) (by decide +kernel)⟩
theorem lw_p23 : lw_okq (⟨"OverSandsModel", "readBay", "()I"⟩, 37) := ⟨⟨by decide +kernel, by decide +kernel⟩, List.mem_of_getElem? (i := 624) (by decide +kernel), List.mem_of_getElem? (i := 759) (by decide +kernel), List.mem_of_getElem? (i := 760) (by decide +kernel)⟩
theorem lw_p24 : lw_okq (⟨"OverSandsModel", "readHead", "()Z"⟩, 37) := ⟨⟨by decide +kernel, by decide +kernel⟩, List.mem_of_getElem? (i := 624) (by decide +kernel), List.mem_of_getElem? (i := 763) (by decide +kernel), List.mem_of_getElem? (i := 764) (by decide +kernel)⟩
theorem lw_p25 : lw_okq (⟨"OverSandsModel", "figure", "(II)I"⟩, 37) := ⟨⟨by decide +kernel, by decide +kernel⟩, List.mem_of_getElem? (i := 624) (by decide +kernel), List.mem_of_getElem? (i := 767) (by decide +kernel), List.mem_of_getElem? (i := 768) (by decide +kernel)⟩
theorem lw_p26 : lw_okq (⟨"OverSandsModel", "readPart", "()Z"⟩, 37) := ⟨⟨by decide +kernel, by decide +kernel⟩, List.mem_of_getElem? (i := 624) (by decide +kernel), List.mem_of_getElem? (i := 771) (by decide +kernel), List.mem_of_getElem? (i := 772) (by decide +kernel)⟩
theorem lw_p27 : lw_okq (⟨"OverSandsModel", "readWalker", "()Z"⟩, 37) := ⟨⟨by decide +kernel, by decide +kernel⟩, List.mem_of_getElem? (i := 624) (by decide +kernel), List.mem_of_getElem? (i := 775) (by decide +kernel), List.mem_of_getElem? (i := 776) (by decide +kernel)⟩
theorem lw_p28 : lw_okq (⟨"OverSandsModel", "readTower", "()Z"⟩, 37) := ⟨⟨by decide +kernel, by decide +kernel⟩, List.mem_of_getElem? (i := 624) (by decide +kernel), List.mem_of_getElem? (i := 779) (by decide +kernel), List.mem_of_getElem? (i := 780) (by decide +kernel)⟩
theorem lw_p29 : lw_okq (⟨"OverSandsModel", "freeTowers", "()I"⟩, 37) := ⟨⟨by decide +kernel, by decide +kernel⟩, List.mem_of_getElem? (i := 624) (by decide +kernel), List.mem_of_getElem? (i := 783) (by decide +kernel), List.mem_of_getElem? (i := 784) (by decide +kernel)⟩
theorem lw_p30 : lw_okq (⟨"OverSandsModel", "one", "(I)I"⟩, 37) := ⟨⟨by decide +kernel, by decide +kernel⟩, List.mem_of_getElem? (i := 624) (by decide +kernel), List.mem_of_getElem? (i := 787) (by decide +kernel), List.mem_of_getElem? (i := 788) (by decide +kernel)⟩
theorem lw_p31 : lw_okq (⟨"OverSandsModel", "water", "(II)I"⟩, 37) := ⟨⟨by decide +kernel, by decide +kernel⟩, List.mem_of_getElem? (i := 624) (by decide +kernel), List.mem_of_getElem? (i := 803) (by decide +kernel), List.mem_of_getElem? (i := 804) (by decide +kernel)⟩
def lw_privs_2 : List (MethodName × Nat) := [(⟨"OverSands", "arrival", "(IIII)I"⟩, 10), (⟨"OverSands", "outlastsStanding", "(III)Z"⟩, 10), (⟨"OverSands", "isSafe", "(III)Z"⟩, 10), (⟨"OverSands", "meetingStep", "()I"⟩, 10), (⟨"OverSands$Wander", "wanderOn", "(II)V"⟩, 2), (⟨"OverSands", "isOverByLow", "(III)Z"⟩, 10), (⟨"OverSands", "drawnWay", "()I"⟩, 10), (⟨"OverSandsModel", "readBay", "()I"⟩, 37), (⟨"OverSandsModel", "readHead", "()Z"⟩, 37), (⟨"OverSandsModel", "figure", "(II)I"⟩, 37), (⟨"OverSandsModel", "readPart", "()Z"⟩, 37), (⟨"OverSandsModel", "readWalker", "()Z"⟩, 37), (⟨"OverSandsModel", "readTower", "()Z"⟩, 37), (⟨"OverSandsModel", "freeTowers", "()I"⟩, 37), (⟨"OverSandsModel", "one", "(I)I"⟩, 37), (⟨"OverSandsModel", "water", "(II)I"⟩, 37)]
theorem lw_r2 : ∀ q ∈ lw_privs_2, lw_okq q := List.forall_mem_cons.mpr ⟨lw_p16, List.forall_mem_cons.mpr ⟨lw_p17, List.forall_mem_cons.mpr ⟨lw_p18, List.forall_mem_cons.mpr ⟨lw_p19, List.forall_mem_cons.mpr ⟨lw_p20, List.forall_mem_cons.mpr ⟨lw_p21, List.forall_mem_cons.mpr ⟨lw_p22, List.forall_mem_cons.mpr ⟨lw_p23, List.forall_mem_cons.mpr ⟨lw_p24, List.forall_mem_cons.mpr ⟨lw_p25, List.forall_mem_cons.mpr ⟨lw_p26, List.forall_mem_cons.mpr ⟨lw_p27, List.forall_mem_cons.mpr ⟨lw_p28, List.forall_mem_cons.mpr ⟨lw_p29, List.forall_mem_cons.mpr ⟨lw_p30, List.forall_mem_cons.mpr ⟨lw_p31, fun _ h => absurd h List.not_mem_nil⟩⟩⟩⟩⟩⟩⟩⟩⟩⟩⟩⟩⟩⟩⟩⟩
theorem lw_p32 : lw_okq (⟨"OverSandsModel", "those", "(I)I"⟩, 37) := ⟨⟨by decide +kernel, by decide +kernel⟩, List.mem_of_getElem? (i := 624) (by decide +kernel), List.mem_of_getElem? (i := 807) (by decide +kernel), List.mem_of_getElem? (i := 808) (by decide +kernel)⟩
theorem lw_p33 : lw_okq (⟨"OverSandsModel", "towerOf", "(I)I"⟩, 37) := ⟨⟨by decide +kernel, by decide +kernel⟩, List.mem_of_getElem? (i := 624) (by decide +kernel), List.mem_of_getElem? (i := 819) (by decide +kernel), List.mem_of_getElem? (i := 820) (by decide +kernel)⟩
theorem lw_p34 : lw_okq (⟨"OverSandsModel", "deepBy", "(III)I"⟩, 37) := ⟨⟨by decide +kernel, by decide +kernel⟩, List.mem_of_getElem? (i := 624) (by decide +kernel), List.mem_of_getElem? (i := 823) (by decide +kernel), List.mem_of_getElem? (i := 824) (by decide +kernel)⟩
theorem lw_p35 : lw_okq (⟨"OverSandsModel", "upAt", "(I)I"⟩, 37) := ⟨⟨by decide +kernel, by decide +kernel⟩, List.mem_of_getElem? (i := 624) (by decide +kernel), List.mem_of_getElem? (i := 827) (by decide +kernel), List.mem_of_getElem? (i := 828) (by decide +kernel)⟩
theorem lw_p36 : lw_okq (⟨"OverSandsModel", "noOne", "(I)Z"⟩, 37) := ⟨⟨by decide +kernel, by decide +kernel⟩, List.mem_of_getElem? (i := 624) (by decide +kernel), List.mem_of_getElem? (i := 835) (by decide +kernel), List.mem_of_getElem? (i := 836) (by decide +kernel)⟩
theorem lw_p37 : lw_okq (⟨"OverSandsModel", "note", "()V"⟩, 37) := ⟨⟨by decide +kernel, by decide +kernel⟩, List.mem_of_getElem? (i := 624) (by decide +kernel), List.mem_of_getElem? (i := 849) (by decide +kernel), List.mem_of_getElem? (i := 850) (by decide +kernel)⟩
theorem lw_p38 : lw_okq (⟨"OverSandsModel", "goes", "(IIIII)I"⟩, 37) := ⟨⟨by decide +kernel, by decide +kernel⟩, List.mem_of_getElem? (i := 624) (by decide +kernel), List.mem_of_getElem? (i := 857) (by decide +kernel), List.mem_of_getElem? (i := 858) (by decide +kernel)⟩
theorem lw_p39 : lw_okq (⟨"OverSandsModel", "stateOf", "(IIIIII)I"⟩, 37) := ⟨⟨by decide +kernel, by decide +kernel⟩, List.mem_of_getElem? (i := 624) (by decide +kernel), List.mem_of_getElem? (i := 861) (by decide +kernel), List.mem_of_getElem? (i := 862) (by decide +kernel)⟩
theorem lw_p40 : lw_okq (⟨"OverSandsModel", "goneOf", "(IIIII)I"⟩, 37) := ⟨⟨by decide +kernel, by decide +kernel⟩, List.mem_of_getElem? (i := 624) (by decide +kernel), List.mem_of_getElem? (i := 877) (by decide +kernel), List.mem_of_getElem? (i := 878) (by decide +kernel)⟩
theorem lw_p41 : lw_okq (⟨"OverSandsModel", "goAlone", "(III)V"⟩, 37) := ⟨⟨by decide +kernel, by decide +kernel⟩, List.mem_of_getElem? (i := 624) (by decide +kernel), List.mem_of_getElem? (i := 881) (by decide +kernel), List.mem_of_getElem? (i := 882) (by decide +kernel)⟩
theorem lw_p42 : lw_okq (⟨"OverSandsModel", "noWalk", "(I)I"⟩, 37) := ⟨⟨by decide +kernel, by decide +kernel⟩, List.mem_of_getElem? (i := 624) (by decide +kernel), List.mem_of_getElem? (i := 893) (by decide +kernel), List.mem_of_getElem? (i := 894) (by decide +kernel)⟩
theorem lw_p43 : lw_okq (⟨"OverSandsModel", "findAhead", "()I"⟩, 37) := ⟨⟨by decide +kernel, by decide +kernel⟩, List.mem_of_getElem? (i := 624) (by decide +kernel), List.mem_of_getElem? (i := 916) (by decide +kernel), List.mem_of_getElem? (i := 917) (by decide +kernel)⟩
theorem lw_p44 : lw_okq (⟨"OverSandsModel", "beginOf", "(II)I"⟩, 37) := ⟨⟨by decide +kernel, by decide +kernel⟩, List.mem_of_getElem? (i := 624) (by decide +kernel), List.mem_of_getElem? (i := 920) (by decide +kernel), List.mem_of_getElem? (i := 921) (by decide +kernel)⟩
theorem lw_p45 : lw_okq (⟨"OverSandsModel", "isSaved", "(I)Z"⟩, 37) := ⟨⟨by decide +kernel, by decide +kernel⟩, List.mem_of_getElem? (i := 624) (by decide +kernel), List.mem_of_getElem? (i := 932) (by decide +kernel), List.mem_of_getElem? (i := 933) (by decide +kernel)⟩
def lw_privs_3 : List (MethodName × Nat) := [(⟨"OverSandsModel", "those", "(I)I"⟩, 37), (⟨"OverSandsModel", "towerOf", "(I)I"⟩, 37), (⟨"OverSandsModel", "deepBy", "(III)I"⟩, 37), (⟨"OverSandsModel", "upAt", "(I)I"⟩, 37), (⟨"OverSandsModel", "noOne", "(I)Z"⟩, 37), (⟨"OverSandsModel", "note", "()V"⟩, 37), (⟨"OverSandsModel", "goes", "(IIIII)I"⟩, 37), (⟨"OverSandsModel", "stateOf", "(IIIIII)I"⟩, 37), (⟨"OverSandsModel", "goneOf", "(IIIII)I"⟩, 37), (⟨"OverSandsModel", "goAlone", "(III)V"⟩, 37), (⟨"OverSandsModel", "noWalk", "(I)I"⟩, 37), (⟨"OverSandsModel", "findAhead", "()I"⟩, 37), (⟨"OverSandsModel", "beginOf", "(II)I"⟩, 37), (⟨"OverSandsModel", "isSaved", "(I)Z"⟩, 37)]
theorem lw_r3 : ∀ q ∈ lw_privs_3, lw_okq q := List.forall_mem_cons.mpr ⟨lw_p32, List.forall_mem_cons.mpr ⟨lw_p33, List.forall_mem_cons.mpr ⟨lw_p34, List.forall_mem_cons.mpr ⟨lw_p35, List.forall_mem_cons.mpr ⟨lw_p36, List.forall_mem_cons.mpr ⟨lw_p37, List.forall_mem_cons.mpr ⟨lw_p38, List.forall_mem_cons.mpr ⟨lw_p39, List.forall_mem_cons.mpr ⟨lw_p40, List.forall_mem_cons.mpr ⟨lw_p41, List.forall_mem_cons.mpr ⟨lw_p42, List.forall_mem_cons.mpr ⟨lw_p43, List.forall_mem_cons.mpr ⟨lw_p44, List.forall_mem_cons.mpr ⟨lw_p45, fun _ h => absurd h List.not_mem_nil⟩⟩⟩⟩⟩⟩⟩⟩⟩⟩⟩⟩⟩⟩
def lw_privs : List (MethodName × Nat) := lw_privs_1 ++ (lw_privs_2 ++ (lw_privs_3))
def lw_tbl : List Cond := k2_sels lw_privs ++ tables_1
theorem lw_privs_ok : ∀ q ∈ lw_privs, lw_okq q := by
  show ∀ q ∈ lw_privs_1 ++ (lw_privs_2 ++ (lw_privs_3)), lw_okq q
  exact List.forall_mem_append.mpr ⟨lw_r1, List.forall_mem_append.mpr ⟨lw_r2, lw_r3⟩⟩
end
section
def RX0 : String := "OverSands$Acts"
def TX0 : u_T := fun k => match k with
  | 0 => ("OverSands$Acts", "before", "LOverSands$Shelf;", true)
  | 1 => ("OverSands$Acts", "next", "I", false)
  | _ => ("OverSands$Acts", "count", "I", false)
def tyX0 : Nat → FieldType := fun k => match k with
  | 0 => .object "OverSands$Shelf"
  | 1 => .int
  | _ => .int
abbrev wsX00 : List Cond := u_ws RX0 TX0 3
theorem nmX0 : ∀ a, a < 3 → ∀ b, b < 3 → a ≠ b → (TX0 a).2.1 ≠ (TX0 b).2.1 := by decide +kernel
theorem tyX0_ok : ∀ k, k < 3 → parseFieldDescriptor (TX0 k).2.2.1 = some (tyX0 k) := by decide +kernel
abbrev cX0_init : ByteArray := prog_2_method_1_code
def yX0_init : MethodName := ⟨RX0, "<init>", "()V"⟩
abbrev cX0_clear : ByteArray := prog_2_method_2_code
def yX0_clear : MethodName := ⟨RX0, "clear", "()V"⟩
abbrev cX0_remember : ByteArray := prog_2_method_3_code
def yX0_remember : MethodName := ⟨RX0, "remember", "(LOverSands$Moment;)V"⟩
abbrev cX0_takeBack : ByteArray := prog_2_method_4_code
def yX0_takeBack : MethodName := ⟨RX0, "takeBack", "(LOverSands$Moment;)V"⟩
def RX1 : String := "OverSands$Ground"
def TX1 : u_T := fun k => match k with
  | 0 => ("OverSands$Ground", "heights", "[I", true)
  | 1 => ("OverSands$Ground", "soft", "[Z", true)
  | 2 => ("OverSands$Ground", "holds", "[I", true)
  | 3 => ("OverSands$Ground", "paces", "[I", true)
  | 4 => ("OverSands$Ground", "wades", "[I", true)
  | 5 => ("OverSands$Ground", "walkers", "I", false)
  | 6 => ("OverSands$Ground", "towers", "I", false)
  | 7 => ("OverSands$Ground", "softs", "I", false)
  | 8 => ("OverSands$Ground", "low", "I", false)
  | 9 => ("OverSands$Ground", "rise", "I", false)
  | _ => ("OverSands$Ground", "least", "I", false)
def tyX1 : Nat → FieldType := fun k => match k with
  | 0 => .array .int
  | 1 => .array .boolean
  | 2 => .array .int
  | 3 => .array .int
  | 4 => .array .int
  | 5 => .int
  | 6 => .int
  | 7 => .int
  | 8 => .int
  | 9 => .int
  | _ => .int
abbrev wsX10 : List Cond := u_ws RX1 TX1 11
theorem nmX1 : ∀ a, a < 11 → ∀ b, b < 11 → a ≠ b → (TX1 a).2.1 ≠ (TX1 b).2.1 := by decide +kernel
theorem tyX1_ok : ∀ k, k < 11 → parseFieldDescriptor (TX1 k).2.2.1 = some (tyX1 k) := by decide +kernel
abbrev cX1_init : ByteArray := prog_3_method_1_code
def yX1_init : MethodName := ⟨RX1, "<init>", "()V"⟩
abbrev cX1_clear : ByteArray := prog_3_method_2_code
def yX1_clear : MethodName := ⟨RX1, "clear", "()V"⟩
abbrev cX1_setHeight : ByteArray := prog_3_method_3_code
def yX1_setHeight : MethodName := ⟨RX1, "setHeight", "(II)V"⟩
abbrev cX1_addWalker : ByteArray := prog_3_method_4_code
def yX1_addWalker : MethodName := ⟨RX1, "addWalker", "(II)V"⟩
abbrev cX1_addTower : ByteArray := prog_3_method_5_code
def yX1_addTower : MethodName := ⟨RX1, "addTower", "(II)V"⟩
abbrev cX1_addSoft : ByteArray := prog_3_method_6_code
def yX1_addSoft : MethodName := ⟨RX1, "addSoft", "(I)V"⟩
abbrev cX1_heightOf : ByteArray := prog_3_method_7_code
def yX1_heightOf : MethodName := ⟨RX1, "heightOf", "(I)I"⟩
abbrev cX1_isSoft : ByteArray := prog_3_method_8_code
def yX1_isSoft : MethodName := ⟨RX1, "isSoft", "(I)Z"⟩
abbrev cX1_holdOf : ByteArray := prog_3_method_9_code
def yX1_holdOf : MethodName := ⟨RX1, "holdOf", "(I)I"⟩
abbrev cX1_paceOf : ByteArray := prog_3_method_10_code
def yX1_paceOf : MethodName := ⟨RX1, "paceOf", "(I)I"⟩
abbrev cX1_wadeOf : ByteArray := prog_3_method_11_code
def yX1_wadeOf : MethodName := ⟨RX1, "wadeOf", "(I)I"⟩
abbrev cX1_water : ByteArray := prog_3_method_12_code
def yX1_water : MethodName := ⟨RX1, "water", "(II)I"⟩
abbrev cX1_depth : ByteArray := prog_3_method_13_code
def yX1_depth : MethodName := ⟨RX1, "depth", "(II)I"⟩
def RX2 : String := "OverSands$Moment"
def TX2 : u_T := fun k => match k with
  | _ => ("OverSands$Moment", "row", "[I", true)
def tyX2 : Nat → FieldType := fun k => match k with
  | _ => .array .int
abbrev wsX20 : List Cond := u_ws RX2 TX2 1
theorem nmX2 : ∀ a, a < 1 → ∀ b, b < 1 → a ≠ b → (TX2 a).2.1 ≠ (TX2 b).2.1 := by decide +kernel
theorem tyX2_ok : ∀ k, k < 1 → parseFieldDescriptor (TX2 k).2.2.1 = some (tyX2 k) := by decide +kernel
abbrev cX2_init : ByteArray := prog_4_method_1_code
def yX2_init : MethodName := ⟨RX2, "<init>", "()V"⟩
abbrev cX2_clear : ByteArray := prog_4_method_2_code
def yX2_clear : MethodName := ⟨RX2, "clear", "()V"⟩
abbrev cX2_time : ByteArray := prog_4_method_3_code
def yX2_time : MethodName := ⟨RX2, "time", "()I"⟩
abbrev cX2_setTime : ByteArray := prog_4_method_4_code
def yX2_setTime : MethodName := ⟨RX2, "setTime", "(I)V"⟩
abbrev cX2_cellOf : ByteArray := prog_4_method_5_code
def yX2_cellOf : MethodName := ⟨RX2, "cellOf", "(I)I"⟩
abbrev cX2_setCell : ByteArray := prog_4_method_6_code
def yX2_setCell : MethodName := ⟨RX2, "setCell", "(II)V"⟩
abbrev cX2_wayOf : ByteArray := prog_4_method_7_code
def yX2_wayOf : MethodName := ⟨RX2, "wayOf", "(I)I"⟩
abbrev cX2_setWay : ByteArray := prog_4_method_8_code
def yX2_setWay : MethodName := ⟨RX2, "setWay", "(II)V"⟩
abbrev cX2_fateOf : ByteArray := prog_4_method_9_code
def yX2_fateOf : MethodName := ⟨RX2, "fateOf", "(I)I"⟩
abbrev cX2_setFate : ByteArray := prog_4_method_10_code
def yX2_setFate : MethodName := ⟨RX2, "setFate", "(II)V"⟩
abbrev cX2_allThat : ByteArray := prog_4_method_11_code
def yX2_allThat : MethodName := ⟨RX2, "allThat", "(II)I"⟩
abbrev cX2_countOn : ByteArray := prog_4_method_12_code
def yX2_countOn : MethodName := ⟨RX2, "countOn", "(II)I"⟩
abbrev cX2_valueOf : ByteArray := prog_4_method_13_code
def yX2_valueOf : MethodName := ⟨RX2, "valueOf", "(II)I"⟩
abbrev cX2_setValue : ByteArray := prog_4_method_14_code
def yX2_setValue : MethodName := ⟨RX2, "setValue", "(III)V"⟩
def RX3 : String := "OverSands$Shelf"
def TX3 : u_T := fun k => match k with
  | 0 => ("OverSands$Shelf", "places", "I", true)
  | _ => ("OverSands$Shelf", "rows", "[I", true)
def tyX3 : Nat → FieldType := fun k => match k with
  | 0 => .int
  | _ => .array .int
abbrev wsX30 : List Cond := u_ws RX3 TX3 2
theorem nmX3 : ∀ a, a < 2 → ∀ b, b < 2 → a ≠ b → (TX3 a).2.1 ≠ (TX3 b).2.1 := by decide +kernel
theorem tyX3_ok : ∀ k, k < 2 → parseFieldDescriptor (TX3 k).2.2.1 = some (tyX3 k) := by decide +kernel
abbrev cX3_init : ByteArray := prog_5_method_1_code
def yX3_init : MethodName := ⟨RX3, "<init>", "(I)V"⟩
abbrev cX3_put : ByteArray := prog_5_method_2_code
def yX3_put : MethodName := ⟨RX3, "put", "(ILOverSands$Moment;)V"⟩
abbrev cX3_take : ByteArray := prog_5_method_3_code
def yX3_take : MethodName := ⟨RX3, "take", "(ILOverSands$Moment;)V"⟩
def RX4 : String := "OverSands$Telling"
def TX4 : u_T := fun k => match k with
  | 0 => ("OverSands$Telling", "letters", "[I", true)
  | 1 => ("OverSands$Telling", "length", "I", false)
  | 2 => ("OverSands$Telling", "place", "I", false)
  | _ => ("OverSands$Telling", "stopped", "Z", false)
def tyX4 : Nat → FieldType := fun k => match k with
  | 0 => .array .int
  | 1 => .int
  | 2 => .int
  | _ => .boolean
abbrev wsX40 : List Cond := u_ws RX4 TX4 4
theorem nmX4 : ∀ a, a < 4 → ∀ b, b < 4 → a ≠ b → (TX4 a).2.1 ≠ (TX4 b).2.1 := by decide +kernel
theorem tyX4_ok : ∀ k, k < 4 → parseFieldDescriptor (TX4 k).2.2.1 = some (tyX4 k) := by decide +kernel
abbrev cX4_init : ByteArray := prog_6_method_1_code
def yX4_init : MethodName := ⟨RX4, "<init>", "()V"⟩
abbrev cX4_append : ByteArray := prog_6_method_2_code
def yX4_append : MethodName := ⟨RX4, "append", "(I)V"⟩
abbrev cX4_empty : ByteArray := prog_6_method_3_code
def yX4_empty : MethodName := ⟨RX4, "empty", "()V"⟩
abbrev cX4_readInto : ByteArray := prog_6_method_4_code
def yX4_readInto : MethodName := ⟨RX4, "readInto", "(LOverSands$Ground;)I"⟩
abbrev cX4_readHead : ByteArray := prog_6_method_5_code
def yX4_readHead : MethodName := ⟨RX4, "readHead", "(LOverSands$Ground;)V"⟩
abbrev cX4_readPart : ByteArray := prog_6_method_6_code
def yX4_readPart : MethodName := ⟨RX4, "readPart", "(LOverSands$Ground;)V"⟩
abbrev cX4_readWalker : ByteArray := prog_6_method_7_code
def yX4_readWalker : MethodName := ⟨RX4, "readWalker", "(LOverSands$Ground;)V"⟩
abbrev cX4_readTower : ByteArray := prog_6_method_8_code
def yX4_readTower : MethodName := ⟨RX4, "readTower", "(LOverSands$Ground;)V"⟩
abbrev cX4_readSoft : ByteArray := prog_6_method_9_code
def yX4_readSoft : MethodName := ⟨RX4, "readSoft", "(LOverSands$Ground;)V"⟩
abbrev cX4_letterHere : ByteArray := prog_6_method_10_code
def yX4_letterHere : MethodName := ⟨RX4, "letterHere", "()I"⟩
abbrev cX4_figure : ByteArray := prog_6_method_11_code
def yX4_figure : MethodName := ⟨RX4, "figure", "(II)I"⟩
def RX5 : String := "OverSands$Trip"
def TX5 : u_T := fun k => match k with
  | 0 => ("OverSands$Trip", "pace", "I", false)
  | 1 => ("OverSands$Trip", "wade", "I", false)
  | 2 => ("OverSands$Trip", "low", "I", false)
  | 3 => ("OverSands$Trip", "cell", "I", false)
  | 4 => ("OverSands$Trip", "step", "I", false)
  | _ => ("OverSands$Trip", "fate", "I", false)
def tyX5 : Nat → FieldType := fun k => match k with
  | 0 => .int
  | 1 => .int
  | 2 => .int
  | 3 => .int
  | 4 => .int
  | _ => .int
abbrev wsX50 : List Cond := u_ws RX5 TX5 6
theorem nmX5 : ∀ a, a < 6 → ∀ b, b < 6 → a ≠ b → (TX5 a).2.1 ≠ (TX5 b).2.1 := by decide +kernel
theorem tyX5_ok : ∀ k, k < 6 → parseFieldDescriptor (TX5 k).2.2.1 = some (tyX5 k) := by decide +kernel
abbrev cX5_init : ByteArray := prog_7_method_1_code
def yX5_init : MethodName := ⟨RX5, "<init>", "()V"⟩
abbrev cX5_begin : ByteArray := prog_7_method_2_code
def yX5_begin : MethodName := ⟨RX5, "begin", "(LOverSands$Ground;III)V"⟩
abbrev cX5_isLost : ByteArray := prog_7_method_3_code
def yX5_isLost : MethodName := ⟨RX5, "isLost", "()Z"⟩
abbrev cX5_move : ByteArray := prog_7_method_4_code
def yX5_move : MethodName := ⟨RX5, "move", "(LOverSands$Ground;I)V"⟩
abbrev cX5_goTillThere : ByteArray := prog_7_method_5_code
def yX5_goTillThere : MethodName := ⟨RX5, "goTillThere", "(LOverSands$Ground;I)I"⟩
abbrev cX5_goAlong : ByteArray := prog_7_method_6_code
def yX5_goAlong : MethodName := ⟨RX5, "goAlong", "(LOverSands$Ground;II)V"⟩
def RX6 : String := "OverSands$Wander"
def TX6 : u_T := fun k => match k with
  | 0 => ("OverSands$Wander", "odds", "[I", true)
  | _ => ("OverSands$Wander", "coming", "[I", true)
def tyX6 : Nat → FieldType := fun k => match k with
  | 0 => .array .int
  | _ => .array .int
abbrev wsX60 : List Cond := u_ws RX6 TX6 2
theorem nmX6 : ∀ a, a < 2 → ∀ b, b < 2 → a ≠ b → (TX6 a).2.1 ≠ (TX6 b).2.1 := by decide +kernel
theorem tyX6_ok : ∀ k, k < 2 → parseFieldDescriptor (TX6 k).2.2.1 = some (tyX6 k) := by decide +kernel
abbrev cX6_init : ByteArray := prog_8_method_1_code
def yX6_init : MethodName := ⟨RX6, "<init>", "()V"⟩
abbrev cX6_oddsAt : ByteArray := prog_8_method_2_code
def yX6_oddsAt : MethodName := ⟨RX6, "oddsAt", "(IIIII)I"⟩
abbrev cX6_wanderOn : ByteArray := prog_8_method_3_code
def yX6_wanderOn : MethodName := ⟨RX6, "wanderOn", "(II)V"⟩
def RX7 : String := "OverSands"
def TX7 : u_T := fun k => match k with
  | 0 => ("OverSands", "text", "LOverSands$Telling;", true)
  | 1 => ("OverSands", "ground", "LOverSands$Ground;", true)
  | 2 => ("OverSands", "draft", "LOverSands$Ground;", true)
  | 3 => ("OverSands", "now", "LOverSands$Moment;", true)
  | 4 => ("OverSands", "acts", "LOverSands$Acts;", true)
  | 5 => ("OverSands", "slots", "LOverSands$Shelf;", true)
  | 6 => ("OverSands", "kept", "[Z", true)
  | 7 => ("OverSands", "trip", "LOverSands$Trip;", true)
  | 8 => ("OverSands", "wander", "LOverSands$Wander;", true)
  | _ => ("OverSands", "fogSeed", "J", false)
def tyX7 : Nat → FieldType := fun k => match k with
  | 0 => .object "OverSands$Telling"
  | 1 => .object "OverSands$Ground"
  | 2 => .object "OverSands$Ground"
  | 3 => .object "OverSands$Moment"
  | 4 => .object "OverSands$Acts"
  | 5 => .object "OverSands$Shelf"
  | 6 => .array .boolean
  | 7 => .object "OverSands$Trip"
  | 8 => .object "OverSands$Wander"
  | _ => .long
abbrev wsX70 : List Cond := u_ws RX7 TX7 10
theorem nmX7 : ∀ a, a < 10 → ∀ b, b < 10 → a ≠ b → (TX7 a).2.1 ≠ (TX7 b).2.1 := by decide +kernel
theorem tyX7_ok : ∀ k, k < 10 → parseFieldDescriptor (TX7 k).2.2.1 = some (tyX7 k) := by decide +kernel
abbrev cX7_init : ByteArray := prog_1_method_1_code
def yX7_init : MethodName := ⟨RX7, "<init>", "()V"⟩
abbrev cX7_write : ByteArray := prog_1_method_2_code
def yX7_write : MethodName := ⟨RX7, "write", "(I)I"⟩
abbrev cX7_wipe : ByteArray := prog_1_method_3_code
def yX7_wipe : MethodName := ⟨RX7, "wipe", "()I"⟩
abbrev cX7_fault : ByteArray := prog_1_method_4_code
def yX7_fault : MethodName := ⟨RX7, "fault", "()I"⟩
abbrev cX7_bay : ByteArray := prog_1_method_5_code
def yX7_bay : MethodName := ⟨RX7, "bay", "()I"⟩
abbrev cX7_about : ByteArray := prog_1_method_6_code
def yX7_about : MethodName := ⟨RX7, "about", "(I)I"⟩
abbrev cX7_cell : ByteArray := prog_1_method_7_code
def yX7_cell : MethodName := ⟨RX7, "cell", "(II)I"⟩
abbrev cX7_walker : ByteArray := prog_1_method_8_code
def yX7_walker : MethodName := ⟨RX7, "walker", "(II)I"⟩
abbrev cX7_deep : ByteArray := prog_1_method_9_code
def yX7_deep : MethodName := ⟨RX7, "deep", "(II)I"⟩
abbrev cX7_head : ByteArray := prog_1_method_10_code
def yX7_head : MethodName := ⟨RX7, "head", "(II)I"⟩
abbrev cX7_step : ByteArray := prog_1_method_11_code
def yX7_step : MethodName := ⟨RX7, "step", "()I"⟩
abbrev cX7_climb : ByteArray := prog_1_method_12_code
def yX7_climb : MethodName := ⟨RX7, "climb", "(I)I"⟩
abbrev cX7_undo : ByteArray := prog_1_method_13_code
def yX7_undo : MethodName := ⟨RX7, "undo", "()I"⟩
abbrev cX7_gone : ByteArray := prog_1_method_14_code
def yX7_gone : MethodName := ⟨RX7, "gone", "(IIII)I"⟩
abbrev cX7_latest : ByteArray := prog_1_method_15_code
def yX7_latest : MethodName := ⟨RX7, "latest", "(I)I"⟩
abbrev cX7_safest : ByteArray := prog_1_method_16_code
def yX7_safest : MethodName := ⟨RX7, "safest", "(II)I"⟩
abbrev cX7_shells : ByteArray := prog_1_method_17_code
def yX7_shells : MethodName := ⟨RX7, "shells", "(I)I"⟩
abbrev cX7_cut : ByteArray := prog_1_method_18_code
def yX7_cut : MethodName := ⟨RX7, "cut", "(I)I"⟩
abbrev cX7_judged : ByteArray := prog_1_method_19_code
def yX7_judged : MethodName := ⟨RX7, "judged", "(III)I"⟩
abbrev cX7_ahead : ByteArray := prog_1_method_20_code
def yX7_ahead : MethodName := ⟨RX7, "ahead", "()I"⟩
abbrev cX7_aheadOf : ByteArray := prog_1_method_21_code
def yX7_aheadOf : MethodName := ⟨RX7, "aheadOf", "(I)I"⟩
abbrev cX7_saved : ByteArray := prog_1_method_22_code
def yX7_saved : MethodName := ⟨RX7, "saved", "()I"⟩
abbrev cX7_channel : ByteArray := prog_1_method_23_code
def yX7_channel : MethodName := ⟨RX7, "channel", "(IIIIIZ)I"⟩
abbrev cX7_sticks : ByteArray := prog_1_method_24_code
def yX7_sticks : MethodName := ⟨RX7, "sticks", "(IIIZ)I"⟩
abbrev cX7_wind : ByteArray := prog_1_method_25_code
def yX7_wind : MethodName := ⟨RX7, "wind", "(IIIIZ)I"⟩
abbrev cX7_seed : ByteArray := prog_1_method_26_code
def yX7_seed : MethodName := ⟨RX7, "seed", "(J)J"⟩
abbrev cX7_fog : ByteArray := prog_1_method_27_code
def yX7_fog : MethodName := ⟨RX7, "fog", "(III)I"⟩
abbrev cX7_keep : ByteArray := prog_1_method_28_code
def yX7_keep : MethodName := ⟨RX7, "keep", "(I)I"⟩
abbrev cX7_again : ByteArray := prog_1_method_29_code
def yX7_again : MethodName := ⟨RX7, "again", "(I)I"⟩
abbrev cX7_isCell : ByteArray := prog_1_method_30_code
def yX7_isCell : MethodName := ⟨RX7, "isCell", "(I)Z"⟩
abbrev cX7_isOnSands : ByteArray := prog_1_method_31_code
def yX7_isOnSands : MethodName := ⟨RX7, "isOnSands", "(I)Z"⟩
abbrev cX7_isStep : ByteArray := prog_1_method_32_code
def yX7_isStep : MethodName := ⟨RX7, "isStep", "(I)Z"⟩
abbrev cX7_isSlot : ByteArray := prog_1_method_33_code
def yX7_isSlot : MethodName := ⟨RX7, "isSlot", "(I)Z"⟩
abbrev cX7_areTenths : ByteArray := prog_1_method_34_code
def yX7_areTenths : MethodName := ⟨RX7, "areTenths", "(II)Z"⟩
abbrev cX7_isWalker : ByteArray := prog_1_method_35_code
def yX7_isWalker : MethodName := ⟨RX7, "isWalker", "(I)Z"⟩
abbrev cX7_isWalking : ByteArray := prog_1_method_36_code
def yX7_isWalking : MethodName := ⟨RX7, "isWalking", "(I)Z"⟩
abbrev cX7_waterAt : ByteArray := prog_1_method_37_code
def yX7_waterAt : MethodName := ⟨RX7, "waterAt", "(I)I"⟩
abbrev cX7_upOn : ByteArray := prog_1_method_38_code
def yX7_upOn : MethodName := ⟨RX7, "upOn", "(I)I"⟩
abbrev cX7_roomOn : ByteArray := prog_1_method_39_code
def yX7_roomOn : MethodName := ⟨RX7, "roomOn", "(I)I"⟩
abbrev cX7_moveOne : ByteArray := prog_1_method_40_code
def yX7_moveOne : MethodName := ⟨RX7, "moveOne", "(I)Z"⟩
abbrev cX7_arrival : ByteArray := prog_1_method_41_code
def yX7_arrival : MethodName := ⟨RX7, "arrival", "(IIII)I"⟩
abbrev cX7_isSafe : ByteArray := prog_1_method_42_code
def yX7_isSafe : MethodName := ⟨RX7, "isSafe", "(III)Z"⟩
abbrev cX7_outlastsStanding : ByteArray := prog_1_method_43_code
def yX7_outlastsStanding : MethodName := ⟨RX7, "outlastsStanding", "(III)Z"⟩
abbrev cX7_isOverByLow : ByteArray := prog_1_method_44_code
def yX7_isOverByLow : MethodName := ⟨RX7, "isOverByLow", "(III)Z"⟩
abbrev cX7_safeBits : ByteArray := prog_1_method_45_code
def yX7_safeBits : MethodName := ⟨RX7, "safeBits", "(III)I"⟩
abbrev cX7_soonest : ByteArray := prog_1_method_46_code
def yX7_soonest : MethodName := ⟨RX7, "soonest", "(III)I"⟩
abbrev cX7_drawnWay : ByteArray := prog_1_method_47_code
def yX7_drawnWay : MethodName := ⟨RX7, "drawnWay", "()I"⟩
abbrev cX7_meetingStep : ByteArray := prog_1_method_48_code
def yX7_meetingStep : MethodName := ⟨RX7, "meetingStep", "()I"⟩
abbrev cX7_power : ByteArray := prog_1_method_49_code
def yX7_power : MethodName := ⟨RX7, "power", "(II)I"⟩
abbrev cX7_figureAt : ByteArray := prog_1_method_50_code
def yX7_figureAt : MethodName := ⟨RX7, "figureAt", "(II)I"⟩
abbrev cX7_choices : ByteArray := prog_1_method_51_code
def yX7_choices : MethodName := ⟨RX7, "choices", "(II)I"⟩
abbrev cX7_commonPart : ByteArray := prog_1_method_52_code
def yX7_commonPart : MethodName := ⟨RX7, "commonPart", "(II)I"⟩
abbrev cX7_told : ByteArray := prog_1_method_53_code
def yX7_told : MethodName := ⟨RX7, "told", "(IIZ)I"⟩
def RX8 : String := "OverSandsModel"
def TX8 : u_T := fun k => match k with
  | 0 => ("OverSandsModel", "thrown", "I", false)
  | 1 => ("OverSandsModel", "text", "[I", true)
  | 2 => ("OverSandsModel", "textSize", "I", false)
  | 3 => ("OverSandsModel", "place", "I", false)
  | 4 => ("OverSandsModel", "height", "[I", true)
  | 5 => ("OverSandsModel", "low", "I", false)
  | 6 => ("OverSandsModel", "rise", "I", false)
  | 7 => ("OverSandsModel", "least", "I", false)
  | 8 => ("OverSandsModel", "walkers", "I", false)
  | 9 => ("OverSandsModel", "towers", "I", false)
  | 10 => ("OverSandsModel", "soft", "I", false)
  | 11 => ("OverSandsModel", "pace", "[I", true)
  | 12 => ("OverSandsModel", "wades", "[I", true)
  | 13 => ("OverSandsModel", "towerAt", "[I", true)
  | 14 => ("OverSandsModel", "towerFor", "[I", true)
  | 15 => ("OverSandsModel", "readHeight", "[I", true)
  | 16 => ("OverSandsModel", "readLow", "I", false)
  | 17 => ("OverSandsModel", "readRise", "I", false)
  | 18 => ("OverSandsModel", "readLeast", "I", false)
  | 19 => ("OverSandsModel", "readWalkers", "I", false)
  | 20 => ("OverSandsModel", "readTowers", "I", false)
  | 21 => ("OverSandsModel", "readSoft", "I", false)
  | 22 => ("OverSandsModel", "readPace", "[I", true)
  | 23 => ("OverSandsModel", "readWades", "[I", true)
  | 24 => ("OverSandsModel", "readAt", "[I", true)
  | 25 => ("OverSandsModel", "readFor", "[I", true)
  | 26 => ("OverSandsModel", "page", "[I", true)
  | 27 => ("OverSandsModel", "book", "[I", true)
  | 28 => ("OverSandsModel", "acts", "I", false)
  | 29 => ("OverSandsModel", "kept", "[I", true)
  | 30 => ("OverSandsModel", "isKept", "[Z", true)
  | 31 => ("OverSandsModel", "seed", "J", false)
  | 32 => ("OverSandsModel", "aloneCell", "I", false)
  | 33 => ("OverSandsModel", "aloneState", "I", false)
  | 34 => ("OverSandsModel", "tide", "I", false)
  | 35 => ("OverSandsModel", "now", "[J", true)
  | _ => ("OverSandsModel", "then", "[J", true)
def tyX8 : Nat → FieldType := fun k => match k with
  | 0 => .int
  | 1 => .array .int
  | 2 => .int
  | 3 => .int
  | 4 => .array .int
  | 5 => .int
  | 6 => .int
  | 7 => .int
  | 8 => .int
  | 9 => .int
  | 10 => .int
  | 11 => .array .int
  | 12 => .array .int
  | 13 => .array .int
  | 14 => .array .int
  | 15 => .array .int
  | 16 => .int
  | 17 => .int
  | 18 => .int
  | 19 => .int
  | 20 => .int
  | 21 => .int
  | 22 => .array .int
  | 23 => .array .int
  | 24 => .array .int
  | 25 => .array .int
  | 26 => .array .int
  | 27 => .array .int
  | 28 => .int
  | 29 => .array .int
  | 30 => .array .boolean
  | 31 => .long
  | 32 => .int
  | 33 => .int
  | 34 => .int
  | 35 => .array .long
  | _ => .array .long
abbrev wsX80 : List Cond := u_ws RX8 TX8 37
theorem nmX8 : ∀ a, a < 37 → ∀ b, b < 37 → a ≠ b → (TX8 a).2.1 ≠ (TX8 b).2.1 := by decide +kernel
theorem tyX8_ok : ∀ k, k < 37 → parseFieldDescriptor (TX8 k).2.2.1 = some (tyX8 k) := by decide +kernel
abbrev cX8_init : ByteArray := prog_10_method_1_code
def yX8_init : MethodName := ⟨RX8, "<init>", "()V"⟩
abbrev cX8_in : ByteArray := prog_10_method_3_code
def yX8_in : MethodName := ⟨RX8, "in", "(JJJ)Z"⟩
abbrev cX8_has : ByteArray := prog_10_method_4_code
def yX8_has : MethodName := ⟨RX8, "has", "(II)Z"⟩
abbrev cX8_noOne : ByteArray := prog_10_method_5_code
def yX8_noOne : MethodName := ⟨RX8, "noOne", "(I)Z"⟩
abbrev cX8_noCell : ByteArray := prog_10_method_6_code
def yX8_noCell : MethodName := ⟨RX8, "noCell", "(I)Z"⟩
abbrev cX8_write : ByteArray := prog_10_method_7_code
def yX8_write : MethodName := ⟨RX8, "write", "(I)I"⟩
abbrev cX8_wipe : ByteArray := prog_10_method_8_code
def yX8_wipe : MethodName := ⟨RX8, "wipe", "()I"⟩
abbrev cX8_figure : ByteArray := prog_10_method_9_code
def yX8_figure : MethodName := ⟨RX8, "figure", "(II)I"⟩
abbrev cX8_freeTowers : ByteArray := prog_10_method_10_code
def yX8_freeTowers : MethodName := ⟨RX8, "freeTowers", "()I"⟩
abbrev cX8_one : ByteArray := prog_10_method_11_code
def yX8_one : MethodName := ⟨RX8, "one", "(I)I"⟩
abbrev cX8_readWalker : ByteArray := prog_10_method_12_code
def yX8_readWalker : MethodName := ⟨RX8, "readWalker", "()Z"⟩
abbrev cX8_readTower : ByteArray := prog_10_method_13_code
def yX8_readTower : MethodName := ⟨RX8, "readTower", "()Z"⟩
abbrev cX8_readPart : ByteArray := prog_10_method_14_code
def yX8_readPart : MethodName := ⟨RX8, "readPart", "()Z"⟩
abbrev cX8_readHead : ByteArray := prog_10_method_15_code
def yX8_readHead : MethodName := ⟨RX8, "readHead", "()Z"⟩
abbrev cX8_readBay : ByteArray := prog_10_method_16_code
def yX8_readBay : MethodName := ⟨RX8, "readBay", "()I"⟩
abbrev cX8_fault : ByteArray := prog_10_method_17_code
def yX8_fault : MethodName := ⟨RX8, "fault", "()I"⟩
abbrev cX8_bay : ByteArray := prog_10_method_18_code
def yX8_bay : MethodName := ⟨RX8, "bay", "()I"⟩
abbrev cX8_water : ByteArray := prog_10_method_19_code
def yX8_water : MethodName := ⟨RX8, "water", "(II)I"⟩
abbrev cX8_deepBy : ByteArray := prog_10_method_20_code
def yX8_deepBy : MethodName := ⟨RX8, "deepBy", "(III)I"⟩
abbrev cX8_those : ByteArray := prog_10_method_21_code
def yX8_those : MethodName := ⟨RX8, "those", "(I)I"⟩
abbrev cX8_about : ByteArray := prog_10_method_22_code
def yX8_about : MethodName := ⟨RX8, "about", "(I)I"⟩
abbrev cX8_towerOf : ByteArray := prog_10_method_23_code
def yX8_towerOf : MethodName := ⟨RX8, "towerOf", "(I)I"⟩
abbrev cX8_upAt : ByteArray := prog_10_method_24_code
def yX8_upAt : MethodName := ⟨RX8, "upAt", "(I)I"⟩
abbrev cX8_cell : ByteArray := prog_10_method_25_code
def yX8_cell : MethodName := ⟨RX8, "cell", "(II)I"⟩
abbrev cX8_walker : ByteArray := prog_10_method_26_code
def yX8_walker : MethodName := ⟨RX8, "walker", "(II)I"⟩
abbrev cX8_deep : ByteArray := prog_10_method_27_code
def yX8_deep : MethodName := ⟨RX8, "deep", "(II)I"⟩
abbrev cX8_goes : ByteArray := prog_10_method_28_code
def yX8_goes : MethodName := ⟨RX8, "goes", "(IIIII)I"⟩
abbrev cX8_stateOf : ByteArray := prog_10_method_29_code
def yX8_stateOf : MethodName := ⟨RX8, "stateOf", "(IIIIII)I"⟩
abbrev cX8_goAlone : ByteArray := prog_10_method_30_code
def yX8_goAlone : MethodName := ⟨RX8, "goAlone", "(III)V"⟩
abbrev cX8_note : ByteArray := prog_10_method_31_code
def yX8_note : MethodName := ⟨RX8, "note", "()V"⟩
abbrev cX8_head : ByteArray := prog_10_method_32_code
def yX8_head : MethodName := ⟨RX8, "head", "(II)I"⟩
abbrev cX8_step : ByteArray := prog_10_method_33_code
def yX8_step : MethodName := ⟨RX8, "step", "()I"⟩
abbrev cX8_climb : ByteArray := prog_10_method_34_code
def yX8_climb : MethodName := ⟨RX8, "climb", "(I)I"⟩
abbrev cX8_undo : ByteArray := prog_10_method_35_code
def yX8_undo : MethodName := ⟨RX8, "undo", "()I"⟩
abbrev cX8_goneOf : ByteArray := prog_10_method_36_code
def yX8_goneOf : MethodName := ⟨RX8, "goneOf", "(IIIII)I"⟩
abbrev cX8_gone : ByteArray := prog_10_method_37_code
def yX8_gone : MethodName := ⟨RX8, "gone", "(IIII)I"⟩
abbrev cX8_latest : ByteArray := prog_10_method_38_code
def yX8_latest : MethodName := ⟨RX8, "latest", "(I)I"⟩
abbrev cX8_noWalk : ByteArray := prog_10_method_39_code
def yX8_noWalk : MethodName := ⟨RX8, "noWalk", "(I)I"⟩
abbrev cX8_safest : ByteArray := prog_10_method_40_code
def yX8_safest : MethodName := ⟨RX8, "safest", "(II)I"⟩
abbrev cX8_shells : ByteArray := prog_10_method_41_code
def yX8_shells : MethodName := ⟨RX8, "shells", "(I)I"⟩
abbrev cX8_cut : ByteArray := prog_10_method_42_code
def yX8_cut : MethodName := ⟨RX8, "cut", "(I)I"⟩
abbrev cX8_ten : ByteArray := prog_10_method_43_code
def yX8_ten : MethodName := ⟨RX8, "ten", "(I)I"⟩
abbrev cX8_judged : ByteArray := prog_10_method_44_code
def yX8_judged : MethodName := ⟨RX8, "judged", "(III)I"⟩
abbrev cX8_beginOf : ByteArray := prog_10_method_45_code
def yX8_beginOf : MethodName := ⟨RX8, "beginOf", "(II)I"⟩
abbrev cX8_findAhead : ByteArray := prog_10_method_46_code
def yX8_findAhead : MethodName := ⟨RX8, "findAhead", "()I"⟩
abbrev cX8_ahead : ByteArray := prog_10_method_47_code
def yX8_ahead : MethodName := ⟨RX8, "ahead", "()I"⟩
abbrev cX8_aheadOf : ByteArray := prog_10_method_48_code
def yX8_aheadOf : MethodName := ⟨RX8, "aheadOf", "(I)I"⟩
abbrev cX8_saved : ByteArray := prog_10_method_49_code
def yX8_saved : MethodName := ⟨RX8, "saved", "()I"⟩
abbrev cX8_isSaved : ByteArray := prog_10_method_50_code
def yX8_isSaved : MethodName := ⟨RX8, "isSaved", "(I)Z"⟩
abbrev cX8_divisor : ByteArray := prog_10_method_51_code
def yX8_divisor : MethodName := ⟨RX8, "divisor", "(JJ)J"⟩
abbrev cX8_fraction : ByteArray := prog_10_method_52_code
def yX8_fraction : MethodName := ⟨RX8, "fraction", "(JJZ)I"⟩
abbrev cX8_noTenths : ByteArray := prog_10_method_53_code
def yX8_noTenths : MethodName := ⟨RX8, "noTenths", "(II)Z"⟩
abbrev cX8_channel : ByteArray := prog_10_method_54_code
def yX8_channel : MethodName := ⟨RX8, "channel", "(IIIIIZ)I"⟩
abbrev cX8_sticks : ByteArray := prog_10_method_55_code
def yX8_sticks : MethodName := ⟨RX8, "sticks", "(IIIZ)I"⟩
abbrev cX8_wind : ByteArray := prog_10_method_56_code
def yX8_wind : MethodName := ⟨RX8, "wind", "(IIIIZ)I"⟩
abbrev cX8_seed : ByteArray := prog_10_method_57_code
def yX8_seed : MethodName := ⟨RX8, "seed", "(J)J"⟩
abbrev cX8_fog : ByteArray := prog_10_method_58_code
def yX8_fog : MethodName := ⟨RX8, "fog", "(III)I"⟩
abbrev cX8_keep : ByteArray := prog_10_method_59_code
def yX8_keep : MethodName := ⟨RX8, "keep", "(I)I"⟩
abbrev cX8_again : ByteArray := prog_10_method_60_code
def yX8_again : MethodName := ⟨RX8, "again", "(I)I"⟩
def RJ9 : String := "java/lang/Math"
def TJ9 : u_T := fun k => match k with
  | _ => ("", "", "", false)
def tyJ9 : Nat → FieldType := fun k => match k with
  | _ => .int
abbrev wsJ90 : List Cond := u_ws RJ9 TJ9 0
theorem nmJ9 : ∀ a, a < 0 → ∀ b, b < 0 → a ≠ b → (TJ9 a).2.1 ≠ (TJ9 b).2.1 := by decide +kernel
theorem tyJ9_ok : ∀ k, k < 0 → parseFieldDescriptor (TJ9 k).2.2.1 = some (tyJ9 k) := by decide +kernel
abbrev cJ9_max_7cf53 : ByteArray := prog_11_method_65_code
def yJ9_max_7cf53 : MethodName := ⟨RJ9, "max", "(II)I"⟩
abbrev cJ9_min_7cf53 : ByteArray := prog_11_method_69_code
def yJ9_min_7cf53 : MethodName := ⟨RJ9, "min", "(II)I"⟩
def RJ10 : String := "java/lang/System"
def TJ10 : u_T := fun k => match k with
  | _ => ("", "", "", false)
def tyJ10 : Nat → FieldType := fun k => match k with
  | _ => .int
abbrev wsJ100 : List Cond := u_ws RJ10 TJ10 0
theorem nmJ10 : ∀ a, a < 0 → ∀ b, b < 0 → a ≠ b → (TJ10 a).2.1 ≠ (TJ10 b).2.1 := by decide +kernel
theorem tyJ10_ok : ∀ k, k < 0 → parseFieldDescriptor (TJ10 k).2.2.1 = some (tyJ10 k) := by decide +kernel
def RL : String := "OverSandsLaw"
abbrev cL_law : ByteArray := code
def yL_law : MethodName := ⟨RL, "law", "([I)Z"⟩
end
section
theorem dX0_init_0 : decode cX0_init 0 = .ok (.aload_n 0, 1) := by decide +kernel
theorem dX0_init_1 : decode cX0_init 1 = .ok (.invokespecial 3, 3) := by decide +kernel
theorem dX0_init_4 : decode cX0_init 4 = .ok (.aload_n 0, 1) := by decide +kernel
theorem dX0_init_5 : decode cX0_init 5 = .ok (.new 9, 3) := by decide +kernel
theorem dX0_init_8 : decode cX0_init 8 = .ok (.dup, 1) := by decide +kernel
theorem dX0_init_9 : decode cX0_init 9 = .ok (.bipush 16, 2) := by decide +kernel
theorem dX0_init_11 : decode cX0_init 11 = .ok (.invokespecial 11, 3) := by decide +kernel
theorem dX0_init_14 : decode cX0_init 14 = .ok (.putfield 14, 3) := by decide +kernel
theorem dX0_init_17 : decode cX0_init 17 = .ok (.return_, 1) := by decide +kernel
theorem dX0_clear_0 : decode cX0_clear 0 = .ok (.aload_n 0, 1) := by decide +kernel
theorem dX0_clear_1 : decode cX0_clear 1 = .ok (.iconst 0, 1) := by decide +kernel
theorem dX0_clear_2 : decode cX0_clear 2 = .ok (.putfield 20, 3) := by decide +kernel
theorem dX0_clear_5 : decode cX0_clear 5 = .ok (.aload_n 0, 1) := by decide +kernel
theorem dX0_clear_6 : decode cX0_clear 6 = .ok (.iconst 0, 1) := by decide +kernel
theorem dX0_clear_7 : decode cX0_clear 7 = .ok (.putfield 24, 3) := by decide +kernel
theorem dX0_clear_10 : decode cX0_clear 10 = .ok (.return_, 1) := by decide +kernel
theorem dX0_remember_0 : decode cX0_remember 0 = .ok (.aload_n 0, 1) := by decide +kernel
theorem dX0_remember_1 : decode cX0_remember 1 = .ok (.getfield 14, 3) := by decide +kernel
theorem dX0_remember_4 : decode cX0_remember 4 = .ok (.aload_n 0, 1) := by decide +kernel
theorem dX0_remember_5 : decode cX0_remember 5 = .ok (.getfield 20, 3) := by decide +kernel
theorem dX0_remember_8 : decode cX0_remember 8 = .ok (.aload_n 1, 1) := by decide +kernel
theorem dX0_remember_9 : decode cX0_remember 9 = .ok (.invokevirtual 27, 3) := by decide +kernel
theorem dX0_remember_12 : decode cX0_remember 12 = .ok (.aload_n 0, 1) := by decide +kernel
theorem dX0_remember_13 : decode cX0_remember 13 = .ok (.aload_n 0, 1) := by decide +kernel
theorem dX0_remember_14 : decode cX0_remember 14 = .ok (.getfield 20, 3) := by decide +kernel
theorem dX0_remember_17 : decode cX0_remember 17 = .ok (.iconst 1, 1) := by decide +kernel
theorem dX0_remember_18 : decode cX0_remember 18 = .ok (.iadd, 1) := by decide +kernel
theorem dX0_remember_19 : decode cX0_remember 19 = .ok (.bipush 16, 2) := by decide +kernel
theorem dX0_remember_21 : decode cX0_remember 21 = .ok (.if_icmp .ge 12, 3) := by decide +kernel
theorem dX0_remember_24 : decode cX0_remember 24 = .ok (.aload_n 0, 1) := by decide +kernel
theorem dX0_remember_25 : decode cX0_remember 25 = .ok (.getfield 20, 3) := by decide +kernel
theorem dX0_remember_28 : decode cX0_remember 28 = .ok (.iconst 1, 1) := by decide +kernel
theorem dX0_remember_29 : decode cX0_remember 29 = .ok (.iadd, 1) := by decide +kernel
theorem dX0_remember_30 : decode cX0_remember 30 = .ok (.goto 4, 3) := by decide +kernel
theorem dX0_remember_33 : decode cX0_remember 33 = .ok (.iconst 0, 1) := by decide +kernel
theorem dX0_remember_34 : decode cX0_remember 34 = .ok (.putfield 20, 3) := by decide +kernel
theorem dX0_remember_37 : decode cX0_remember 37 = .ok (.aload_n 0, 1) := by decide +kernel
theorem dX0_remember_38 : decode cX0_remember 38 = .ok (.getfield 24, 3) := by decide +kernel
theorem dX0_remember_41 : decode cX0_remember 41 = .ok (.bipush 16, 2) := by decide +kernel
theorem dX0_remember_43 : decode cX0_remember 43 = .ok (.if_icmp .ge 13, 3) := by decide +kernel
theorem dX0_remember_46 : decode cX0_remember 46 = .ok (.aload_n 0, 1) := by decide +kernel
theorem dX0_remember_47 : decode cX0_remember 47 = .ok (.dup, 1) := by decide +kernel
theorem dX0_remember_48 : decode cX0_remember 48 = .ok (.getfield 24, 3) := by decide +kernel
theorem dX0_remember_51 : decode cX0_remember 51 = .ok (.iconst 1, 1) := by decide +kernel
theorem dX0_remember_52 : decode cX0_remember 52 = .ok (.iadd, 1) := by decide +kernel
theorem dX0_remember_53 : decode cX0_remember 53 = .ok (.putfield 24, 3) := by decide +kernel
theorem dX0_remember_56 : decode cX0_remember 56 = .ok (.return_, 1) := by decide +kernel
theorem dX0_takeBack_0 : decode cX0_takeBack 0 = .ok (.aload_n 0, 1) := by decide +kernel
theorem dX0_takeBack_1 : decode cX0_takeBack 1 = .ok (.getfield 24, 3) := by decide +kernel
theorem dX0_takeBack_4 : decode cX0_takeBack 4 = .ok (.ifCond .gt 4, 3) := by decide +kernel
theorem dX0_takeBack_7 : decode cX0_takeBack 7 = .ok (.return_, 1) := by decide +kernel
theorem dX0_takeBack_8 : decode cX0_takeBack 8 = .ok (.aload_n 0, 1) := by decide +kernel
theorem dX0_takeBack_9 : decode cX0_takeBack 9 = .ok (.aload_n 0, 1) := by decide +kernel
theorem dX0_takeBack_10 : decode cX0_takeBack 10 = .ok (.getfield 20, 3) := by decide +kernel
theorem dX0_takeBack_13 : decode cX0_takeBack 13 = .ok (.ifCond .le 12, 3) := by decide +kernel
theorem dX0_takeBack_16 : decode cX0_takeBack 16 = .ok (.aload_n 0, 1) := by decide +kernel
theorem dX0_takeBack_17 : decode cX0_takeBack 17 = .ok (.getfield 20, 3) := by decide +kernel
theorem dX0_takeBack_20 : decode cX0_takeBack 20 = .ok (.iconst 1, 1) := by decide +kernel
theorem dX0_takeBack_21 : decode cX0_takeBack 21 = .ok (.isub, 1) := by decide +kernel
theorem dX0_takeBack_22 : decode cX0_takeBack 22 = .ok (.goto 5, 3) := by decide +kernel
theorem dX0_takeBack_25 : decode cX0_takeBack 25 = .ok (.bipush 15, 2) := by decide +kernel
theorem dX0_takeBack_27 : decode cX0_takeBack 27 = .ok (.putfield 20, 3) := by decide +kernel
theorem dX0_takeBack_30 : decode cX0_takeBack 30 = .ok (.aload_n 0, 1) := by decide +kernel
theorem dX0_takeBack_31 : decode cX0_takeBack 31 = .ok (.dup, 1) := by decide +kernel
theorem dX0_takeBack_32 : decode cX0_takeBack 32 = .ok (.getfield 24, 3) := by decide +kernel
theorem dX0_takeBack_35 : decode cX0_takeBack 35 = .ok (.iconst 1, 1) := by decide +kernel
theorem dX0_takeBack_36 : decode cX0_takeBack 36 = .ok (.isub, 1) := by decide +kernel
theorem dX0_takeBack_37 : decode cX0_takeBack 37 = .ok (.putfield 24, 3) := by decide +kernel
theorem dX0_takeBack_40 : decode cX0_takeBack 40 = .ok (.aload_n 0, 1) := by decide +kernel
theorem dX0_takeBack_41 : decode cX0_takeBack 41 = .ok (.getfield 14, 3) := by decide +kernel
theorem dX0_takeBack_44 : decode cX0_takeBack 44 = .ok (.aload_n 0, 1) := by decide +kernel
theorem dX0_takeBack_45 : decode cX0_takeBack 45 = .ok (.getfield 20, 3) := by decide +kernel
theorem dX0_takeBack_48 : decode cX0_takeBack 48 = .ok (.aload_n 1, 1) := by decide +kernel
theorem dX0_takeBack_49 : decode cX0_takeBack 49 = .ok (.invokevirtual 31, 3) := by decide +kernel
theorem dX0_takeBack_52 : decode cX0_takeBack 52 = .ok (.return_, 1) := by decide +kernel
theorem dX1_init_0 : decode cX1_init 0 = .ok (.aload_n 0, 1) := by decide +kernel
theorem dX1_init_1 : decode cX1_init 1 = .ok (.invokespecial 3, 3) := by decide +kernel
theorem dX1_init_4 : decode cX1_init 4 = .ok (.aload_n 0, 1) := by decide +kernel
theorem dX1_init_5 : decode cX1_init 5 = .ok (.bipush 10, 2) := by decide +kernel
theorem dX1_init_7 : decode cX1_init 7 = .ok (.newarray .int, 2) := by decide +kernel
theorem dX1_init_9 : decode cX1_init 9 = .ok (.putfield 9, 3) := by decide +kernel
theorem dX1_init_12 : decode cX1_init 12 = .ok (.aload_n 0, 1) := by decide +kernel
theorem dX1_init_13 : decode cX1_init 13 = .ok (.bipush 10, 2) := by decide +kernel
theorem dX1_init_15 : decode cX1_init 15 = .ok (.newarray .boolean, 2) := by decide +kernel
theorem dX1_init_17 : decode cX1_init 17 = .ok (.putfield 15, 3) := by decide +kernel
theorem dX1_init_20 : decode cX1_init 20 = .ok (.aload_n 0, 1) := by decide +kernel
theorem dX1_init_21 : decode cX1_init 21 = .ok (.bipush 10, 2) := by decide +kernel
theorem dX1_init_23 : decode cX1_init 23 = .ok (.newarray .int, 2) := by decide +kernel
theorem dX1_init_25 : decode cX1_init 25 = .ok (.putfield 19, 3) := by decide +kernel
theorem dX1_init_28 : decode cX1_init 28 = .ok (.aload_n 0, 1) := by decide +kernel
theorem dX1_init_29 : decode cX1_init 29 = .ok (.iconst 5, 1) := by decide +kernel
theorem dX1_init_30 : decode cX1_init 30 = .ok (.newarray .int, 2) := by decide +kernel
theorem dX1_init_32 : decode cX1_init 32 = .ok (.putfield 22, 3) := by decide +kernel
theorem dX1_init_35 : decode cX1_init 35 = .ok (.aload_n 0, 1) := by decide +kernel
theorem dX1_init_36 : decode cX1_init 36 = .ok (.iconst 5, 1) := by decide +kernel
theorem dX1_init_37 : decode cX1_init 37 = .ok (.newarray .int, 2) := by decide +kernel
theorem dX1_init_39 : decode cX1_init 39 = .ok (.putfield 25, 3) := by decide +kernel
theorem dX1_init_42 : decode cX1_init 42 = .ok (.aload_n 0, 1) := by decide +kernel
theorem dX1_init_43 : decode cX1_init 43 = .ok (.iconst 1, 1) := by decide +kernel
theorem dX1_init_44 : decode cX1_init 44 = .ok (.putfield 28, 3) := by decide +kernel
theorem dX1_init_47 : decode cX1_init 47 = .ok (.return_, 1) := by decide +kernel
theorem dX1_clear_0 : decode cX1_clear 0 = .ok (.iconst 0, 1) := by decide +kernel
theorem dX1_clear_1 : decode cX1_clear 1 = .ok (.istore_n 1, 1) := by decide +kernel
theorem dX1_clear_2 : decode cX1_clear 2 = .ok (.iload_n 1, 1) := by decide +kernel
theorem dX1_clear_3 : decode cX1_clear 3 = .ok (.bipush 10, 2) := by decide +kernel
theorem dX1_clear_5 : decode cX1_clear 5 = .ok (.if_icmp .ge 30, 3) := by decide +kernel
theorem dX1_clear_8 : decode cX1_clear 8 = .ok (.aload_n 0, 1) := by decide +kernel
theorem dX1_clear_9 : decode cX1_clear 9 = .ok (.getfield 9, 3) := by decide +kernel
theorem dX1_clear_12 : decode cX1_clear 12 = .ok (.iload_n 1, 1) := by decide +kernel
theorem dX1_clear_13 : decode cX1_clear 13 = .ok (.iconst 0, 1) := by decide +kernel
theorem dX1_clear_14 : decode cX1_clear 14 = .ok (.iastore, 1) := by decide +kernel
theorem dX1_clear_15 : decode cX1_clear 15 = .ok (.aload_n 0, 1) := by decide +kernel
theorem dX1_clear_16 : decode cX1_clear 16 = .ok (.getfield 15, 3) := by decide +kernel
theorem dX1_clear_19 : decode cX1_clear 19 = .ok (.iload_n 1, 1) := by decide +kernel
theorem dX1_clear_20 : decode cX1_clear 20 = .ok (.iconst 0, 1) := by decide +kernel
theorem dX1_clear_21 : decode cX1_clear 21 = .ok (.bastore, 1) := by decide +kernel
theorem dX1_clear_22 : decode cX1_clear 22 = .ok (.aload_n 0, 1) := by decide +kernel
theorem dX1_clear_23 : decode cX1_clear 23 = .ok (.getfield 19, 3) := by decide +kernel
theorem dX1_clear_26 : decode cX1_clear 26 = .ok (.iload_n 1, 1) := by decide +kernel
theorem dX1_clear_27 : decode cX1_clear 27 = .ok (.iconst 0, 1) := by decide +kernel
theorem dX1_clear_28 : decode cX1_clear 28 = .ok (.iastore, 1) := by decide +kernel
theorem dX1_clear_29 : decode cX1_clear 29 = .ok (.iinc 1 1, 3) := by decide +kernel
theorem dX1_clear_32 : decode cX1_clear 32 = .ok (.goto (-30), 3) := by decide +kernel
theorem dX1_clear_35 : decode cX1_clear 35 = .ok (.aload_n 0, 1) := by decide +kernel
theorem dX1_clear_36 : decode cX1_clear 36 = .ok (.iconst 0, 1) := by decide +kernel
theorem dX1_clear_37 : decode cX1_clear 37 = .ok (.putfield 32, 3) := by decide +kernel
theorem dX1_clear_40 : decode cX1_clear 40 = .ok (.aload_n 0, 1) := by decide +kernel
theorem dX1_clear_41 : decode cX1_clear 41 = .ok (.iconst 0, 1) := by decide +kernel
theorem dX1_clear_42 : decode cX1_clear 42 = .ok (.putfield 35, 3) := by decide +kernel
theorem dX1_clear_45 : decode cX1_clear 45 = .ok (.aload_n 0, 1) := by decide +kernel
theorem dX1_clear_46 : decode cX1_clear 46 = .ok (.iconst 0, 1) := by decide +kernel
theorem dX1_clear_47 : decode cX1_clear 47 = .ok (.putfield 38, 3) := by decide +kernel
theorem dX1_clear_50 : decode cX1_clear 50 = .ok (.return_, 1) := by decide +kernel
theorem dX1_setHeight_0 : decode cX1_setHeight 0 = .ok (.iload_n 1, 1) := by decide +kernel
theorem dX1_setHeight_1 : decode cX1_setHeight 1 = .ok (.invokestatic 41, 3) := by decide +kernel
theorem dX1_setHeight_4 : decode cX1_setHeight 4 = .ok (.ifCond .eq 10, 3) := by decide +kernel
theorem dX1_setHeight_7 : decode cX1_setHeight 7 = .ok (.aload_n 0, 1) := by decide +kernel
theorem dX1_setHeight_8 : decode cX1_setHeight 8 = .ok (.getfield 9, 3) := by decide +kernel
theorem dX1_setHeight_11 : decode cX1_setHeight 11 = .ok (.iload_n 1, 1) := by decide +kernel
theorem dX1_setHeight_12 : decode cX1_setHeight 12 = .ok (.iload_n 2, 1) := by decide +kernel
theorem dX1_setHeight_13 : decode cX1_setHeight 13 = .ok (.iastore, 1) := by decide +kernel
theorem dX1_setHeight_14 : decode cX1_setHeight 14 = .ok (.return_, 1) := by decide +kernel
theorem dX1_addWalker_0 : decode cX1_addWalker 0 = .ok (.aload_n 0, 1) := by decide +kernel
theorem dX1_addWalker_1 : decode cX1_addWalker 1 = .ok (.getfield 32, 3) := by decide +kernel
theorem dX1_addWalker_4 : decode cX1_addWalker 4 = .ok (.ifCond .lt 11, 3) := by decide +kernel
theorem dX1_addWalker_7 : decode cX1_addWalker 7 = .ok (.aload_n 0, 1) := by decide +kernel
theorem dX1_addWalker_8 : decode cX1_addWalker 8 = .ok (.getfield 32, 3) := by decide +kernel
theorem dX1_addWalker_11 : decode cX1_addWalker 11 = .ok (.iconst 5, 1) := by decide +kernel
theorem dX1_addWalker_12 : decode cX1_addWalker 12 = .ok (.if_icmp .lt 4, 3) := by decide +kernel
theorem dX1_addWalker_15 : decode cX1_addWalker 15 = .ok (.return_, 1) := by decide +kernel
theorem dX1_addWalker_16 : decode cX1_addWalker 16 = .ok (.aload_n 0, 1) := by decide +kernel
theorem dX1_addWalker_17 : decode cX1_addWalker 17 = .ok (.getfield 22, 3) := by decide +kernel
theorem dX1_addWalker_20 : decode cX1_addWalker 20 = .ok (.aload_n 0, 1) := by decide +kernel
theorem dX1_addWalker_21 : decode cX1_addWalker 21 = .ok (.getfield 32, 3) := by decide +kernel
theorem dX1_addWalker_24 : decode cX1_addWalker 24 = .ok (.iload_n 1, 1) := by decide +kernel
theorem dX1_addWalker_25 : decode cX1_addWalker 25 = .ok (.iastore, 1) := by decide +kernel
theorem dX1_addWalker_26 : decode cX1_addWalker 26 = .ok (.aload_n 0, 1) := by decide +kernel
theorem dX1_addWalker_27 : decode cX1_addWalker 27 = .ok (.getfield 25, 3) := by decide +kernel
theorem dX1_addWalker_30 : decode cX1_addWalker 30 = .ok (.aload_n 0, 1) := by decide +kernel
theorem dX1_addWalker_31 : decode cX1_addWalker 31 = .ok (.getfield 32, 3) := by decide +kernel
theorem dX1_addWalker_34 : decode cX1_addWalker 34 = .ok (.iload_n 2, 1) := by decide +kernel
theorem dX1_addWalker_35 : decode cX1_addWalker 35 = .ok (.iastore, 1) := by decide +kernel
theorem dX1_addWalker_36 : decode cX1_addWalker 36 = .ok (.aload_n 0, 1) := by decide +kernel
theorem dX1_addWalker_37 : decode cX1_addWalker 37 = .ok (.dup, 1) := by decide +kernel
theorem dX1_addWalker_38 : decode cX1_addWalker 38 = .ok (.getfield 32, 3) := by decide +kernel
theorem dX1_addWalker_41 : decode cX1_addWalker 41 = .ok (.iconst 1, 1) := by decide +kernel
theorem dX1_addWalker_42 : decode cX1_addWalker 42 = .ok (.iadd, 1) := by decide +kernel
theorem dX1_addWalker_43 : decode cX1_addWalker 43 = .ok (.putfield 32, 3) := by decide +kernel
theorem dX1_addWalker_46 : decode cX1_addWalker 46 = .ok (.return_, 1) := by decide +kernel
theorem dX1_addTower_0 : decode cX1_addTower 0 = .ok (.iload_n 1, 1) := by decide +kernel
theorem dX1_addTower_1 : decode cX1_addTower 1 = .ok (.invokestatic 41, 3) := by decide +kernel
theorem dX1_addTower_4 : decode cX1_addTower 4 = .ok (.ifCond .ne 4, 3) := by decide +kernel
theorem dX1_addTower_7 : decode cX1_addTower 7 = .ok (.return_, 1) := by decide +kernel
theorem dX1_addTower_8 : decode cX1_addTower 8 = .ok (.aload_n 0, 1) := by decide +kernel
theorem dX1_addTower_9 : decode cX1_addTower 9 = .ok (.getfield 19, 3) := by decide +kernel
theorem dX1_addTower_12 : decode cX1_addTower 12 = .ok (.iload_n 1, 1) := by decide +kernel
theorem dX1_addTower_13 : decode cX1_addTower 13 = .ok (.iload_n 2, 1) := by decide +kernel
theorem dX1_addTower_14 : decode cX1_addTower 14 = .ok (.iastore, 1) := by decide +kernel
theorem dX1_addTower_15 : decode cX1_addTower 15 = .ok (.aload_n 0, 1) := by decide +kernel
theorem dX1_addTower_16 : decode cX1_addTower 16 = .ok (.dup, 1) := by decide +kernel
theorem dX1_addTower_17 : decode cX1_addTower 17 = .ok (.getfield 35, 3) := by decide +kernel
theorem dX1_addTower_20 : decode cX1_addTower 20 = .ok (.iconst 1, 1) := by decide +kernel
theorem dX1_addTower_21 : decode cX1_addTower 21 = .ok (.iadd, 1) := by decide +kernel
theorem dX1_addTower_22 : decode cX1_addTower 22 = .ok (.putfield 35, 3) := by decide +kernel
theorem dX1_addTower_25 : decode cX1_addTower 25 = .ok (.return_, 1) := by decide +kernel
theorem dX1_addSoft_0 : decode cX1_addSoft 0 = .ok (.iload_n 1, 1) := by decide +kernel
theorem dX1_addSoft_1 : decode cX1_addSoft 1 = .ok (.invokestatic 41, 3) := by decide +kernel
theorem dX1_addSoft_4 : decode cX1_addSoft 4 = .ok (.ifCond .ne 4, 3) := by decide +kernel
theorem dX1_addSoft_7 : decode cX1_addSoft 7 = .ok (.return_, 1) := by decide +kernel
theorem dX1_addSoft_8 : decode cX1_addSoft 8 = .ok (.aload_n 0, 1) := by decide +kernel
theorem dX1_addSoft_9 : decode cX1_addSoft 9 = .ok (.getfield 15, 3) := by decide +kernel
theorem dX1_addSoft_12 : decode cX1_addSoft 12 = .ok (.iload_n 1, 1) := by decide +kernel
theorem dX1_addSoft_13 : decode cX1_addSoft 13 = .ok (.iconst 1, 1) := by decide +kernel
theorem dX1_addSoft_14 : decode cX1_addSoft 14 = .ok (.bastore, 1) := by decide +kernel
theorem dX1_addSoft_15 : decode cX1_addSoft 15 = .ok (.aload_n 0, 1) := by decide +kernel
theorem dX1_addSoft_16 : decode cX1_addSoft 16 = .ok (.dup, 1) := by decide +kernel
theorem dX1_addSoft_17 : decode cX1_addSoft 17 = .ok (.getfield 38, 3) := by decide +kernel
theorem dX1_addSoft_20 : decode cX1_addSoft 20 = .ok (.iconst 1, 1) := by decide +kernel
theorem dX1_addSoft_21 : decode cX1_addSoft 21 = .ok (.iadd, 1) := by decide +kernel
theorem dX1_addSoft_22 : decode cX1_addSoft 22 = .ok (.putfield 38, 3) := by decide +kernel
theorem dX1_addSoft_25 : decode cX1_addSoft 25 = .ok (.return_, 1) := by decide +kernel
theorem dX1_heightOf_0 : decode cX1_heightOf 0 = .ok (.iload_n 1, 1) := by decide +kernel
theorem dX1_heightOf_1 : decode cX1_heightOf 1 = .ok (.invokestatic 41, 3) := by decide +kernel
theorem dX1_heightOf_4 : decode cX1_heightOf 4 = .ok (.ifCond .eq 12, 3) := by decide +kernel
theorem dX1_heightOf_7 : decode cX1_heightOf 7 = .ok (.aload_n 0, 1) := by decide +kernel
theorem dX1_heightOf_8 : decode cX1_heightOf 8 = .ok (.getfield 9, 3) := by decide +kernel
theorem dX1_heightOf_11 : decode cX1_heightOf 11 = .ok (.iload_n 1, 1) := by decide +kernel
theorem dX1_heightOf_12 : decode cX1_heightOf 12 = .ok (.iaload, 1) := by decide +kernel
theorem dX1_heightOf_13 : decode cX1_heightOf 13 = .ok (.goto 4, 3) := by decide +kernel
theorem dX1_heightOf_16 : decode cX1_heightOf 16 = .ok (.iconst 0, 1) := by decide +kernel
theorem dX1_heightOf_17 : decode cX1_heightOf 17 = .ok (.ireturn, 1) := by decide +kernel
theorem dX1_isSoft_0 : decode cX1_isSoft 0 = .ok (.iload_n 1, 1) := by decide +kernel
theorem dX1_isSoft_1 : decode cX1_isSoft 1 = .ok (.invokestatic 41, 3) := by decide +kernel
theorem dX1_isSoft_4 : decode cX1_isSoft 4 = .ok (.ifCond .eq 16, 3) := by decide +kernel
theorem dX1_isSoft_7 : decode cX1_isSoft 7 = .ok (.aload_n 0, 1) := by decide +kernel
theorem dX1_isSoft_8 : decode cX1_isSoft 8 = .ok (.getfield 15, 3) := by decide +kernel
theorem dX1_isSoft_11 : decode cX1_isSoft 11 = .ok (.iload_n 1, 1) := by decide +kernel
theorem dX1_isSoft_12 : decode cX1_isSoft 12 = .ok (.baload, 1) := by decide +kernel
theorem dX1_isSoft_13 : decode cX1_isSoft 13 = .ok (.ifCond .eq 7, 3) := by decide +kernel
theorem dX1_isSoft_16 : decode cX1_isSoft 16 = .ok (.iconst 1, 1) := by decide +kernel
theorem dX1_isSoft_17 : decode cX1_isSoft 17 = .ok (.goto 4, 3) := by decide +kernel
theorem dX1_isSoft_20 : decode cX1_isSoft 20 = .ok (.iconst 0, 1) := by decide +kernel
theorem dX1_isSoft_21 : decode cX1_isSoft 21 = .ok (.ireturn, 1) := by decide +kernel
theorem dX1_holdOf_0 : decode cX1_holdOf 0 = .ok (.iload_n 1, 1) := by decide +kernel
theorem dX1_holdOf_1 : decode cX1_holdOf 1 = .ok (.invokestatic 41, 3) := by decide +kernel
theorem dX1_holdOf_4 : decode cX1_holdOf 4 = .ok (.ifCond .eq 12, 3) := by decide +kernel
theorem dX1_holdOf_7 : decode cX1_holdOf 7 = .ok (.aload_n 0, 1) := by decide +kernel
theorem dX1_holdOf_8 : decode cX1_holdOf 8 = .ok (.getfield 19, 3) := by decide +kernel
theorem dX1_holdOf_11 : decode cX1_holdOf 11 = .ok (.iload_n 1, 1) := by decide +kernel
theorem dX1_holdOf_12 : decode cX1_holdOf 12 = .ok (.iaload, 1) := by decide +kernel
theorem dX1_holdOf_13 : decode cX1_holdOf 13 = .ok (.goto 4, 3) := by decide +kernel
theorem dX1_holdOf_16 : decode cX1_holdOf 16 = .ok (.iconst 0, 1) := by decide +kernel
theorem dX1_holdOf_17 : decode cX1_holdOf 17 = .ok (.ireturn, 1) := by decide +kernel
theorem dX1_paceOf_0 : decode cX1_paceOf 0 = .ok (.iload_n 1, 1) := by decide +kernel
theorem dX1_paceOf_1 : decode cX1_paceOf 1 = .ok (.ifCond .lt 17, 3) := by decide +kernel
theorem dX1_paceOf_4 : decode cX1_paceOf 4 = .ok (.iload_n 1, 1) := by decide +kernel
theorem dX1_paceOf_5 : decode cX1_paceOf 5 = .ok (.iconst 5, 1) := by decide +kernel
theorem dX1_paceOf_6 : decode cX1_paceOf 6 = .ok (.if_icmp .ge 12, 3) := by decide +kernel
theorem dX1_paceOf_9 : decode cX1_paceOf 9 = .ok (.aload_n 0, 1) := by decide +kernel
theorem dX1_paceOf_10 : decode cX1_paceOf 10 = .ok (.getfield 22, 3) := by decide +kernel
theorem dX1_paceOf_13 : decode cX1_paceOf 13 = .ok (.iload_n 1, 1) := by decide +kernel
theorem dX1_paceOf_14 : decode cX1_paceOf 14 = .ok (.iaload, 1) := by decide +kernel
theorem dX1_paceOf_15 : decode cX1_paceOf 15 = .ok (.goto 4, 3) := by decide +kernel
theorem dX1_paceOf_18 : decode cX1_paceOf 18 = .ok (.iconst 0, 1) := by decide +kernel
theorem dX1_paceOf_19 : decode cX1_paceOf 19 = .ok (.ireturn, 1) := by decide +kernel
theorem dX1_wadeOf_0 : decode cX1_wadeOf 0 = .ok (.iload_n 1, 1) := by decide +kernel
theorem dX1_wadeOf_1 : decode cX1_wadeOf 1 = .ok (.ifCond .lt 17, 3) := by decide +kernel
theorem dX1_wadeOf_4 : decode cX1_wadeOf 4 = .ok (.iload_n 1, 1) := by decide +kernel
theorem dX1_wadeOf_5 : decode cX1_wadeOf 5 = .ok (.iconst 5, 1) := by decide +kernel
theorem dX1_wadeOf_6 : decode cX1_wadeOf 6 = .ok (.if_icmp .ge 12, 3) := by decide +kernel
theorem dX1_wadeOf_9 : decode cX1_wadeOf 9 = .ok (.aload_n 0, 1) := by decide +kernel
theorem dX1_wadeOf_10 : decode cX1_wadeOf 10 = .ok (.getfield 25, 3) := by decide +kernel
theorem dX1_wadeOf_13 : decode cX1_wadeOf 13 = .ok (.iload_n 1, 1) := by decide +kernel
theorem dX1_wadeOf_14 : decode cX1_wadeOf 14 = .ok (.iaload, 1) := by decide +kernel
theorem dX1_wadeOf_15 : decode cX1_wadeOf 15 = .ok (.goto 4, 3) := by decide +kernel
theorem dX1_wadeOf_18 : decode cX1_wadeOf 18 = .ok (.iconst 0, 1) := by decide +kernel
theorem dX1_wadeOf_19 : decode cX1_wadeOf 19 = .ok (.ireturn, 1) := by decide +kernel
theorem dX1_water_0 : decode cX1_water 0 = .ok (.iload_n 1, 1) := by decide +kernel
theorem dX1_water_1 : decode cX1_water 1 = .ok (.iload_n 2, 1) := by decide +kernel
theorem dX1_water_2 : decode cX1_water 2 = .ok (.if_icmp .ge 9, 3) := by decide +kernel
theorem dX1_water_5 : decode cX1_water 5 = .ok (.iload_n 2, 1) := by decide +kernel
theorem dX1_water_6 : decode cX1_water 6 = .ok (.iload_n 1, 1) := by decide +kernel
theorem dX1_water_7 : decode cX1_water 7 = .ok (.isub, 1) := by decide +kernel
theorem dX1_water_8 : decode cX1_water 8 = .ok (.goto 6, 3) := by decide +kernel
theorem dX1_water_11 : decode cX1_water 11 = .ok (.iload_n 1, 1) := by decide +kernel
theorem dX1_water_12 : decode cX1_water 12 = .ok (.iload_n 2, 1) := by decide +kernel
theorem dX1_water_13 : decode cX1_water 13 = .ok (.isub, 1) := by decide +kernel
theorem dX1_water_14 : decode cX1_water 14 = .ok (.istore_n 3, 1) := by decide +kernel
theorem dX1_water_15 : decode cX1_water 15 = .ok (.aload_n 0, 1) := by decide +kernel
theorem dX1_water_16 : decode cX1_water 16 = .ok (.getfield 45, 3) := by decide +kernel
theorem dX1_water_19 : decode cX1_water 19 = .ok (.aload_n 0, 1) := by decide +kernel
theorem dX1_water_20 : decode cX1_water 20 = .ok (.getfield 28, 3) := by decide +kernel
theorem dX1_water_23 : decode cX1_water 23 = .ok (.iload_n 3, 1) := by decide +kernel
theorem dX1_water_24 : decode cX1_water 24 = .ok (.imul, 1) := by decide +kernel
theorem dX1_water_25 : decode cX1_water 25 = .ok (.iadd, 1) := by decide +kernel
theorem dX1_water_26 : decode cX1_water 26 = .ok (.istore 4, 2) := by decide +kernel
theorem dX1_water_28 : decode cX1_water 28 = .ok (.iload 4, 2) := by decide +kernel
theorem dX1_water_30 : decode cX1_water 30 = .ok (.bipush 9, 2) := by decide +kernel
theorem dX1_water_32 : decode cX1_water 32 = .ok (.if_icmp .ge 8, 3) := by decide +kernel
theorem dX1_water_35 : decode cX1_water 35 = .ok (.iload 4, 2) := by decide +kernel
theorem dX1_water_37 : decode cX1_water 37 = .ok (.goto 5, 3) := by decide +kernel
theorem dX1_water_40 : decode cX1_water 40 = .ok (.bipush 9, 2) := by decide +kernel
theorem dX1_water_42 : decode cX1_water 42 = .ok (.ireturn, 1) := by decide +kernel
theorem dX1_depth_0 : decode cX1_depth 0 = .ok (.iload_n 1, 1) := by decide +kernel
theorem dX1_depth_1 : decode cX1_depth 1 = .ok (.ifCond .le 19, 3) := by decide +kernel
theorem dX1_depth_4 : decode cX1_depth 4 = .ok (.iload_n 1, 1) := by decide +kernel
theorem dX1_depth_5 : decode cX1_depth 5 = .ok (.bipush 9, 2) := by decide +kernel
theorem dX1_depth_7 : decode cX1_depth 7 = .ok (.if_icmp .ge 13, 3) := by decide +kernel
theorem dX1_depth_10 : decode cX1_depth 10 = .ok (.iload_n 2, 1) := by decide +kernel
theorem dX1_depth_11 : decode cX1_depth 11 = .ok (.aload_n 0, 1) := by decide +kernel
theorem dX1_depth_12 : decode cX1_depth 12 = .ok (.getfield 9, 3) := by decide +kernel
theorem dX1_depth_15 : decode cX1_depth 15 = .ok (.iload_n 1, 1) := by decide +kernel
theorem dX1_depth_16 : decode cX1_depth 16 = .ok (.iaload, 1) := by decide +kernel
theorem dX1_depth_17 : decode cX1_depth 17 = .ok (.if_icmp .gt 5, 3) := by decide +kernel
theorem dX1_depth_20 : decode cX1_depth 20 = .ok (.iconst 0, 1) := by decide +kernel
theorem dX1_depth_21 : decode cX1_depth 21 = .ok (.ireturn, 1) := by decide +kernel
theorem dX1_depth_22 : decode cX1_depth 22 = .ok (.iload_n 2, 1) := by decide +kernel
theorem dX1_depth_23 : decode cX1_depth 23 = .ok (.aload_n 0, 1) := by decide +kernel
theorem dX1_depth_24 : decode cX1_depth 24 = .ok (.getfield 9, 3) := by decide +kernel
theorem dX1_depth_27 : decode cX1_depth 27 = .ok (.iload_n 1, 1) := by decide +kernel
theorem dX1_depth_28 : decode cX1_depth 28 = .ok (.iaload, 1) := by decide +kernel
theorem dX1_depth_29 : decode cX1_depth 29 = .ok (.isub, 1) := by decide +kernel
theorem dX1_depth_30 : decode cX1_depth 30 = .ok (.ireturn, 1) := by decide +kernel
theorem dX2_init_0 : decode cX2_init 0 = .ok (.aload_n 0, 1) := by decide +kernel
theorem dX2_init_1 : decode cX2_init 1 = .ok (.invokespecial 5, 3) := by decide +kernel
theorem dX2_init_4 : decode cX2_init 4 = .ok (.aload_n 0, 1) := by decide +kernel
theorem dX2_init_5 : decode cX2_init 5 = .ok (.bipush 16, 2) := by decide +kernel
theorem dX2_init_7 : decode cX2_init 7 = .ok (.newarray .int, 2) := by decide +kernel
theorem dX2_init_9 : decode cX2_init 9 = .ok (.putfield 11, 3) := by decide +kernel
theorem dX2_init_12 : decode cX2_init 12 = .ok (.return_, 1) := by decide +kernel
theorem dX2_clear_0 : decode cX2_clear 0 = .ok (.iconst 0, 1) := by decide +kernel
theorem dX2_clear_1 : decode cX2_clear 1 = .ok (.istore_n 1, 1) := by decide +kernel
theorem dX2_clear_2 : decode cX2_clear 2 = .ok (.iload_n 1, 1) := by decide +kernel
theorem dX2_clear_3 : decode cX2_clear 3 = .ok (.bipush 16, 2) := by decide +kernel
theorem dX2_clear_5 : decode cX2_clear 5 = .ok (.if_icmp .ge 16, 3) := by decide +kernel
theorem dX2_clear_8 : decode cX2_clear 8 = .ok (.aload_n 0, 1) := by decide +kernel
theorem dX2_clear_9 : decode cX2_clear 9 = .ok (.getfield 11, 3) := by decide +kernel
theorem dX2_clear_12 : decode cX2_clear 12 = .ok (.iload_n 1, 1) := by decide +kernel
theorem dX2_clear_13 : decode cX2_clear 13 = .ok (.iconst 0, 1) := by decide +kernel
theorem dX2_clear_14 : decode cX2_clear 14 = .ok (.iastore, 1) := by decide +kernel
theorem dX2_clear_15 : decode cX2_clear 15 = .ok (.iinc 1 1, 3) := by decide +kernel
theorem dX2_clear_18 : decode cX2_clear 18 = .ok (.goto (-16), 3) := by decide +kernel
theorem dX2_clear_21 : decode cX2_clear 21 = .ok (.return_, 1) := by decide +kernel
theorem dX2_time_0 : decode cX2_time 0 = .ok (.aload_n 0, 1) := by decide +kernel
theorem dX2_time_1 : decode cX2_time 1 = .ok (.getfield 11, 3) := by decide +kernel
theorem dX2_time_4 : decode cX2_time 4 = .ok (.iconst 0, 1) := by decide +kernel
theorem dX2_time_5 : decode cX2_time 5 = .ok (.iaload, 1) := by decide +kernel
theorem dX2_time_6 : decode cX2_time 6 = .ok (.ireturn, 1) := by decide +kernel
theorem dX2_setTime_0 : decode cX2_setTime 0 = .ok (.aload_n 0, 1) := by decide +kernel
theorem dX2_setTime_1 : decode cX2_setTime 1 = .ok (.getfield 11, 3) := by decide +kernel
theorem dX2_setTime_4 : decode cX2_setTime 4 = .ok (.iconst 0, 1) := by decide +kernel
theorem dX2_setTime_5 : decode cX2_setTime 5 = .ok (.iload_n 1, 1) := by decide +kernel
theorem dX2_setTime_6 : decode cX2_setTime 6 = .ok (.iastore, 1) := by decide +kernel
theorem dX2_setTime_7 : decode cX2_setTime 7 = .ok (.return_, 1) := by decide +kernel
theorem dX2_cellOf_0 : decode cX2_cellOf 0 = .ok (.aload_n 0, 1) := by decide +kernel
theorem dX2_cellOf_1 : decode cX2_cellOf 1 = .ok (.iconst 1, 1) := by decide +kernel
theorem dX2_cellOf_2 : decode cX2_cellOf 2 = .ok (.iload_n 1, 1) := by decide +kernel
theorem dX2_cellOf_3 : decode cX2_cellOf 3 = .ok (.invokevirtual 15, 3) := by decide +kernel
theorem dX2_cellOf_6 : decode cX2_cellOf 6 = .ok (.ireturn, 1) := by decide +kernel
theorem dX2_setCell_0 : decode cX2_setCell 0 = .ok (.aload_n 0, 1) := by decide +kernel
theorem dX2_setCell_1 : decode cX2_setCell 1 = .ok (.iconst 1, 1) := by decide +kernel
theorem dX2_setCell_2 : decode cX2_setCell 2 = .ok (.iload_n 1, 1) := by decide +kernel
theorem dX2_setCell_3 : decode cX2_setCell 3 = .ok (.iload_n 2, 1) := by decide +kernel
theorem dX2_setCell_4 : decode cX2_setCell 4 = .ok (.invokevirtual 19, 3) := by decide +kernel
theorem dX2_setCell_7 : decode cX2_setCell 7 = .ok (.return_, 1) := by decide +kernel
theorem dX2_wayOf_0 : decode cX2_wayOf 0 = .ok (.aload_n 0, 1) := by decide +kernel
theorem dX2_wayOf_1 : decode cX2_wayOf 1 = .ok (.bipush 6, 2) := by decide +kernel
theorem dX2_wayOf_3 : decode cX2_wayOf 3 = .ok (.iload_n 1, 1) := by decide +kernel
theorem dX2_wayOf_4 : decode cX2_wayOf 4 = .ok (.invokevirtual 15, 3) := by decide +kernel
theorem dX2_wayOf_7 : decode cX2_wayOf 7 = .ok (.ireturn, 1) := by decide +kernel
theorem dX2_setWay_0 : decode cX2_setWay 0 = .ok (.aload_n 0, 1) := by decide +kernel
theorem dX2_setWay_1 : decode cX2_setWay 1 = .ok (.bipush 6, 2) := by decide +kernel
theorem dX2_setWay_3 : decode cX2_setWay 3 = .ok (.iload_n 1, 1) := by decide +kernel
theorem dX2_setWay_4 : decode cX2_setWay 4 = .ok (.iload_n 2, 1) := by decide +kernel
theorem dX2_setWay_5 : decode cX2_setWay 5 = .ok (.invokevirtual 19, 3) := by decide +kernel
theorem dX2_setWay_8 : decode cX2_setWay 8 = .ok (.return_, 1) := by decide +kernel
theorem dX2_fateOf_0 : decode cX2_fateOf 0 = .ok (.aload_n 0, 1) := by decide +kernel
theorem dX2_fateOf_1 : decode cX2_fateOf 1 = .ok (.bipush 11, 2) := by decide +kernel
theorem dX2_fateOf_3 : decode cX2_fateOf 3 = .ok (.iload_n 1, 1) := by decide +kernel
theorem dX2_fateOf_4 : decode cX2_fateOf 4 = .ok (.invokevirtual 15, 3) := by decide +kernel
theorem dX2_fateOf_7 : decode cX2_fateOf 7 = .ok (.ireturn, 1) := by decide +kernel
theorem dX2_setFate_0 : decode cX2_setFate 0 = .ok (.aload_n 0, 1) := by decide +kernel
theorem dX2_setFate_1 : decode cX2_setFate 1 = .ok (.bipush 11, 2) := by decide +kernel
theorem dX2_setFate_3 : decode cX2_setFate 3 = .ok (.iload_n 1, 1) := by decide +kernel
theorem dX2_setFate_4 : decode cX2_setFate 4 = .ok (.iload_n 2, 1) := by decide +kernel
theorem dX2_setFate_5 : decode cX2_setFate 5 = .ok (.invokevirtual 19, 3) := by decide +kernel
theorem dX2_setFate_8 : decode cX2_setFate 8 = .ok (.return_, 1) := by decide +kernel
theorem dX2_allThat_0 : decode cX2_allThat 0 = .ok (.iconst 0, 1) := by decide +kernel
theorem dX2_allThat_1 : decode cX2_allThat 1 = .ok (.istore_n 3, 1) := by decide +kernel
theorem dX2_allThat_2 : decode cX2_allThat 2 = .ok (.iconst 0, 1) := by decide +kernel
theorem dX2_allThat_3 : decode cX2_allThat 3 = .ok (.istore 4, 2) := by decide +kernel
theorem dX2_allThat_5 : decode cX2_allThat 5 = .ok (.iload 4, 2) := by decide +kernel
theorem dX2_allThat_7 : decode cX2_allThat 7 = .ok (.iload_n 2, 1) := by decide +kernel
theorem dX2_allThat_8 : decode cX2_allThat 8 = .ok (.if_icmp .ge 32, 3) := by decide +kernel
theorem dX2_allThat_11 : decode cX2_allThat 11 = .ok (.iload 4, 2) := by decide +kernel
theorem dX2_allThat_13 : decode cX2_allThat 13 = .ok (.iconst 5, 1) := by decide +kernel
theorem dX2_allThat_14 : decode cX2_allThat 14 = .ok (.if_icmp .ge 26, 3) := by decide +kernel
theorem dX2_allThat_17 : decode cX2_allThat 17 = .ok (.aload_n 0, 1) := by decide +kernel
theorem dX2_allThat_18 : decode cX2_allThat 18 = .ok (.iload 4, 2) := by decide +kernel
theorem dX2_allThat_20 : decode cX2_allThat 20 = .ok (.invokevirtual 23, 3) := by decide +kernel
theorem dX2_allThat_23 : decode cX2_allThat 23 = .ok (.iload_n 1, 1) := by decide +kernel
theorem dX2_allThat_24 : decode cX2_allThat 24 = .ok (.if_icmp .ne 10, 3) := by decide +kernel
theorem dX2_allThat_27 : decode cX2_allThat 27 = .ok (.iload_n 3, 1) := by decide +kernel
theorem dX2_allThat_28 : decode cX2_allThat 28 = .ok (.iconst 1, 1) := by decide +kernel
theorem dX2_allThat_29 : decode cX2_allThat 29 = .ok (.iload 4, 2) := by decide +kernel
theorem dX2_allThat_31 : decode cX2_allThat 31 = .ok (.ishl, 1) := by decide +kernel
theorem dX2_allThat_32 : decode cX2_allThat 32 = .ok (.ior, 1) := by decide +kernel
theorem dX2_allThat_33 : decode cX2_allThat 33 = .ok (.istore_n 3, 1) := by decide +kernel
theorem dX2_allThat_34 : decode cX2_allThat 34 = .ok (.iinc 4 1, 3) := by decide +kernel
theorem dX2_allThat_37 : decode cX2_allThat 37 = .ok (.goto (-32), 3) := by decide +kernel
theorem dX2_allThat_40 : decode cX2_allThat 40 = .ok (.iload_n 3, 1) := by decide +kernel
theorem dX2_allThat_41 : decode cX2_allThat 41 = .ok (.ireturn, 1) := by decide +kernel
theorem dX2_countOn_0 : decode cX2_countOn 0 = .ok (.iconst 0, 1) := by decide +kernel
theorem dX2_countOn_1 : decode cX2_countOn 1 = .ok (.istore_n 3, 1) := by decide +kernel
theorem dX2_countOn_2 : decode cX2_countOn 2 = .ok (.iconst 0, 1) := by decide +kernel
theorem dX2_countOn_3 : decode cX2_countOn 3 = .ok (.istore 4, 2) := by decide +kernel
theorem dX2_countOn_5 : decode cX2_countOn 5 = .ok (.iload 4, 2) := by decide +kernel
theorem dX2_countOn_7 : decode cX2_countOn 7 = .ok (.iconst 5, 1) := by decide +kernel
theorem dX2_countOn_8 : decode cX2_countOn 8 = .ok (.if_icmp .ge 31, 3) := by decide +kernel
theorem dX2_countOn_11 : decode cX2_countOn 11 = .ok (.iload_n 2, 1) := by decide +kernel
theorem dX2_countOn_12 : decode cX2_countOn 12 = .ok (.iload 4, 2) := by decide +kernel
theorem dX2_countOn_14 : decode cX2_countOn 14 = .ok (.ishr, 1) := by decide +kernel
theorem dX2_countOn_15 : decode cX2_countOn 15 = .ok (.iconst 1, 1) := by decide +kernel
theorem dX2_countOn_16 : decode cX2_countOn 16 = .ok (.iand, 1) := by decide +kernel
theorem dX2_countOn_17 : decode cX2_countOn 17 = .ok (.ifCond .eq 16, 3) := by decide +kernel
theorem dX2_countOn_20 : decode cX2_countOn 20 = .ok (.aload_n 0, 1) := by decide +kernel
theorem dX2_countOn_21 : decode cX2_countOn 21 = .ok (.iload 4, 2) := by decide +kernel
theorem dX2_countOn_23 : decode cX2_countOn 23 = .ok (.invokevirtual 27, 3) := by decide +kernel
theorem dX2_countOn_26 : decode cX2_countOn 26 = .ok (.iload_n 1, 1) := by decide +kernel
theorem dX2_countOn_27 : decode cX2_countOn 27 = .ok (.if_icmp .ne 6, 3) := by decide +kernel
theorem dX2_countOn_30 : decode cX2_countOn 30 = .ok (.iinc 3 1, 3) := by decide +kernel
theorem dX2_countOn_33 : decode cX2_countOn 33 = .ok (.iinc 4 1, 3) := by decide +kernel
theorem dX2_countOn_36 : decode cX2_countOn 36 = .ok (.goto (-31), 3) := by decide +kernel
theorem dX2_countOn_39 : decode cX2_countOn 39 = .ok (.iload_n 3, 1) := by decide +kernel
theorem dX2_countOn_40 : decode cX2_countOn 40 = .ok (.ireturn, 1) := by decide +kernel
theorem dX2_valueOf_0 : decode cX2_valueOf 0 = .ok (.iload_n 2, 1) := by decide +kernel
theorem dX2_valueOf_1 : decode cX2_valueOf 1 = .ok (.ifCond .lt 19, 3) := by decide +kernel
theorem dX2_valueOf_4 : decode cX2_valueOf 4 = .ok (.iload_n 2, 1) := by decide +kernel
theorem dX2_valueOf_5 : decode cX2_valueOf 5 = .ok (.iconst 5, 1) := by decide +kernel
theorem dX2_valueOf_6 : decode cX2_valueOf 6 = .ok (.if_icmp .ge 14, 3) := by decide +kernel
theorem dX2_valueOf_9 : decode cX2_valueOf 9 = .ok (.aload_n 0, 1) := by decide +kernel
theorem dX2_valueOf_10 : decode cX2_valueOf 10 = .ok (.getfield 11, 3) := by decide +kernel
theorem dX2_valueOf_13 : decode cX2_valueOf 13 = .ok (.iload_n 1, 1) := by decide +kernel
theorem dX2_valueOf_14 : decode cX2_valueOf 14 = .ok (.iload_n 2, 1) := by decide +kernel
theorem dX2_valueOf_15 : decode cX2_valueOf 15 = .ok (.iadd, 1) := by decide +kernel
theorem dX2_valueOf_16 : decode cX2_valueOf 16 = .ok (.iaload, 1) := by decide +kernel
theorem dX2_valueOf_17 : decode cX2_valueOf 17 = .ok (.goto 4, 3) := by decide +kernel
theorem dX2_valueOf_20 : decode cX2_valueOf 20 = .ok (.iconst 0, 1) := by decide +kernel
theorem dX2_valueOf_21 : decode cX2_valueOf 21 = .ok (.ireturn, 1) := by decide +kernel
theorem dX2_setValue_0 : decode cX2_setValue 0 = .ok (.iload_n 2, 1) := by decide +kernel
theorem dX2_setValue_1 : decode cX2_setValue 1 = .ok (.ifCond .lt 17, 3) := by decide +kernel
theorem dX2_setValue_4 : decode cX2_setValue 4 = .ok (.iload_n 2, 1) := by decide +kernel
theorem dX2_setValue_5 : decode cX2_setValue 5 = .ok (.iconst 5, 1) := by decide +kernel
theorem dX2_setValue_6 : decode cX2_setValue 6 = .ok (.if_icmp .ge 12, 3) := by decide +kernel
theorem dX2_setValue_9 : decode cX2_setValue 9 = .ok (.aload_n 0, 1) := by decide +kernel
theorem dX2_setValue_10 : decode cX2_setValue 10 = .ok (.getfield 11, 3) := by decide +kernel
theorem dX2_setValue_13 : decode cX2_setValue 13 = .ok (.iload_n 1, 1) := by decide +kernel
theorem dX2_setValue_14 : decode cX2_setValue 14 = .ok (.iload_n 2, 1) := by decide +kernel
theorem dX2_setValue_15 : decode cX2_setValue 15 = .ok (.iadd, 1) := by decide +kernel
theorem dX2_setValue_16 : decode cX2_setValue 16 = .ok (.iload_n 3, 1) := by decide +kernel
theorem dX2_setValue_17 : decode cX2_setValue 17 = .ok (.iastore, 1) := by decide +kernel
theorem dX2_setValue_18 : decode cX2_setValue 18 = .ok (.return_, 1) := by decide +kernel
theorem dX3_init_0 : decode cX3_init 0 = .ok (.aload_n 0, 1) := by decide +kernel
theorem dX3_init_1 : decode cX3_init 1 = .ok (.invokespecial 1, 3) := by decide +kernel
theorem dX3_init_4 : decode cX3_init 4 = .ok (.aload_n 0, 1) := by decide +kernel
theorem dX3_init_5 : decode cX3_init 5 = .ok (.iconst 0, 1) := by decide +kernel
theorem dX3_init_6 : decode cX3_init 6 = .ok (.iload_n 1, 1) := by decide +kernel
theorem dX3_init_7 : decode cX3_init 7 = .ok (.invokestatic 7, 3) := by decide +kernel
theorem dX3_init_10 : decode cX3_init 10 = .ok (.putfield 13, 3) := by decide +kernel
theorem dX3_init_13 : decode cX3_init 13 = .ok (.aload_n 0, 1) := by decide +kernel
theorem dX3_init_14 : decode cX3_init 14 = .ok (.aload_n 0, 1) := by decide +kernel
theorem dX3_init_15 : decode cX3_init 15 = .ok (.getfield 13, 3) := by decide +kernel
theorem dX3_init_18 : decode cX3_init 18 = .ok (.bipush 16, 2) := by decide +kernel
theorem dX3_init_20 : decode cX3_init 20 = .ok (.imul, 1) := by decide +kernel
theorem dX3_init_21 : decode cX3_init 21 = .ok (.newarray .int, 2) := by decide +kernel
theorem dX3_init_23 : decode cX3_init 23 = .ok (.putfield 21, 3) := by decide +kernel
theorem dX3_init_26 : decode cX3_init 26 = .ok (.return_, 1) := by decide +kernel
theorem dX3_put_0 : decode cX3_put 0 = .ok (.iload_n 1, 1) := by decide +kernel
theorem dX3_put_1 : decode cX3_put 1 = .ok (.ifCond .lt 11, 3) := by decide +kernel
theorem dX3_put_4 : decode cX3_put 4 = .ok (.iload_n 1, 1) := by decide +kernel
theorem dX3_put_5 : decode cX3_put 5 = .ok (.aload_n 0, 1) := by decide +kernel
theorem dX3_put_6 : decode cX3_put 6 = .ok (.getfield 13, 3) := by decide +kernel
theorem dX3_put_9 : decode cX3_put 9 = .ok (.if_icmp .lt 4, 3) := by decide +kernel
theorem dX3_put_12 : decode cX3_put 12 = .ok (.return_, 1) := by decide +kernel
theorem dX3_put_13 : decode cX3_put 13 = .ok (.aload_n 2, 1) := by decide +kernel
theorem dX3_put_14 : decode cX3_put 14 = .ok (.getfield 25, 3) := by decide +kernel
theorem dX3_put_17 : decode cX3_put 17 = .ok (.iconst 0, 1) := by decide +kernel
theorem dX3_put_18 : decode cX3_put 18 = .ok (.aload_n 0, 1) := by decide +kernel
theorem dX3_put_19 : decode cX3_put 19 = .ok (.getfield 21, 3) := by decide +kernel
theorem dX3_put_22 : decode cX3_put 22 = .ok (.iload_n 1, 1) := by decide +kernel
theorem dX3_put_23 : decode cX3_put 23 = .ok (.bipush 16, 2) := by decide +kernel
theorem dX3_put_25 : decode cX3_put 25 = .ok (.imul, 1) := by decide +kernel
theorem dX3_put_26 : decode cX3_put 26 = .ok (.bipush 16, 2) := by decide +kernel
theorem dX3_put_28 : decode cX3_put 28 = .ok (.invokestatic 28, 3) := by decide +kernel
theorem dX3_put_31 : decode cX3_put 31 = .ok (.return_, 1) := by decide +kernel
theorem dX3_take_0 : decode cX3_take 0 = .ok (.iload_n 1, 1) := by decide +kernel
theorem dX3_take_1 : decode cX3_take 1 = .ok (.ifCond .lt 11, 3) := by decide +kernel
theorem dX3_take_4 : decode cX3_take 4 = .ok (.iload_n 1, 1) := by decide +kernel
theorem dX3_take_5 : decode cX3_take 5 = .ok (.aload_n 0, 1) := by decide +kernel
theorem dX3_take_6 : decode cX3_take 6 = .ok (.getfield 13, 3) := by decide +kernel
theorem dX3_take_9 : decode cX3_take 9 = .ok (.if_icmp .lt 4, 3) := by decide +kernel
theorem dX3_take_12 : decode cX3_take 12 = .ok (.return_, 1) := by decide +kernel
theorem dX3_take_13 : decode cX3_take 13 = .ok (.aload_n 0, 1) := by decide +kernel
theorem dX3_take_14 : decode cX3_take 14 = .ok (.getfield 21, 3) := by decide +kernel
theorem dX3_take_17 : decode cX3_take 17 = .ok (.iload_n 1, 1) := by decide +kernel
theorem dX3_take_18 : decode cX3_take 18 = .ok (.bipush 16, 2) := by decide +kernel
theorem dX3_take_20 : decode cX3_take 20 = .ok (.imul, 1) := by decide +kernel
theorem dX3_take_21 : decode cX3_take 21 = .ok (.aload_n 2, 1) := by decide +kernel
theorem dX3_take_22 : decode cX3_take 22 = .ok (.getfield 25, 3) := by decide +kernel
theorem dX3_take_25 : decode cX3_take 25 = .ok (.iconst 0, 1) := by decide +kernel
theorem dX3_take_26 : decode cX3_take 26 = .ok (.bipush 16, 2) := by decide +kernel
theorem dX3_take_28 : decode cX3_take 28 = .ok (.invokestatic 28, 3) := by decide +kernel
theorem dX3_take_31 : decode cX3_take 31 = .ok (.return_, 1) := by decide +kernel
theorem dX4_init_0 : decode cX4_init 0 = .ok (.aload_n 0, 1) := by decide +kernel
theorem dX4_init_1 : decode cX4_init 1 = .ok (.invokespecial 3, 3) := by decide +kernel
theorem dX4_init_4 : decode cX4_init 4 = .ok (.aload_n 0, 1) := by decide +kernel
theorem dX4_init_5 : decode cX4_init 5 = .ok (.bipush 56, 2) := by decide +kernel
theorem dX4_init_7 : decode cX4_init 7 = .ok (.newarray .int, 2) := by decide +kernel
theorem dX4_init_9 : decode cX4_init 9 = .ok (.putfield 9, 3) := by decide +kernel
theorem dX4_init_12 : decode cX4_init 12 = .ok (.return_, 1) := by decide +kernel
theorem dX4_append_0 : decode cX4_append 0 = .ok (.aload_n 0, 1) := by decide +kernel
theorem dX4_append_1 : decode cX4_append 1 = .ok (.getfield 15, 3) := by decide +kernel
theorem dX4_append_4 : decode cX4_append 4 = .ok (.ifCond .lt 12, 3) := by decide +kernel
theorem dX4_append_7 : decode cX4_append 7 = .ok (.aload_n 0, 1) := by decide +kernel
theorem dX4_append_8 : decode cX4_append 8 = .ok (.getfield 15, 3) := by decide +kernel
theorem dX4_append_11 : decode cX4_append 11 = .ok (.bipush 56, 2) := by decide +kernel
theorem dX4_append_13 : decode cX4_append 13 = .ok (.if_icmp .lt 4, 3) := by decide +kernel
theorem dX4_append_16 : decode cX4_append 16 = .ok (.return_, 1) := by decide +kernel
theorem dX4_append_17 : decode cX4_append 17 = .ok (.aload_n 0, 1) := by decide +kernel
theorem dX4_append_18 : decode cX4_append 18 = .ok (.getfield 9, 3) := by decide +kernel
theorem dX4_append_21 : decode cX4_append 21 = .ok (.aload_n 0, 1) := by decide +kernel
theorem dX4_append_22 : decode cX4_append 22 = .ok (.getfield 15, 3) := by decide +kernel
theorem dX4_append_25 : decode cX4_append 25 = .ok (.iload_n 1, 1) := by decide +kernel
theorem dX4_append_26 : decode cX4_append 26 = .ok (.iastore, 1) := by decide +kernel
theorem dX4_append_27 : decode cX4_append 27 = .ok (.aload_n 0, 1) := by decide +kernel
theorem dX4_append_28 : decode cX4_append 28 = .ok (.dup, 1) := by decide +kernel
theorem dX4_append_29 : decode cX4_append 29 = .ok (.getfield 15, 3) := by decide +kernel
theorem dX4_append_32 : decode cX4_append 32 = .ok (.iconst 1, 1) := by decide +kernel
theorem dX4_append_33 : decode cX4_append 33 = .ok (.iadd, 1) := by decide +kernel
theorem dX4_append_34 : decode cX4_append 34 = .ok (.putfield 15, 3) := by decide +kernel
theorem dX4_append_37 : decode cX4_append 37 = .ok (.return_, 1) := by decide +kernel
theorem dX4_empty_0 : decode cX4_empty 0 = .ok (.aload_n 0, 1) := by decide +kernel
theorem dX4_empty_1 : decode cX4_empty 1 = .ok (.iconst 0, 1) := by decide +kernel
theorem dX4_empty_2 : decode cX4_empty 2 = .ok (.putfield 15, 3) := by decide +kernel
theorem dX4_empty_5 : decode cX4_empty 5 = .ok (.return_, 1) := by decide +kernel
theorem dX4_readInto_0 : decode cX4_readInto 0 = .ok (.aload_n 0, 1) := by decide +kernel
theorem dX4_readInto_1 : decode cX4_readInto 1 = .ok (.iconst 0, 1) := by decide +kernel
theorem dX4_readInto_2 : decode cX4_readInto 2 = .ok (.putfield 19, 3) := by decide +kernel
theorem dX4_readInto_5 : decode cX4_readInto 5 = .ok (.aload_n 0, 1) := by decide +kernel
theorem dX4_readInto_6 : decode cX4_readInto 6 = .ok (.iconst 0, 1) := by decide +kernel
theorem dX4_readInto_7 : decode cX4_readInto 7 = .ok (.putfield 22, 3) := by decide +kernel
theorem dX4_readInto_10 : decode cX4_readInto 10 = .ok (.aload_n 1, 1) := by decide +kernel
theorem dX4_readInto_11 : decode cX4_readInto 11 = .ok (.invokevirtual 26, 3) := by decide +kernel
theorem dX4_readInto_14 : decode cX4_readInto 14 = .ok (.aload_n 0, 1) := by decide +kernel
theorem dX4_readInto_15 : decode cX4_readInto 15 = .ok (.aload_n 1, 1) := by decide +kernel
theorem dX4_readInto_16 : decode cX4_readInto 16 = .ok (.invokevirtual 31, 3) := by decide +kernel
theorem dX4_readInto_19 : decode cX4_readInto 19 = .ok (.iconst 0, 1) := by decide +kernel
theorem dX4_readInto_20 : decode cX4_readInto 20 = .ok (.istore_n 2, 1) := by decide +kernel
theorem dX4_readInto_21 : decode cX4_readInto 21 = .ok (.iload_n 2, 1) := by decide +kernel
theorem dX4_readInto_22 : decode cX4_readInto 22 = .ok (.bipush 56, 2) := by decide +kernel
theorem dX4_readInto_24 : decode cX4_readInto 24 = .ok (.if_icmp .ge 32, 3) := by decide +kernel
theorem dX4_readInto_27 : decode cX4_readInto 27 = .ok (.aload_n 0, 1) := by decide +kernel
theorem dX4_readInto_28 : decode cX4_readInto 28 = .ok (.getfield 22, 3) := by decide +kernel
theorem dX4_readInto_31 : decode cX4_readInto 31 = .ok (.ifCond .ne 25, 3) := by decide +kernel
theorem dX4_readInto_34 : decode cX4_readInto 34 = .ok (.aload_n 0, 1) := by decide +kernel
theorem dX4_readInto_35 : decode cX4_readInto 35 = .ok (.getfield 19, 3) := by decide +kernel
theorem dX4_readInto_38 : decode cX4_readInto 38 = .ok (.aload_n 0, 1) := by decide +kernel
theorem dX4_readInto_39 : decode cX4_readInto 39 = .ok (.getfield 15, 3) := by decide +kernel
theorem dX4_readInto_42 : decode cX4_readInto 42 = .ok (.if_icmp .ge 14, 3) := by decide +kernel
theorem dX4_readInto_45 : decode cX4_readInto 45 = .ok (.aload_n 0, 1) := by decide +kernel
theorem dX4_readInto_46 : decode cX4_readInto 46 = .ok (.aload_n 1, 1) := by decide +kernel
theorem dX4_readInto_47 : decode cX4_readInto 47 = .ok (.invokevirtual 35, 3) := by decide +kernel
theorem dX4_readInto_50 : decode cX4_readInto 50 = .ok (.iinc 2 1, 3) := by decide +kernel
theorem dX4_readInto_53 : decode cX4_readInto 53 = .ok (.goto (-32), 3) := by decide +kernel
theorem dX4_readInto_56 : decode cX4_readInto 56 = .ok (.aload_n 0, 1) := by decide +kernel
theorem dX4_readInto_57 : decode cX4_readInto 57 = .ok (.getfield 22, 3) := by decide +kernel
theorem dX4_readInto_60 : decode cX4_readInto 60 = .ok (.ifCond .eq 10, 3) := by decide +kernel
theorem dX4_readInto_63 : decode cX4_readInto 63 = .ok (.aload_n 0, 1) := by decide +kernel
theorem dX4_readInto_64 : decode cX4_readInto 64 = .ok (.getfield 19, 3) := by decide +kernel
theorem dX4_readInto_67 : decode cX4_readInto 67 = .ok (.goto 5, 3) := by decide +kernel
theorem dX4_readInto_70 : decode cX4_readInto 70 = .ok (.bipush (-9), 2) := by decide +kernel
theorem dX4_readInto_72 : decode cX4_readInto 72 = .ok (.ireturn, 1) := by decide +kernel
theorem dX4_readHead_0 : decode cX4_readHead 0 = .ok (.aload_n 0, 1) := by decide +kernel
theorem dX4_readHead_1 : decode cX4_readHead 1 = .ok (.invokevirtual 38, 3) := by decide +kernel
theorem dX4_readHead_4 : decode cX4_readHead 4 = .ok (.bipush 66, 2) := by decide +kernel
theorem dX4_readHead_6 : decode cX4_readHead 6 = .ok (.if_icmp .ne 16, 3) := by decide +kernel
theorem dX4_readHead_9 : decode cX4_readHead 9 = .ok (.aload_n 0, 1) := by decide +kernel
theorem dX4_readHead_10 : decode cX4_readHead 10 = .ok (.dup, 1) := by decide +kernel
theorem dX4_readHead_11 : decode cX4_readHead 11 = .ok (.getfield 19, 3) := by decide +kernel
theorem dX4_readHead_14 : decode cX4_readHead 14 = .ok (.iconst 1, 1) := by decide +kernel
theorem dX4_readHead_15 : decode cX4_readHead 15 = .ok (.iadd, 1) := by decide +kernel
theorem dX4_readHead_16 : decode cX4_readHead 16 = .ok (.putfield 19, 3) := by decide +kernel
theorem dX4_readHead_19 : decode cX4_readHead 19 = .ok (.goto 8, 3) := by decide +kernel
theorem dX4_readHead_22 : decode cX4_readHead 22 = .ok (.aload_n 0, 1) := by decide +kernel
theorem dX4_readHead_23 : decode cX4_readHead 23 = .ok (.iconst 1, 1) := by decide +kernel
theorem dX4_readHead_24 : decode cX4_readHead 24 = .ok (.putfield 22, 3) := by decide +kernel
theorem dX4_readHead_27 : decode cX4_readHead 27 = .ok (.iconst 0, 1) := by decide +kernel
theorem dX4_readHead_28 : decode cX4_readHead 28 = .ok (.istore_n 2, 1) := by decide +kernel
theorem dX4_readHead_29 : decode cX4_readHead 29 = .ok (.iload_n 2, 1) := by decide +kernel
theorem dX4_readHead_30 : decode cX4_readHead 30 = .ok (.bipush 9, 2) := by decide +kernel
theorem dX4_readHead_32 : decode cX4_readHead 32 = .ok (.if_icmp .gt 21, 3) := by decide +kernel
theorem dX4_readHead_35 : decode cX4_readHead 35 = .ok (.aload_n 1, 1) := by decide +kernel
theorem dX4_readHead_36 : decode cX4_readHead 36 = .ok (.iload_n 2, 1) := by decide +kernel
theorem dX4_readHead_37 : decode cX4_readHead 37 = .ok (.aload_n 0, 1) := by decide +kernel
theorem dX4_readHead_38 : decode cX4_readHead 38 = .ok (.iconst 0, 1) := by decide +kernel
theorem dX4_readHead_39 : decode cX4_readHead 39 = .ok (.bipush 9, 2) := by decide +kernel
theorem dX4_readHead_41 : decode cX4_readHead 41 = .ok (.invokevirtual 42, 3) := by decide +kernel
theorem dX4_readHead_44 : decode cX4_readHead 44 = .ok (.invokevirtual 46, 3) := by decide +kernel
theorem dX4_readHead_47 : decode cX4_readHead 47 = .ok (.iinc 2 1, 3) := by decide +kernel
theorem dX4_readHead_50 : decode cX4_readHead 50 = .ok (.goto (-21), 3) := by decide +kernel
theorem dX4_readHead_53 : decode cX4_readHead 53 = .ok (.aload_n 0, 1) := by decide +kernel
theorem dX4_readHead_54 : decode cX4_readHead 54 = .ok (.iconst 0, 1) := by decide +kernel
theorem dX4_readHead_55 : decode cX4_readHead 55 = .ok (.iconst 4, 1) := by decide +kernel
theorem dX4_readHead_56 : decode cX4_readHead 56 = .ok (.invokevirtual 42, 3) := by decide +kernel
theorem dX4_readHead_59 : decode cX4_readHead 59 = .ok (.istore_n 2, 1) := by decide +kernel
theorem dX4_readHead_60 : decode cX4_readHead 60 = .ok (.aload_n 1, 1) := by decide +kernel
theorem dX4_readHead_61 : decode cX4_readHead 61 = .ok (.bipush 10, 2) := by decide +kernel
theorem dX4_readHead_63 : decode cX4_readHead 63 = .ok (.iload_n 2, 1) := by decide +kernel
theorem dX4_readHead_64 : decode cX4_readHead 64 = .ok (.imul, 1) := by decide +kernel
theorem dX4_readHead_65 : decode cX4_readHead 65 = .ok (.aload_n 0, 1) := by decide +kernel
theorem dX4_readHead_66 : decode cX4_readHead 66 = .ok (.iconst 0, 1) := by decide +kernel
theorem dX4_readHead_67 : decode cX4_readHead 67 = .ok (.iload_n 2, 1) := by decide +kernel
theorem dX4_readHead_68 : decode cX4_readHead 68 = .ok (.iconst 4, 1) := by decide +kernel
theorem dX4_readHead_69 : decode cX4_readHead 69 = .ok (.if_icmp .ne 7, 3) := by decide +kernel
theorem dX4_readHead_72 : decode cX4_readHead 72 = .ok (.iconst 0, 1) := by decide +kernel
theorem dX4_readHead_73 : decode cX4_readHead 73 = .ok (.goto 5, 3) := by decide +kernel
theorem dX4_readHead_76 : decode cX4_readHead 76 = .ok (.bipush 9, 2) := by decide +kernel
theorem dX4_readHead_78 : decode cX4_readHead 78 = .ok (.invokevirtual 42, 3) := by decide +kernel
theorem dX4_readHead_81 : decode cX4_readHead 81 = .ok (.iadd, 1) := by decide +kernel
theorem dX4_readHead_82 : decode cX4_readHead 82 = .ok (.putfield 50, 3) := by decide +kernel
theorem dX4_readHead_85 : decode cX4_readHead 85 = .ok (.aload_n 1, 1) := by decide +kernel
theorem dX4_readHead_86 : decode cX4_readHead 86 = .ok (.aload_n 0, 1) := by decide +kernel
theorem dX4_readHead_87 : decode cX4_readHead 87 = .ok (.iconst 1, 1) := by decide +kernel
theorem dX4_readHead_88 : decode cX4_readHead 88 = .ok (.iconst 3, 1) := by decide +kernel
theorem dX4_readHead_89 : decode cX4_readHead 89 = .ok (.invokevirtual 42, 3) := by decide +kernel
theorem dX4_readHead_92 : decode cX4_readHead 92 = .ok (.putfield 53, 3) := by decide +kernel
theorem dX4_readHead_95 : decode cX4_readHead 95 = .ok (.aload_n 1, 1) := by decide +kernel
theorem dX4_readHead_96 : decode cX4_readHead 96 = .ok (.aload_n 0, 1) := by decide +kernel
theorem dX4_readHead_97 : decode cX4_readHead 97 = .ok (.iconst 0, 1) := by decide +kernel
theorem dX4_readHead_98 : decode cX4_readHead 98 = .ok (.bipush 9, 2) := by decide +kernel
theorem dX4_readHead_100 : decode cX4_readHead 100 = .ok (.invokevirtual 42, 3) := by decide +kernel
theorem dX4_readHead_103 : decode cX4_readHead 103 = .ok (.putfield 56, 3) := by decide +kernel
theorem dX4_readHead_106 : decode cX4_readHead 106 = .ok (.return_, 1) := by decide +kernel
theorem dX4_readPart_0 : decode cX4_readPart 0 = .ok (.aload_n 0, 1) := by decide +kernel
theorem dX4_readPart_1 : decode cX4_readPart 1 = .ok (.invokevirtual 38, 3) := by decide +kernel
theorem dX4_readPart_4 : decode cX4_readPart 4 = .ok (.istore_n 2, 1) := by decide +kernel
theorem dX4_readPart_5 : decode cX4_readPart 5 = .ok (.iload_n 2, 1) := by decide +kernel
theorem dX4_readPart_6 : decode cX4_readPart 6 = .ok (.bipush 87, 2) := by decide +kernel
theorem dX4_readPart_8 : decode cX4_readPart 8 = .ok (.if_icmp .ne 19, 3) := by decide +kernel
theorem dX4_readPart_11 : decode cX4_readPart 11 = .ok (.aload_n 1, 1) := by decide +kernel
theorem dX4_readPart_12 : decode cX4_readPart 12 = .ok (.getfield 59, 3) := by decide +kernel
theorem dX4_readPart_15 : decode cX4_readPart 15 = .ok (.iconst 5, 1) := by decide +kernel
theorem dX4_readPart_16 : decode cX4_readPart 16 = .ok (.if_icmp .ge 11, 3) := by decide +kernel
theorem dX4_readPart_19 : decode cX4_readPart 19 = .ok (.aload_n 0, 1) := by decide +kernel
theorem dX4_readPart_20 : decode cX4_readPart 20 = .ok (.aload_n 1, 1) := by decide +kernel
theorem dX4_readPart_21 : decode cX4_readPart 21 = .ok (.invokevirtual 62, 3) := by decide +kernel
theorem dX4_readPart_24 : decode cX4_readPart 24 = .ok (.goto 53, 3) := by decide +kernel
theorem dX4_readPart_27 : decode cX4_readPart 27 = .ok (.iload_n 2, 1) := by decide +kernel
theorem dX4_readPart_28 : decode cX4_readPart 28 = .ok (.bipush 84, 2) := by decide +kernel
theorem dX4_readPart_30 : decode cX4_readPart 30 = .ok (.if_icmp .ne 19, 3) := by decide +kernel
theorem dX4_readPart_33 : decode cX4_readPart 33 = .ok (.aload_n 1, 1) := by decide +kernel
theorem dX4_readPart_34 : decode cX4_readPart 34 = .ok (.getfield 65, 3) := by decide +kernel
theorem dX4_readPart_37 : decode cX4_readPart 37 = .ok (.iconst 2, 1) := by decide +kernel
theorem dX4_readPart_38 : decode cX4_readPart 38 = .ok (.if_icmp .ge 11, 3) := by decide +kernel
theorem dX4_readPart_41 : decode cX4_readPart 41 = .ok (.aload_n 0, 1) := by decide +kernel
theorem dX4_readPart_42 : decode cX4_readPart 42 = .ok (.aload_n 1, 1) := by decide +kernel
theorem dX4_readPart_43 : decode cX4_readPart 43 = .ok (.invokevirtual 68, 3) := by decide +kernel
theorem dX4_readPart_46 : decode cX4_readPart 46 = .ok (.goto 31, 3) := by decide +kernel
theorem dX4_readPart_49 : decode cX4_readPart 49 = .ok (.iload_n 2, 1) := by decide +kernel
theorem dX4_readPart_50 : decode cX4_readPart 50 = .ok (.bipush 83, 2) := by decide +kernel
theorem dX4_readPart_52 : decode cX4_readPart 52 = .ok (.if_icmp .ne 20, 3) := by decide +kernel
theorem dX4_readPart_55 : decode cX4_readPart 55 = .ok (.aload_n 1, 1) := by decide +kernel
theorem dX4_readPart_56 : decode cX4_readPart 56 = .ok (.getfield 71, 3) := by decide +kernel
theorem dX4_readPart_59 : decode cX4_readPart 59 = .ok (.bipush 8, 2) := by decide +kernel
theorem dX4_readPart_61 : decode cX4_readPart 61 = .ok (.if_icmp .ge 11, 3) := by decide +kernel
theorem dX4_readPart_64 : decode cX4_readPart 64 = .ok (.aload_n 0, 1) := by decide +kernel
theorem dX4_readPart_65 : decode cX4_readPart 65 = .ok (.aload_n 1, 1) := by decide +kernel
theorem dX4_readPart_66 : decode cX4_readPart 66 = .ok (.invokevirtual 74, 3) := by decide +kernel
theorem dX4_readPart_69 : decode cX4_readPart 69 = .ok (.goto 8, 3) := by decide +kernel
theorem dX4_readPart_72 : decode cX4_readPart 72 = .ok (.aload_n 0, 1) := by decide +kernel
theorem dX4_readPart_73 : decode cX4_readPart 73 = .ok (.iconst 1, 1) := by decide +kernel
theorem dX4_readPart_74 : decode cX4_readPart 74 = .ok (.putfield 22, 3) := by decide +kernel
theorem dX4_readPart_77 : decode cX4_readPart 77 = .ok (.return_, 1) := by decide +kernel
theorem dX4_readWalker_0 : decode cX4_readWalker 0 = .ok (.aload_n 0, 1) := by decide +kernel
theorem dX4_readWalker_1 : decode cX4_readWalker 1 = .ok (.dup, 1) := by decide +kernel
theorem dX4_readWalker_2 : decode cX4_readWalker 2 = .ok (.getfield 19, 3) := by decide +kernel
theorem dX4_readWalker_5 : decode cX4_readWalker 5 = .ok (.iconst 1, 1) := by decide +kernel
theorem dX4_readWalker_6 : decode cX4_readWalker 6 = .ok (.iadd, 1) := by decide +kernel
theorem dX4_readWalker_7 : decode cX4_readWalker 7 = .ok (.putfield 19, 3) := by decide +kernel
theorem dX4_readWalker_10 : decode cX4_readWalker 10 = .ok (.aload_n 0, 1) := by decide +kernel
theorem dX4_readWalker_11 : decode cX4_readWalker 11 = .ok (.iconst 1, 1) := by decide +kernel
theorem dX4_readWalker_12 : decode cX4_readWalker 12 = .ok (.iconst 3, 1) := by decide +kernel
theorem dX4_readWalker_13 : decode cX4_readWalker 13 = .ok (.invokevirtual 42, 3) := by decide +kernel
theorem dX4_readWalker_16 : decode cX4_readWalker 16 = .ok (.istore_n 2, 1) := by decide +kernel
theorem dX4_readWalker_17 : decode cX4_readWalker 17 = .ok (.aload_n 0, 1) := by decide +kernel
theorem dX4_readWalker_18 : decode cX4_readWalker 18 = .ok (.iconst 0, 1) := by decide +kernel
theorem dX4_readWalker_19 : decode cX4_readWalker 19 = .ok (.iconst 5, 1) := by decide +kernel
theorem dX4_readWalker_20 : decode cX4_readWalker 20 = .ok (.invokevirtual 42, 3) := by decide +kernel
theorem dX4_readWalker_23 : decode cX4_readWalker 23 = .ok (.istore_n 3, 1) := by decide +kernel
theorem dX4_readWalker_24 : decode cX4_readWalker 24 = .ok (.aload_n 0, 1) := by decide +kernel
theorem dX4_readWalker_25 : decode cX4_readWalker 25 = .ok (.getfield 22, 3) := by decide +kernel
theorem dX4_readWalker_28 : decode cX4_readWalker 28 = .ok (.ifCond .ne 9, 3) := by decide +kernel
theorem dX4_readWalker_31 : decode cX4_readWalker 31 = .ok (.aload_n 1, 1) := by decide +kernel
theorem dX4_readWalker_32 : decode cX4_readWalker 32 = .ok (.iload_n 2, 1) := by decide +kernel
theorem dX4_readWalker_33 : decode cX4_readWalker 33 = .ok (.iload_n 3, 1) := by decide +kernel
theorem dX4_readWalker_34 : decode cX4_readWalker 34 = .ok (.invokevirtual 77, 3) := by decide +kernel
theorem dX4_readWalker_37 : decode cX4_readWalker 37 = .ok (.return_, 1) := by decide +kernel
theorem dX4_readTower_0 : decode cX4_readTower 0 = .ok (.aload_n 0, 1) := by decide +kernel
theorem dX4_readTower_1 : decode cX4_readTower 1 = .ok (.dup, 1) := by decide +kernel
theorem dX4_readTower_2 : decode cX4_readTower 2 = .ok (.getfield 19, 3) := by decide +kernel
theorem dX4_readTower_5 : decode cX4_readTower 5 = .ok (.iconst 1, 1) := by decide +kernel
theorem dX4_readTower_6 : decode cX4_readTower 6 = .ok (.iadd, 1) := by decide +kernel
theorem dX4_readTower_7 : decode cX4_readTower 7 = .ok (.putfield 19, 3) := by decide +kernel
theorem dX4_readTower_10 : decode cX4_readTower 10 = .ok (.aload_n 1, 1) := by decide +kernel
theorem dX4_readTower_11 : decode cX4_readTower 11 = .ok (.aload_n 0, 1) := by decide +kernel
theorem dX4_readTower_12 : decode cX4_readTower 12 = .ok (.invokevirtual 38, 3) := by decide +kernel
theorem dX4_readTower_15 : decode cX4_readTower 15 = .ok (.bipush 48, 2) := by decide +kernel
theorem dX4_readTower_17 : decode cX4_readTower 17 = .ok (.isub, 1) := by decide +kernel
theorem dX4_readTower_18 : decode cX4_readTower 18 = .ok (.invokevirtual 80, 3) := by decide +kernel
theorem dX4_readTower_21 : decode cX4_readTower 21 = .ok (.ifCond .le 8, 3) := by decide +kernel
theorem dX4_readTower_24 : decode cX4_readTower 24 = .ok (.aload_n 0, 1) := by decide +kernel
theorem dX4_readTower_25 : decode cX4_readTower 25 = .ok (.iconst 1, 1) := by decide +kernel
theorem dX4_readTower_26 : decode cX4_readTower 26 = .ok (.putfield 22, 3) := by decide +kernel
theorem dX4_readTower_29 : decode cX4_readTower 29 = .ok (.aload_n 0, 1) := by decide +kernel
theorem dX4_readTower_30 : decode cX4_readTower 30 = .ok (.iconst 1, 1) := by decide +kernel
theorem dX4_readTower_31 : decode cX4_readTower 31 = .ok (.bipush 8, 2) := by decide +kernel
theorem dX4_readTower_33 : decode cX4_readTower 33 = .ok (.invokevirtual 42, 3) := by decide +kernel
theorem dX4_readTower_36 : decode cX4_readTower 36 = .ok (.istore_n 2, 1) := by decide +kernel
theorem dX4_readTower_37 : decode cX4_readTower 37 = .ok (.aload_n 0, 1) := by decide +kernel
theorem dX4_readTower_38 : decode cX4_readTower 38 = .ok (.iconst 1, 1) := by decide +kernel
theorem dX4_readTower_39 : decode cX4_readTower 39 = .ok (.iconst 4, 1) := by decide +kernel
theorem dX4_readTower_40 : decode cX4_readTower 40 = .ok (.invokevirtual 42, 3) := by decide +kernel
theorem dX4_readTower_43 : decode cX4_readTower 43 = .ok (.istore_n 3, 1) := by decide +kernel
theorem dX4_readTower_44 : decode cX4_readTower 44 = .ok (.aload_n 0, 1) := by decide +kernel
theorem dX4_readTower_45 : decode cX4_readTower 45 = .ok (.getfield 22, 3) := by decide +kernel
theorem dX4_readTower_48 : decode cX4_readTower 48 = .ok (.ifCond .ne 9, 3) := by decide +kernel
theorem dX4_readTower_51 : decode cX4_readTower 51 = .ok (.aload_n 1, 1) := by decide +kernel
theorem dX4_readTower_52 : decode cX4_readTower 52 = .ok (.iload_n 2, 1) := by decide +kernel
theorem dX4_readTower_53 : decode cX4_readTower 53 = .ok (.iload_n 3, 1) := by decide +kernel
theorem dX4_readTower_54 : decode cX4_readTower 54 = .ok (.invokevirtual 84, 3) := by decide +kernel
theorem dX4_readTower_57 : decode cX4_readTower 57 = .ok (.return_, 1) := by decide +kernel
theorem dX4_readSoft_0 : decode cX4_readSoft 0 = .ok (.aload_n 0, 1) := by decide +kernel
theorem dX4_readSoft_1 : decode cX4_readSoft 1 = .ok (.dup, 1) := by decide +kernel
theorem dX4_readSoft_2 : decode cX4_readSoft 2 = .ok (.getfield 19, 3) := by decide +kernel
theorem dX4_readSoft_5 : decode cX4_readSoft 5 = .ok (.iconst 1, 1) := by decide +kernel
theorem dX4_readSoft_6 : decode cX4_readSoft 6 = .ok (.iadd, 1) := by decide +kernel
theorem dX4_readSoft_7 : decode cX4_readSoft 7 = .ok (.putfield 19, 3) := by decide +kernel
theorem dX4_readSoft_10 : decode cX4_readSoft 10 = .ok (.aload_n 1, 1) := by decide +kernel
theorem dX4_readSoft_11 : decode cX4_readSoft 11 = .ok (.aload_n 0, 1) := by decide +kernel
theorem dX4_readSoft_12 : decode cX4_readSoft 12 = .ok (.invokevirtual 38, 3) := by decide +kernel
theorem dX4_readSoft_15 : decode cX4_readSoft 15 = .ok (.bipush 48, 2) := by decide +kernel
theorem dX4_readSoft_17 : decode cX4_readSoft 17 = .ok (.isub, 1) := by decide +kernel
theorem dX4_readSoft_18 : decode cX4_readSoft 18 = .ok (.invokevirtual 87, 3) := by decide +kernel
theorem dX4_readSoft_21 : decode cX4_readSoft 21 = .ok (.ifCond .eq 8, 3) := by decide +kernel
theorem dX4_readSoft_24 : decode cX4_readSoft 24 = .ok (.aload_n 0, 1) := by decide +kernel
theorem dX4_readSoft_25 : decode cX4_readSoft 25 = .ok (.iconst 1, 1) := by decide +kernel
theorem dX4_readSoft_26 : decode cX4_readSoft 26 = .ok (.putfield 22, 3) := by decide +kernel
theorem dX4_readSoft_29 : decode cX4_readSoft 29 = .ok (.aload_n 0, 1) := by decide +kernel
theorem dX4_readSoft_30 : decode cX4_readSoft 30 = .ok (.iconst 1, 1) := by decide +kernel
theorem dX4_readSoft_31 : decode cX4_readSoft 31 = .ok (.bipush 8, 2) := by decide +kernel
theorem dX4_readSoft_33 : decode cX4_readSoft 33 = .ok (.invokevirtual 42, 3) := by decide +kernel
theorem dX4_readSoft_36 : decode cX4_readSoft 36 = .ok (.istore_n 2, 1) := by decide +kernel
theorem dX4_readSoft_37 : decode cX4_readSoft 37 = .ok (.aload_n 0, 1) := by decide +kernel
theorem dX4_readSoft_38 : decode cX4_readSoft 38 = .ok (.getfield 22, 3) := by decide +kernel
theorem dX4_readSoft_41 : decode cX4_readSoft 41 = .ok (.ifCond .ne 8, 3) := by decide +kernel
theorem dX4_readSoft_44 : decode cX4_readSoft 44 = .ok (.aload_n 1, 1) := by decide +kernel
theorem dX4_readSoft_45 : decode cX4_readSoft 45 = .ok (.iload_n 2, 1) := by decide +kernel
theorem dX4_readSoft_46 : decode cX4_readSoft 46 = .ok (.invokevirtual 91, 3) := by decide +kernel
theorem dX4_readSoft_49 : decode cX4_readSoft 49 = .ok (.return_, 1) := by decide +kernel
theorem dX4_letterHere_0 : decode cX4_letterHere 0 = .ok (.aload_n 0, 1) := by decide +kernel
theorem dX4_letterHere_1 : decode cX4_letterHere 1 = .ok (.getfield 19, 3) := by decide +kernel
theorem dX4_letterHere_4 : decode cX4_letterHere 4 = .ok (.ifCond .lt 35, 3) := by decide +kernel
theorem dX4_letterHere_7 : decode cX4_letterHere 7 = .ok (.aload_n 0, 1) := by decide +kernel
theorem dX4_letterHere_8 : decode cX4_letterHere 8 = .ok (.getfield 19, 3) := by decide +kernel
theorem dX4_letterHere_11 : decode cX4_letterHere 11 = .ok (.aload_n 0, 1) := by decide +kernel
theorem dX4_letterHere_12 : decode cX4_letterHere 12 = .ok (.getfield 15, 3) := by decide +kernel
theorem dX4_letterHere_15 : decode cX4_letterHere 15 = .ok (.if_icmp .ge 24, 3) := by decide +kernel
theorem dX4_letterHere_18 : decode cX4_letterHere 18 = .ok (.aload_n 0, 1) := by decide +kernel
theorem dX4_letterHere_19 : decode cX4_letterHere 19 = .ok (.getfield 19, 3) := by decide +kernel
theorem dX4_letterHere_22 : decode cX4_letterHere 22 = .ok (.bipush 56, 2) := by decide +kernel
theorem dX4_letterHere_24 : decode cX4_letterHere 24 = .ok (.if_icmp .ge 15, 3) := by decide +kernel
theorem dX4_letterHere_27 : decode cX4_letterHere 27 = .ok (.aload_n 0, 1) := by decide +kernel
theorem dX4_letterHere_28 : decode cX4_letterHere 28 = .ok (.getfield 9, 3) := by decide +kernel
theorem dX4_letterHere_31 : decode cX4_letterHere 31 = .ok (.aload_n 0, 1) := by decide +kernel
theorem dX4_letterHere_32 : decode cX4_letterHere 32 = .ok (.getfield 19, 3) := by decide +kernel
theorem dX4_letterHere_35 : decode cX4_letterHere 35 = .ok (.iaload, 1) := by decide +kernel
theorem dX4_letterHere_36 : decode cX4_letterHere 36 = .ok (.goto 4, 3) := by decide +kernel
theorem dX4_letterHere_39 : decode cX4_letterHere 39 = .ok (.iconst (-1), 1) := by decide +kernel
theorem dX4_letterHere_40 : decode cX4_letterHere 40 = .ok (.ireturn, 1) := by decide +kernel
theorem dX4_figure_0 : decode cX4_figure 0 = .ok (.aload_n 0, 1) := by decide +kernel
theorem dX4_figure_1 : decode cX4_figure 1 = .ok (.invokevirtual 38, 3) := by decide +kernel
theorem dX4_figure_4 : decode cX4_figure 4 = .ok (.bipush 48, 2) := by decide +kernel
theorem dX4_figure_6 : decode cX4_figure 6 = .ok (.isub, 1) := by decide +kernel
theorem dX4_figure_7 : decode cX4_figure 7 = .ok (.istore_n 3, 1) := by decide +kernel
theorem dX4_figure_8 : decode cX4_figure 8 = .ok (.iload_n 3, 1) := by decide +kernel
theorem dX4_figure_9 : decode cX4_figure 9 = .ok (.iload_n 1, 1) := by decide +kernel
theorem dX4_figure_10 : decode cX4_figure 10 = .ok (.if_icmp .lt 8, 3) := by decide +kernel
theorem dX4_figure_13 : decode cX4_figure 13 = .ok (.iload_n 3, 1) := by decide +kernel
theorem dX4_figure_14 : decode cX4_figure 14 = .ok (.iload_n 2, 1) := by decide +kernel
theorem dX4_figure_15 : decode cX4_figure 15 = .ok (.if_icmp .le 8, 3) := by decide +kernel
theorem dX4_figure_18 : decode cX4_figure 18 = .ok (.aload_n 0, 1) := by decide +kernel
theorem dX4_figure_19 : decode cX4_figure 19 = .ok (.iconst 1, 1) := by decide +kernel
theorem dX4_figure_20 : decode cX4_figure 20 = .ok (.putfield 22, 3) := by decide +kernel
theorem dX4_figure_23 : decode cX4_figure 23 = .ok (.aload_n 0, 1) := by decide +kernel
theorem dX4_figure_24 : decode cX4_figure 24 = .ok (.getfield 22, 3) := by decide +kernel
theorem dX4_figure_27 : decode cX4_figure 27 = .ok (.ifCond .eq 5, 3) := by decide +kernel
theorem dX4_figure_30 : decode cX4_figure 30 = .ok (.iload_n 1, 1) := by decide +kernel
theorem dX4_figure_31 : decode cX4_figure 31 = .ok (.ireturn, 1) := by decide +kernel
theorem dX4_figure_32 : decode cX4_figure 32 = .ok (.aload_n 0, 1) := by decide +kernel
theorem dX4_figure_33 : decode cX4_figure 33 = .ok (.dup, 1) := by decide +kernel
theorem dX4_figure_34 : decode cX4_figure 34 = .ok (.getfield 19, 3) := by decide +kernel
theorem dX4_figure_37 : decode cX4_figure 37 = .ok (.iconst 1, 1) := by decide +kernel
theorem dX4_figure_38 : decode cX4_figure 38 = .ok (.iadd, 1) := by decide +kernel
theorem dX4_figure_39 : decode cX4_figure 39 = .ok (.putfield 19, 3) := by decide +kernel
theorem dX4_figure_42 : decode cX4_figure 42 = .ok (.iload_n 3, 1) := by decide +kernel
theorem dX4_figure_43 : decode cX4_figure 43 = .ok (.ireturn, 1) := by decide +kernel
theorem dX5_init_0 : decode cX5_init 0 = .ok (.aload_n 0, 1) := by decide +kernel
theorem dX5_init_1 : decode cX5_init 1 = .ok (.invokespecial 3, 3) := by decide +kernel
theorem dX5_init_4 : decode cX5_init 4 = .ok (.return_, 1) := by decide +kernel
theorem dX5_begin_0 : decode cX5_begin 0 = .ok (.aload_n 0, 1) := by decide +kernel
theorem dX5_begin_1 : decode cX5_begin 1 = .ok (.aload_n 1, 1) := by decide +kernel
theorem dX5_begin_2 : decode cX5_begin 2 = .ok (.iload_n 2, 1) := by decide +kernel
theorem dX5_begin_3 : decode cX5_begin 3 = .ok (.invokevirtual 9, 3) := by decide +kernel
theorem dX5_begin_6 : decode cX5_begin 6 = .ok (.putfield 15, 3) := by decide +kernel
theorem dX5_begin_9 : decode cX5_begin 9 = .ok (.aload_n 0, 1) := by decide +kernel
theorem dX5_begin_10 : decode cX5_begin 10 = .ok (.aload_n 1, 1) := by decide +kernel
theorem dX5_begin_11 : decode cX5_begin 11 = .ok (.iload_n 2, 1) := by decide +kernel
theorem dX5_begin_12 : decode cX5_begin 12 = .ok (.invokevirtual 21, 3) := by decide +kernel
theorem dX5_begin_15 : decode cX5_begin 15 = .ok (.putfield 24, 3) := by decide +kernel
theorem dX5_begin_18 : decode cX5_begin 18 = .ok (.aload_n 0, 1) := by decide +kernel
theorem dX5_begin_19 : decode cX5_begin 19 = .ok (.aload_n 1, 1) := by decide +kernel
theorem dX5_begin_20 : decode cX5_begin 20 = .ok (.getfield 27, 3) := by decide +kernel
theorem dX5_begin_23 : decode cX5_begin 23 = .ok (.putfield 30, 3) := by decide +kernel
theorem dX5_begin_26 : decode cX5_begin 26 = .ok (.aload_n 0, 1) := by decide +kernel
theorem dX5_begin_27 : decode cX5_begin 27 = .ok (.iload_n 3, 1) := by decide +kernel
theorem dX5_begin_28 : decode cX5_begin 28 = .ok (.putfield 31, 3) := by decide +kernel
theorem dX5_begin_31 : decode cX5_begin 31 = .ok (.aload_n 0, 1) := by decide +kernel
theorem dX5_begin_32 : decode cX5_begin 32 = .ok (.iload 4, 2) := by decide +kernel
theorem dX5_begin_34 : decode cX5_begin 34 = .ok (.putfield 34, 3) := by decide +kernel
theorem dX5_begin_37 : decode cX5_begin 37 = .ok (.aload_n 0, 1) := by decide +kernel
theorem dX5_begin_38 : decode cX5_begin 38 = .ok (.iconst 0, 1) := by decide +kernel
theorem dX5_begin_39 : decode cX5_begin 39 = .ok (.putfield 37, 3) := by decide +kernel
theorem dX5_begin_42 : decode cX5_begin 42 = .ok (.return_, 1) := by decide +kernel
theorem dX5_isLost_0 : decode cX5_isLost 0 = .ok (.aload_n 0, 1) := by decide +kernel
theorem dX5_isLost_1 : decode cX5_isLost 1 = .ok (.getfield 37, 3) := by decide +kernel
theorem dX5_isLost_4 : decode cX5_isLost 4 = .ok (.iconst 2, 1) := by decide +kernel
theorem dX5_isLost_5 : decode cX5_isLost 5 = .ok (.if_icmp .eq 11, 3) := by decide +kernel
theorem dX5_isLost_8 : decode cX5_isLost 8 = .ok (.aload_n 0, 1) := by decide +kernel
theorem dX5_isLost_9 : decode cX5_isLost 9 = .ok (.getfield 37, 3) := by decide +kernel
theorem dX5_isLost_12 : decode cX5_isLost 12 = .ok (.iconst 3, 1) := by decide +kernel
theorem dX5_isLost_13 : decode cX5_isLost 13 = .ok (.if_icmp .ne 7, 3) := by decide +kernel
theorem dX5_isLost_16 : decode cX5_isLost 16 = .ok (.iconst 1, 1) := by decide +kernel
theorem dX5_isLost_17 : decode cX5_isLost 17 = .ok (.goto 4, 3) := by decide +kernel
theorem dX5_isLost_20 : decode cX5_isLost 20 = .ok (.iconst 0, 1) := by decide +kernel
theorem dX5_isLost_21 : decode cX5_isLost 21 = .ok (.ireturn, 1) := by decide +kernel
theorem dX5_move_0 : decode cX5_move 0 = .ok (.aload_n 0, 1) := by decide +kernel
theorem dX5_move_1 : decode cX5_move 1 = .ok (.getfield 31, 3) := by decide +kernel
theorem dX5_move_4 : decode cX5_move 4 = .ok (.istore_n 3, 1) := by decide +kernel
theorem dX5_move_5 : decode cX5_move 5 = .ok (.aload_n 1, 1) := by decide +kernel
theorem dX5_move_6 : decode cX5_move 6 = .ok (.aload_n 0, 1) := by decide +kernel
theorem dX5_move_7 : decode cX5_move 7 = .ok (.getfield 34, 3) := by decide +kernel
theorem dX5_move_10 : decode cX5_move 10 = .ok (.aload_n 0, 1) := by decide +kernel
theorem dX5_move_11 : decode cX5_move 11 = .ok (.getfield 30, 3) := by decide +kernel
theorem dX5_move_14 : decode cX5_move 14 = .ok (.invokevirtual 40, 3) := by decide +kernel
theorem dX5_move_17 : decode cX5_move 17 = .ok (.istore 4, 2) := by decide +kernel
theorem dX5_move_19 : decode cX5_move 19 = .ok (.iload_n 2, 1) := by decide +kernel
theorem dX5_move_20 : decode cX5_move 20 = .ok (.iconst 1, 1) := by decide +kernel
theorem dX5_move_21 : decode cX5_move 21 = .ok (.if_icmp .ne 11, 3) := by decide +kernel
theorem dX5_move_24 : decode cX5_move 24 = .ok (.aload_n 0, 1) := by decide +kernel
theorem dX5_move_25 : decode cX5_move 25 = .ok (.aload_n 1, 1) := by decide +kernel
theorem dX5_move_26 : decode cX5_move 26 = .ok (.iload 4, 2) := by decide +kernel
theorem dX5_move_28 : decode cX5_move 28 = .ok (.iconst 1, 1) := by decide +kernel
theorem dX5_move_29 : decode cX5_move 29 = .ok (.invokevirtual 44, 3) := by decide +kernel
theorem dX5_move_32 : decode cX5_move 32 = .ok (.iload_n 2, 1) := by decide +kernel
theorem dX5_move_33 : decode cX5_move 33 = .ok (.iconst 2, 1) := by decide +kernel
theorem dX5_move_34 : decode cX5_move 34 = .ok (.if_icmp .ne 11, 3) := by decide +kernel
theorem dX5_move_37 : decode cX5_move 37 = .ok (.aload_n 0, 1) := by decide +kernel
theorem dX5_move_38 : decode cX5_move 38 = .ok (.aload_n 1, 1) := by decide +kernel
theorem dX5_move_39 : decode cX5_move 39 = .ok (.iload 4, 2) := by decide +kernel
theorem dX5_move_41 : decode cX5_move 41 = .ok (.iconst (-1), 1) := by decide +kernel
theorem dX5_move_42 : decode cX5_move 42 = .ok (.invokevirtual 44, 3) := by decide +kernel
theorem dX5_move_45 : decode cX5_move 45 = .ok (.aload_n 0, 1) := by decide +kernel
theorem dX5_move_46 : decode cX5_move 46 = .ok (.dup, 1) := by decide +kernel
theorem dX5_move_47 : decode cX5_move 47 = .ok (.getfield 34, 3) := by decide +kernel
theorem dX5_move_50 : decode cX5_move 50 = .ok (.iconst 1, 1) := by decide +kernel
theorem dX5_move_51 : decode cX5_move 51 = .ok (.iadd, 1) := by decide +kernel
theorem dX5_move_52 : decode cX5_move 52 = .ok (.putfield 34, 3) := by decide +kernel
theorem dX5_move_55 : decode cX5_move 55 = .ok (.iload_n 2, 1) := by decide +kernel
theorem dX5_move_56 : decode cX5_move 56 = .ok (.iconst 1, 1) := by decide +kernel
theorem dX5_move_57 : decode cX5_move 57 = .ok (.if_icmp .ne 20, 3) := by decide +kernel
theorem dX5_move_60 : decode cX5_move 60 = .ok (.aload_n 0, 1) := by decide +kernel
theorem dX5_move_61 : decode cX5_move 61 = .ok (.getfield 31, 3) := by decide +kernel
theorem dX5_move_64 : decode cX5_move 64 = .ok (.bipush 9, 2) := by decide +kernel
theorem dX5_move_66 : decode cX5_move 66 = .ok (.if_icmp .ne 11, 3) := by decide +kernel
theorem dX5_move_69 : decode cX5_move 69 = .ok (.aload_n 0, 1) := by decide +kernel
theorem dX5_move_70 : decode cX5_move 70 = .ok (.iconst 1, 1) := by decide +kernel
theorem dX5_move_71 : decode cX5_move 71 = .ok (.putfield 37, 3) := by decide +kernel
theorem dX5_move_74 : decode cX5_move 74 = .ok (.goto 62, 3) := by decide +kernel
theorem dX5_move_77 : decode cX5_move 77 = .ok (.aload_n 1, 1) := by decide +kernel
theorem dX5_move_78 : decode cX5_move 78 = .ok (.aload_n 0, 1) := by decide +kernel
theorem dX5_move_79 : decode cX5_move 79 = .ok (.getfield 31, 3) := by decide +kernel
theorem dX5_move_82 : decode cX5_move 82 = .ok (.aload_n 1, 1) := by decide +kernel
theorem dX5_move_83 : decode cX5_move 83 = .ok (.aload_n 0, 1) := by decide +kernel
theorem dX5_move_84 : decode cX5_move 84 = .ok (.getfield 34, 3) := by decide +kernel
theorem dX5_move_87 : decode cX5_move 87 = .ok (.aload_n 0, 1) := by decide +kernel
theorem dX5_move_88 : decode cX5_move 88 = .ok (.getfield 30, 3) := by decide +kernel
theorem dX5_move_91 : decode cX5_move 91 = .ok (.invokevirtual 40, 3) := by decide +kernel
theorem dX5_move_94 : decode cX5_move 94 = .ok (.invokevirtual 48, 3) := by decide +kernel
theorem dX5_move_97 : decode cX5_move 97 = .ok (.aload_n 0, 1) := by decide +kernel
theorem dX5_move_98 : decode cX5_move 98 = .ok (.getfield 24, 3) := by decide +kernel
theorem dX5_move_101 : decode cX5_move 101 = .ok (.if_icmp .le 11, 3) := by decide +kernel
theorem dX5_move_104 : decode cX5_move 104 = .ok (.aload_n 0, 1) := by decide +kernel
theorem dX5_move_105 : decode cX5_move 105 = .ok (.iconst 2, 1) := by decide +kernel
theorem dX5_move_106 : decode cX5_move 106 = .ok (.putfield 37, 3) := by decide +kernel
theorem dX5_move_109 : decode cX5_move 109 = .ok (.goto 27, 3) := by decide +kernel
theorem dX5_move_112 : decode cX5_move 112 = .ok (.aload_n 0, 1) := by decide +kernel
theorem dX5_move_113 : decode cX5_move 113 = .ok (.getfield 31, 3) := by decide +kernel
theorem dX5_move_116 : decode cX5_move 116 = .ok (.iload_n 3, 1) := by decide +kernel
theorem dX5_move_117 : decode cX5_move 117 = .ok (.if_icmp .ne 19, 3) := by decide +kernel
theorem dX5_move_120 : decode cX5_move 120 = .ok (.aload_n 1, 1) := by decide +kernel
theorem dX5_move_121 : decode cX5_move 121 = .ok (.aload_n 0, 1) := by decide +kernel
theorem dX5_move_122 : decode cX5_move 122 = .ok (.getfield 31, 3) := by decide +kernel
theorem dX5_move_125 : decode cX5_move 125 = .ok (.invokevirtual 51, 3) := by decide +kernel
theorem dX5_move_128 : decode cX5_move 128 = .ok (.ifCond .eq 8, 3) := by decide +kernel
theorem dX5_move_131 : decode cX5_move 131 = .ok (.aload_n 0, 1) := by decide +kernel
theorem dX5_move_132 : decode cX5_move 132 = .ok (.iconst 3, 1) := by decide +kernel
theorem dX5_move_133 : decode cX5_move 133 = .ok (.putfield 37, 3) := by decide +kernel
theorem dX5_move_136 : decode cX5_move 136 = .ok (.return_, 1) := by decide +kernel
theorem dX5_goTillThere_0 : decode cX5_goTillThere 0 = .ok (.iload_n 2, 1) := by decide +kernel
theorem dX5_goTillThere_1 : decode cX5_goTillThere 1 = .ok (.iconst 1, 1) := by decide +kernel
theorem dX5_goTillThere_2 : decode cX5_goTillThere 2 = .ok (.if_icmp .ne 8, 3) := by decide +kernel
theorem dX5_goTillThere_5 : decode cX5_goTillThere 5 = .ok (.bipush 9, 2) := by decide +kernel
theorem dX5_goTillThere_7 : decode cX5_goTillThere 7 = .ok (.goto 4, 3) := by decide +kernel
theorem dX5_goTillThere_10 : decode cX5_goTillThere 10 = .ok (.iconst 0, 1) := by decide +kernel
theorem dX5_goTillThere_11 : decode cX5_goTillThere 11 = .ok (.istore_n 3, 1) := by decide +kernel
theorem dX5_goTillThere_12 : decode cX5_goTillThere 12 = .ok (.iconst 0, 1) := by decide +kernel
theorem dX5_goTillThere_13 : decode cX5_goTillThere 13 = .ok (.istore 4, 2) := by decide +kernel
theorem dX5_goTillThere_15 : decode cX5_goTillThere 15 = .ok (.iload 4, 2) := by decide +kernel
theorem dX5_goTillThere_17 : decode cX5_goTillThere 17 = .ok (.bipush 40, 2) := by decide +kernel
theorem dX5_goTillThere_19 : decode cX5_goTillThere 19 = .ok (.if_icmp .gt 47, 3) := by decide +kernel
theorem dX5_goTillThere_22 : decode cX5_goTillThere 22 = .ok (.aload_n 0, 1) := by decide +kernel
theorem dX5_goTillThere_23 : decode cX5_goTillThere 23 = .ok (.getfield 31, 3) := by decide +kernel
theorem dX5_goTillThere_26 : decode cX5_goTillThere 26 = .ok (.iload_n 3, 1) := by decide +kernel
theorem dX5_goTillThere_27 : decode cX5_goTillThere 27 = .ok (.if_icmp .ne 8, 3) := by decide +kernel
theorem dX5_goTillThere_30 : decode cX5_goTillThere 30 = .ok (.aload_n 0, 1) := by decide +kernel
theorem dX5_goTillThere_31 : decode cX5_goTillThere 31 = .ok (.getfield 34, 3) := by decide +kernel
theorem dX5_goTillThere_34 : decode cX5_goTillThere 34 = .ok (.ireturn, 1) := by decide +kernel
theorem dX5_goTillThere_35 : decode cX5_goTillThere 35 = .ok (.aload_n 0, 1) := by decide +kernel
theorem dX5_goTillThere_36 : decode cX5_goTillThere 36 = .ok (.getfield 37, 3) := by decide +kernel
theorem dX5_goTillThere_39 : decode cX5_goTillThere 39 = .ok (.ifCond .ne 12, 3) := by decide +kernel
theorem dX5_goTillThere_42 : decode cX5_goTillThere 42 = .ok (.aload_n 0, 1) := by decide +kernel
theorem dX5_goTillThere_43 : decode cX5_goTillThere 43 = .ok (.getfield 34, 3) := by decide +kernel
theorem dX5_goTillThere_46 : decode cX5_goTillThere 46 = .ok (.bipush 40, 2) := by decide +kernel
theorem dX5_goTillThere_48 : decode cX5_goTillThere 48 = .ok (.if_icmp .lt 6, 3) := by decide +kernel
theorem dX5_goTillThere_51 : decode cX5_goTillThere 51 = .ok (.bipush (-9), 2) := by decide +kernel
theorem dX5_goTillThere_53 : decode cX5_goTillThere 53 = .ok (.ireturn, 1) := by decide +kernel
theorem dX5_goTillThere_54 : decode cX5_goTillThere 54 = .ok (.aload_n 0, 1) := by decide +kernel
theorem dX5_goTillThere_55 : decode cX5_goTillThere 55 = .ok (.aload_n 1, 1) := by decide +kernel
theorem dX5_goTillThere_56 : decode cX5_goTillThere 56 = .ok (.iload_n 2, 1) := by decide +kernel
theorem dX5_goTillThere_57 : decode cX5_goTillThere 57 = .ok (.invokevirtual 55, 3) := by decide +kernel
theorem dX5_goTillThere_60 : decode cX5_goTillThere 60 = .ok (.iinc 4 1, 3) := by decide +kernel
theorem dX5_goTillThere_63 : decode cX5_goTillThere 63 = .ok (.goto (-48), 3) := by decide +kernel
theorem dX5_goTillThere_66 : decode cX5_goTillThere 66 = .ok (.bipush (-9), 2) := by decide +kernel
theorem dX5_goTillThere_68 : decode cX5_goTillThere 68 = .ok (.ireturn, 1) := by decide +kernel
theorem dX5_goAlong_0 : decode cX5_goAlong 0 = .ok (.aload_n 1, 1) := by decide +kernel
theorem dX5_goAlong_1 : decode cX5_goAlong 1 = .ok (.aload_n 0, 1) := by decide +kernel
theorem dX5_goAlong_2 : decode cX5_goAlong 2 = .ok (.getfield 31, 3) := by decide +kernel
theorem dX5_goAlong_5 : decode cX5_goAlong 5 = .ok (.iload_n 2, 1) := by decide +kernel
theorem dX5_goAlong_6 : decode cX5_goAlong 6 = .ok (.invokevirtual 48, 3) := by decide +kernel
theorem dX5_goAlong_9 : decode cX5_goAlong 9 = .ok (.ifCond .le 14, 3) := by decide +kernel
theorem dX5_goAlong_12 : decode cX5_goAlong 12 = .ok (.aload_n 0, 1) := by decide +kernel
theorem dX5_goAlong_13 : decode cX5_goAlong 13 = .ok (.getfield 15, 3) := by decide +kernel
theorem dX5_goAlong_16 : decode cX5_goAlong 16 = .ok (.iconst 1, 1) := by decide +kernel
theorem dX5_goAlong_17 : decode cX5_goAlong 17 = .ok (.iadd, 1) := by decide +kernel
theorem dX5_goAlong_18 : decode cX5_goAlong 18 = .ok (.iconst 2, 1) := by decide +kernel
theorem dX5_goAlong_19 : decode cX5_goAlong 19 = .ok (.idiv, 1) := by decide +kernel
theorem dX5_goAlong_20 : decode cX5_goAlong 20 = .ok (.goto 7, 3) := by decide +kernel
theorem dX5_goAlong_23 : decode cX5_goAlong 23 = .ok (.aload_n 0, 1) := by decide +kernel
theorem dX5_goAlong_24 : decode cX5_goAlong 24 = .ok (.getfield 15, 3) := by decide +kernel
theorem dX5_goAlong_27 : decode cX5_goAlong 27 = .ok (.istore 4, 2) := by decide +kernel
theorem dX5_goAlong_29 : decode cX5_goAlong 29 = .ok (.iconst 0, 1) := by decide +kernel
theorem dX5_goAlong_30 : decode cX5_goAlong 30 = .ok (.istore 5, 2) := by decide +kernel
theorem dX5_goAlong_32 : decode cX5_goAlong 32 = .ok (.iload 5, 2) := by decide +kernel
theorem dX5_goAlong_34 : decode cX5_goAlong 34 = .ok (.iload 4, 2) := by decide +kernel
theorem dX5_goAlong_36 : decode cX5_goAlong 36 = .ok (.if_icmp .ge 50, 3) := by decide +kernel
theorem dX5_goAlong_39 : decode cX5_goAlong 39 = .ok (.aload_n 0, 1) := by decide +kernel
theorem dX5_goAlong_40 : decode cX5_goAlong 40 = .ok (.getfield 31, 3) := by decide +kernel
theorem dX5_goAlong_43 : decode cX5_goAlong 43 = .ok (.iload_n 3, 1) := by decide +kernel
theorem dX5_goAlong_44 : decode cX5_goAlong 44 = .ok (.iadd, 1) := by decide +kernel
theorem dX5_goAlong_45 : decode cX5_goAlong 45 = .ok (.istore 6, 2) := by decide +kernel
theorem dX5_goAlong_47 : decode cX5_goAlong 47 = .ok (.iload 6, 2) := by decide +kernel
theorem dX5_goAlong_49 : decode cX5_goAlong 49 = .ok (.ifCond .lt 24, 3) := by decide +kernel
theorem dX5_goAlong_52 : decode cX5_goAlong 52 = .ok (.iload 6, 2) := by decide +kernel
theorem dX5_goAlong_54 : decode cX5_goAlong 54 = .ok (.bipush 9, 2) := by decide +kernel
theorem dX5_goAlong_56 : decode cX5_goAlong 56 = .ok (.if_icmp .gt 17, 3) := by decide +kernel
theorem dX5_goAlong_59 : decode cX5_goAlong 59 = .ok (.aload_n 1, 1) := by decide +kernel
theorem dX5_goAlong_60 : decode cX5_goAlong 60 = .ok (.iload 6, 2) := by decide +kernel
theorem dX5_goAlong_62 : decode cX5_goAlong 62 = .ok (.iload_n 2, 1) := by decide +kernel
theorem dX5_goAlong_63 : decode cX5_goAlong 63 = .ok (.invokevirtual 48, 3) := by decide +kernel
theorem dX5_goAlong_66 : decode cX5_goAlong 66 = .ok (.aload_n 0, 1) := by decide +kernel
theorem dX5_goAlong_67 : decode cX5_goAlong 67 = .ok (.getfield 24, 3) := by decide +kernel
theorem dX5_goAlong_70 : decode cX5_goAlong 70 = .ok (.if_icmp .le 4, 3) := by decide +kernel
theorem dX5_goAlong_73 : decode cX5_goAlong 73 = .ok (.return_, 1) := by decide +kernel
theorem dX5_goAlong_74 : decode cX5_goAlong 74 = .ok (.aload_n 0, 1) := by decide +kernel
theorem dX5_goAlong_75 : decode cX5_goAlong 75 = .ok (.iload 6, 2) := by decide +kernel
theorem dX5_goAlong_77 : decode cX5_goAlong 77 = .ok (.putfield 31, 3) := by decide +kernel
theorem dX5_goAlong_80 : decode cX5_goAlong 80 = .ok (.iinc 5 1, 3) := by decide +kernel
theorem dX5_goAlong_83 : decode cX5_goAlong 83 = .ok (.goto (-51), 3) := by decide +kernel
theorem dX5_goAlong_86 : decode cX5_goAlong 86 = .ok (.return_, 1) := by decide +kernel
theorem dX6_init_0 : decode cX6_init 0 = .ok (.aload_n 0, 1) := by decide +kernel
theorem dX6_init_1 : decode cX6_init 1 = .ok (.invokespecial 3, 3) := by decide +kernel
theorem dX6_init_4 : decode cX6_init 4 = .ok (.aload_n 0, 1) := by decide +kernel
theorem dX6_init_5 : decode cX6_init 5 = .ok (.bipush 10, 2) := by decide +kernel
theorem dX6_init_7 : decode cX6_init 7 = .ok (.newarray .int, 2) := by decide +kernel
theorem dX6_init_9 : decode cX6_init 9 = .ok (.putfield 9, 3) := by decide +kernel
theorem dX6_init_12 : decode cX6_init 12 = .ok (.aload_n 0, 1) := by decide +kernel
theorem dX6_init_13 : decode cX6_init 13 = .ok (.bipush 10, 2) := by decide +kernel
theorem dX6_init_15 : decode cX6_init 15 = .ok (.newarray .int, 2) := by decide +kernel
theorem dX6_init_17 : decode cX6_init 17 = .ok (.putfield 15, 3) := by decide +kernel
theorem dX6_init_20 : decode cX6_init 20 = .ok (.return_, 1) := by decide +kernel
theorem dX6_oddsAt_0 : decode cX6_oddsAt 0 = .ok (.iload_n 1, 1) := by decide +kernel
theorem dX6_oddsAt_1 : decode cX6_oddsAt 1 = .ok (.invokestatic 18, 3) := by decide +kernel
theorem dX6_oddsAt_4 : decode cX6_oddsAt 4 = .ok (.ifCond .eq 10, 3) := by decide +kernel
theorem dX6_oddsAt_7 : decode cX6_oddsAt 7 = .ok (.iload_n 2, 1) := by decide +kernel
theorem dX6_oddsAt_8 : decode cX6_oddsAt 8 = .ok (.invokestatic 18, 3) := by decide +kernel
theorem dX6_oddsAt_11 : decode cX6_oddsAt 11 = .ok (.ifCond .ne 5, 3) := by decide +kernel
theorem dX6_oddsAt_14 : decode cX6_oddsAt 14 = .ok (.iconst 0, 1) := by decide +kernel
theorem dX6_oddsAt_15 : decode cX6_oddsAt 15 = .ok (.ireturn, 1) := by decide +kernel
theorem dX6_oddsAt_16 : decode cX6_oddsAt 16 = .ok (.iconst 0, 1) := by decide +kernel
theorem dX6_oddsAt_17 : decode cX6_oddsAt 17 = .ok (.istore 6, 2) := by decide +kernel
theorem dX6_oddsAt_19 : decode cX6_oddsAt 19 = .ok (.iload 6, 2) := by decide +kernel
theorem dX6_oddsAt_21 : decode cX6_oddsAt 21 = .ok (.bipush 10, 2) := by decide +kernel
theorem dX6_oddsAt_23 : decode cX6_oddsAt 23 = .ok (.if_icmp .ge 27, 3) := by decide +kernel
theorem dX6_oddsAt_26 : decode cX6_oddsAt 26 = .ok (.aload_n 0, 1) := by decide +kernel
theorem dX6_oddsAt_27 : decode cX6_oddsAt 27 = .ok (.getfield 9, 3) := by decide +kernel
theorem dX6_oddsAt_30 : decode cX6_oddsAt 30 = .ok (.iload 6, 2) := by decide +kernel
theorem dX6_oddsAt_32 : decode cX6_oddsAt 32 = .ok (.iload 6, 2) := by decide +kernel
theorem dX6_oddsAt_34 : decode cX6_oddsAt 34 = .ok (.iload_n 1, 1) := by decide +kernel
theorem dX6_oddsAt_35 : decode cX6_oddsAt 35 = .ok (.if_icmp .ne 7, 3) := by decide +kernel
theorem dX6_oddsAt_38 : decode cX6_oddsAt 38 = .ok (.iconst 1, 1) := by decide +kernel
theorem dX6_oddsAt_39 : decode cX6_oddsAt 39 = .ok (.goto 4, 3) := by decide +kernel
theorem dX6_oddsAt_42 : decode cX6_oddsAt 42 = .ok (.iconst 0, 1) := by decide +kernel
theorem dX6_oddsAt_43 : decode cX6_oddsAt 43 = .ok (.iastore, 1) := by decide +kernel
theorem dX6_oddsAt_44 : decode cX6_oddsAt 44 = .ok (.iinc 6 1, 3) := by decide +kernel
theorem dX6_oddsAt_47 : decode cX6_oddsAt 47 = .ok (.goto (-28), 3) := by decide +kernel
theorem dX6_oddsAt_50 : decode cX6_oddsAt 50 = .ok (.iconst 0, 1) := by decide +kernel
theorem dX6_oddsAt_51 : decode cX6_oddsAt 51 = .ok (.istore 6, 2) := by decide +kernel
theorem dX6_oddsAt_53 : decode cX6_oddsAt 53 = .ok (.iload 6, 2) := by decide +kernel
theorem dX6_oddsAt_55 : decode cX6_oddsAt 55 = .ok (.iload 5, 2) := by decide +kernel
theorem dX6_oddsAt_57 : decode cX6_oddsAt 57 = .ok (.if_icmp .ge 16, 3) := by decide +kernel
theorem dX6_oddsAt_60 : decode cX6_oddsAt 60 = .ok (.aload_n 0, 1) := by decide +kernel
theorem dX6_oddsAt_61 : decode cX6_oddsAt 61 = .ok (.iload_n 3, 1) := by decide +kernel
theorem dX6_oddsAt_62 : decode cX6_oddsAt 62 = .ok (.iload 4, 2) := by decide +kernel
theorem dX6_oddsAt_64 : decode cX6_oddsAt 64 = .ok (.invokevirtual 22, 3) := by decide +kernel
theorem dX6_oddsAt_67 : decode cX6_oddsAt 67 = .ok (.iinc 6 1, 3) := by decide +kernel
theorem dX6_oddsAt_70 : decode cX6_oddsAt 70 = .ok (.goto (-17), 3) := by decide +kernel
theorem dX6_oddsAt_73 : decode cX6_oddsAt 73 = .ok (.aload_n 0, 1) := by decide +kernel
theorem dX6_oddsAt_74 : decode cX6_oddsAt 74 = .ok (.getfield 9, 3) := by decide +kernel
theorem dX6_oddsAt_77 : decode cX6_oddsAt 77 = .ok (.iload_n 2, 1) := by decide +kernel
theorem dX6_oddsAt_78 : decode cX6_oddsAt 78 = .ok (.iaload, 1) := by decide +kernel
theorem dX6_oddsAt_79 : decode cX6_oddsAt 79 = .ok (.ireturn, 1) := by decide +kernel
theorem dX6_wanderOn_0 : decode cX6_wanderOn 0 = .ok (.iconst 0, 1) := by decide +kernel
theorem dX6_wanderOn_1 : decode cX6_wanderOn 1 = .ok (.istore_n 3, 1) := by decide +kernel
theorem dX6_wanderOn_2 : decode cX6_wanderOn 2 = .ok (.iload_n 3, 1) := by decide +kernel
theorem dX6_wanderOn_3 : decode cX6_wanderOn 3 = .ok (.bipush 10, 2) := by decide +kernel
theorem dX6_wanderOn_5 : decode cX6_wanderOn 5 = .ok (.if_icmp .ge 16, 3) := by decide +kernel
theorem dX6_wanderOn_8 : decode cX6_wanderOn 8 = .ok (.aload_n 0, 1) := by decide +kernel
theorem dX6_wanderOn_9 : decode cX6_wanderOn 9 = .ok (.getfield 15, 3) := by decide +kernel
theorem dX6_wanderOn_12 : decode cX6_wanderOn 12 = .ok (.iload_n 3, 1) := by decide +kernel
theorem dX6_wanderOn_13 : decode cX6_wanderOn 13 = .ok (.iconst 0, 1) := by decide +kernel
theorem dX6_wanderOn_14 : decode cX6_wanderOn 14 = .ok (.iastore, 1) := by decide +kernel
theorem dX6_wanderOn_15 : decode cX6_wanderOn 15 = .ok (.iinc 3 1, 3) := by decide +kernel
theorem dX6_wanderOn_18 : decode cX6_wanderOn 18 = .ok (.goto (-16), 3) := by decide +kernel
theorem dX6_wanderOn_21 : decode cX6_wanderOn 21 = .ok (.iconst 1, 1) := by decide +kernel
theorem dX6_wanderOn_22 : decode cX6_wanderOn 22 = .ok (.istore_n 3, 1) := by decide +kernel
theorem dX6_wanderOn_23 : decode cX6_wanderOn 23 = .ok (.iload_n 3, 1) := by decide +kernel
theorem dX6_wanderOn_24 : decode cX6_wanderOn 24 = .ok (.bipush 9, 2) := by decide +kernel
theorem dX6_wanderOn_26 : decode cX6_wanderOn 26 = .ok (.if_icmp .ge 78, 3) := by decide +kernel
theorem dX6_wanderOn_29 : decode cX6_wanderOn 29 = .ok (.aload_n 0, 1) := by decide +kernel
theorem dX6_wanderOn_30 : decode cX6_wanderOn 30 = .ok (.getfield 15, 3) := by decide +kernel
theorem dX6_wanderOn_33 : decode cX6_wanderOn 33 = .ok (.iconst 1, 1) := by decide +kernel
theorem dX6_wanderOn_34 : decode cX6_wanderOn 34 = .ok (.iload_n 3, 1) := by decide +kernel
theorem dX6_wanderOn_35 : decode cX6_wanderOn 35 = .ok (.iconst 1, 1) := by decide +kernel
theorem dX6_wanderOn_36 : decode cX6_wanderOn 36 = .ok (.isub, 1) := by decide +kernel
theorem dX6_wanderOn_37 : decode cX6_wanderOn 37 = .ok (.invokestatic 26, 3) := by decide +kernel
theorem dX6_wanderOn_40 : decode cX6_wanderOn 40 = .ok (.dup2, 1) := by decide +kernel
theorem dX6_wanderOn_41 : decode cX6_wanderOn 41 = .ok (.iaload, 1) := by decide +kernel
theorem dX6_wanderOn_42 : decode cX6_wanderOn 42 = .ok (.aload_n 0, 1) := by decide +kernel
theorem dX6_wanderOn_43 : decode cX6_wanderOn 43 = .ok (.getfield 9, 3) := by decide +kernel
theorem dX6_wanderOn_46 : decode cX6_wanderOn 46 = .ok (.iload_n 3, 1) := by decide +kernel
theorem dX6_wanderOn_47 : decode cX6_wanderOn 47 = .ok (.iaload, 1) := by decide +kernel
theorem dX6_wanderOn_48 : decode cX6_wanderOn 48 = .ok (.iload_n 1, 1) := by decide +kernel
theorem dX6_wanderOn_49 : decode cX6_wanderOn 49 = .ok (.imul, 1) := by decide +kernel
theorem dX6_wanderOn_50 : decode cX6_wanderOn 50 = .ok (.iadd, 1) := by decide +kernel
theorem dX6_wanderOn_51 : decode cX6_wanderOn 51 = .ok (.iastore, 1) := by decide +kernel
theorem dX6_wanderOn_52 : decode cX6_wanderOn 52 = .ok (.aload_n 0, 1) := by decide +kernel
theorem dX6_wanderOn_53 : decode cX6_wanderOn 53 = .ok (.getfield 15, 3) := by decide +kernel
theorem dX6_wanderOn_56 : decode cX6_wanderOn 56 = .ok (.bipush 8, 2) := by decide +kernel
theorem dX6_wanderOn_58 : decode cX6_wanderOn 58 = .ok (.iload_n 3, 1) := by decide +kernel
theorem dX6_wanderOn_59 : decode cX6_wanderOn 59 = .ok (.iconst 1, 1) := by decide +kernel
theorem dX6_wanderOn_60 : decode cX6_wanderOn 60 = .ok (.iadd, 1) := by decide +kernel
theorem dX6_wanderOn_61 : decode cX6_wanderOn 61 = .ok (.invokestatic 32, 3) := by decide +kernel
theorem dX6_wanderOn_64 : decode cX6_wanderOn 64 = .ok (.dup2, 1) := by decide +kernel
theorem dX6_wanderOn_65 : decode cX6_wanderOn 65 = .ok (.iaload, 1) := by decide +kernel
theorem dX6_wanderOn_66 : decode cX6_wanderOn 66 = .ok (.aload_n 0, 1) := by decide +kernel
theorem dX6_wanderOn_67 : decode cX6_wanderOn 67 = .ok (.getfield 9, 3) := by decide +kernel
theorem dX6_wanderOn_70 : decode cX6_wanderOn 70 = .ok (.iload_n 3, 1) := by decide +kernel
theorem dX6_wanderOn_71 : decode cX6_wanderOn 71 = .ok (.iaload, 1) := by decide +kernel
theorem dX6_wanderOn_72 : decode cX6_wanderOn 72 = .ok (.iload_n 2, 1) := by decide +kernel
theorem dX6_wanderOn_73 : decode cX6_wanderOn 73 = .ok (.imul, 1) := by decide +kernel
theorem dX6_wanderOn_74 : decode cX6_wanderOn 74 = .ok (.iadd, 1) := by decide +kernel
theorem dX6_wanderOn_75 : decode cX6_wanderOn 75 = .ok (.iastore, 1) := by decide +kernel
theorem dX6_wanderOn_76 : decode cX6_wanderOn 76 = .ok (.aload_n 0, 1) := by decide +kernel
theorem dX6_wanderOn_77 : decode cX6_wanderOn 77 = .ok (.getfield 15, 3) := by decide +kernel
theorem dX6_wanderOn_80 : decode cX6_wanderOn 80 = .ok (.iload_n 3, 1) := by decide +kernel
theorem dX6_wanderOn_81 : decode cX6_wanderOn 81 = .ok (.dup2, 1) := by decide +kernel
theorem dX6_wanderOn_82 : decode cX6_wanderOn 82 = .ok (.iaload, 1) := by decide +kernel
theorem dX6_wanderOn_83 : decode cX6_wanderOn 83 = .ok (.aload_n 0, 1) := by decide +kernel
theorem dX6_wanderOn_84 : decode cX6_wanderOn 84 = .ok (.getfield 9, 3) := by decide +kernel
theorem dX6_wanderOn_87 : decode cX6_wanderOn 87 = .ok (.iload_n 3, 1) := by decide +kernel
theorem dX6_wanderOn_88 : decode cX6_wanderOn 88 = .ok (.iaload, 1) := by decide +kernel
theorem dX6_wanderOn_89 : decode cX6_wanderOn 89 = .ok (.bipush 10, 2) := by decide +kernel
theorem dX6_wanderOn_91 : decode cX6_wanderOn 91 = .ok (.iload_n 1, 1) := by decide +kernel
theorem dX6_wanderOn_92 : decode cX6_wanderOn 92 = .ok (.isub, 1) := by decide +kernel
theorem dX6_wanderOn_93 : decode cX6_wanderOn 93 = .ok (.iload_n 2, 1) := by decide +kernel
theorem dX6_wanderOn_94 : decode cX6_wanderOn 94 = .ok (.isub, 1) := by decide +kernel
theorem dX6_wanderOn_95 : decode cX6_wanderOn 95 = .ok (.imul, 1) := by decide +kernel
theorem dX6_wanderOn_96 : decode cX6_wanderOn 96 = .ok (.iadd, 1) := by decide +kernel
theorem dX6_wanderOn_97 : decode cX6_wanderOn 97 = .ok (.iastore, 1) := by decide +kernel
theorem dX6_wanderOn_98 : decode cX6_wanderOn 98 = .ok (.iinc 3 1, 3) := by decide +kernel
theorem dX6_wanderOn_101 : decode cX6_wanderOn 101 = .ok (.goto (-78), 3) := by decide +kernel
theorem dX6_wanderOn_104 : decode cX6_wanderOn 104 = .ok (.iconst 0, 1) := by decide +kernel
theorem dX6_wanderOn_105 : decode cX6_wanderOn 105 = .ok (.istore_n 3, 1) := by decide +kernel
theorem dX6_wanderOn_106 : decode cX6_wanderOn 106 = .ok (.iload_n 3, 1) := by decide +kernel
theorem dX6_wanderOn_107 : decode cX6_wanderOn 107 = .ok (.bipush 10, 2) := by decide +kernel
theorem dX6_wanderOn_109 : decode cX6_wanderOn 109 = .ok (.if_icmp .ge 21, 3) := by decide +kernel
theorem dX6_wanderOn_112 : decode cX6_wanderOn 112 = .ok (.aload_n 0, 1) := by decide +kernel
theorem dX6_wanderOn_113 : decode cX6_wanderOn 113 = .ok (.getfield 9, 3) := by decide +kernel
theorem dX6_wanderOn_116 : decode cX6_wanderOn 116 = .ok (.iload_n 3, 1) := by decide +kernel
theorem dX6_wanderOn_117 : decode cX6_wanderOn 117 = .ok (.aload_n 0, 1) := by decide +kernel
theorem dX6_wanderOn_118 : decode cX6_wanderOn 118 = .ok (.getfield 15, 3) := by decide +kernel
theorem dX6_wanderOn_121 : decode cX6_wanderOn 121 = .ok (.iload_n 3, 1) := by decide +kernel
theorem dX6_wanderOn_122 : decode cX6_wanderOn 122 = .ok (.iaload, 1) := by decide +kernel
theorem dX6_wanderOn_123 : decode cX6_wanderOn 123 = .ok (.iastore, 1) := by decide +kernel
theorem dX6_wanderOn_124 : decode cX6_wanderOn 124 = .ok (.iinc 3 1, 3) := by decide +kernel
theorem dX6_wanderOn_127 : decode cX6_wanderOn 127 = .ok (.goto (-21), 3) := by decide +kernel
theorem dX6_wanderOn_130 : decode cX6_wanderOn 130 = .ok (.return_, 1) := by decide +kernel
theorem dX7_init_0 : decode cX7_init 0 = .ok (.aload_n 0, 1) := by decide +kernel
theorem dX7_init_1 : decode cX7_init 1 = .ok (.invokespecial 1, 3) := by decide +kernel
theorem dX7_init_4 : decode cX7_init 4 = .ok (.aload_n 0, 1) := by decide +kernel
theorem dX7_init_5 : decode cX7_init 5 = .ok (.new 7, 3) := by decide +kernel
theorem dX7_init_8 : decode cX7_init 8 = .ok (.dup, 1) := by decide +kernel
theorem dX7_init_9 : decode cX7_init 9 = .ok (.invokespecial 9, 3) := by decide +kernel
theorem dX7_init_12 : decode cX7_init 12 = .ok (.putfield 10, 3) := by decide +kernel
theorem dX7_init_15 : decode cX7_init 15 = .ok (.aload_n 0, 1) := by decide +kernel
theorem dX7_init_16 : decode cX7_init 16 = .ok (.new 16, 3) := by decide +kernel
theorem dX7_init_19 : decode cX7_init 19 = .ok (.dup, 1) := by decide +kernel
theorem dX7_init_20 : decode cX7_init 20 = .ok (.invokespecial 18, 3) := by decide +kernel
theorem dX7_init_23 : decode cX7_init 23 = .ok (.putfield 19, 3) := by decide +kernel
theorem dX7_init_26 : decode cX7_init 26 = .ok (.aload_n 0, 1) := by decide +kernel
theorem dX7_init_27 : decode cX7_init 27 = .ok (.new 16, 3) := by decide +kernel
theorem dX7_init_30 : decode cX7_init 30 = .ok (.dup, 1) := by decide +kernel
theorem dX7_init_31 : decode cX7_init 31 = .ok (.invokespecial 18, 3) := by decide +kernel
theorem dX7_init_34 : decode cX7_init 34 = .ok (.putfield 23, 3) := by decide +kernel
theorem dX7_init_37 : decode cX7_init 37 = .ok (.aload_n 0, 1) := by decide +kernel
theorem dX7_init_38 : decode cX7_init 38 = .ok (.new 26, 3) := by decide +kernel
theorem dX7_init_41 : decode cX7_init 41 = .ok (.dup, 1) := by decide +kernel
theorem dX7_init_42 : decode cX7_init 42 = .ok (.invokespecial 28, 3) := by decide +kernel
theorem dX7_init_45 : decode cX7_init 45 = .ok (.putfield 29, 3) := by decide +kernel
theorem dX7_init_48 : decode cX7_init 48 = .ok (.aload_n 0, 1) := by decide +kernel
theorem dX7_init_49 : decode cX7_init 49 = .ok (.new 33, 3) := by decide +kernel
theorem dX7_init_52 : decode cX7_init 52 = .ok (.dup, 1) := by decide +kernel
theorem dX7_init_53 : decode cX7_init 53 = .ok (.invokespecial 35, 3) := by decide +kernel
theorem dX7_init_56 : decode cX7_init 56 = .ok (.putfield 36, 3) := by decide +kernel
theorem dX7_init_59 : decode cX7_init 59 = .ok (.aload_n 0, 1) := by decide +kernel
theorem dX7_init_60 : decode cX7_init 60 = .ok (.new 40, 3) := by decide +kernel
theorem dX7_init_63 : decode cX7_init 63 = .ok (.dup, 1) := by decide +kernel
theorem dX7_init_64 : decode cX7_init 64 = .ok (.iconst 2, 1) := by decide +kernel
theorem dX7_init_65 : decode cX7_init 65 = .ok (.invokespecial 42, 3) := by decide +kernel
theorem dX7_init_68 : decode cX7_init 68 = .ok (.putfield 45, 3) := by decide +kernel
theorem dX7_init_71 : decode cX7_init 71 = .ok (.aload_n 0, 1) := by decide +kernel
theorem dX7_init_72 : decode cX7_init 72 = .ok (.iconst 2, 1) := by decide +kernel
theorem dX7_init_73 : decode cX7_init 73 = .ok (.newarray .boolean, 2) := by decide +kernel
theorem dX7_init_75 : decode cX7_init 75 = .ok (.putfield 49, 3) := by decide +kernel
theorem dX7_init_78 : decode cX7_init 78 = .ok (.aload_n 0, 1) := by decide +kernel
theorem dX7_init_79 : decode cX7_init 79 = .ok (.new 53, 3) := by decide +kernel
theorem dX7_init_82 : decode cX7_init 82 = .ok (.dup, 1) := by decide +kernel
theorem dX7_init_83 : decode cX7_init 83 = .ok (.invokespecial 55, 3) := by decide +kernel
theorem dX7_init_86 : decode cX7_init 86 = .ok (.putfield 56, 3) := by decide +kernel
theorem dX7_init_89 : decode cX7_init 89 = .ok (.aload_n 0, 1) := by decide +kernel
theorem dX7_init_90 : decode cX7_init 90 = .ok (.new 60, 3) := by decide +kernel
theorem dX7_init_93 : decode cX7_init 93 = .ok (.dup, 1) := by decide +kernel
theorem dX7_init_94 : decode cX7_init 94 = .ok (.invokespecial 62, 3) := by decide +kernel
theorem dX7_init_97 : decode cX7_init 97 = .ok (.putfield 63, 3) := by decide +kernel
theorem dX7_init_100 : decode cX7_init 100 = .ok (.aload_n 0, 1) := by decide +kernel
theorem dX7_init_101 : decode cX7_init 101 = .ok (.lconst 0, 1) := by decide +kernel
theorem dX7_init_102 : decode cX7_init 102 = .ok (.putfield 67, 3) := by decide +kernel
theorem dX7_init_105 : decode cX7_init 105 = .ok (.return_, 1) := by decide +kernel
theorem dX7_write_0 : decode cX7_write 0 = .ok (.iload_n 1, 1) := by decide +kernel
theorem dX7_write_1 : decode cX7_write 1 = .ok (.ifCond .lt 10, 3) := by decide +kernel
theorem dX7_write_4 : decode cX7_write 4 = .ok (.iload_n 1, 1) := by decide +kernel
theorem dX7_write_5 : decode cX7_write 5 = .ok (.sipush 255, 3) := by decide +kernel
theorem dX7_write_8 : decode cX7_write 8 = .ok (.if_icmp .le 6, 3) := by decide +kernel
theorem dX7_write_11 : decode cX7_write 11 = .ok (.bipush (-2), 2) := by decide +kernel
theorem dX7_write_13 : decode cX7_write 13 = .ok (.ireturn, 1) := by decide +kernel
theorem dX7_write_14 : decode cX7_write 14 = .ok (.aload_n 0, 1) := by decide +kernel
theorem dX7_write_15 : decode cX7_write 15 = .ok (.getfield 10, 3) := by decide +kernel
theorem dX7_write_18 : decode cX7_write 18 = .ok (.getfield 71, 3) := by decide +kernel
theorem dX7_write_21 : decode cX7_write 21 = .ok (.bipush 56, 2) := by decide +kernel
theorem dX7_write_23 : decode cX7_write 23 = .ok (.if_icmp .lt 6, 3) := by decide +kernel
theorem dX7_write_26 : decode cX7_write 26 = .ok (.bipush (-4), 2) := by decide +kernel
theorem dX7_write_28 : decode cX7_write 28 = .ok (.ireturn, 1) := by decide +kernel
theorem dX7_write_29 : decode cX7_write 29 = .ok (.aload_n 0, 1) := by decide +kernel
theorem dX7_write_30 : decode cX7_write 30 = .ok (.getfield 10, 3) := by decide +kernel
theorem dX7_write_33 : decode cX7_write 33 = .ok (.iload_n 1, 1) := by decide +kernel
theorem dX7_write_34 : decode cX7_write 34 = .ok (.invokevirtual 75, 3) := by decide +kernel
theorem dX7_write_37 : decode cX7_write 37 = .ok (.aload_n 0, 1) := by decide +kernel
theorem dX7_write_38 : decode cX7_write 38 = .ok (.getfield 10, 3) := by decide +kernel
theorem dX7_write_41 : decode cX7_write 41 = .ok (.getfield 71, 3) := by decide +kernel
theorem dX7_write_44 : decode cX7_write 44 = .ok (.ireturn, 1) := by decide +kernel
theorem dX7_wipe_0 : decode cX7_wipe 0 = .ok (.aload_n 0, 1) := by decide +kernel
theorem dX7_wipe_1 : decode cX7_wipe 1 = .ok (.getfield 10, 3) := by decide +kernel
theorem dX7_wipe_4 : decode cX7_wipe 4 = .ok (.getfield 71, 3) := by decide +kernel
theorem dX7_wipe_7 : decode cX7_wipe 7 = .ok (.istore_n 1, 1) := by decide +kernel
theorem dX7_wipe_8 : decode cX7_wipe 8 = .ok (.aload_n 0, 1) := by decide +kernel
theorem dX7_wipe_9 : decode cX7_wipe 9 = .ok (.getfield 10, 3) := by decide +kernel
theorem dX7_wipe_12 : decode cX7_wipe 12 = .ok (.invokevirtual 78, 3) := by decide +kernel
theorem dX7_wipe_15 : decode cX7_wipe 15 = .ok (.iload_n 1, 1) := by decide +kernel
theorem dX7_wipe_16 : decode cX7_wipe 16 = .ok (.ireturn, 1) := by decide +kernel
theorem dX7_fault_0 : decode cX7_fault 0 = .ok (.aload_n 0, 1) := by decide +kernel
theorem dX7_fault_1 : decode cX7_fault 1 = .ok (.getfield 10, 3) := by decide +kernel
theorem dX7_fault_4 : decode cX7_fault 4 = .ok (.aload_n 0, 1) := by decide +kernel
theorem dX7_fault_5 : decode cX7_fault 5 = .ok (.getfield 23, 3) := by decide +kernel
theorem dX7_fault_8 : decode cX7_fault 8 = .ok (.invokevirtual 81, 3) := by decide +kernel
theorem dX7_fault_11 : decode cX7_fault 11 = .ok (.ireturn, 1) := by decide +kernel
theorem dX7_bay_0 : decode cX7_bay 0 = .ok (.aload_n 0, 1) := by decide +kernel
theorem dX7_bay_1 : decode cX7_bay 1 = .ok (.getfield 10, 3) := by decide +kernel
theorem dX7_bay_4 : decode cX7_bay 4 = .ok (.aload_n 0, 1) := by decide +kernel
theorem dX7_bay_5 : decode cX7_bay 5 = .ok (.getfield 23, 3) := by decide +kernel
theorem dX7_bay_8 : decode cX7_bay 8 = .ok (.invokevirtual 81, 3) := by decide +kernel
theorem dX7_bay_11 : decode cX7_bay 11 = .ok (.bipush (-9), 2) := by decide +kernel
theorem dX7_bay_13 : decode cX7_bay 13 = .ok (.if_icmp .eq 6, 3) := by decide +kernel
theorem dX7_bay_16 : decode cX7_bay 16 = .ok (.bipush (-3), 2) := by decide +kernel
theorem dX7_bay_18 : decode cX7_bay 18 = .ok (.ireturn, 1) := by decide +kernel
theorem dX7_bay_19 : decode cX7_bay 19 = .ok (.aload_n 0, 1) := by decide +kernel
theorem dX7_bay_20 : decode cX7_bay 20 = .ok (.getfield 10, 3) := by decide +kernel
theorem dX7_bay_23 : decode cX7_bay 23 = .ok (.aload_n 0, 1) := by decide +kernel
theorem dX7_bay_24 : decode cX7_bay 24 = .ok (.getfield 19, 3) := by decide +kernel
theorem dX7_bay_27 : decode cX7_bay 27 = .ok (.invokevirtual 81, 3) := by decide +kernel
theorem dX7_bay_30 : decode cX7_bay 30 = .ok (.pop, 1) := by decide +kernel
theorem dX7_bay_31 : decode cX7_bay 31 = .ok (.aload_n 0, 1) := by decide +kernel
theorem dX7_bay_32 : decode cX7_bay 32 = .ok (.getfield 29, 3) := by decide +kernel
theorem dX7_bay_35 : decode cX7_bay 35 = .ok (.invokevirtual 85, 3) := by decide +kernel
theorem dX7_bay_38 : decode cX7_bay 38 = .ok (.aload_n 0, 1) := by decide +kernel
theorem dX7_bay_39 : decode cX7_bay 39 = .ok (.getfield 36, 3) := by decide +kernel
theorem dX7_bay_42 : decode cX7_bay 42 = .ok (.invokevirtual 88, 3) := by decide +kernel
theorem dX7_bay_45 : decode cX7_bay 45 = .ok (.iconst 0, 1) := by decide +kernel
theorem dX7_bay_46 : decode cX7_bay 46 = .ok (.istore_n 1, 1) := by decide +kernel
theorem dX7_bay_47 : decode cX7_bay 47 = .ok (.iload_n 1, 1) := by decide +kernel
theorem dX7_bay_48 : decode cX7_bay 48 = .ok (.aload_n 0, 1) := by decide +kernel
theorem dX7_bay_49 : decode cX7_bay 49 = .ok (.getfield 49, 3) := by decide +kernel
theorem dX7_bay_52 : decode cX7_bay 52 = .ok (.arraylength, 1) := by decide +kernel
theorem dX7_bay_53 : decode cX7_bay 53 = .ok (.if_icmp .ge 16, 3) := by decide +kernel
theorem dX7_bay_56 : decode cX7_bay 56 = .ok (.aload_n 0, 1) := by decide +kernel
theorem dX7_bay_57 : decode cX7_bay 57 = .ok (.getfield 49, 3) := by decide +kernel
theorem dX7_bay_60 : decode cX7_bay 60 = .ok (.iload_n 1, 1) := by decide +kernel
theorem dX7_bay_61 : decode cX7_bay 61 = .ok (.iconst 0, 1) := by decide +kernel
theorem dX7_bay_62 : decode cX7_bay 62 = .ok (.bastore, 1) := by decide +kernel
theorem dX7_bay_63 : decode cX7_bay 63 = .ok (.iinc 1 1, 3) := by decide +kernel
theorem dX7_bay_66 : decode cX7_bay 66 = .ok (.goto (-19), 3) := by decide +kernel
theorem dX7_bay_69 : decode cX7_bay 69 = .ok (.bipush 10, 2) := by decide +kernel
theorem dX7_bay_71 : decode cX7_bay 71 = .ok (.aload_n 0, 1) := by decide +kernel
theorem dX7_bay_72 : decode cX7_bay 72 = .ok (.getfield 19, 3) := by decide +kernel
theorem dX7_bay_75 : decode cX7_bay 75 = .ok (.getfield 89, 3) := by decide +kernel
theorem dX7_bay_78 : decode cX7_bay 78 = .ok (.imul, 1) := by decide +kernel
theorem dX7_bay_79 : decode cX7_bay 79 = .ok (.aload_n 0, 1) := by decide +kernel
theorem dX7_bay_80 : decode cX7_bay 80 = .ok (.getfield 19, 3) := by decide +kernel
theorem dX7_bay_83 : decode cX7_bay 83 = .ok (.getfield 92, 3) := by decide +kernel
theorem dX7_bay_86 : decode cX7_bay 86 = .ok (.iadd, 1) := by decide +kernel
theorem dX7_bay_87 : decode cX7_bay 87 = .ok (.ireturn, 1) := by decide +kernel
theorem dX7_about_0 : decode cX7_about 0 = .ok (.iload_n 1, 1) := by decide +kernel
theorem dX7_about_1 : decode cX7_about 1 = .ok (.tableswitch 227 0 13 #[71, 79, 87, 95, 107, 115, 123, 131, 147, 163, 179, 195, 211, 219], 71) := by decide +kernel
theorem dX7_about_72 : decode cX7_about 72 = .ok (.aload_n 0, 1) := by decide +kernel
theorem dX7_about_73 : decode cX7_about 73 = .ok (.getfield 19, 3) := by decide +kernel
theorem dX7_about_76 : decode cX7_about 76 = .ok (.getfield 89, 3) := by decide +kernel
theorem dX7_about_79 : decode cX7_about 79 = .ok (.ireturn, 1) := by decide +kernel
theorem dX7_about_80 : decode cX7_about 80 = .ok (.aload_n 0, 1) := by decide +kernel
theorem dX7_about_81 : decode cX7_about 81 = .ok (.getfield 19, 3) := by decide +kernel
theorem dX7_about_84 : decode cX7_about 84 = .ok (.getfield 92, 3) := by decide +kernel
theorem dX7_about_87 : decode cX7_about 87 = .ok (.ireturn, 1) := by decide +kernel
theorem dX7_about_88 : decode cX7_about 88 = .ok (.aload_n 0, 1) := by decide +kernel
theorem dX7_about_89 : decode cX7_about 89 = .ok (.getfield 29, 3) := by decide +kernel
theorem dX7_about_92 : decode cX7_about 92 = .ok (.invokevirtual 95, 3) := by decide +kernel
theorem dX7_about_95 : decode cX7_about 95 = .ok (.ireturn, 1) := by decide +kernel
theorem dX7_about_96 : decode cX7_about 96 = .ok (.aload_n 0, 1) := by decide +kernel
theorem dX7_about_97 : decode cX7_about 97 = .ok (.aload_n 0, 1) := by decide +kernel
theorem dX7_about_98 : decode cX7_about 98 = .ok (.getfield 29, 3) := by decide +kernel
theorem dX7_about_101 : decode cX7_about 101 = .ok (.invokevirtual 95, 3) := by decide +kernel
theorem dX7_about_104 : decode cX7_about 104 = .ok (.invokevirtual 99, 3) := by decide +kernel
theorem dX7_about_107 : decode cX7_about 107 = .ok (.ireturn, 1) := by decide +kernel
theorem dX7_about_108 : decode cX7_about 108 = .ok (.aload_n 0, 1) := by decide +kernel
theorem dX7_about_109 : decode cX7_about 109 = .ok (.getfield 19, 3) := by decide +kernel
theorem dX7_about_112 : decode cX7_about 112 = .ok (.getfield 103, 3) := by decide +kernel
theorem dX7_about_115 : decode cX7_about 115 = .ok (.ireturn, 1) := by decide +kernel
theorem dX7_about_116 : decode cX7_about 116 = .ok (.aload_n 0, 1) := by decide +kernel
theorem dX7_about_117 : decode cX7_about 117 = .ok (.getfield 19, 3) := by decide +kernel
theorem dX7_about_120 : decode cX7_about 120 = .ok (.getfield 106, 3) := by decide +kernel
theorem dX7_about_123 : decode cX7_about 123 = .ok (.ireturn, 1) := by decide +kernel
theorem dX7_about_124 : decode cX7_about 124 = .ok (.aload_n 0, 1) := by decide +kernel
theorem dX7_about_125 : decode cX7_about 125 = .ok (.getfield 19, 3) := by decide +kernel
theorem dX7_about_128 : decode cX7_about 128 = .ok (.getfield 109, 3) := by decide +kernel
theorem dX7_about_131 : decode cX7_about 131 = .ok (.ireturn, 1) := by decide +kernel
theorem dX7_about_132 : decode cX7_about 132 = .ok (.aload_n 0, 1) := by decide +kernel
theorem dX7_about_133 : decode cX7_about 133 = .ok (.getfield 29, 3) := by decide +kernel
theorem dX7_about_136 : decode cX7_about 136 = .ok (.iconst 0, 1) := by decide +kernel
theorem dX7_about_137 : decode cX7_about 137 = .ok (.aload_n 0, 1) := by decide +kernel
theorem dX7_about_138 : decode cX7_about 138 = .ok (.getfield 19, 3) := by decide +kernel
theorem dX7_about_141 : decode cX7_about 141 = .ok (.getfield 89, 3) := by decide +kernel
theorem dX7_about_144 : decode cX7_about 144 = .ok (.invokevirtual 112, 3) := by decide +kernel
theorem dX7_about_147 : decode cX7_about 147 = .ok (.ireturn, 1) := by decide +kernel
theorem dX7_about_148 : decode cX7_about 148 = .ok (.aload_n 0, 1) := by decide +kernel
theorem dX7_about_149 : decode cX7_about 149 = .ok (.getfield 29, 3) := by decide +kernel
theorem dX7_about_152 : decode cX7_about 152 = .ok (.iconst 1, 1) := by decide +kernel
theorem dX7_about_153 : decode cX7_about 153 = .ok (.aload_n 0, 1) := by decide +kernel
theorem dX7_about_154 : decode cX7_about 154 = .ok (.getfield 19, 3) := by decide +kernel
theorem dX7_about_157 : decode cX7_about 157 = .ok (.getfield 89, 3) := by decide +kernel
theorem dX7_about_160 : decode cX7_about 160 = .ok (.invokevirtual 112, 3) := by decide +kernel
theorem dX7_about_163 : decode cX7_about 163 = .ok (.ireturn, 1) := by decide +kernel
theorem dX7_about_164 : decode cX7_about 164 = .ok (.aload_n 0, 1) := by decide +kernel
theorem dX7_about_165 : decode cX7_about 165 = .ok (.getfield 29, 3) := by decide +kernel
theorem dX7_about_168 : decode cX7_about 168 = .ok (.iconst 2, 1) := by decide +kernel
theorem dX7_about_169 : decode cX7_about 169 = .ok (.aload_n 0, 1) := by decide +kernel
theorem dX7_about_170 : decode cX7_about 170 = .ok (.getfield 19, 3) := by decide +kernel
theorem dX7_about_173 : decode cX7_about 173 = .ok (.getfield 89, 3) := by decide +kernel
theorem dX7_about_176 : decode cX7_about 176 = .ok (.invokevirtual 112, 3) := by decide +kernel
theorem dX7_about_179 : decode cX7_about 179 = .ok (.ireturn, 1) := by decide +kernel
theorem dX7_about_180 : decode cX7_about 180 = .ok (.aload_n 0, 1) := by decide +kernel
theorem dX7_about_181 : decode cX7_about 181 = .ok (.getfield 29, 3) := by decide +kernel
theorem dX7_about_184 : decode cX7_about 184 = .ok (.iconst 3, 1) := by decide +kernel
theorem dX7_about_185 : decode cX7_about 185 = .ok (.aload_n 0, 1) := by decide +kernel
theorem dX7_about_186 : decode cX7_about 186 = .ok (.getfield 19, 3) := by decide +kernel
theorem dX7_about_189 : decode cX7_about 189 = .ok (.getfield 89, 3) := by decide +kernel
theorem dX7_about_192 : decode cX7_about 192 = .ok (.invokevirtual 112, 3) := by decide +kernel
theorem dX7_about_195 : decode cX7_about 195 = .ok (.ireturn, 1) := by decide +kernel
theorem dX7_about_196 : decode cX7_about 196 = .ok (.aload_n 0, 1) := by decide +kernel
theorem dX7_about_197 : decode cX7_about 197 = .ok (.getfield 29, 3) := by decide +kernel
theorem dX7_about_200 : decode cX7_about 200 = .ok (.iconst 4, 1) := by decide +kernel
theorem dX7_about_201 : decode cX7_about 201 = .ok (.aload_n 0, 1) := by decide +kernel
theorem dX7_about_202 : decode cX7_about 202 = .ok (.getfield 19, 3) := by decide +kernel
theorem dX7_about_205 : decode cX7_about 205 = .ok (.getfield 89, 3) := by decide +kernel
theorem dX7_about_208 : decode cX7_about 208 = .ok (.invokevirtual 112, 3) := by decide +kernel
theorem dX7_about_211 : decode cX7_about 211 = .ok (.ireturn, 1) := by decide +kernel
theorem dX7_about_212 : decode cX7_about 212 = .ok (.aload_n 0, 1) := by decide +kernel
theorem dX7_about_213 : decode cX7_about 213 = .ok (.getfield 36, 3) := by decide +kernel
theorem dX7_about_216 : decode cX7_about 216 = .ok (.getfield 116, 3) := by decide +kernel
theorem dX7_about_219 : decode cX7_about 219 = .ok (.ireturn, 1) := by decide +kernel
theorem dX7_about_220 : decode cX7_about 220 = .ok (.aload_n 0, 1) := by decide +kernel
theorem dX7_about_221 : decode cX7_about 221 = .ok (.getfield 10, 3) := by decide +kernel
theorem dX7_about_224 : decode cX7_about 224 = .ok (.getfield 71, 3) := by decide +kernel
theorem dX7_about_227 : decode cX7_about 227 = .ok (.ireturn, 1) := by decide +kernel
theorem dX7_about_228 : decode cX7_about 228 = .ok (.bipush (-2), 2) := by decide +kernel
theorem dX7_about_230 : decode cX7_about 230 = .ok (.ireturn, 1) := by decide +kernel
theorem dX7_cell_0 : decode cX7_cell 0 = .ok (.iload_n 1, 1) := by decide +kernel
theorem dX7_cell_1 : decode cX7_cell 1 = .ok (.invokestatic 119, 3) := by decide +kernel
theorem dX7_cell_4 : decode cX7_cell 4 = .ok (.ifCond .ne 5, 3) := by decide +kernel
theorem dX7_cell_7 : decode cX7_cell 7 = .ok (.iconst (-1), 1) := by decide +kernel
theorem dX7_cell_8 : decode cX7_cell 8 = .ok (.ireturn, 1) := by decide +kernel
theorem dX7_cell_9 : decode cX7_cell 9 = .ok (.iload_n 2, 1) := by decide +kernel
theorem dX7_cell_10 : decode cX7_cell 10 = .ok (.tableswitch 95 0 4 #[34, 43, 63, 80, 89], 34) := by decide +kernel
theorem dX7_cell_44 : decode cX7_cell 44 = .ok (.aload_n 0, 1) := by decide +kernel
theorem dX7_cell_45 : decode cX7_cell 45 = .ok (.getfield 19, 3) := by decide +kernel
theorem dX7_cell_48 : decode cX7_cell 48 = .ok (.iload_n 1, 1) := by decide +kernel
theorem dX7_cell_49 : decode cX7_cell 49 = .ok (.invokevirtual 123, 3) := by decide +kernel
theorem dX7_cell_52 : decode cX7_cell 52 = .ok (.ireturn, 1) := by decide +kernel
theorem dX7_cell_53 : decode cX7_cell 53 = .ok (.aload_n 0, 1) := by decide +kernel
theorem dX7_cell_54 : decode cX7_cell 54 = .ok (.getfield 19, 3) := by decide +kernel
theorem dX7_cell_57 : decode cX7_cell 57 = .ok (.iload_n 1, 1) := by decide +kernel
theorem dX7_cell_58 : decode cX7_cell 58 = .ok (.aload_n 0, 1) := by decide +kernel
theorem dX7_cell_59 : decode cX7_cell 59 = .ok (.aload_n 0, 1) := by decide +kernel
theorem dX7_cell_60 : decode cX7_cell 60 = .ok (.getfield 29, 3) := by decide +kernel
theorem dX7_cell_63 : decode cX7_cell 63 = .ok (.invokevirtual 95, 3) := by decide +kernel
theorem dX7_cell_66 : decode cX7_cell 66 = .ok (.invokevirtual 99, 3) := by decide +kernel
theorem dX7_cell_69 : decode cX7_cell 69 = .ok (.invokevirtual 126, 3) := by decide +kernel
theorem dX7_cell_72 : decode cX7_cell 72 = .ok (.ireturn, 1) := by decide +kernel
theorem dX7_cell_73 : decode cX7_cell 73 = .ok (.aload_n 0, 1) := by decide +kernel
theorem dX7_cell_74 : decode cX7_cell 74 = .ok (.getfield 19, 3) := by decide +kernel
theorem dX7_cell_77 : decode cX7_cell 77 = .ok (.iload_n 1, 1) := by decide +kernel
theorem dX7_cell_78 : decode cX7_cell 78 = .ok (.invokevirtual 129, 3) := by decide +kernel
theorem dX7_cell_81 : decode cX7_cell 81 = .ok (.ifCond .eq 7, 3) := by decide +kernel
theorem dX7_cell_84 : decode cX7_cell 84 = .ok (.iconst 1, 1) := by decide +kernel
theorem dX7_cell_85 : decode cX7_cell 85 = .ok (.goto 4, 3) := by decide +kernel
theorem dX7_cell_88 : decode cX7_cell 88 = .ok (.iconst 0, 1) := by decide +kernel
theorem dX7_cell_89 : decode cX7_cell 89 = .ok (.ireturn, 1) := by decide +kernel
theorem dX7_cell_90 : decode cX7_cell 90 = .ok (.aload_n 0, 1) := by decide +kernel
theorem dX7_cell_91 : decode cX7_cell 91 = .ok (.getfield 19, 3) := by decide +kernel
theorem dX7_cell_94 : decode cX7_cell 94 = .ok (.iload_n 1, 1) := by decide +kernel
theorem dX7_cell_95 : decode cX7_cell 95 = .ok (.invokevirtual 132, 3) := by decide +kernel
theorem dX7_cell_98 : decode cX7_cell 98 = .ok (.ireturn, 1) := by decide +kernel
theorem dX7_cell_99 : decode cX7_cell 99 = .ok (.aload_n 0, 1) := by decide +kernel
theorem dX7_cell_100 : decode cX7_cell 100 = .ok (.iload_n 1, 1) := by decide +kernel
theorem dX7_cell_101 : decode cX7_cell 101 = .ok (.invokevirtual 135, 3) := by decide +kernel
theorem dX7_cell_104 : decode cX7_cell 104 = .ok (.ireturn, 1) := by decide +kernel
theorem dX7_cell_105 : decode cX7_cell 105 = .ok (.bipush (-2), 2) := by decide +kernel
theorem dX7_cell_107 : decode cX7_cell 107 = .ok (.ireturn, 1) := by decide +kernel
theorem dX7_walker_0 : decode cX7_walker 0 = .ok (.aload_n 0, 1) := by decide +kernel
theorem dX7_walker_1 : decode cX7_walker 1 = .ok (.iload_n 1, 1) := by decide +kernel
theorem dX7_walker_2 : decode cX7_walker 2 = .ok (.invokevirtual 138, 3) := by decide +kernel
theorem dX7_walker_5 : decode cX7_walker 5 = .ok (.ifCond .ne 5, 3) := by decide +kernel
theorem dX7_walker_8 : decode cX7_walker 8 = .ok (.iconst (-1), 1) := by decide +kernel
theorem dX7_walker_9 : decode cX7_walker 9 = .ok (.ireturn, 1) := by decide +kernel
theorem dX7_walker_10 : decode cX7_walker 10 = .ok (.iload_n 2, 1) := by decide +kernel
theorem dX7_walker_11 : decode cX7_walker 11 = .ok (.tableswitch 78 0 4 #[33, 42, 51, 60, 69], 33) := by decide +kernel
theorem dX7_walker_44 : decode cX7_walker 44 = .ok (.aload_n 0, 1) := by decide +kernel
theorem dX7_walker_45 : decode cX7_walker 45 = .ok (.getfield 19, 3) := by decide +kernel
theorem dX7_walker_48 : decode cX7_walker 48 = .ok (.iload_n 1, 1) := by decide +kernel
theorem dX7_walker_49 : decode cX7_walker 49 = .ok (.invokevirtual 141, 3) := by decide +kernel
theorem dX7_walker_52 : decode cX7_walker 52 = .ok (.ireturn, 1) := by decide +kernel
theorem dX7_walker_53 : decode cX7_walker 53 = .ok (.aload_n 0, 1) := by decide +kernel
theorem dX7_walker_54 : decode cX7_walker 54 = .ok (.getfield 19, 3) := by decide +kernel
theorem dX7_walker_57 : decode cX7_walker 57 = .ok (.iload_n 1, 1) := by decide +kernel
theorem dX7_walker_58 : decode cX7_walker 58 = .ok (.invokevirtual 144, 3) := by decide +kernel
theorem dX7_walker_61 : decode cX7_walker 61 = .ok (.ireturn, 1) := by decide +kernel
theorem dX7_walker_62 : decode cX7_walker 62 = .ok (.aload_n 0, 1) := by decide +kernel
theorem dX7_walker_63 : decode cX7_walker 63 = .ok (.getfield 29, 3) := by decide +kernel
theorem dX7_walker_66 : decode cX7_walker 66 = .ok (.iload_n 1, 1) := by decide +kernel
theorem dX7_walker_67 : decode cX7_walker 67 = .ok (.invokevirtual 147, 3) := by decide +kernel
theorem dX7_walker_70 : decode cX7_walker 70 = .ok (.ireturn, 1) := by decide +kernel
theorem dX7_walker_71 : decode cX7_walker 71 = .ok (.aload_n 0, 1) := by decide +kernel
theorem dX7_walker_72 : decode cX7_walker 72 = .ok (.getfield 29, 3) := by decide +kernel
theorem dX7_walker_75 : decode cX7_walker 75 = .ok (.iload_n 1, 1) := by decide +kernel
theorem dX7_walker_76 : decode cX7_walker 76 = .ok (.invokevirtual 150, 3) := by decide +kernel
theorem dX7_walker_79 : decode cX7_walker 79 = .ok (.ireturn, 1) := by decide +kernel
theorem dX7_walker_80 : decode cX7_walker 80 = .ok (.aload_n 0, 1) := by decide +kernel
theorem dX7_walker_81 : decode cX7_walker 81 = .ok (.getfield 29, 3) := by decide +kernel
theorem dX7_walker_84 : decode cX7_walker 84 = .ok (.iload_n 1, 1) := by decide +kernel
theorem dX7_walker_85 : decode cX7_walker 85 = .ok (.invokevirtual 153, 3) := by decide +kernel
theorem dX7_walker_88 : decode cX7_walker 88 = .ok (.ireturn, 1) := by decide +kernel
theorem dX7_walker_89 : decode cX7_walker 89 = .ok (.bipush (-2), 2) := by decide +kernel
theorem dX7_walker_91 : decode cX7_walker 91 = .ok (.ireturn, 1) := by decide +kernel
theorem dX7_deep_0 : decode cX7_deep 0 = .ok (.iload_n 1, 1) := by decide +kernel
theorem dX7_deep_1 : decode cX7_deep 1 = .ok (.invokestatic 119, 3) := by decide +kernel
theorem dX7_deep_4 : decode cX7_deep 4 = .ok (.ifCond .ne 5, 3) := by decide +kernel
theorem dX7_deep_7 : decode cX7_deep 7 = .ok (.iconst (-1), 1) := by decide +kernel
theorem dX7_deep_8 : decode cX7_deep 8 = .ok (.ireturn, 1) := by decide +kernel
theorem dX7_deep_9 : decode cX7_deep 9 = .ok (.iload_n 2, 1) := by decide +kernel
theorem dX7_deep_10 : decode cX7_deep 10 = .ok (.invokestatic 156, 3) := by decide +kernel
theorem dX7_deep_13 : decode cX7_deep 13 = .ok (.ifCond .ne 6, 3) := by decide +kernel
theorem dX7_deep_16 : decode cX7_deep 16 = .ok (.bipush (-2), 2) := by decide +kernel
theorem dX7_deep_18 : decode cX7_deep 18 = .ok (.ireturn, 1) := by decide +kernel
theorem dX7_deep_19 : decode cX7_deep 19 = .ok (.aload_n 0, 1) := by decide +kernel
theorem dX7_deep_20 : decode cX7_deep 20 = .ok (.getfield 19, 3) := by decide +kernel
theorem dX7_deep_23 : decode cX7_deep 23 = .ok (.iload_n 1, 1) := by decide +kernel
theorem dX7_deep_24 : decode cX7_deep 24 = .ok (.aload_n 0, 1) := by decide +kernel
theorem dX7_deep_25 : decode cX7_deep 25 = .ok (.iload_n 2, 1) := by decide +kernel
theorem dX7_deep_26 : decode cX7_deep 26 = .ok (.invokevirtual 99, 3) := by decide +kernel
theorem dX7_deep_29 : decode cX7_deep 29 = .ok (.invokevirtual 126, 3) := by decide +kernel
theorem dX7_deep_32 : decode cX7_deep 32 = .ok (.ireturn, 1) := by decide +kernel
theorem dX7_head_0 : decode cX7_head 0 = .ok (.aload_n 0, 1) := by decide +kernel
theorem dX7_head_1 : decode cX7_head 1 = .ok (.iload_n 1, 1) := by decide +kernel
theorem dX7_head_2 : decode cX7_head 2 = .ok (.invokevirtual 138, 3) := by decide +kernel
theorem dX7_head_5 : decode cX7_head 5 = .ok (.ifCond .ne 5, 3) := by decide +kernel
theorem dX7_head_8 : decode cX7_head 8 = .ok (.iconst (-1), 1) := by decide +kernel
theorem dX7_head_9 : decode cX7_head 9 = .ok (.ireturn, 1) := by decide +kernel
theorem dX7_head_10 : decode cX7_head 10 = .ok (.iload_n 2, 1) := by decide +kernel
theorem dX7_head_11 : decode cX7_head 11 = .ok (.ifCond .lt 8, 3) := by decide +kernel
theorem dX7_head_14 : decode cX7_head 14 = .ok (.iload_n 2, 1) := by decide +kernel
theorem dX7_head_15 : decode cX7_head 15 = .ok (.iconst 2, 1) := by decide +kernel
theorem dX7_head_16 : decode cX7_head 16 = .ok (.if_icmp .le 6, 3) := by decide +kernel
theorem dX7_head_19 : decode cX7_head 19 = .ok (.bipush (-2), 2) := by decide +kernel
theorem dX7_head_21 : decode cX7_head 21 = .ok (.ireturn, 1) := by decide +kernel
theorem dX7_head_22 : decode cX7_head 22 = .ok (.aload_n 0, 1) := by decide +kernel
theorem dX7_head_23 : decode cX7_head 23 = .ok (.getfield 29, 3) := by decide +kernel
theorem dX7_head_26 : decode cX7_head 26 = .ok (.iload_n 1, 1) := by decide +kernel
theorem dX7_head_27 : decode cX7_head 27 = .ok (.invokevirtual 150, 3) := by decide +kernel
theorem dX7_head_30 : decode cX7_head 30 = .ok (.istore_n 3, 1) := by decide +kernel
theorem dX7_head_31 : decode cX7_head 31 = .ok (.aload_n 0, 1) := by decide +kernel
theorem dX7_head_32 : decode cX7_head 32 = .ok (.iload_n 1, 1) := by decide +kernel
theorem dX7_head_33 : decode cX7_head 33 = .ok (.invokevirtual 159, 3) := by decide +kernel
theorem dX7_head_36 : decode cX7_head 36 = .ok (.ifCond .eq 8, 3) := by decide +kernel
theorem dX7_head_39 : decode cX7_head 39 = .ok (.iload_n 3, 1) := by decide +kernel
theorem dX7_head_40 : decode cX7_head 40 = .ok (.iload_n 2, 1) := by decide +kernel
theorem dX7_head_41 : decode cX7_head 41 = .ok (.if_icmp .ne 6, 3) := by decide +kernel
theorem dX7_head_44 : decode cX7_head 44 = .ok (.bipush (-3), 2) := by decide +kernel
theorem dX7_head_46 : decode cX7_head 46 = .ok (.ireturn, 1) := by decide +kernel
theorem dX7_head_47 : decode cX7_head 47 = .ok (.aload_n 0, 1) := by decide +kernel
theorem dX7_head_48 : decode cX7_head 48 = .ok (.getfield 36, 3) := by decide +kernel
theorem dX7_head_51 : decode cX7_head 51 = .ok (.aload_n 0, 1) := by decide +kernel
theorem dX7_head_52 : decode cX7_head 52 = .ok (.getfield 29, 3) := by decide +kernel
theorem dX7_head_55 : decode cX7_head 55 = .ok (.invokevirtual 162, 3) := by decide +kernel
theorem dX7_head_58 : decode cX7_head 58 = .ok (.aload_n 0, 1) := by decide +kernel
theorem dX7_head_59 : decode cX7_head 59 = .ok (.getfield 29, 3) := by decide +kernel
theorem dX7_head_62 : decode cX7_head 62 = .ok (.iload_n 1, 1) := by decide +kernel
theorem dX7_head_63 : decode cX7_head 63 = .ok (.iload_n 2, 1) := by decide +kernel
theorem dX7_head_64 : decode cX7_head 64 = .ok (.invokevirtual 166, 3) := by decide +kernel
theorem dX7_head_67 : decode cX7_head 67 = .ok (.iload_n 3, 1) := by decide +kernel
theorem dX7_head_68 : decode cX7_head 68 = .ok (.ireturn, 1) := by decide +kernel
theorem dX7_step_0 : decode cX7_step 0 = .ok (.aload_n 0, 1) := by decide +kernel
theorem dX7_step_1 : decode cX7_step 1 = .ok (.getfield 29, 3) := by decide +kernel
theorem dX7_step_4 : decode cX7_step 4 = .ok (.invokevirtual 95, 3) := by decide +kernel
theorem dX7_step_7 : decode cX7_step 7 = .ok (.bipush 40, 2) := by decide +kernel
theorem dX7_step_9 : decode cX7_step 9 = .ok (.if_icmp .lt 6, 3) := by decide +kernel
theorem dX7_step_12 : decode cX7_step 12 = .ok (.bipush (-3), 2) := by decide +kernel
theorem dX7_step_14 : decode cX7_step 14 = .ok (.ireturn, 1) := by decide +kernel
theorem dX7_step_15 : decode cX7_step 15 = .ok (.aload_n 0, 1) := by decide +kernel
theorem dX7_step_16 : decode cX7_step 16 = .ok (.getfield 36, 3) := by decide +kernel
theorem dX7_step_19 : decode cX7_step 19 = .ok (.aload_n 0, 1) := by decide +kernel
theorem dX7_step_20 : decode cX7_step 20 = .ok (.getfield 29, 3) := by decide +kernel
theorem dX7_step_23 : decode cX7_step 23 = .ok (.invokevirtual 162, 3) := by decide +kernel
theorem dX7_step_26 : decode cX7_step 26 = .ok (.iconst 0, 1) := by decide +kernel
theorem dX7_step_27 : decode cX7_step 27 = .ok (.istore_n 1, 1) := by decide +kernel
theorem dX7_step_28 : decode cX7_step 28 = .ok (.iconst 0, 1) := by decide +kernel
theorem dX7_step_29 : decode cX7_step 29 = .ok (.istore_n 2, 1) := by decide +kernel
theorem dX7_step_30 : decode cX7_step 30 = .ok (.iload_n 2, 1) := by decide +kernel
theorem dX7_step_31 : decode cX7_step 31 = .ok (.aload_n 0, 1) := by decide +kernel
theorem dX7_step_32 : decode cX7_step 32 = .ok (.getfield 19, 3) := by decide +kernel
theorem dX7_step_35 : decode cX7_step 35 = .ok (.getfield 89, 3) := by decide +kernel
theorem dX7_step_38 : decode cX7_step 38 = .ok (.if_icmp .ge 31, 3) := by decide +kernel
theorem dX7_step_41 : decode cX7_step 41 = .ok (.aload_n 0, 1) := by decide +kernel
theorem dX7_step_42 : decode cX7_step 42 = .ok (.iload_n 2, 1) := by decide +kernel
theorem dX7_step_43 : decode cX7_step 43 = .ok (.invokevirtual 159, 3) := by decide +kernel
theorem dX7_step_46 : decode cX7_step 46 = .ok (.ifCond .eq 17, 3) := by decide +kernel
theorem dX7_step_49 : decode cX7_step 49 = .ok (.aload_n 0, 1) := by decide +kernel
theorem dX7_step_50 : decode cX7_step 50 = .ok (.iload_n 2, 1) := by decide +kernel
theorem dX7_step_51 : decode cX7_step 51 = .ok (.invokevirtual 170, 3) := by decide +kernel
theorem dX7_step_54 : decode cX7_step 54 = .ok (.ifCond .eq 9, 3) := by decide +kernel
theorem dX7_step_57 : decode cX7_step 57 = .ok (.iload_n 1, 1) := by decide +kernel
theorem dX7_step_58 : decode cX7_step 58 = .ok (.iconst 1, 1) := by decide +kernel
theorem dX7_step_59 : decode cX7_step 59 = .ok (.iload_n 2, 1) := by decide +kernel
theorem dX7_step_60 : decode cX7_step 60 = .ok (.ishl, 1) := by decide +kernel
theorem dX7_step_61 : decode cX7_step 61 = .ok (.ior, 1) := by decide +kernel
theorem dX7_step_62 : decode cX7_step 62 = .ok (.istore_n 1, 1) := by decide +kernel
theorem dX7_step_63 : decode cX7_step 63 = .ok (.iinc 2 1, 3) := by decide +kernel
theorem dX7_step_66 : decode cX7_step 66 = .ok (.goto (-36), 3) := by decide +kernel
theorem dX7_step_69 : decode cX7_step 69 = .ok (.aload_n 0, 1) := by decide +kernel
theorem dX7_step_70 : decode cX7_step 70 = .ok (.getfield 29, 3) := by decide +kernel
theorem dX7_step_73 : decode cX7_step 73 = .ok (.aload_n 0, 1) := by decide +kernel
theorem dX7_step_74 : decode cX7_step 74 = .ok (.getfield 29, 3) := by decide +kernel
theorem dX7_step_77 : decode cX7_step 77 = .ok (.invokevirtual 95, 3) := by decide +kernel
theorem dX7_step_80 : decode cX7_step 80 = .ok (.iconst 1, 1) := by decide +kernel
theorem dX7_step_81 : decode cX7_step 81 = .ok (.iadd, 1) := by decide +kernel
theorem dX7_step_82 : decode cX7_step 82 = .ok (.invokevirtual 173, 3) := by decide +kernel
theorem dX7_step_85 : decode cX7_step 85 = .ok (.iload_n 1, 1) := by decide +kernel
theorem dX7_step_86 : decode cX7_step 86 = .ok (.ireturn, 1) := by decide +kernel
theorem dX7_climb_0 : decode cX7_climb 0 = .ok (.aload_n 0, 1) := by decide +kernel
theorem dX7_climb_1 : decode cX7_climb 1 = .ok (.iload_n 1, 1) := by decide +kernel
theorem dX7_climb_2 : decode cX7_climb 2 = .ok (.invokevirtual 138, 3) := by decide +kernel
theorem dX7_climb_5 : decode cX7_climb 5 = .ok (.ifCond .ne 5, 3) := by decide +kernel
theorem dX7_climb_8 : decode cX7_climb 8 = .ok (.iconst (-1), 1) := by decide +kernel
theorem dX7_climb_9 : decode cX7_climb 9 = .ok (.ireturn, 1) := by decide +kernel
theorem dX7_climb_10 : decode cX7_climb 10 = .ok (.aload_n 0, 1) := by decide +kernel
theorem dX7_climb_11 : decode cX7_climb 11 = .ok (.getfield 29, 3) := by decide +kernel
theorem dX7_climb_14 : decode cX7_climb 14 = .ok (.iload_n 1, 1) := by decide +kernel
theorem dX7_climb_15 : decode cX7_climb 15 = .ok (.invokevirtual 147, 3) := by decide +kernel
theorem dX7_climb_18 : decode cX7_climb 18 = .ok (.istore_n 2, 1) := by decide +kernel
theorem dX7_climb_19 : decode cX7_climb 19 = .ok (.aload_n 0, 1) := by decide +kernel
theorem dX7_climb_20 : decode cX7_climb 20 = .ok (.iload_n 1, 1) := by decide +kernel
theorem dX7_climb_21 : decode cX7_climb 21 = .ok (.invokevirtual 159, 3) := by decide +kernel
theorem dX7_climb_24 : decode cX7_climb 24 = .ok (.ifCond .eq 14, 3) := by decide +kernel
theorem dX7_climb_27 : decode cX7_climb 27 = .ok (.aload_n 0, 1) := by decide +kernel
theorem dX7_climb_28 : decode cX7_climb 28 = .ok (.getfield 19, 3) := by decide +kernel
theorem dX7_climb_31 : decode cX7_climb 31 = .ok (.iload_n 2, 1) := by decide +kernel
theorem dX7_climb_32 : decode cX7_climb 32 = .ok (.invokevirtual 132, 3) := by decide +kernel
theorem dX7_climb_35 : decode cX7_climb 35 = .ok (.ifCond .ne 6, 3) := by decide +kernel
theorem dX7_climb_38 : decode cX7_climb 38 = .ok (.bipush (-3), 2) := by decide +kernel
theorem dX7_climb_40 : decode cX7_climb 40 = .ok (.ireturn, 1) := by decide +kernel
theorem dX7_climb_41 : decode cX7_climb 41 = .ok (.aload_n 0, 1) := by decide +kernel
theorem dX7_climb_42 : decode cX7_climb 42 = .ok (.iload_n 2, 1) := by decide +kernel
theorem dX7_climb_43 : decode cX7_climb 43 = .ok (.invokevirtual 176, 3) := by decide +kernel
theorem dX7_climb_46 : decode cX7_climb 46 = .ok (.ifCond .gt 6, 3) := by decide +kernel
theorem dX7_climb_49 : decode cX7_climb 49 = .ok (.bipush (-4), 2) := by decide +kernel
theorem dX7_climb_51 : decode cX7_climb 51 = .ok (.ireturn, 1) := by decide +kernel
theorem dX7_climb_52 : decode cX7_climb 52 = .ok (.aload_n 0, 1) := by decide +kernel
theorem dX7_climb_53 : decode cX7_climb 53 = .ok (.getfield 36, 3) := by decide +kernel
theorem dX7_climb_56 : decode cX7_climb 56 = .ok (.aload_n 0, 1) := by decide +kernel
theorem dX7_climb_57 : decode cX7_climb 57 = .ok (.getfield 29, 3) := by decide +kernel
theorem dX7_climb_60 : decode cX7_climb 60 = .ok (.invokevirtual 162, 3) := by decide +kernel
theorem dX7_climb_63 : decode cX7_climb 63 = .ok (.aload_n 0, 1) := by decide +kernel
theorem dX7_climb_64 : decode cX7_climb 64 = .ok (.getfield 29, 3) := by decide +kernel
theorem dX7_climb_67 : decode cX7_climb 67 = .ok (.iload_n 1, 1) := by decide +kernel
theorem dX7_climb_68 : decode cX7_climb 68 = .ok (.iconst 4, 1) := by decide +kernel
theorem dX7_climb_69 : decode cX7_climb 69 = .ok (.invokevirtual 179, 3) := by decide +kernel
theorem dX7_climb_72 : decode cX7_climb 72 = .ok (.aload_n 0, 1) := by decide +kernel
theorem dX7_climb_73 : decode cX7_climb 73 = .ok (.iload_n 2, 1) := by decide +kernel
theorem dX7_climb_74 : decode cX7_climb 74 = .ok (.invokevirtual 135, 3) := by decide +kernel
theorem dX7_climb_77 : decode cX7_climb 77 = .ok (.ireturn, 1) := by decide +kernel
theorem dX7_undo_0 : decode cX7_undo 0 = .ok (.aload_n 0, 1) := by decide +kernel
theorem dX7_undo_1 : decode cX7_undo 1 = .ok (.getfield 36, 3) := by decide +kernel
theorem dX7_undo_4 : decode cX7_undo 4 = .ok (.getfield 116, 3) := by decide +kernel
theorem dX7_undo_7 : decode cX7_undo 7 = .ok (.ifCond .ne 6, 3) := by decide +kernel
theorem dX7_undo_10 : decode cX7_undo 10 = .ok (.bipush (-3), 2) := by decide +kernel
theorem dX7_undo_12 : decode cX7_undo 12 = .ok (.ireturn, 1) := by decide +kernel
theorem dX7_undo_13 : decode cX7_undo 13 = .ok (.aload_n 0, 1) := by decide +kernel
theorem dX7_undo_14 : decode cX7_undo 14 = .ok (.getfield 36, 3) := by decide +kernel
theorem dX7_undo_17 : decode cX7_undo 17 = .ok (.aload_n 0, 1) := by decide +kernel
theorem dX7_undo_18 : decode cX7_undo 18 = .ok (.getfield 29, 3) := by decide +kernel
theorem dX7_undo_21 : decode cX7_undo 21 = .ok (.invokevirtual 182, 3) := by decide +kernel
theorem dX7_undo_24 : decode cX7_undo 24 = .ok (.aload_n 0, 1) := by decide +kernel
theorem dX7_undo_25 : decode cX7_undo 25 = .ok (.getfield 36, 3) := by decide +kernel
theorem dX7_undo_28 : decode cX7_undo 28 = .ok (.getfield 116, 3) := by decide +kernel
theorem dX7_undo_31 : decode cX7_undo 31 = .ok (.ireturn, 1) := by decide +kernel
theorem dX7_gone_0 : decode cX7_gone 0 = .ok (.aload_n 0, 1) := by decide +kernel
theorem dX7_gone_1 : decode cX7_gone 1 = .ok (.iload_n 1, 1) := by decide +kernel
theorem dX7_gone_2 : decode cX7_gone 2 = .ok (.invokevirtual 138, 3) := by decide +kernel
theorem dX7_gone_5 : decode cX7_gone 5 = .ok (.ifCond .eq 10, 3) := by decide +kernel
theorem dX7_gone_8 : decode cX7_gone 8 = .ok (.iload_n 2, 1) := by decide +kernel
theorem dX7_gone_9 : decode cX7_gone 9 = .ok (.invokestatic 119, 3) := by decide +kernel
theorem dX7_gone_12 : decode cX7_gone 12 = .ok (.ifCond .ne 5, 3) := by decide +kernel
theorem dX7_gone_15 : decode cX7_gone 15 = .ok (.iconst (-1), 1) := by decide +kernel
theorem dX7_gone_16 : decode cX7_gone 16 = .ok (.ireturn, 1) := by decide +kernel
theorem dX7_gone_17 : decode cX7_gone 17 = .ok (.iload 4, 2) := by decide +kernel
theorem dX7_gone_19 : decode cX7_gone 19 = .ok (.iconst 1, 1) := by decide +kernel
theorem dX7_gone_20 : decode cX7_gone 20 = .ok (.if_icmp .lt 16, 3) := by decide +kernel
theorem dX7_gone_23 : decode cX7_gone 23 = .ok (.iload 4, 2) := by decide +kernel
theorem dX7_gone_25 : decode cX7_gone 25 = .ok (.iconst 2, 1) := by decide +kernel
theorem dX7_gone_26 : decode cX7_gone 26 = .ok (.if_icmp .gt 10, 3) := by decide +kernel
theorem dX7_gone_29 : decode cX7_gone 29 = .ok (.iload_n 3, 1) := by decide +kernel
theorem dX7_gone_30 : decode cX7_gone 30 = .ok (.invokestatic 156, 3) := by decide +kernel
theorem dX7_gone_33 : decode cX7_gone 33 = .ok (.ifCond .ne 6, 3) := by decide +kernel
theorem dX7_gone_36 : decode cX7_gone 36 = .ok (.bipush (-2), 2) := by decide +kernel
theorem dX7_gone_38 : decode cX7_gone 38 = .ok (.ireturn, 1) := by decide +kernel
theorem dX7_gone_39 : decode cX7_gone 39 = .ok (.aload_n 0, 1) := by decide +kernel
theorem dX7_gone_40 : decode cX7_gone 40 = .ok (.iload_n 1, 1) := by decide +kernel
theorem dX7_gone_41 : decode cX7_gone 41 = .ok (.iload_n 2, 1) := by decide +kernel
theorem dX7_gone_42 : decode cX7_gone 42 = .ok (.iload_n 3, 1) := by decide +kernel
theorem dX7_gone_43 : decode cX7_gone 43 = .ok (.iload 4, 2) := by decide +kernel
theorem dX7_gone_45 : decode cX7_gone 45 = .ok (.invokevirtual 185, 3) := by decide +kernel
theorem dX7_gone_48 : decode cX7_gone 48 = .ok (.ireturn, 1) := by decide +kernel
theorem dX7_latest_0 : decode cX7_latest 0 = .ok (.aload_n 0, 1) := by decide +kernel
theorem dX7_latest_1 : decode cX7_latest 1 = .ok (.iload_n 1, 1) := by decide +kernel
theorem dX7_latest_2 : decode cX7_latest 2 = .ok (.invokevirtual 138, 3) := by decide +kernel
theorem dX7_latest_5 : decode cX7_latest 5 = .ok (.ifCond .ne 5, 3) := by decide +kernel
theorem dX7_latest_8 : decode cX7_latest 8 = .ok (.iconst (-1), 1) := by decide +kernel
theorem dX7_latest_9 : decode cX7_latest 9 = .ok (.ireturn, 1) := by decide +kernel
theorem dX7_latest_10 : decode cX7_latest 10 = .ok (.bipush 40, 2) := by decide +kernel
theorem dX7_latest_12 : decode cX7_latest 12 = .ok (.istore_n 2, 1) := by decide +kernel
theorem dX7_latest_13 : decode cX7_latest 13 = .ok (.iload_n 2, 1) := by decide +kernel
theorem dX7_latest_14 : decode cX7_latest 14 = .ok (.ifCond .lt 24, 3) := by decide +kernel
theorem dX7_latest_17 : decode cX7_latest 17 = .ok (.aload_n 0, 1) := by decide +kernel
theorem dX7_latest_18 : decode cX7_latest 18 = .ok (.iload_n 1, 1) := by decide +kernel
theorem dX7_latest_19 : decode cX7_latest 19 = .ok (.iconst 0, 1) := by decide +kernel
theorem dX7_latest_20 : decode cX7_latest 20 = .ok (.iload_n 2, 1) := by decide +kernel
theorem dX7_latest_21 : decode cX7_latest 21 = .ok (.iconst 1, 1) := by decide +kernel
theorem dX7_latest_22 : decode cX7_latest 22 = .ok (.invokevirtual 185, 3) := by decide +kernel
theorem dX7_latest_25 : decode cX7_latest 25 = .ok (.bipush (-9), 2) := by decide +kernel
theorem dX7_latest_27 : decode cX7_latest 27 = .ok (.if_icmp .eq 5, 3) := by decide +kernel
theorem dX7_latest_30 : decode cX7_latest 30 = .ok (.iload_n 2, 1) := by decide +kernel
theorem dX7_latest_31 : decode cX7_latest 31 = .ok (.ireturn, 1) := by decide +kernel
theorem dX7_latest_32 : decode cX7_latest 32 = .ok (.iinc 2 (-1), 3) := by decide +kernel
theorem dX7_latest_35 : decode cX7_latest 35 = .ok (.goto (-22), 3) := by decide +kernel
theorem dX7_latest_38 : decode cX7_latest 38 = .ok (.bipush (-9), 2) := by decide +kernel
theorem dX7_latest_40 : decode cX7_latest 40 = .ok (.ireturn, 1) := by decide +kernel
theorem dX7_safest_0 : decode cX7_safest 0 = .ok (.aload_n 0, 1) := by decide +kernel
theorem dX7_safest_1 : decode cX7_safest 1 = .ok (.iload_n 1, 1) := by decide +kernel
theorem dX7_safest_2 : decode cX7_safest 2 = .ok (.invokevirtual 138, 3) := by decide +kernel
theorem dX7_safest_5 : decode cX7_safest 5 = .ok (.ifCond .ne 5, 3) := by decide +kernel
theorem dX7_safest_8 : decode cX7_safest 8 = .ok (.iconst (-1), 1) := by decide +kernel
theorem dX7_safest_9 : decode cX7_safest 9 = .ok (.ireturn, 1) := by decide +kernel
theorem dX7_safest_10 : decode cX7_safest 10 = .ok (.iload_n 2, 1) := by decide +kernel
theorem dX7_safest_11 : decode cX7_safest 11 = .ok (.ifCond .lt 8, 3) := by decide +kernel
theorem dX7_safest_14 : decode cX7_safest 14 = .ok (.iload_n 2, 1) := by decide +kernel
theorem dX7_safest_15 : decode cX7_safest 15 = .ok (.iconst 1, 1) := by decide +kernel
theorem dX7_safest_16 : decode cX7_safest 16 = .ok (.if_icmp .le 6, 3) := by decide +kernel
theorem dX7_safest_19 : decode cX7_safest 19 = .ok (.bipush (-2), 2) := by decide +kernel
theorem dX7_safest_21 : decode cX7_safest 21 = .ok (.ireturn, 1) := by decide +kernel
theorem dX7_safest_22 : decode cX7_safest 22 = .ok (.aload_n 0, 1) := by decide +kernel
theorem dX7_safest_23 : decode cX7_safest 23 = .ok (.iload_n 1, 1) := by decide +kernel
theorem dX7_safest_24 : decode cX7_safest 24 = .ok (.invokevirtual 159, 3) := by decide +kernel
theorem dX7_safest_27 : decode cX7_safest 27 = .ok (.ifCond .ne 6, 3) := by decide +kernel
theorem dX7_safest_30 : decode cX7_safest 30 = .ok (.bipush (-3), 2) := by decide +kernel
theorem dX7_safest_32 : decode cX7_safest 32 = .ok (.ireturn, 1) := by decide +kernel
theorem dX7_safest_33 : decode cX7_safest 33 = .ok (.aload_n 0, 1) := by decide +kernel
theorem dX7_safest_34 : decode cX7_safest 34 = .ok (.getfield 29, 3) := by decide +kernel
theorem dX7_safest_37 : decode cX7_safest 37 = .ok (.iload_n 1, 1) := by decide +kernel
theorem dX7_safest_38 : decode cX7_safest 38 = .ok (.invokevirtual 147, 3) := by decide +kernel
theorem dX7_safest_41 : decode cX7_safest 41 = .ok (.istore_n 3, 1) := by decide +kernel
theorem dX7_safest_42 : decode cX7_safest 42 = .ok (.aload_n 0, 1) := by decide +kernel
theorem dX7_safest_43 : decode cX7_safest 43 = .ok (.iload_n 1, 1) := by decide +kernel
theorem dX7_safest_44 : decode cX7_safest 44 = .ok (.iload_n 3, 1) := by decide +kernel
theorem dX7_safest_45 : decode cX7_safest 45 = .ok (.aload_n 0, 1) := by decide +kernel
theorem dX7_safest_46 : decode cX7_safest 46 = .ok (.getfield 29, 3) := by decide +kernel
theorem dX7_safest_49 : decode cX7_safest 49 = .ok (.invokevirtual 95, 3) := by decide +kernel
theorem dX7_safest_52 : decode cX7_safest 52 = .ok (.iconst 1, 1) := by decide +kernel
theorem dX7_safest_53 : decode cX7_safest 53 = .ok (.invokevirtual 185, 3) := by decide +kernel
theorem dX7_safest_56 : decode cX7_safest 56 = .ok (.istore 4, 2) := by decide +kernel
theorem dX7_safest_58 : decode cX7_safest 58 = .ok (.aload_n 0, 1) := by decide +kernel
theorem dX7_safest_59 : decode cX7_safest 59 = .ok (.iload_n 1, 1) := by decide +kernel
theorem dX7_safest_60 : decode cX7_safest 60 = .ok (.iload_n 3, 1) := by decide +kernel
theorem dX7_safest_61 : decode cX7_safest 61 = .ok (.aload_n 0, 1) := by decide +kernel
theorem dX7_safest_62 : decode cX7_safest 62 = .ok (.getfield 29, 3) := by decide +kernel
theorem dX7_safest_65 : decode cX7_safest 65 = .ok (.invokevirtual 95, 3) := by decide +kernel
theorem dX7_safest_68 : decode cX7_safest 68 = .ok (.iconst 2, 1) := by decide +kernel
theorem dX7_safest_69 : decode cX7_safest 69 = .ok (.invokevirtual 185, 3) := by decide +kernel
theorem dX7_safest_72 : decode cX7_safest 72 = .ok (.istore 5, 2) := by decide +kernel
theorem dX7_safest_74 : decode cX7_safest 74 = .ok (.aload_n 0, 1) := by decide +kernel
theorem dX7_safest_75 : decode cX7_safest 75 = .ok (.iload_n 3, 1) := by decide +kernel
theorem dX7_safest_76 : decode cX7_safest 76 = .ok (.invokevirtual 176, 3) := by decide +kernel
theorem dX7_safest_79 : decode cX7_safest 79 = .ok (.ifCond .le 13, 3) := by decide +kernel
theorem dX7_safest_82 : decode cX7_safest 82 = .ok (.aload_n 0, 1) := by decide +kernel
theorem dX7_safest_83 : decode cX7_safest 83 = .ok (.getfield 29, 3) := by decide +kernel
theorem dX7_safest_86 : decode cX7_safest 86 = .ok (.invokevirtual 95, 3) := by decide +kernel
theorem dX7_safest_89 : decode cX7_safest 89 = .ok (.goto 5, 3) := by decide +kernel
theorem dX7_safest_92 : decode cX7_safest 92 = .ok (.bipush (-9), 2) := by decide +kernel
theorem dX7_safest_94 : decode cX7_safest 94 = .ok (.istore 6, 2) := by decide +kernel
theorem dX7_safest_96 : decode cX7_safest 96 = .ok (.iload_n 2, 1) := by decide +kernel
theorem dX7_safest_97 : decode cX7_safest 97 = .ok (.ifCond .ne 15, 3) := by decide +kernel
theorem dX7_safest_100 : decode cX7_safest 100 = .ok (.iload 4, 2) := by decide +kernel
theorem dX7_safest_102 : decode cX7_safest 102 = .ok (.iload 5, 2) := by decide +kernel
theorem dX7_safest_104 : decode cX7_safest 104 = .ok (.iload 6, 2) := by decide +kernel
theorem dX7_safest_106 : decode cX7_safest 106 = .ok (.invokestatic 189, 3) := by decide +kernel
theorem dX7_safest_109 : decode cX7_safest 109 = .ok (.goto 12, 3) := by decide +kernel
theorem dX7_safest_112 : decode cX7_safest 112 = .ok (.iload 4, 2) := by decide +kernel
theorem dX7_safest_114 : decode cX7_safest 114 = .ok (.iload 5, 2) := by decide +kernel
theorem dX7_safest_116 : decode cX7_safest 116 = .ok (.iload 6, 2) := by decide +kernel
theorem dX7_safest_118 : decode cX7_safest 118 = .ok (.invokestatic 193, 3) := by decide +kernel
theorem dX7_safest_121 : decode cX7_safest 121 = .ok (.ireturn, 1) := by decide +kernel
theorem dX7_shells_0 : decode cX7_shells 0 = .ok (.aload_n 0, 1) := by decide +kernel
theorem dX7_shells_1 : decode cX7_shells 1 = .ok (.iload_n 1, 1) := by decide +kernel
theorem dX7_shells_2 : decode cX7_shells 2 = .ok (.invokevirtual 138, 3) := by decide +kernel
theorem dX7_shells_5 : decode cX7_shells 5 = .ok (.ifCond .ne 5, 3) := by decide +kernel
theorem dX7_shells_8 : decode cX7_shells 8 = .ok (.iconst (-1), 1) := by decide +kernel
theorem dX7_shells_9 : decode cX7_shells 9 = .ok (.ireturn, 1) := by decide +kernel
theorem dX7_shells_10 : decode cX7_shells 10 = .ok (.aload_n 0, 1) := by decide +kernel
theorem dX7_shells_11 : decode cX7_shells 11 = .ok (.iload_n 1, 1) := by decide +kernel
theorem dX7_shells_12 : decode cX7_shells 12 = .ok (.invokevirtual 159, 3) := by decide +kernel
theorem dX7_shells_15 : decode cX7_shells 15 = .ok (.ifCond .ne 6, 3) := by decide +kernel
theorem dX7_shells_18 : decode cX7_shells 18 = .ok (.bipush (-3), 2) := by decide +kernel
theorem dX7_shells_20 : decode cX7_shells 20 = .ok (.ireturn, 1) := by decide +kernel
theorem dX7_shells_21 : decode cX7_shells 21 = .ok (.aload_n 0, 1) := by decide +kernel
theorem dX7_shells_22 : decode cX7_shells 22 = .ok (.getfield 29, 3) := by decide +kernel
theorem dX7_shells_25 : decode cX7_shells 25 = .ok (.iload_n 1, 1) := by decide +kernel
theorem dX7_shells_26 : decode cX7_shells 26 = .ok (.invokevirtual 147, 3) := by decide +kernel
theorem dX7_shells_29 : decode cX7_shells 29 = .ok (.istore_n 2, 1) := by decide +kernel
theorem dX7_shells_30 : decode cX7_shells 30 = .ok (.bipush (-9), 2) := by decide +kernel
theorem dX7_shells_32 : decode cX7_shells 32 = .ok (.istore_n 3, 1) := by decide +kernel
theorem dX7_shells_33 : decode cX7_shells 33 = .ok (.iconst 0, 1) := by decide +kernel
theorem dX7_shells_34 : decode cX7_shells 34 = .ok (.istore 4, 2) := by decide +kernel
theorem dX7_shells_36 : decode cX7_shells 36 = .ok (.iload 4, 2) := by decide +kernel
theorem dX7_shells_38 : decode cX7_shells 38 = .ok (.bipush 40, 2) := by decide +kernel
theorem dX7_shells_40 : decode cX7_shells 40 = .ok (.aload_n 0, 1) := by decide +kernel
theorem dX7_shells_41 : decode cX7_shells 41 = .ok (.getfield 29, 3) := by decide +kernel
theorem dX7_shells_44 : decode cX7_shells 44 = .ok (.invokevirtual 95, 3) := by decide +kernel
theorem dX7_shells_47 : decode cX7_shells 47 = .ok (.isub, 1) := by decide +kernel
theorem dX7_shells_48 : decode cX7_shells 48 = .ok (.if_icmp .gt 56, 3) := by decide +kernel
theorem dX7_shells_51 : decode cX7_shells 51 = .ok (.aload_n 0, 1) := by decide +kernel
theorem dX7_shells_52 : decode cX7_shells 52 = .ok (.getfield 29, 3) := by decide +kernel
theorem dX7_shells_55 : decode cX7_shells 55 = .ok (.invokevirtual 95, 3) := by decide +kernel
theorem dX7_shells_58 : decode cX7_shells 58 = .ok (.iload 4, 2) := by decide +kernel
theorem dX7_shells_60 : decode cX7_shells 60 = .ok (.iadd, 1) := by decide +kernel
theorem dX7_shells_61 : decode cX7_shells 61 = .ok (.istore 5, 2) := by decide +kernel
theorem dX7_shells_63 : decode cX7_shells 63 = .ok (.iload 4, 2) := by decide +kernel
theorem dX7_shells_65 : decode cX7_shells 65 = .ok (.ifCond .le 19, 3) := by decide +kernel
theorem dX7_shells_68 : decode cX7_shells 68 = .ok (.aload_n 0, 1) := by decide +kernel
theorem dX7_shells_69 : decode cX7_shells 69 = .ok (.iload_n 1, 1) := by decide +kernel
theorem dX7_shells_70 : decode cX7_shells 70 = .ok (.iload_n 2, 1) := by decide +kernel
theorem dX7_shells_71 : decode cX7_shells 71 = .ok (.iload 5, 2) := by decide +kernel
theorem dX7_shells_73 : decode cX7_shells 73 = .ok (.iconst 1, 1) := by decide +kernel
theorem dX7_shells_74 : decode cX7_shells 74 = .ok (.isub, 1) := by decide +kernel
theorem dX7_shells_75 : decode cX7_shells 75 = .ok (.invokevirtual 196, 3) := by decide +kernel
theorem dX7_shells_78 : decode cX7_shells 78 = .ok (.ifCond .ne 6, 3) := by decide +kernel
theorem dX7_shells_81 : decode cX7_shells 81 = .ok (.goto 23, 3) := by decide +kernel
theorem dX7_shells_84 : decode cX7_shells 84 = .ok (.aload_n 0, 1) := by decide +kernel
theorem dX7_shells_85 : decode cX7_shells 85 = .ok (.iload_n 1, 1) := by decide +kernel
theorem dX7_shells_86 : decode cX7_shells 86 = .ok (.iload_n 2, 1) := by decide +kernel
theorem dX7_shells_87 : decode cX7_shells 87 = .ok (.iload 5, 2) := by decide +kernel
theorem dX7_shells_89 : decode cX7_shells 89 = .ok (.invokevirtual 200, 3) := by decide +kernel
theorem dX7_shells_92 : decode cX7_shells 92 = .ok (.ifCond .eq 6, 3) := by decide +kernel
theorem dX7_shells_95 : decode cX7_shells 95 = .ok (.iload 4, 2) := by decide +kernel
theorem dX7_shells_97 : decode cX7_shells 97 = .ok (.istore_n 3, 1) := by decide +kernel
theorem dX7_shells_98 : decode cX7_shells 98 = .ok (.iinc 4 1, 3) := by decide +kernel
theorem dX7_shells_101 : decode cX7_shells 101 = .ok (.goto (-65), 3) := by decide +kernel
theorem dX7_shells_104 : decode cX7_shells 104 = .ok (.iload_n 3, 1) := by decide +kernel
theorem dX7_shells_105 : decode cX7_shells 105 = .ok (.ireturn, 1) := by decide +kernel
theorem dX7_cut_0 : decode cX7_cut 0 = .ok (.aload_n 0, 1) := by decide +kernel
theorem dX7_cut_1 : decode cX7_cut 1 = .ok (.iload_n 1, 1) := by decide +kernel
theorem dX7_cut_2 : decode cX7_cut 2 = .ok (.invokevirtual 138, 3) := by decide +kernel
theorem dX7_cut_5 : decode cX7_cut 5 = .ok (.ifCond .ne 5, 3) := by decide +kernel
theorem dX7_cut_8 : decode cX7_cut 8 = .ok (.iconst (-1), 1) := by decide +kernel
theorem dX7_cut_9 : decode cX7_cut 9 = .ok (.ireturn, 1) := by decide +kernel
theorem dX7_cut_10 : decode cX7_cut 10 = .ok (.aload_n 0, 1) := by decide +kernel
theorem dX7_cut_11 : decode cX7_cut 11 = .ok (.getfield 29, 3) := by decide +kernel
theorem dX7_cut_14 : decode cX7_cut 14 = .ok (.invokevirtual 95, 3) := by decide +kernel
theorem dX7_cut_17 : decode cX7_cut 17 = .ok (.istore_n 2, 1) := by decide +kernel
theorem dX7_cut_18 : decode cX7_cut 18 = .ok (.iload_n 2, 1) := by decide +kernel
theorem dX7_cut_19 : decode cX7_cut 19 = .ok (.bipush 40, 2) := by decide +kernel
theorem dX7_cut_21 : decode cX7_cut 21 = .ok (.if_icmp .gt 59, 3) := by decide +kernel
theorem dX7_cut_24 : decode cX7_cut 24 = .ok (.aload_n 0, 1) := by decide +kernel
theorem dX7_cut_25 : decode cX7_cut 25 = .ok (.iload_n 2, 1) := by decide +kernel
theorem dX7_cut_26 : decode cX7_cut 26 = .ok (.invokevirtual 99, 3) := by decide +kernel
theorem dX7_cut_29 : decode cX7_cut 29 = .ok (.istore_n 3, 1) := by decide +kernel
theorem dX7_cut_30 : decode cX7_cut 30 = .ok (.aload_n 0, 1) := by decide +kernel
theorem dX7_cut_31 : decode cX7_cut 31 = .ok (.getfield 29, 3) := by decide +kernel
theorem dX7_cut_34 : decode cX7_cut 34 = .ok (.iload_n 1, 1) := by decide +kernel
theorem dX7_cut_35 : decode cX7_cut 35 = .ok (.invokevirtual 147, 3) := by decide +kernel
theorem dX7_cut_38 : decode cX7_cut 38 = .ok (.istore 4, 2) := by decide +kernel
theorem dX7_cut_40 : decode cX7_cut 40 = .ok (.iload 4, 2) := by decide +kernel
theorem dX7_cut_42 : decode cX7_cut 42 = .ok (.ifCond .le 32, 3) := by decide +kernel
theorem dX7_cut_45 : decode cX7_cut 45 = .ok (.aload_n 0, 1) := by decide +kernel
theorem dX7_cut_46 : decode cX7_cut 46 = .ok (.getfield 19, 3) := by decide +kernel
theorem dX7_cut_49 : decode cX7_cut 49 = .ok (.iload 4, 2) := by decide +kernel
theorem dX7_cut_51 : decode cX7_cut 51 = .ok (.iload_n 3, 1) := by decide +kernel
theorem dX7_cut_52 : decode cX7_cut 52 = .ok (.invokevirtual 126, 3) := by decide +kernel
theorem dX7_cut_55 : decode cX7_cut 55 = .ok (.aload_n 0, 1) := by decide +kernel
theorem dX7_cut_56 : decode cX7_cut 56 = .ok (.getfield 19, 3) := by decide +kernel
theorem dX7_cut_59 : decode cX7_cut 59 = .ok (.iload_n 1, 1) := by decide +kernel
theorem dX7_cut_60 : decode cX7_cut 60 = .ok (.invokevirtual 144, 3) := by decide +kernel
theorem dX7_cut_63 : decode cX7_cut 63 = .ok (.if_icmp .le 5, 3) := by decide +kernel
theorem dX7_cut_66 : decode cX7_cut 66 = .ok (.iload_n 2, 1) := by decide +kernel
theorem dX7_cut_67 : decode cX7_cut 67 = .ok (.ireturn, 1) := by decide +kernel
theorem dX7_cut_68 : decode cX7_cut 68 = .ok (.iinc 4 (-1), 3) := by decide +kernel
theorem dX7_cut_71 : decode cX7_cut 71 = .ok (.goto (-31), 3) := by decide +kernel
theorem dX7_cut_74 : decode cX7_cut 74 = .ok (.iinc 2 1, 3) := by decide +kernel
theorem dX7_cut_77 : decode cX7_cut 77 = .ok (.goto (-59), 3) := by decide +kernel
theorem dX7_cut_80 : decode cX7_cut 80 = .ok (.bipush (-9), 2) := by decide +kernel
theorem dX7_cut_82 : decode cX7_cut 82 = .ok (.ireturn, 1) := by decide +kernel
theorem dX7_judged_0 : decode cX7_judged 0 = .ok (.aload_n 0, 1) := by decide +kernel
theorem dX7_judged_1 : decode cX7_judged 1 = .ok (.iload_n 1, 1) := by decide +kernel
theorem dX7_judged_2 : decode cX7_judged 2 = .ok (.invokevirtual 138, 3) := by decide +kernel
theorem dX7_judged_5 : decode cX7_judged 5 = .ok (.ifCond .ne 5, 3) := by decide +kernel
theorem dX7_judged_8 : decode cX7_judged 8 = .ok (.iconst (-1), 1) := by decide +kernel
theorem dX7_judged_9 : decode cX7_judged 9 = .ok (.ireturn, 1) := by decide +kernel
theorem dX7_judged_10 : decode cX7_judged 10 = .ok (.iload_n 2, 1) := by decide +kernel
theorem dX7_judged_11 : decode cX7_judged 11 = .ok (.iconst 1, 1) := by decide +kernel
theorem dX7_judged_12 : decode cX7_judged 12 = .ok (.if_icmp .lt 23, 3) := by decide +kernel
theorem dX7_judged_15 : decode cX7_judged 15 = .ok (.iload_n 2, 1) := by decide +kernel
theorem dX7_judged_16 : decode cX7_judged 16 = .ok (.bipush 8, 2) := by decide +kernel
theorem dX7_judged_18 : decode cX7_judged 18 = .ok (.if_icmp .gt 17, 3) := by decide +kernel
theorem dX7_judged_21 : decode cX7_judged 21 = .ok (.iload_n 3, 1) := by decide +kernel
theorem dX7_judged_22 : decode cX7_judged 22 = .ok (.ifCond .lt 13, 3) := by decide +kernel
theorem dX7_judged_25 : decode cX7_judged 25 = .ok (.iload_n 3, 1) := by decide +kernel
theorem dX7_judged_26 : decode cX7_judged 26 = .ok (.bipush 10, 2) := by decide +kernel
theorem dX7_judged_28 : decode cX7_judged 28 = .ok (.iload_n 2, 1) := by decide +kernel
theorem dX7_judged_29 : decode cX7_judged 29 = .ok (.invokestatic 203, 3) := by decide +kernel
theorem dX7_judged_32 : decode cX7_judged 32 = .ok (.if_icmp .lt 6, 3) := by decide +kernel
theorem dX7_judged_35 : decode cX7_judged 35 = .ok (.bipush (-2), 2) := by decide +kernel
theorem dX7_judged_37 : decode cX7_judged 37 = .ok (.ireturn, 1) := by decide +kernel
theorem dX7_judged_38 : decode cX7_judged 38 = .ok (.aload_n 0, 1) := by decide +kernel
theorem dX7_judged_39 : decode cX7_judged 39 = .ok (.getfield 56, 3) := by decide +kernel
theorem dX7_judged_42 : decode cX7_judged 42 = .ok (.aload_n 0, 1) := by decide +kernel
theorem dX7_judged_43 : decode cX7_judged 43 = .ok (.getfield 19, 3) := by decide +kernel
theorem dX7_judged_46 : decode cX7_judged 46 = .ok (.iload_n 1, 1) := by decide +kernel
theorem dX7_judged_47 : decode cX7_judged 47 = .ok (.aload_n 0, 1) := by decide +kernel
theorem dX7_judged_48 : decode cX7_judged 48 = .ok (.getfield 29, 3) := by decide +kernel
theorem dX7_judged_51 : decode cX7_judged 51 = .ok (.iload_n 1, 1) := by decide +kernel
theorem dX7_judged_52 : decode cX7_judged 52 = .ok (.invokevirtual 147, 3) := by decide +kernel
theorem dX7_judged_55 : decode cX7_judged 55 = .ok (.aload_n 0, 1) := by decide +kernel
theorem dX7_judged_56 : decode cX7_judged 56 = .ok (.getfield 29, 3) := by decide +kernel
theorem dX7_judged_59 : decode cX7_judged 59 = .ok (.invokevirtual 95, 3) := by decide +kernel
theorem dX7_judged_62 : decode cX7_judged 62 = .ok (.invokevirtual 206, 3) := by decide +kernel
theorem dX7_judged_65 : decode cX7_judged 65 = .ok (.aload_n 0, 1) := by decide +kernel
theorem dX7_judged_66 : decode cX7_judged 66 = .ok (.getfield 56, 3) := by decide +kernel
theorem dX7_judged_69 : decode cX7_judged 69 = .ok (.aload_n 0, 1) := by decide +kernel
theorem dX7_judged_70 : decode cX7_judged 70 = .ok (.getfield 29, 3) := by decide +kernel
theorem dX7_judged_73 : decode cX7_judged 73 = .ok (.iload_n 1, 1) := by decide +kernel
theorem dX7_judged_74 : decode cX7_judged 74 = .ok (.invokevirtual 153, 3) := by decide +kernel
theorem dX7_judged_77 : decode cX7_judged 77 = .ok (.putfield 210, 3) := by decide +kernel
theorem dX7_judged_80 : decode cX7_judged 80 = .ok (.iconst 0, 1) := by decide +kernel
theorem dX7_judged_81 : decode cX7_judged 81 = .ok (.istore 4, 2) := by decide +kernel
theorem dX7_judged_83 : decode cX7_judged 83 = .ok (.iload 4, 2) := by decide +kernel
theorem dX7_judged_85 : decode cX7_judged 85 = .ok (.iload_n 2, 1) := by decide +kernel
theorem dX7_judged_86 : decode cX7_judged 86 = .ok (.if_icmp .ge 78, 3) := by decide +kernel
theorem dX7_judged_89 : decode cX7_judged 89 = .ok (.iload_n 3, 1) := by decide +kernel
theorem dX7_judged_90 : decode cX7_judged 90 = .ok (.iload_n 2, 1) := by decide +kernel
theorem dX7_judged_91 : decode cX7_judged 91 = .ok (.iconst 1, 1) := by decide +kernel
theorem dX7_judged_92 : decode cX7_judged 92 = .ok (.isub, 1) := by decide +kernel
theorem dX7_judged_93 : decode cX7_judged 93 = .ok (.iload 4, 2) := by decide +kernel
theorem dX7_judged_95 : decode cX7_judged 95 = .ok (.isub, 1) := by decide +kernel
theorem dX7_judged_96 : decode cX7_judged 96 = .ok (.invokestatic 213, 3) := by decide +kernel
theorem dX7_judged_99 : decode cX7_judged 99 = .ok (.istore 5, 2) := by decide +kernel
theorem dX7_judged_101 : decode cX7_judged 101 = .ok (.iload 5, 2) := by decide +kernel
theorem dX7_judged_103 : decode cX7_judged 103 = .ok (.iconst 2, 1) := by decide +kernel
theorem dX7_judged_104 : decode cX7_judged 104 = .ok (.if_icmp .gt 25, 3) := by decide +kernel
theorem dX7_judged_107 : decode cX7_judged 107 = .ok (.aload_n 0, 1) := by decide +kernel
theorem dX7_judged_108 : decode cX7_judged 108 = .ok (.getfield 56, 3) := by decide +kernel
theorem dX7_judged_111 : decode cX7_judged 111 = .ok (.getfield 210, 3) := by decide +kernel
theorem dX7_judged_114 : decode cX7_judged 114 = .ok (.ifCond .ne 15, 3) := by decide +kernel
theorem dX7_judged_117 : decode cX7_judged 117 = .ok (.aload_n 0, 1) := by decide +kernel
theorem dX7_judged_118 : decode cX7_judged 118 = .ok (.getfield 56, 3) := by decide +kernel
theorem dX7_judged_121 : decode cX7_judged 121 = .ok (.getfield 216, 3) := by decide +kernel
theorem dX7_judged_124 : decode cX7_judged 124 = .ok (.bipush 40, 2) := by decide +kernel
theorem dX7_judged_126 : decode cX7_judged 126 = .ok (.if_icmp .lt 6, 3) := by decide +kernel
theorem dX7_judged_129 : decode cX7_judged 129 = .ok (.iload 4, 2) := by decide +kernel
theorem dX7_judged_131 : decode cX7_judged 131 = .ok (.ireturn, 1) := by decide +kernel
theorem dX7_judged_132 : decode cX7_judged 132 = .ok (.aload_n 0, 1) := by decide +kernel
theorem dX7_judged_133 : decode cX7_judged 133 = .ok (.getfield 56, 3) := by decide +kernel
theorem dX7_judged_136 : decode cX7_judged 136 = .ok (.aload_n 0, 1) := by decide +kernel
theorem dX7_judged_137 : decode cX7_judged 137 = .ok (.getfield 19, 3) := by decide +kernel
theorem dX7_judged_140 : decode cX7_judged 140 = .ok (.iload 5, 2) := by decide +kernel
theorem dX7_judged_142 : decode cX7_judged 142 = .ok (.invokevirtual 219, 3) := by decide +kernel
theorem dX7_judged_145 : decode cX7_judged 145 = .ok (.aload_n 0, 1) := by decide +kernel
theorem dX7_judged_146 : decode cX7_judged 146 = .ok (.getfield 56, 3) := by decide +kernel
theorem dX7_judged_149 : decode cX7_judged 149 = .ok (.invokevirtual 223, 3) := by decide +kernel
theorem dX7_judged_152 : decode cX7_judged 152 = .ok (.ifCond .eq 6, 3) := by decide +kernel
theorem dX7_judged_155 : decode cX7_judged 155 = .ok (.iload 4, 2) := by decide +kernel
theorem dX7_judged_157 : decode cX7_judged 157 = .ok (.ireturn, 1) := by decide +kernel
theorem dX7_judged_158 : decode cX7_judged 158 = .ok (.iinc 4 1, 3) := by decide +kernel
theorem dX7_judged_161 : decode cX7_judged 161 = .ok (.goto (-78), 3) := by decide +kernel
theorem dX7_judged_164 : decode cX7_judged 164 = .ok (.bipush (-9), 2) := by decide +kernel
theorem dX7_judged_166 : decode cX7_judged 166 = .ok (.ireturn, 1) := by decide +kernel
theorem dX7_ahead_0 : decode cX7_ahead 0 = .ok (.aload_n 0, 1) := by decide +kernel
theorem dX7_ahead_1 : decode cX7_ahead 1 = .ok (.getfield 19, 3) := by decide +kernel
theorem dX7_ahead_4 : decode cX7_ahead 4 = .ok (.getfield 89, 3) := by decide +kernel
theorem dX7_ahead_7 : decode cX7_ahead 7 = .ok (.ifCond .ne 6, 3) := by decide +kernel
theorem dX7_ahead_10 : decode cX7_ahead 10 = .ok (.bipush (-3), 2) := by decide +kernel
theorem dX7_ahead_12 : decode cX7_ahead 12 = .ok (.ireturn, 1) := by decide +kernel
theorem dX7_ahead_13 : decode cX7_ahead 13 = .ok (.aload_n 0, 1) := by decide +kernel
theorem dX7_ahead_14 : decode cX7_ahead 14 = .ok (.invokevirtual 227, 3) := by decide +kernel
theorem dX7_ahead_17 : decode cX7_ahead 17 = .ok (.ireturn, 1) := by decide +kernel
theorem dX7_aheadOf_0 : decode cX7_aheadOf 0 = .ok (.aload_n 0, 1) := by decide +kernel
theorem dX7_aheadOf_1 : decode cX7_aheadOf 1 = .ok (.iload_n 1, 1) := by decide +kernel
theorem dX7_aheadOf_2 : decode cX7_aheadOf 2 = .ok (.invokevirtual 138, 3) := by decide +kernel
theorem dX7_aheadOf_5 : decode cX7_aheadOf 5 = .ok (.ifCond .ne 5, 3) := by decide +kernel
theorem dX7_aheadOf_8 : decode cX7_aheadOf 8 = .ok (.iconst (-1), 1) := by decide +kernel
theorem dX7_aheadOf_9 : decode cX7_aheadOf 9 = .ok (.ireturn, 1) := by decide +kernel
theorem dX7_aheadOf_10 : decode cX7_aheadOf 10 = .ok (.aload_n 0, 1) := by decide +kernel
theorem dX7_aheadOf_11 : decode cX7_aheadOf 11 = .ok (.invokevirtual 227, 3) := by decide +kernel
theorem dX7_aheadOf_14 : decode cX7_aheadOf 14 = .ok (.istore_n 2, 1) := by decide +kernel
theorem dX7_aheadOf_15 : decode cX7_aheadOf 15 = .ok (.iload_n 2, 1) := by decide +kernel
theorem dX7_aheadOf_16 : decode cX7_aheadOf 16 = .ok (.bipush (-9), 2) := by decide +kernel
theorem dX7_aheadOf_18 : decode cX7_aheadOf 18 = .ok (.if_icmp .ne 6, 3) := by decide +kernel
theorem dX7_aheadOf_21 : decode cX7_aheadOf 21 = .ok (.bipush (-9), 2) := by decide +kernel
theorem dX7_aheadOf_23 : decode cX7_aheadOf 23 = .ok (.ireturn, 1) := by decide +kernel
theorem dX7_aheadOf_24 : decode cX7_aheadOf 24 = .ok (.bipush 40, 2) := by decide +kernel
theorem dX7_aheadOf_26 : decode cX7_aheadOf 26 = .ok (.istore_n 3, 1) := by decide +kernel
theorem dX7_aheadOf_27 : decode cX7_aheadOf 27 = .ok (.iload_n 3, 1) := by decide +kernel
theorem dX7_aheadOf_28 : decode cX7_aheadOf 28 = .ok (.ifCond .lt 23, 3) := by decide +kernel
theorem dX7_aheadOf_31 : decode cX7_aheadOf 31 = .ok (.aload_n 0, 1) := by decide +kernel
theorem dX7_aheadOf_32 : decode cX7_aheadOf 32 = .ok (.iload_n 1, 1) := by decide +kernel
theorem dX7_aheadOf_33 : decode cX7_aheadOf 33 = .ok (.iconst 0, 1) := by decide +kernel
theorem dX7_aheadOf_34 : decode cX7_aheadOf 34 = .ok (.iload_n 3, 1) := by decide +kernel
theorem dX7_aheadOf_35 : decode cX7_aheadOf 35 = .ok (.iconst 1, 1) := by decide +kernel
theorem dX7_aheadOf_36 : decode cX7_aheadOf 36 = .ok (.invokevirtual 185, 3) := by decide +kernel
theorem dX7_aheadOf_39 : decode cX7_aheadOf 39 = .ok (.iload_n 2, 1) := by decide +kernel
theorem dX7_aheadOf_40 : decode cX7_aheadOf 40 = .ok (.if_icmp .ne 5, 3) := by decide +kernel
theorem dX7_aheadOf_43 : decode cX7_aheadOf 43 = .ok (.iload_n 3, 1) := by decide +kernel
theorem dX7_aheadOf_44 : decode cX7_aheadOf 44 = .ok (.ireturn, 1) := by decide +kernel
theorem dX7_aheadOf_45 : decode cX7_aheadOf 45 = .ok (.iinc 3 (-1), 3) := by decide +kernel
theorem dX7_aheadOf_48 : decode cX7_aheadOf 48 = .ok (.goto (-21), 3) := by decide +kernel
theorem dX7_aheadOf_51 : decode cX7_aheadOf 51 = .ok (.bipush (-9), 2) := by decide +kernel
theorem dX7_aheadOf_53 : decode cX7_aheadOf 53 = .ok (.ireturn, 1) := by decide +kernel
theorem dX7_saved_0 : decode cX7_saved 0 = .ok (.iconst 0, 1) := by decide +kernel
theorem dX7_saved_1 : decode cX7_saved 1 = .ok (.istore_n 1, 1) := by decide +kernel
theorem dX7_saved_2 : decode cX7_saved 2 = .ok (.iconst 0, 1) := by decide +kernel
theorem dX7_saved_3 : decode cX7_saved 3 = .ok (.istore_n 2, 1) := by decide +kernel
theorem dX7_saved_4 : decode cX7_saved 4 = .ok (.iconst 0, 1) := by decide +kernel
theorem dX7_saved_5 : decode cX7_saved 5 = .ok (.istore_n 3, 1) := by decide +kernel
theorem dX7_saved_6 : decode cX7_saved 6 = .ok (.iload_n 3, 1) := by decide +kernel
theorem dX7_saved_7 : decode cX7_saved 7 = .ok (.aload_n 0, 1) := by decide +kernel
theorem dX7_saved_8 : decode cX7_saved 8 = .ok (.getfield 19, 3) := by decide +kernel
theorem dX7_saved_11 : decode cX7_saved 11 = .ok (.getfield 89, 3) := by decide +kernel
theorem dX7_saved_14 : decode cX7_saved 14 = .ok (.if_icmp .ge 82, 3) := by decide +kernel
theorem dX7_saved_17 : decode cX7_saved 17 = .ok (.aload_n 0, 1) := by decide +kernel
theorem dX7_saved_18 : decode cX7_saved 18 = .ok (.getfield 29, 3) := by decide +kernel
theorem dX7_saved_21 : decode cX7_saved 21 = .ok (.iload_n 3, 1) := by decide +kernel
theorem dX7_saved_22 : decode cX7_saved 22 = .ok (.invokevirtual 153, 3) := by decide +kernel
theorem dX7_saved_25 : decode cX7_saved 25 = .ok (.istore 4, 2) := by decide +kernel
theorem dX7_saved_27 : decode cX7_saved 27 = .ok (.iload 4, 2) := by decide +kernel
theorem dX7_saved_29 : decode cX7_saved 29 = .ok (.iconst 1, 1) := by decide +kernel
theorem dX7_saved_30 : decode cX7_saved 30 = .ok (.if_icmp .eq 9, 3) := by decide +kernel
theorem dX7_saved_33 : decode cX7_saved 33 = .ok (.iload 4, 2) := by decide +kernel
theorem dX7_saved_35 : decode cX7_saved 35 = .ok (.iconst 4, 1) := by decide +kernel
theorem dX7_saved_36 : decode cX7_saved 36 = .ok (.if_icmp .ne 9, 3) := by decide +kernel
theorem dX7_saved_39 : decode cX7_saved 39 = .ok (.iinc 1 1, 3) := by decide +kernel
theorem dX7_saved_42 : decode cX7_saved 42 = .ok (.goto 48, 3) := by decide +kernel
theorem dX7_saved_45 : decode cX7_saved 45 = .ok (.iload 4, 2) := by decide +kernel
theorem dX7_saved_47 : decode cX7_saved 47 = .ok (.ifCond .ne 32, 3) := by decide +kernel
theorem dX7_saved_50 : decode cX7_saved 50 = .ok (.aload_n 0, 1) := by decide +kernel
theorem dX7_saved_51 : decode cX7_saved 51 = .ok (.iload_n 3, 1) := by decide +kernel
theorem dX7_saved_52 : decode cX7_saved 52 = .ok (.aload_n 0, 1) := by decide +kernel
theorem dX7_saved_53 : decode cX7_saved 53 = .ok (.getfield 29, 3) := by decide +kernel
theorem dX7_saved_56 : decode cX7_saved 56 = .ok (.iload_n 3, 1) := by decide +kernel
theorem dX7_saved_57 : decode cX7_saved 57 = .ok (.invokevirtual 147, 3) := by decide +kernel
theorem dX7_saved_60 : decode cX7_saved 60 = .ok (.aload_n 0, 1) := by decide +kernel
theorem dX7_saved_61 : decode cX7_saved 61 = .ok (.getfield 29, 3) := by decide +kernel
theorem dX7_saved_64 : decode cX7_saved 64 = .ok (.invokevirtual 95, 3) := by decide +kernel
theorem dX7_saved_67 : decode cX7_saved 67 = .ok (.invokevirtual 200, 3) := by decide +kernel
theorem dX7_saved_70 : decode cX7_saved 70 = .ok (.ifCond .eq 9, 3) := by decide +kernel
theorem dX7_saved_73 : decode cX7_saved 73 = .ok (.iinc 1 1, 3) := by decide +kernel
theorem dX7_saved_76 : decode cX7_saved 76 = .ok (.goto 14, 3) := by decide +kernel
theorem dX7_saved_79 : decode cX7_saved 79 = .ok (.iload 4, 2) := by decide +kernel
theorem dX7_saved_81 : decode cX7_saved 81 = .ok (.ifCond .ne 9, 3) := by decide +kernel
theorem dX7_saved_84 : decode cX7_saved 84 = .ok (.iload_n 2, 1) := by decide +kernel
theorem dX7_saved_85 : decode cX7_saved 85 = .ok (.iconst 1, 1) := by decide +kernel
theorem dX7_saved_86 : decode cX7_saved 86 = .ok (.iload_n 3, 1) := by decide +kernel
theorem dX7_saved_87 : decode cX7_saved 87 = .ok (.ishl, 1) := by decide +kernel
theorem dX7_saved_88 : decode cX7_saved 88 = .ok (.ior, 1) := by decide +kernel
theorem dX7_saved_89 : decode cX7_saved 89 = .ok (.istore_n 2, 1) := by decide +kernel
theorem dX7_saved_90 : decode cX7_saved 90 = .ok (.iinc 3 1, 3) := by decide +kernel
theorem dX7_saved_93 : decode cX7_saved 93 = .ok (.goto (-87), 3) := by decide +kernel
theorem dX7_saved_96 : decode cX7_saved 96 = .ok (.iconst 1, 1) := by decide +kernel
theorem dX7_saved_97 : decode cX7_saved 97 = .ok (.istore_n 3, 1) := by decide +kernel
theorem dX7_saved_98 : decode cX7_saved 98 = .ok (.iload_n 3, 1) := by decide +kernel
theorem dX7_saved_99 : decode cX7_saved 99 = .ok (.bipush 9, 2) := by decide +kernel
theorem dX7_saved_101 : decode cX7_saved 101 = .ok (.if_icmp .ge 29, 3) := by decide +kernel
theorem dX7_saved_104 : decode cX7_saved 104 = .ok (.iload_n 1, 1) := by decide +kernel
theorem dX7_saved_105 : decode cX7_saved 105 = .ok (.aload_n 0, 1) := by decide +kernel
theorem dX7_saved_106 : decode cX7_saved 106 = .ok (.iload_n 3, 1) := by decide +kernel
theorem dX7_saved_107 : decode cX7_saved 107 = .ok (.invokevirtual 176, 3) := by decide +kernel
theorem dX7_saved_110 : decode cX7_saved 110 = .ok (.aload_n 0, 1) := by decide +kernel
theorem dX7_saved_111 : decode cX7_saved 111 = .ok (.getfield 29, 3) := by decide +kernel
theorem dX7_saved_114 : decode cX7_saved 114 = .ok (.iload_n 3, 1) := by decide +kernel
theorem dX7_saved_115 : decode cX7_saved 115 = .ok (.iload_n 2, 1) := by decide +kernel
theorem dX7_saved_116 : decode cX7_saved 116 = .ok (.invokevirtual 230, 3) := by decide +kernel
theorem dX7_saved_119 : decode cX7_saved 119 = .ok (.invokestatic 233, 3) := by decide +kernel
theorem dX7_saved_122 : decode cX7_saved 122 = .ok (.iadd, 1) := by decide +kernel
theorem dX7_saved_123 : decode cX7_saved 123 = .ok (.istore_n 1, 1) := by decide +kernel
theorem dX7_saved_124 : decode cX7_saved 124 = .ok (.iinc 3 1, 3) := by decide +kernel
theorem dX7_saved_127 : decode cX7_saved 127 = .ok (.goto (-29), 3) := by decide +kernel
theorem dX7_saved_130 : decode cX7_saved 130 = .ok (.iload_n 1, 1) := by decide +kernel
theorem dX7_saved_131 : decode cX7_saved 131 = .ok (.ireturn, 1) := by decide +kernel
theorem dX7_channel_0 : decode cX7_channel 0 = .ok (.iload_n 1, 1) := by decide +kernel
theorem dX7_channel_1 : decode cX7_channel 1 = .ok (.invokestatic 238, 3) := by decide +kernel
theorem dX7_channel_4 : decode cX7_channel 4 = .ok (.ifCond .eq 30, 3) := by decide +kernel
theorem dX7_channel_7 : decode cX7_channel 7 = .ok (.iload_n 2, 1) := by decide +kernel
theorem dX7_channel_8 : decode cX7_channel 8 = .ok (.invokestatic 238, 3) := by decide +kernel
theorem dX7_channel_11 : decode cX7_channel 11 = .ok (.ifCond .eq 23, 3) := by decide +kernel
theorem dX7_channel_14 : decode cX7_channel 14 = .ok (.iload_n 3, 1) := by decide +kernel
theorem dX7_channel_15 : decode cX7_channel 15 = .ok (.iload 4, 2) := by decide +kernel
theorem dX7_channel_17 : decode cX7_channel 17 = .ok (.invokestatic 241, 3) := by decide +kernel
theorem dX7_channel_20 : decode cX7_channel 20 = .ok (.ifCond .eq 14, 3) := by decide +kernel
theorem dX7_channel_23 : decode cX7_channel 23 = .ok (.iload 5, 2) := by decide +kernel
theorem dX7_channel_25 : decode cX7_channel 25 = .ok (.ifCond .lt 9, 3) := by decide +kernel
theorem dX7_channel_28 : decode cX7_channel 28 = .ok (.iload 5, 2) := by decide +kernel
theorem dX7_channel_30 : decode cX7_channel 30 = .ok (.iconst 5, 1) := by decide +kernel
theorem dX7_channel_31 : decode cX7_channel 31 = .ok (.if_icmp .le 6, 3) := by decide +kernel
theorem dX7_channel_34 : decode cX7_channel 34 = .ok (.bipush (-2), 2) := by decide +kernel
theorem dX7_channel_36 : decode cX7_channel 36 = .ok (.ireturn, 1) := by decide +kernel
theorem dX7_channel_37 : decode cX7_channel 37 = .ok (.aload_n 0, 1) := by decide +kernel
theorem dX7_channel_38 : decode cX7_channel 38 = .ok (.getfield 63, 3) := by decide +kernel
theorem dX7_channel_41 : decode cX7_channel 41 = .ok (.iload_n 1, 1) := by decide +kernel
theorem dX7_channel_42 : decode cX7_channel 42 = .ok (.iload_n 2, 1) := by decide +kernel
theorem dX7_channel_43 : decode cX7_channel 43 = .ok (.iload_n 3, 1) := by decide +kernel
theorem dX7_channel_44 : decode cX7_channel 44 = .ok (.iload 4, 2) := by decide +kernel
theorem dX7_channel_46 : decode cX7_channel 46 = .ok (.iload 5, 2) := by decide +kernel
theorem dX7_channel_48 : decode cX7_channel 48 = .ok (.invokevirtual 245, 3) := by decide +kernel
theorem dX7_channel_51 : decode cX7_channel 51 = .ok (.bipush 10, 2) := by decide +kernel
theorem dX7_channel_53 : decode cX7_channel 53 = .ok (.iload 5, 2) := by decide +kernel
theorem dX7_channel_55 : decode cX7_channel 55 = .ok (.invokestatic 203, 3) := by decide +kernel
theorem dX7_channel_58 : decode cX7_channel 58 = .ok (.iload 6, 2) := by decide +kernel
theorem dX7_channel_60 : decode cX7_channel 60 = .ok (.invokestatic 249, 3) := by decide +kernel
theorem dX7_channel_63 : decode cX7_channel 63 = .ok (.ireturn, 1) := by decide +kernel
theorem dX7_sticks_0 : decode cX7_sticks 0 = .ok (.iload_n 1, 1) := by decide +kernel
theorem dX7_sticks_1 : decode cX7_sticks 1 = .ok (.iconst 1, 1) := by decide +kernel
theorem dX7_sticks_2 : decode cX7_sticks 2 = .ok (.if_icmp .lt 29, 3) := by decide +kernel
theorem dX7_sticks_5 : decode cX7_sticks 5 = .ok (.iload_n 1, 1) := by decide +kernel
theorem dX7_sticks_6 : decode cX7_sticks 6 = .ok (.bipush 6, 2) := by decide +kernel
theorem dX7_sticks_8 : decode cX7_sticks 8 = .ok (.if_icmp .gt 23, 3) := by decide +kernel
theorem dX7_sticks_11 : decode cX7_sticks 11 = .ok (.iload_n 2, 1) := by decide +kernel
theorem dX7_sticks_12 : decode cX7_sticks 12 = .ok (.ifCond .lt 19, 3) := by decide +kernel
theorem dX7_sticks_15 : decode cX7_sticks 15 = .ok (.iload_n 2, 1) := by decide +kernel
theorem dX7_sticks_16 : decode cX7_sticks 16 = .ok (.bipush 10, 2) := by decide +kernel
theorem dX7_sticks_18 : decode cX7_sticks 18 = .ok (.if_icmp .gt 13, 3) := by decide +kernel
theorem dX7_sticks_21 : decode cX7_sticks 21 = .ok (.iload_n 3, 1) := by decide +kernel
theorem dX7_sticks_22 : decode cX7_sticks 22 = .ok (.ifCond .lt 9, 3) := by decide +kernel
theorem dX7_sticks_25 : decode cX7_sticks 25 = .ok (.iload_n 3, 1) := by decide +kernel
theorem dX7_sticks_26 : decode cX7_sticks 26 = .ok (.bipush 9, 2) := by decide +kernel
theorem dX7_sticks_28 : decode cX7_sticks 28 = .ok (.if_icmp .le 6, 3) := by decide +kernel
theorem dX7_sticks_31 : decode cX7_sticks 31 = .ok (.bipush (-2), 2) := by decide +kernel
theorem dX7_sticks_33 : decode cX7_sticks 33 = .ok (.ireturn, 1) := by decide +kernel
theorem dX7_sticks_34 : decode cX7_sticks 34 = .ok (.iconst 0, 1) := by decide +kernel
theorem dX7_sticks_35 : decode cX7_sticks 35 = .ok (.iload_n 2, 1) := by decide +kernel
theorem dX7_sticks_36 : decode cX7_sticks 36 = .ok (.iload_n 3, 1) := by decide +kernel
theorem dX7_sticks_37 : decode cX7_sticks 37 = .ok (.isub, 1) := by decide +kernel
theorem dX7_sticks_38 : decode cX7_sticks 38 = .ok (.invokestatic 253, 3) := by decide +kernel
theorem dX7_sticks_41 : decode cX7_sticks 41 = .ok (.istore 5, 2) := by decide +kernel
theorem dX7_sticks_43 : decode cX7_sticks 43 = .ok (.iconst 0, 1) := by decide +kernel
theorem dX7_sticks_44 : decode cX7_sticks 44 = .ok (.istore 6, 2) := by decide +kernel
theorem dX7_sticks_46 : decode cX7_sticks 46 = .ok (.iload_n 1, 1) := by decide +kernel
theorem dX7_sticks_47 : decode cX7_sticks 47 = .ok (.iconst 2, 1) := by decide +kernel
theorem dX7_sticks_48 : decode cX7_sticks 48 = .ok (.idiv, 1) := by decide +kernel
theorem dX7_sticks_49 : decode cX7_sticks 49 = .ok (.iconst 1, 1) := by decide +kernel
theorem dX7_sticks_50 : decode cX7_sticks 50 = .ok (.iadd, 1) := by decide +kernel
theorem dX7_sticks_51 : decode cX7_sticks 51 = .ok (.istore 7, 2) := by decide +kernel
theorem dX7_sticks_53 : decode cX7_sticks 53 = .ok (.iload 7, 2) := by decide +kernel
theorem dX7_sticks_55 : decode cX7_sticks 55 = .ok (.iload_n 1, 1) := by decide +kernel
theorem dX7_sticks_56 : decode cX7_sticks 56 = .ok (.if_icmp .gt 41, 3) := by decide +kernel
theorem dX7_sticks_59 : decode cX7_sticks 59 = .ok (.iload 6, 2) := by decide +kernel
theorem dX7_sticks_61 : decode cX7_sticks 61 = .ok (.iload_n 1, 1) := by decide +kernel
theorem dX7_sticks_62 : decode cX7_sticks 62 = .ok (.iload 7, 2) := by decide +kernel
theorem dX7_sticks_64 : decode cX7_sticks 64 = .ok (.invokestatic 256, 3) := by decide +kernel
theorem dX7_sticks_67 : decode cX7_sticks 67 = .ok (.iload 5, 2) := by decide +kernel
theorem dX7_sticks_69 : decode cX7_sticks 69 = .ok (.iload 7, 2) := by decide +kernel
theorem dX7_sticks_71 : decode cX7_sticks 71 = .ok (.invokestatic 203, 3) := by decide +kernel
theorem dX7_sticks_74 : decode cX7_sticks 74 = .ok (.imul, 1) := by decide +kernel
theorem dX7_sticks_75 : decode cX7_sticks 75 = .ok (.bipush 10, 2) := by decide +kernel
theorem dX7_sticks_77 : decode cX7_sticks 77 = .ok (.iload 5, 2) := by decide +kernel
theorem dX7_sticks_79 : decode cX7_sticks 79 = .ok (.isub, 1) := by decide +kernel
theorem dX7_sticks_80 : decode cX7_sticks 80 = .ok (.iload_n 1, 1) := by decide +kernel
theorem dX7_sticks_81 : decode cX7_sticks 81 = .ok (.iload 7, 2) := by decide +kernel
theorem dX7_sticks_83 : decode cX7_sticks 83 = .ok (.isub, 1) := by decide +kernel
theorem dX7_sticks_84 : decode cX7_sticks 84 = .ok (.invokestatic 203, 3) := by decide +kernel
theorem dX7_sticks_87 : decode cX7_sticks 87 = .ok (.imul, 1) := by decide +kernel
theorem dX7_sticks_88 : decode cX7_sticks 88 = .ok (.iadd, 1) := by decide +kernel
theorem dX7_sticks_89 : decode cX7_sticks 89 = .ok (.istore 6, 2) := by decide +kernel
theorem dX7_sticks_91 : decode cX7_sticks 91 = .ok (.iinc 7 1, 3) := by decide +kernel
theorem dX7_sticks_94 : decode cX7_sticks 94 = .ok (.goto (-41), 3) := by decide +kernel
theorem dX7_sticks_97 : decode cX7_sticks 97 = .ok (.iload 6, 2) := by decide +kernel
theorem dX7_sticks_99 : decode cX7_sticks 99 = .ok (.bipush 10, 2) := by decide +kernel
theorem dX7_sticks_101 : decode cX7_sticks 101 = .ok (.iload_n 1, 1) := by decide +kernel
theorem dX7_sticks_102 : decode cX7_sticks 102 = .ok (.invokestatic 203, 3) := by decide +kernel
theorem dX7_sticks_105 : decode cX7_sticks 105 = .ok (.iload 4, 2) := by decide +kernel
theorem dX7_sticks_107 : decode cX7_sticks 107 = .ok (.invokestatic 249, 3) := by decide +kernel
theorem dX7_sticks_110 : decode cX7_sticks 110 = .ok (.ireturn, 1) := by decide +kernel
theorem dX7_wind_0 : decode cX7_wind 0 = .ok (.aload_n 0, 1) := by decide +kernel
theorem dX7_wind_1 : decode cX7_wind 1 = .ok (.iload_n 1, 1) := by decide +kernel
theorem dX7_wind_2 : decode cX7_wind 2 = .ok (.invokevirtual 138, 3) := by decide +kernel
theorem dX7_wind_5 : decode cX7_wind 5 = .ok (.ifCond .ne 5, 3) := by decide +kernel
theorem dX7_wind_8 : decode cX7_wind 8 = .ok (.iconst (-1), 1) := by decide +kernel
theorem dX7_wind_9 : decode cX7_wind 9 = .ok (.ireturn, 1) := by decide +kernel
theorem dX7_wind_10 : decode cX7_wind 10 = .ok (.iload_n 2, 1) := by decide +kernel
theorem dX7_wind_11 : decode cX7_wind 11 = .ok (.invokestatic 156, 3) := by decide +kernel
theorem dX7_wind_14 : decode cX7_wind 14 = .ok (.ifCond .eq 12, 3) := by decide +kernel
theorem dX7_wind_17 : decode cX7_wind 17 = .ok (.iload_n 3, 1) := by decide +kernel
theorem dX7_wind_18 : decode cX7_wind 18 = .ok (.iload 4, 2) := by decide +kernel
theorem dX7_wind_20 : decode cX7_wind 20 = .ok (.invokestatic 241, 3) := by decide +kernel
theorem dX7_wind_23 : decode cX7_wind 23 = .ok (.ifCond .ne 6, 3) := by decide +kernel
theorem dX7_wind_26 : decode cX7_wind 26 = .ok (.bipush (-2), 2) := by decide +kernel
theorem dX7_wind_28 : decode cX7_wind 28 = .ok (.ireturn, 1) := by decide +kernel
theorem dX7_wind_29 : decode cX7_wind 29 = .ok (.iconst 0, 1) := by decide +kernel
theorem dX7_wind_30 : decode cX7_wind 30 = .ok (.istore 6, 2) := by decide +kernel
theorem dX7_wind_32 : decode cX7_wind 32 = .ok (.aload_n 0, 1) := by decide +kernel
theorem dX7_wind_33 : decode cX7_wind 33 = .ok (.iload_n 1, 1) := by decide +kernel
theorem dX7_wind_34 : decode cX7_wind 34 = .ok (.iload_n 2, 1) := by decide +kernel
theorem dX7_wind_35 : decode cX7_wind 35 = .ok (.iconst 0, 1) := by decide +kernel
theorem dX7_wind_36 : decode cX7_wind 36 = .ok (.aload_n 0, 1) := by decide +kernel
theorem dX7_wind_37 : decode cX7_wind 37 = .ok (.getfield 19, 3) := by decide +kernel
theorem dX7_wind_40 : decode cX7_wind 40 = .ok (.getfield 103, 3) := by decide +kernel
theorem dX7_wind_43 : decode cX7_wind 43 = .ok (.iconst 1, 1) := by decide +kernel
theorem dX7_wind_44 : decode cX7_wind 44 = .ok (.isub, 1) := by decide +kernel
theorem dX7_wind_45 : decode cX7_wind 45 = .ok (.invokestatic 253, 3) := by decide +kernel
theorem dX7_wind_48 : decode cX7_wind 48 = .ok (.invokevirtual 259, 3) := by decide +kernel
theorem dX7_wind_51 : decode cX7_wind 51 = .ok (.ifCond .eq 9, 3) := by decide +kernel
theorem dX7_wind_54 : decode cX7_wind 54 = .ok (.iload 6, 2) := by decide +kernel
theorem dX7_wind_56 : decode cX7_wind 56 = .ok (.iload_n 3, 1) := by decide +kernel
theorem dX7_wind_57 : decode cX7_wind 57 = .ok (.iadd, 1) := by decide +kernel
theorem dX7_wind_58 : decode cX7_wind 58 = .ok (.istore 6, 2) := by decide +kernel
theorem dX7_wind_60 : decode cX7_wind 60 = .ok (.aload_n 0, 1) := by decide +kernel
theorem dX7_wind_61 : decode cX7_wind 61 = .ok (.iload_n 1, 1) := by decide +kernel
theorem dX7_wind_62 : decode cX7_wind 62 = .ok (.iload_n 2, 1) := by decide +kernel
theorem dX7_wind_63 : decode cX7_wind 63 = .ok (.bipush 40, 2) := by decide +kernel
theorem dX7_wind_65 : decode cX7_wind 65 = .ok (.aload_n 0, 1) := by decide +kernel
theorem dX7_wind_66 : decode cX7_wind 66 = .ok (.getfield 19, 3) := by decide +kernel
theorem dX7_wind_69 : decode cX7_wind 69 = .ok (.getfield 103, 3) := by decide +kernel
theorem dX7_wind_72 : decode cX7_wind 72 = .ok (.iconst 1, 1) := by decide +kernel
theorem dX7_wind_73 : decode cX7_wind 73 = .ok (.iadd, 1) := by decide +kernel
theorem dX7_wind_74 : decode cX7_wind 74 = .ok (.invokestatic 233, 3) := by decide +kernel
theorem dX7_wind_77 : decode cX7_wind 77 = .ok (.invokevirtual 259, 3) := by decide +kernel
theorem dX7_wind_80 : decode cX7_wind 80 = .ok (.ifCond .eq 10, 3) := by decide +kernel
theorem dX7_wind_83 : decode cX7_wind 83 = .ok (.iload 6, 2) := by decide +kernel
theorem dX7_wind_85 : decode cX7_wind 85 = .ok (.iload 4, 2) := by decide +kernel
theorem dX7_wind_87 : decode cX7_wind 87 = .ok (.iadd, 1) := by decide +kernel
theorem dX7_wind_88 : decode cX7_wind 88 = .ok (.istore 6, 2) := by decide +kernel
theorem dX7_wind_90 : decode cX7_wind 90 = .ok (.aload_n 0, 1) := by decide +kernel
theorem dX7_wind_91 : decode cX7_wind 91 = .ok (.iload_n 1, 1) := by decide +kernel
theorem dX7_wind_92 : decode cX7_wind 92 = .ok (.iload_n 2, 1) := by decide +kernel
theorem dX7_wind_93 : decode cX7_wind 93 = .ok (.aload_n 0, 1) := by decide +kernel
theorem dX7_wind_94 : decode cX7_wind 94 = .ok (.getfield 19, 3) := by decide +kernel
theorem dX7_wind_97 : decode cX7_wind 97 = .ok (.getfield 103, 3) := by decide +kernel
theorem dX7_wind_100 : decode cX7_wind 100 = .ok (.invokevirtual 259, 3) := by decide +kernel
theorem dX7_wind_103 : decode cX7_wind 103 = .ok (.ifCond .eq 15, 3) := by decide +kernel
theorem dX7_wind_106 : decode cX7_wind 106 = .ok (.iload 6, 2) := by decide +kernel
theorem dX7_wind_108 : decode cX7_wind 108 = .ok (.bipush 10, 2) := by decide +kernel
theorem dX7_wind_110 : decode cX7_wind 110 = .ok (.iload_n 3, 1) := by decide +kernel
theorem dX7_wind_111 : decode cX7_wind 111 = .ok (.isub, 1) := by decide +kernel
theorem dX7_wind_112 : decode cX7_wind 112 = .ok (.iload 4, 2) := by decide +kernel
theorem dX7_wind_114 : decode cX7_wind 114 = .ok (.isub, 1) := by decide +kernel
theorem dX7_wind_115 : decode cX7_wind 115 = .ok (.iadd, 1) := by decide +kernel
theorem dX7_wind_116 : decode cX7_wind 116 = .ok (.istore 6, 2) := by decide +kernel
theorem dX7_wind_118 : decode cX7_wind 118 = .ok (.iload 6, 2) := by decide +kernel
theorem dX7_wind_120 : decode cX7_wind 120 = .ok (.bipush 10, 2) := by decide +kernel
theorem dX7_wind_122 : decode cX7_wind 122 = .ok (.iload 5, 2) := by decide +kernel
theorem dX7_wind_124 : decode cX7_wind 124 = .ok (.invokestatic 249, 3) := by decide +kernel
theorem dX7_wind_127 : decode cX7_wind 127 = .ok (.ireturn, 1) := by decide +kernel
theorem dX7_seed_0 : decode cX7_seed 0 = .ok (.aload_n 0, 1) := by decide +kernel
theorem dX7_seed_1 : decode cX7_seed 1 = .ok (.getfield 67, 3) := by decide +kernel
theorem dX7_seed_4 : decode cX7_seed 4 = .ok (.lstore_n 3, 1) := by decide +kernel
theorem dX7_seed_5 : decode cX7_seed 5 = .ok (.aload_n 0, 1) := by decide +kernel
theorem dX7_seed_6 : decode cX7_seed 6 = .ok (.lload_n 1, 1) := by decide +kernel
theorem dX7_seed_7 : decode cX7_seed 7 = .ok (.putfield 67, 3) := by decide +kernel
theorem dX7_seed_10 : decode cX7_seed 10 = .ok (.lload_n 3, 1) := by decide +kernel
theorem dX7_seed_11 : decode cX7_seed 11 = .ok (.lreturn, 1) := by decide +kernel
theorem dX7_fog_0 : decode cX7_fog 0 = .ok (.aload_n 0, 1) := by decide +kernel
theorem dX7_fog_1 : decode cX7_fog 1 = .ok (.iload_n 1, 1) := by decide +kernel
theorem dX7_fog_2 : decode cX7_fog 2 = .ok (.invokevirtual 138, 3) := by decide +kernel
theorem dX7_fog_5 : decode cX7_fog 5 = .ok (.ifCond .ne 5, 3) := by decide +kernel
theorem dX7_fog_8 : decode cX7_fog 8 = .ok (.iconst (-1), 1) := by decide +kernel
theorem dX7_fog_9 : decode cX7_fog 9 = .ok (.ireturn, 1) := by decide +kernel
theorem dX7_fog_10 : decode cX7_fog 10 = .ok (.iload_n 2, 1) := by decide +kernel
theorem dX7_fog_11 : decode cX7_fog 11 = .ok (.invokestatic 156, 3) := by decide +kernel
theorem dX7_fog_14 : decode cX7_fog 14 = .ok (.ifCond .eq 22, 3) := by decide +kernel
theorem dX7_fog_17 : decode cX7_fog 17 = .ok (.iload_n 3, 1) := by decide +kernel
theorem dX7_fog_18 : decode cX7_fog 18 = .ok (.iconst 1, 1) := by decide +kernel
theorem dX7_fog_19 : decode cX7_fog 19 = .ok (.if_icmp .lt 17, 3) := by decide +kernel
theorem dX7_fog_22 : decode cX7_fog 22 = .ok (.iload_n 3, 1) := by decide +kernel
theorem dX7_fog_23 : decode cX7_fog 23 = .ok (.bipush 20, 2) := by decide +kernel
theorem dX7_fog_25 : decode cX7_fog 25 = .ok (.if_icmp .gt 11, 3) := by decide +kernel
theorem dX7_fog_28 : decode cX7_fog 28 = .ok (.iload_n 2, 1) := by decide +kernel
theorem dX7_fog_29 : decode cX7_fog 29 = .ok (.iload_n 3, 1) := by decide +kernel
theorem dX7_fog_30 : decode cX7_fog 30 = .ok (.iadd, 1) := by decide +kernel
theorem dX7_fog_31 : decode cX7_fog 31 = .ok (.bipush 40, 2) := by decide +kernel
theorem dX7_fog_33 : decode cX7_fog 33 = .ok (.if_icmp .le 6, 3) := by decide +kernel
theorem dX7_fog_36 : decode cX7_fog 36 = .ok (.bipush (-2), 2) := by decide +kernel
theorem dX7_fog_38 : decode cX7_fog 38 = .ok (.ireturn, 1) := by decide +kernel
theorem dX7_fog_39 : decode cX7_fog 39 = .ok (.aload_n 0, 1) := by decide +kernel
theorem dX7_fog_40 : decode cX7_fog 40 = .ok (.getfield 56, 3) := by decide +kernel
theorem dX7_fog_43 : decode cX7_fog 43 = .ok (.aload_n 0, 1) := by decide +kernel
theorem dX7_fog_44 : decode cX7_fog 44 = .ok (.getfield 19, 3) := by decide +kernel
theorem dX7_fog_47 : decode cX7_fog 47 = .ok (.iload_n 1, 1) := by decide +kernel
theorem dX7_fog_48 : decode cX7_fog 48 = .ok (.iconst 0, 1) := by decide +kernel
theorem dX7_fog_49 : decode cX7_fog 49 = .ok (.iload_n 2, 1) := by decide +kernel
theorem dX7_fog_50 : decode cX7_fog 50 = .ok (.invokevirtual 206, 3) := by decide +kernel
theorem dX7_fog_53 : decode cX7_fog 53 = .ok (.iconst 0, 1) := by decide +kernel
theorem dX7_fog_54 : decode cX7_fog 54 = .ok (.istore 4, 2) := by decide +kernel
theorem dX7_fog_56 : decode cX7_fog 56 = .ok (.iload 4, 2) := by decide +kernel
theorem dX7_fog_58 : decode cX7_fog 58 = .ok (.iload_n 3, 1) := by decide +kernel
theorem dX7_fog_59 : decode cX7_fog 59 = .ok (.if_icmp .ge 34, 3) := by decide +kernel
theorem dX7_fog_62 : decode cX7_fog 62 = .ok (.aload_n 0, 1) := by decide +kernel
theorem dX7_fog_63 : decode cX7_fog 63 = .ok (.getfield 56, 3) := by decide +kernel
theorem dX7_fog_66 : decode cX7_fog 66 = .ok (.getfield 210, 3) := by decide +kernel
theorem dX7_fog_69 : decode cX7_fog 69 = .ok (.ifCond .ne 24, 3) := by decide +kernel
theorem dX7_fog_72 : decode cX7_fog 72 = .ok (.aload_n 0, 1) := by decide +kernel
theorem dX7_fog_73 : decode cX7_fog 73 = .ok (.getfield 56, 3) := by decide +kernel
theorem dX7_fog_76 : decode cX7_fog 76 = .ok (.aload_n 0, 1) := by decide +kernel
theorem dX7_fog_77 : decode cX7_fog 77 = .ok (.getfield 19, 3) := by decide +kernel
theorem dX7_fog_80 : decode cX7_fog 80 = .ok (.aload_n 0, 1) := by decide +kernel
theorem dX7_fog_81 : decode cX7_fog 81 = .ok (.invokevirtual 262, 3) := by decide +kernel
theorem dX7_fog_84 : decode cX7_fog 84 = .ok (.invokevirtual 219, 3) := by decide +kernel
theorem dX7_fog_87 : decode cX7_fog 87 = .ok (.iinc 4 1, 3) := by decide +kernel
theorem dX7_fog_90 : decode cX7_fog 90 = .ok (.goto (-34), 3) := by decide +kernel
theorem dX7_fog_93 : decode cX7_fog 93 = .ok (.aload_n 0, 1) := by decide +kernel
theorem dX7_fog_94 : decode cX7_fog 94 = .ok (.getfield 56, 3) := by decide +kernel
theorem dX7_fog_97 : decode cX7_fog 97 = .ok (.invokevirtual 223, 3) := by decide +kernel
theorem dX7_fog_100 : decode cX7_fog 100 = .ok (.ifCond .eq 8, 3) := by decide +kernel
theorem dX7_fog_103 : decode cX7_fog 103 = .ok (.bipush (-9), 2) := by decide +kernel
theorem dX7_fog_105 : decode cX7_fog 105 = .ok (.goto 10, 3) := by decide +kernel
theorem dX7_fog_108 : decode cX7_fog 108 = .ok (.aload_n 0, 1) := by decide +kernel
theorem dX7_fog_109 : decode cX7_fog 109 = .ok (.getfield 56, 3) := by decide +kernel
theorem dX7_fog_112 : decode cX7_fog 112 = .ok (.getfield 265, 3) := by decide +kernel
theorem dX7_fog_115 : decode cX7_fog 115 = .ok (.ireturn, 1) := by decide +kernel
theorem dX7_keep_0 : decode cX7_keep 0 = .ok (.iload_n 1, 1) := by decide +kernel
theorem dX7_keep_1 : decode cX7_keep 1 = .ok (.invokestatic 268, 3) := by decide +kernel
theorem dX7_keep_4 : decode cX7_keep 4 = .ok (.ifCond .ne 5, 3) := by decide +kernel
theorem dX7_keep_7 : decode cX7_keep 7 = .ok (.iconst (-1), 1) := by decide +kernel
theorem dX7_keep_8 : decode cX7_keep 8 = .ok (.ireturn, 1) := by decide +kernel
theorem dX7_keep_9 : decode cX7_keep 9 = .ok (.aload_n 0, 1) := by decide +kernel
theorem dX7_keep_10 : decode cX7_keep 10 = .ok (.getfield 45, 3) := by decide +kernel
theorem dX7_keep_13 : decode cX7_keep 13 = .ok (.iload_n 1, 1) := by decide +kernel
theorem dX7_keep_14 : decode cX7_keep 14 = .ok (.aload_n 0, 1) := by decide +kernel
theorem dX7_keep_15 : decode cX7_keep 15 = .ok (.getfield 29, 3) := by decide +kernel
theorem dX7_keep_18 : decode cX7_keep 18 = .ok (.invokevirtual 271, 3) := by decide +kernel
theorem dX7_keep_21 : decode cX7_keep 21 = .ok (.aload_n 0, 1) := by decide +kernel
theorem dX7_keep_22 : decode cX7_keep 22 = .ok (.getfield 49, 3) := by decide +kernel
theorem dX7_keep_25 : decode cX7_keep 25 = .ok (.iload_n 1, 1) := by decide +kernel
theorem dX7_keep_26 : decode cX7_keep 26 = .ok (.iconst 1, 1) := by decide +kernel
theorem dX7_keep_27 : decode cX7_keep 27 = .ok (.bastore, 1) := by decide +kernel
theorem dX7_keep_28 : decode cX7_keep 28 = .ok (.aload_n 0, 1) := by decide +kernel
theorem dX7_keep_29 : decode cX7_keep 29 = .ok (.getfield 29, 3) := by decide +kernel
theorem dX7_keep_32 : decode cX7_keep 32 = .ok (.invokevirtual 95, 3) := by decide +kernel
theorem dX7_keep_35 : decode cX7_keep 35 = .ok (.ireturn, 1) := by decide +kernel
theorem dX7_again_0 : decode cX7_again 0 = .ok (.iload_n 1, 1) := by decide +kernel
theorem dX7_again_1 : decode cX7_again 1 = .ok (.invokestatic 268, 3) := by decide +kernel
theorem dX7_again_4 : decode cX7_again 4 = .ok (.ifCond .ne 5, 3) := by decide +kernel
theorem dX7_again_7 : decode cX7_again 7 = .ok (.iconst (-1), 1) := by decide +kernel
theorem dX7_again_8 : decode cX7_again 8 = .ok (.ireturn, 1) := by decide +kernel
theorem dX7_again_9 : decode cX7_again 9 = .ok (.aload_n 0, 1) := by decide +kernel
theorem dX7_again_10 : decode cX7_again 10 = .ok (.getfield 49, 3) := by decide +kernel
theorem dX7_again_13 : decode cX7_again 13 = .ok (.iload_n 1, 1) := by decide +kernel
theorem dX7_again_14 : decode cX7_again 14 = .ok (.baload, 1) := by decide +kernel
theorem dX7_again_15 : decode cX7_again 15 = .ok (.ifCond .ne 6, 3) := by decide +kernel
theorem dX7_again_18 : decode cX7_again 18 = .ok (.bipush (-3), 2) := by decide +kernel
theorem dX7_again_20 : decode cX7_again 20 = .ok (.ireturn, 1) := by decide +kernel
theorem dX7_again_21 : decode cX7_again 21 = .ok (.aload_n 0, 1) := by decide +kernel
theorem dX7_again_22 : decode cX7_again 22 = .ok (.getfield 45, 3) := by decide +kernel
theorem dX7_again_25 : decode cX7_again 25 = .ok (.iload_n 1, 1) := by decide +kernel
theorem dX7_again_26 : decode cX7_again 26 = .ok (.aload_n 0, 1) := by decide +kernel
theorem dX7_again_27 : decode cX7_again 27 = .ok (.getfield 29, 3) := by decide +kernel
theorem dX7_again_30 : decode cX7_again 30 = .ok (.invokevirtual 275, 3) := by decide +kernel
theorem dX7_again_33 : decode cX7_again 33 = .ok (.aload_n 0, 1) := by decide +kernel
theorem dX7_again_34 : decode cX7_again 34 = .ok (.getfield 36, 3) := by decide +kernel
theorem dX7_again_37 : decode cX7_again 37 = .ok (.invokevirtual 88, 3) := by decide +kernel
theorem dX7_again_40 : decode cX7_again 40 = .ok (.aload_n 0, 1) := by decide +kernel
theorem dX7_again_41 : decode cX7_again 41 = .ok (.getfield 29, 3) := by decide +kernel
theorem dX7_again_44 : decode cX7_again 44 = .ok (.invokevirtual 95, 3) := by decide +kernel
theorem dX7_again_47 : decode cX7_again 47 = .ok (.ireturn, 1) := by decide +kernel
theorem dX7_isCell_0 : decode cX7_isCell 0 = .ok (.iload_n 0, 1) := by decide +kernel
theorem dX7_isCell_1 : decode cX7_isCell 1 = .ok (.ifCond .lt 13, 3) := by decide +kernel
theorem dX7_isCell_4 : decode cX7_isCell 4 = .ok (.iload_n 0, 1) := by decide +kernel
theorem dX7_isCell_5 : decode cX7_isCell 5 = .ok (.bipush 9, 2) := by decide +kernel
theorem dX7_isCell_7 : decode cX7_isCell 7 = .ok (.if_icmp .gt 7, 3) := by decide +kernel
theorem dX7_isCell_10 : decode cX7_isCell 10 = .ok (.iconst 1, 1) := by decide +kernel
theorem dX7_isCell_11 : decode cX7_isCell 11 = .ok (.goto 4, 3) := by decide +kernel
theorem dX7_isCell_14 : decode cX7_isCell 14 = .ok (.iconst 0, 1) := by decide +kernel
theorem dX7_isCell_15 : decode cX7_isCell 15 = .ok (.ireturn, 1) := by decide +kernel
theorem dX7_isOnSands_0 : decode cX7_isOnSands 0 = .ok (.iload_n 0, 1) := by decide +kernel
theorem dX7_isOnSands_1 : decode cX7_isOnSands 1 = .ok (.ifCond .le 13, 3) := by decide +kernel
theorem dX7_isOnSands_4 : decode cX7_isOnSands 4 = .ok (.iload_n 0, 1) := by decide +kernel
theorem dX7_isOnSands_5 : decode cX7_isOnSands 5 = .ok (.bipush 9, 2) := by decide +kernel
theorem dX7_isOnSands_7 : decode cX7_isOnSands 7 = .ok (.if_icmp .ge 7, 3) := by decide +kernel
theorem dX7_isOnSands_10 : decode cX7_isOnSands 10 = .ok (.iconst 1, 1) := by decide +kernel
theorem dX7_isOnSands_11 : decode cX7_isOnSands 11 = .ok (.goto 4, 3) := by decide +kernel
theorem dX7_isOnSands_14 : decode cX7_isOnSands 14 = .ok (.iconst 0, 1) := by decide +kernel
theorem dX7_isOnSands_15 : decode cX7_isOnSands 15 = .ok (.ireturn, 1) := by decide +kernel
theorem dX7_isStep_0 : decode cX7_isStep 0 = .ok (.iload_n 0, 1) := by decide +kernel
theorem dX7_isStep_1 : decode cX7_isStep 1 = .ok (.ifCond .lt 13, 3) := by decide +kernel
theorem dX7_isStep_4 : decode cX7_isStep 4 = .ok (.iload_n 0, 1) := by decide +kernel
theorem dX7_isStep_5 : decode cX7_isStep 5 = .ok (.bipush 40, 2) := by decide +kernel
theorem dX7_isStep_7 : decode cX7_isStep 7 = .ok (.if_icmp .gt 7, 3) := by decide +kernel
theorem dX7_isStep_10 : decode cX7_isStep 10 = .ok (.iconst 1, 1) := by decide +kernel
theorem dX7_isStep_11 : decode cX7_isStep 11 = .ok (.goto 4, 3) := by decide +kernel
theorem dX7_isStep_14 : decode cX7_isStep 14 = .ok (.iconst 0, 1) := by decide +kernel
theorem dX7_isStep_15 : decode cX7_isStep 15 = .ok (.ireturn, 1) := by decide +kernel
theorem dX7_isSlot_0 : decode cX7_isSlot 0 = .ok (.iload_n 0, 1) := by decide +kernel
theorem dX7_isSlot_1 : decode cX7_isSlot 1 = .ok (.ifCond .lt 12, 3) := by decide +kernel
theorem dX7_isSlot_4 : decode cX7_isSlot 4 = .ok (.iload_n 0, 1) := by decide +kernel
theorem dX7_isSlot_5 : decode cX7_isSlot 5 = .ok (.iconst 2, 1) := by decide +kernel
theorem dX7_isSlot_6 : decode cX7_isSlot 6 = .ok (.if_icmp .ge 7, 3) := by decide +kernel
theorem dX7_isSlot_9 : decode cX7_isSlot 9 = .ok (.iconst 1, 1) := by decide +kernel
theorem dX7_isSlot_10 : decode cX7_isSlot 10 = .ok (.goto 4, 3) := by decide +kernel
theorem dX7_isSlot_13 : decode cX7_isSlot 13 = .ok (.iconst 0, 1) := by decide +kernel
theorem dX7_isSlot_14 : decode cX7_isSlot 14 = .ok (.ireturn, 1) := by decide +kernel
theorem dX7_areTenths_0 : decode cX7_areTenths 0 = .ok (.iload_n 0, 1) := by decide +kernel
theorem dX7_areTenths_1 : decode cX7_areTenths 1 = .ok (.ifCond .lt 31, 3) := by decide +kernel
theorem dX7_areTenths_4 : decode cX7_areTenths 4 = .ok (.iload_n 0, 1) := by decide +kernel
theorem dX7_areTenths_5 : decode cX7_areTenths 5 = .ok (.bipush 10, 2) := by decide +kernel
theorem dX7_areTenths_7 : decode cX7_areTenths 7 = .ok (.if_icmp .gt 25, 3) := by decide +kernel
theorem dX7_areTenths_10 : decode cX7_areTenths 10 = .ok (.iload_n 1, 1) := by decide +kernel
theorem dX7_areTenths_11 : decode cX7_areTenths 11 = .ok (.ifCond .lt 21, 3) := by decide +kernel
theorem dX7_areTenths_14 : decode cX7_areTenths 14 = .ok (.iload_n 1, 1) := by decide +kernel
theorem dX7_areTenths_15 : decode cX7_areTenths 15 = .ok (.bipush 10, 2) := by decide +kernel
theorem dX7_areTenths_17 : decode cX7_areTenths 17 = .ok (.if_icmp .gt 15, 3) := by decide +kernel
theorem dX7_areTenths_20 : decode cX7_areTenths 20 = .ok (.iload_n 0, 1) := by decide +kernel
theorem dX7_areTenths_21 : decode cX7_areTenths 21 = .ok (.iload_n 1, 1) := by decide +kernel
theorem dX7_areTenths_22 : decode cX7_areTenths 22 = .ok (.iadd, 1) := by decide +kernel
theorem dX7_areTenths_23 : decode cX7_areTenths 23 = .ok (.bipush 10, 2) := by decide +kernel
theorem dX7_areTenths_25 : decode cX7_areTenths 25 = .ok (.if_icmp .gt 7, 3) := by decide +kernel
theorem dX7_areTenths_28 : decode cX7_areTenths 28 = .ok (.iconst 1, 1) := by decide +kernel
theorem dX7_areTenths_29 : decode cX7_areTenths 29 = .ok (.goto 4, 3) := by decide +kernel
theorem dX7_areTenths_32 : decode cX7_areTenths 32 = .ok (.iconst 0, 1) := by decide +kernel
theorem dX7_areTenths_33 : decode cX7_areTenths 33 = .ok (.ireturn, 1) := by decide +kernel
theorem dX7_isWalker_0 : decode cX7_isWalker 0 = .ok (.iload_n 1, 1) := by decide +kernel
theorem dX7_isWalker_1 : decode cX7_isWalker 1 = .ok (.ifCond .lt 18, 3) := by decide +kernel
theorem dX7_isWalker_4 : decode cX7_isWalker 4 = .ok (.iload_n 1, 1) := by decide +kernel
theorem dX7_isWalker_5 : decode cX7_isWalker 5 = .ok (.aload_n 0, 1) := by decide +kernel
theorem dX7_isWalker_6 : decode cX7_isWalker 6 = .ok (.getfield 19, 3) := by decide +kernel
theorem dX7_isWalker_9 : decode cX7_isWalker 9 = .ok (.getfield 89, 3) := by decide +kernel
theorem dX7_isWalker_12 : decode cX7_isWalker 12 = .ok (.if_icmp .ge 7, 3) := by decide +kernel
theorem dX7_isWalker_15 : decode cX7_isWalker 15 = .ok (.iconst 1, 1) := by decide +kernel
theorem dX7_isWalker_16 : decode cX7_isWalker 16 = .ok (.goto 4, 3) := by decide +kernel
theorem dX7_isWalker_19 : decode cX7_isWalker 19 = .ok (.iconst 0, 1) := by decide +kernel
theorem dX7_isWalker_20 : decode cX7_isWalker 20 = .ok (.ireturn, 1) := by decide +kernel
theorem dX7_isWalking_0 : decode cX7_isWalking 0 = .ok (.aload_n 0, 1) := by decide +kernel
theorem dX7_isWalking_1 : decode cX7_isWalking 1 = .ok (.getfield 29, 3) := by decide +kernel
theorem dX7_isWalking_4 : decode cX7_isWalking 4 = .ok (.iload_n 1, 1) := by decide +kernel
theorem dX7_isWalking_5 : decode cX7_isWalking 5 = .ok (.invokevirtual 153, 3) := by decide +kernel
theorem dX7_isWalking_8 : decode cX7_isWalking 8 = .ok (.ifCond .ne 7, 3) := by decide +kernel
theorem dX7_isWalking_11 : decode cX7_isWalking 11 = .ok (.iconst 1, 1) := by decide +kernel
theorem dX7_isWalking_12 : decode cX7_isWalking 12 = .ok (.goto 4, 3) := by decide +kernel
theorem dX7_isWalking_15 : decode cX7_isWalking 15 = .ok (.iconst 0, 1) := by decide +kernel
theorem dX7_isWalking_16 : decode cX7_isWalking 16 = .ok (.ireturn, 1) := by decide +kernel
theorem dX7_waterAt_0 : decode cX7_waterAt 0 = .ok (.aload_n 0, 1) := by decide +kernel
theorem dX7_waterAt_1 : decode cX7_waterAt 1 = .ok (.getfield 19, 3) := by decide +kernel
theorem dX7_waterAt_4 : decode cX7_waterAt 4 = .ok (.iload_n 1, 1) := by decide +kernel
theorem dX7_waterAt_5 : decode cX7_waterAt 5 = .ok (.aload_n 0, 1) := by decide +kernel
theorem dX7_waterAt_6 : decode cX7_waterAt 6 = .ok (.getfield 19, 3) := by decide +kernel
theorem dX7_waterAt_9 : decode cX7_waterAt 9 = .ok (.getfield 103, 3) := by decide +kernel
theorem dX7_waterAt_12 : decode cX7_waterAt 12 = .ok (.invokevirtual 278, 3) := by decide +kernel
theorem dX7_waterAt_15 : decode cX7_waterAt 15 = .ok (.ireturn, 1) := by decide +kernel
theorem dX7_upOn_0 : decode cX7_upOn 0 = .ok (.aload_n 0, 1) := by decide +kernel
theorem dX7_upOn_1 : decode cX7_upOn 1 = .ok (.getfield 29, 3) := by decide +kernel
theorem dX7_upOn_4 : decode cX7_upOn 4 = .ok (.iload_n 1, 1) := by decide +kernel
theorem dX7_upOn_5 : decode cX7_upOn 5 = .ok (.aload_n 0, 1) := by decide +kernel
theorem dX7_upOn_6 : decode cX7_upOn 6 = .ok (.getfield 29, 3) := by decide +kernel
theorem dX7_upOn_9 : decode cX7_upOn 9 = .ok (.iconst 4, 1) := by decide +kernel
theorem dX7_upOn_10 : decode cX7_upOn 10 = .ok (.aload_n 0, 1) := by decide +kernel
theorem dX7_upOn_11 : decode cX7_upOn 11 = .ok (.getfield 19, 3) := by decide +kernel
theorem dX7_upOn_14 : decode cX7_upOn 14 = .ok (.getfield 89, 3) := by decide +kernel
theorem dX7_upOn_17 : decode cX7_upOn 17 = .ok (.invokevirtual 112, 3) := by decide +kernel
theorem dX7_upOn_20 : decode cX7_upOn 20 = .ok (.invokevirtual 230, 3) := by decide +kernel
theorem dX7_upOn_23 : decode cX7_upOn 23 = .ok (.ireturn, 1) := by decide +kernel
theorem dX7_roomOn_0 : decode cX7_roomOn 0 = .ok (.aload_n 0, 1) := by decide +kernel
theorem dX7_roomOn_1 : decode cX7_roomOn 1 = .ok (.getfield 19, 3) := by decide +kernel
theorem dX7_roomOn_4 : decode cX7_roomOn 4 = .ok (.iload_n 1, 1) := by decide +kernel
theorem dX7_roomOn_5 : decode cX7_roomOn 5 = .ok (.invokevirtual 132, 3) := by decide +kernel
theorem dX7_roomOn_8 : decode cX7_roomOn 8 = .ok (.aload_n 0, 1) := by decide +kernel
theorem dX7_roomOn_9 : decode cX7_roomOn 9 = .ok (.iload_n 1, 1) := by decide +kernel
theorem dX7_roomOn_10 : decode cX7_roomOn 10 = .ok (.invokevirtual 135, 3) := by decide +kernel
theorem dX7_roomOn_13 : decode cX7_roomOn 13 = .ok (.isub, 1) := by decide +kernel
theorem dX7_roomOn_14 : decode cX7_roomOn 14 = .ok (.ireturn, 1) := by decide +kernel
theorem dX7_moveOne_0 : decode cX7_moveOne 0 = .ok (.aload_n 0, 1) := by decide +kernel
theorem dX7_moveOne_1 : decode cX7_moveOne 1 = .ok (.getfield 56, 3) := by decide +kernel
theorem dX7_moveOne_4 : decode cX7_moveOne 4 = .ok (.aload_n 0, 1) := by decide +kernel
theorem dX7_moveOne_5 : decode cX7_moveOne 5 = .ok (.getfield 19, 3) := by decide +kernel
theorem dX7_moveOne_8 : decode cX7_moveOne 8 = .ok (.iload_n 1, 1) := by decide +kernel
theorem dX7_moveOne_9 : decode cX7_moveOne 9 = .ok (.aload_n 0, 1) := by decide +kernel
theorem dX7_moveOne_10 : decode cX7_moveOne 10 = .ok (.getfield 29, 3) := by decide +kernel
theorem dX7_moveOne_13 : decode cX7_moveOne 13 = .ok (.iload_n 1, 1) := by decide +kernel
theorem dX7_moveOne_14 : decode cX7_moveOne 14 = .ok (.invokevirtual 147, 3) := by decide +kernel
theorem dX7_moveOne_17 : decode cX7_moveOne 17 = .ok (.aload_n 0, 1) := by decide +kernel
theorem dX7_moveOne_18 : decode cX7_moveOne 18 = .ok (.getfield 29, 3) := by decide +kernel
theorem dX7_moveOne_21 : decode cX7_moveOne 21 = .ok (.invokevirtual 95, 3) := by decide +kernel
theorem dX7_moveOne_24 : decode cX7_moveOne 24 = .ok (.invokevirtual 206, 3) := by decide +kernel
theorem dX7_moveOne_27 : decode cX7_moveOne 27 = .ok (.aload_n 0, 1) := by decide +kernel
theorem dX7_moveOne_28 : decode cX7_moveOne 28 = .ok (.getfield 56, 3) := by decide +kernel
theorem dX7_moveOne_31 : decode cX7_moveOne 31 = .ok (.aload_n 0, 1) := by decide +kernel
theorem dX7_moveOne_32 : decode cX7_moveOne 32 = .ok (.getfield 19, 3) := by decide +kernel
theorem dX7_moveOne_35 : decode cX7_moveOne 35 = .ok (.aload_n 0, 1) := by decide +kernel
theorem dX7_moveOne_36 : decode cX7_moveOne 36 = .ok (.getfield 29, 3) := by decide +kernel
theorem dX7_moveOne_39 : decode cX7_moveOne 39 = .ok (.iload_n 1, 1) := by decide +kernel
theorem dX7_moveOne_40 : decode cX7_moveOne 40 = .ok (.invokevirtual 150, 3) := by decide +kernel
theorem dX7_moveOne_43 : decode cX7_moveOne 43 = .ok (.invokevirtual 219, 3) := by decide +kernel
theorem dX7_moveOne_46 : decode cX7_moveOne 46 = .ok (.aload_n 0, 1) := by decide +kernel
theorem dX7_moveOne_47 : decode cX7_moveOne 47 = .ok (.getfield 29, 3) := by decide +kernel
theorem dX7_moveOne_50 : decode cX7_moveOne 50 = .ok (.iload_n 1, 1) := by decide +kernel
theorem dX7_moveOne_51 : decode cX7_moveOne 51 = .ok (.aload_n 0, 1) := by decide +kernel
theorem dX7_moveOne_52 : decode cX7_moveOne 52 = .ok (.getfield 56, 3) := by decide +kernel
theorem dX7_moveOne_55 : decode cX7_moveOne 55 = .ok (.getfield 265, 3) := by decide +kernel
theorem dX7_moveOne_58 : decode cX7_moveOne 58 = .ok (.invokevirtual 281, 3) := by decide +kernel
theorem dX7_moveOne_61 : decode cX7_moveOne 61 = .ok (.aload_n 0, 1) := by decide +kernel
theorem dX7_moveOne_62 : decode cX7_moveOne 62 = .ok (.getfield 29, 3) := by decide +kernel
theorem dX7_moveOne_65 : decode cX7_moveOne 65 = .ok (.iload_n 1, 1) := by decide +kernel
theorem dX7_moveOne_66 : decode cX7_moveOne 66 = .ok (.aload_n 0, 1) := by decide +kernel
theorem dX7_moveOne_67 : decode cX7_moveOne 67 = .ok (.getfield 56, 3) := by decide +kernel
theorem dX7_moveOne_70 : decode cX7_moveOne 70 = .ok (.getfield 210, 3) := by decide +kernel
theorem dX7_moveOne_73 : decode cX7_moveOne 73 = .ok (.invokevirtual 179, 3) := by decide +kernel
theorem dX7_moveOne_76 : decode cX7_moveOne 76 = .ok (.aload_n 0, 1) := by decide +kernel
theorem dX7_moveOne_77 : decode cX7_moveOne 77 = .ok (.getfield 56, 3) := by decide +kernel
theorem dX7_moveOne_80 : decode cX7_moveOne 80 = .ok (.invokevirtual 223, 3) := by decide +kernel
theorem dX7_moveOne_83 : decode cX7_moveOne 83 = .ok (.ireturn, 1) := by decide +kernel
theorem dX7_arrival_0 : decode cX7_arrival 0 = .ok (.aload_n 0, 1) := by decide +kernel
theorem dX7_arrival_1 : decode cX7_arrival 1 = .ok (.getfield 56, 3) := by decide +kernel
theorem dX7_arrival_4 : decode cX7_arrival 4 = .ok (.aload_n 0, 1) := by decide +kernel
theorem dX7_arrival_5 : decode cX7_arrival 5 = .ok (.getfield 19, 3) := by decide +kernel
theorem dX7_arrival_8 : decode cX7_arrival 8 = .ok (.iload_n 1, 1) := by decide +kernel
theorem dX7_arrival_9 : decode cX7_arrival 9 = .ok (.iload_n 2, 1) := by decide +kernel
theorem dX7_arrival_10 : decode cX7_arrival 10 = .ok (.iload_n 3, 1) := by decide +kernel
theorem dX7_arrival_11 : decode cX7_arrival 11 = .ok (.invokevirtual 206, 3) := by decide +kernel
theorem dX7_arrival_14 : decode cX7_arrival 14 = .ok (.aload_n 0, 1) := by decide +kernel
theorem dX7_arrival_15 : decode cX7_arrival 15 = .ok (.getfield 56, 3) := by decide +kernel
theorem dX7_arrival_18 : decode cX7_arrival 18 = .ok (.aload_n 0, 1) := by decide +kernel
theorem dX7_arrival_19 : decode cX7_arrival 19 = .ok (.getfield 19, 3) := by decide +kernel
theorem dX7_arrival_22 : decode cX7_arrival 22 = .ok (.iload 4, 2) := by decide +kernel
theorem dX7_arrival_24 : decode cX7_arrival 24 = .ok (.invokevirtual 284, 3) := by decide +kernel
theorem dX7_arrival_27 : decode cX7_arrival 27 = .ok (.ireturn, 1) := by decide +kernel
theorem dX7_isSafe_0 : decode cX7_isSafe 0 = .ok (.aload_n 0, 1) := by decide +kernel
theorem dX7_isSafe_1 : decode cX7_isSafe 1 = .ok (.iload_n 1, 1) := by decide +kernel
theorem dX7_isSafe_2 : decode cX7_isSafe 2 = .ok (.iload_n 2, 1) := by decide +kernel
theorem dX7_isSafe_3 : decode cX7_isSafe 3 = .ok (.iload_n 3, 1) := by decide +kernel
theorem dX7_isSafe_4 : decode cX7_isSafe 4 = .ok (.iconst 1, 1) := by decide +kernel
theorem dX7_isSafe_5 : decode cX7_isSafe 5 = .ok (.invokevirtual 185, 3) := by decide +kernel
theorem dX7_isSafe_8 : decode cX7_isSafe 8 = .ok (.bipush (-9), 2) := by decide +kernel
theorem dX7_isSafe_10 : decode cX7_isSafe 10 = .ok (.if_icmp .ne 16, 3) := by decide +kernel
theorem dX7_isSafe_13 : decode cX7_isSafe 13 = .ok (.aload_n 0, 1) := by decide +kernel
theorem dX7_isSafe_14 : decode cX7_isSafe 14 = .ok (.iload_n 1, 1) := by decide +kernel
theorem dX7_isSafe_15 : decode cX7_isSafe 15 = .ok (.iload_n 2, 1) := by decide +kernel
theorem dX7_isSafe_16 : decode cX7_isSafe 16 = .ok (.iload_n 3, 1) := by decide +kernel
theorem dX7_isSafe_17 : decode cX7_isSafe 17 = .ok (.iconst 2, 1) := by decide +kernel
theorem dX7_isSafe_18 : decode cX7_isSafe 18 = .ok (.invokevirtual 185, 3) := by decide +kernel
theorem dX7_isSafe_21 : decode cX7_isSafe 21 = .ok (.bipush (-9), 2) := by decide +kernel
theorem dX7_isSafe_23 : decode cX7_isSafe 23 = .ok (.if_icmp .eq 7, 3) := by decide +kernel
theorem dX7_isSafe_26 : decode cX7_isSafe 26 = .ok (.iconst 1, 1) := by decide +kernel
theorem dX7_isSafe_27 : decode cX7_isSafe 27 = .ok (.goto 4, 3) := by decide +kernel
theorem dX7_isSafe_30 : decode cX7_isSafe 30 = .ok (.iconst 0, 1) := by decide +kernel
theorem dX7_isSafe_31 : decode cX7_isSafe 31 = .ok (.ireturn, 1) := by decide +kernel
theorem dX7_outlastsStanding_0 : decode cX7_outlastsStanding 0 = .ok (.aload_n 0, 1) := by decide +kernel
theorem dX7_outlastsStanding_1 : decode cX7_outlastsStanding 1 = .ok (.getfield 56, 3) := by decide +kernel
theorem dX7_outlastsStanding_4 : decode cX7_outlastsStanding 4 = .ok (.aload_n 0, 1) := by decide +kernel
theorem dX7_outlastsStanding_5 : decode cX7_outlastsStanding 5 = .ok (.getfield 19, 3) := by decide +kernel
theorem dX7_outlastsStanding_8 : decode cX7_outlastsStanding 8 = .ok (.iload_n 1, 1) := by decide +kernel
theorem dX7_outlastsStanding_9 : decode cX7_outlastsStanding 9 = .ok (.iload_n 2, 1) := by decide +kernel
theorem dX7_outlastsStanding_10 : decode cX7_outlastsStanding 10 = .ok (.iload_n 3, 1) := by decide +kernel
theorem dX7_outlastsStanding_11 : decode cX7_outlastsStanding 11 = .ok (.invokevirtual 206, 3) := by decide +kernel
theorem dX7_outlastsStanding_14 : decode cX7_outlastsStanding 14 = .ok (.aload_n 0, 1) := by decide +kernel
theorem dX7_outlastsStanding_15 : decode cX7_outlastsStanding 15 = .ok (.getfield 56, 3) := by decide +kernel
theorem dX7_outlastsStanding_18 : decode cX7_outlastsStanding 18 = .ok (.aload_n 0, 1) := by decide +kernel
theorem dX7_outlastsStanding_19 : decode cX7_outlastsStanding 19 = .ok (.getfield 19, 3) := by decide +kernel
theorem dX7_outlastsStanding_22 : decode cX7_outlastsStanding 22 = .ok (.iconst 0, 1) := by decide +kernel
theorem dX7_outlastsStanding_23 : decode cX7_outlastsStanding 23 = .ok (.invokevirtual 219, 3) := by decide +kernel
theorem dX7_outlastsStanding_26 : decode cX7_outlastsStanding 26 = .ok (.aload_n 0, 1) := by decide +kernel
theorem dX7_outlastsStanding_27 : decode cX7_outlastsStanding 27 = .ok (.getfield 56, 3) := by decide +kernel
theorem dX7_outlastsStanding_30 : decode cX7_outlastsStanding 30 = .ok (.invokevirtual 223, 3) := by decide +kernel
theorem dX7_outlastsStanding_33 : decode cX7_outlastsStanding 33 = .ok (.ifCond .ne 7, 3) := by decide +kernel
theorem dX7_outlastsStanding_36 : decode cX7_outlastsStanding 36 = .ok (.iconst 1, 1) := by decide +kernel
theorem dX7_outlastsStanding_37 : decode cX7_outlastsStanding 37 = .ok (.goto 4, 3) := by decide +kernel
theorem dX7_outlastsStanding_40 : decode cX7_outlastsStanding 40 = .ok (.iconst 0, 1) := by decide +kernel
theorem dX7_outlastsStanding_41 : decode cX7_outlastsStanding 41 = .ok (.ireturn, 1) := by decide +kernel
theorem dX7_isOverByLow_0 : decode cX7_isOverByLow 0 = .ok (.aload_n 0, 1) := by decide +kernel
theorem dX7_isOverByLow_1 : decode cX7_isOverByLow 1 = .ok (.getfield 56, 3) := by decide +kernel
theorem dX7_isOverByLow_4 : decode cX7_isOverByLow 4 = .ok (.aload_n 0, 1) := by decide +kernel
theorem dX7_isOverByLow_5 : decode cX7_isOverByLow 5 = .ok (.getfield 19, 3) := by decide +kernel
theorem dX7_isOverByLow_8 : decode cX7_isOverByLow 8 = .ok (.iload_n 1, 1) := by decide +kernel
theorem dX7_isOverByLow_9 : decode cX7_isOverByLow 9 = .ok (.iconst 0, 1) := by decide +kernel
theorem dX7_isOverByLow_10 : decode cX7_isOverByLow 10 = .ok (.iload_n 2, 1) := by decide +kernel
theorem dX7_isOverByLow_11 : decode cX7_isOverByLow 11 = .ok (.invokevirtual 206, 3) := by decide +kernel
theorem dX7_isOverByLow_14 : decode cX7_isOverByLow 14 = .ok (.aload_n 0, 1) := by decide +kernel
theorem dX7_isOverByLow_15 : decode cX7_isOverByLow 15 = .ok (.getfield 56, 3) := by decide +kernel
theorem dX7_isOverByLow_18 : decode cX7_isOverByLow 18 = .ok (.iload_n 3, 1) := by decide +kernel
theorem dX7_isOverByLow_19 : decode cX7_isOverByLow 19 = .ok (.putfield 288, 3) := by decide +kernel
theorem dX7_isOverByLow_22 : decode cX7_isOverByLow 22 = .ok (.aload_n 0, 1) := by decide +kernel
theorem dX7_isOverByLow_23 : decode cX7_isOverByLow 23 = .ok (.getfield 56, 3) := by decide +kernel
theorem dX7_isOverByLow_26 : decode cX7_isOverByLow 26 = .ok (.aload_n 0, 1) := by decide +kernel
theorem dX7_isOverByLow_27 : decode cX7_isOverByLow 27 = .ok (.getfield 19, 3) := by decide +kernel
theorem dX7_isOverByLow_30 : decode cX7_isOverByLow 30 = .ok (.iconst 1, 1) := by decide +kernel
theorem dX7_isOverByLow_31 : decode cX7_isOverByLow 31 = .ok (.invokevirtual 284, 3) := by decide +kernel
theorem dX7_isOverByLow_34 : decode cX7_isOverByLow 34 = .ok (.bipush (-9), 2) := by decide +kernel
theorem dX7_isOverByLow_36 : decode cX7_isOverByLow 36 = .ok (.if_icmp .eq 7, 3) := by decide +kernel
theorem dX7_isOverByLow_39 : decode cX7_isOverByLow 39 = .ok (.iconst 1, 1) := by decide +kernel
theorem dX7_isOverByLow_40 : decode cX7_isOverByLow 40 = .ok (.goto 4, 3) := by decide +kernel
theorem dX7_isOverByLow_43 : decode cX7_isOverByLow 43 = .ok (.iconst 0, 1) := by decide +kernel
theorem dX7_isOverByLow_44 : decode cX7_isOverByLow 44 = .ok (.ireturn, 1) := by decide +kernel
theorem dX7_safeBits_0 : decode cX7_safeBits 0 = .ok (.iconst 0, 1) := by decide +kernel
theorem dX7_safeBits_1 : decode cX7_safeBits 1 = .ok (.istore_n 3, 1) := by decide +kernel
theorem dX7_safeBits_2 : decode cX7_safeBits 2 = .ok (.iload_n 0, 1) := by decide +kernel
theorem dX7_safeBits_3 : decode cX7_safeBits 3 = .ok (.bipush (-9), 2) := by decide +kernel
theorem dX7_safeBits_5 : decode cX7_safeBits 5 = .ok (.if_icmp .eq 7, 3) := by decide +kernel
theorem dX7_safeBits_8 : decode cX7_safeBits 8 = .ok (.iload_n 3, 1) := by decide +kernel
theorem dX7_safeBits_9 : decode cX7_safeBits 9 = .ok (.iconst 1, 1) := by decide +kernel
theorem dX7_safeBits_10 : decode cX7_safeBits 10 = .ok (.ior, 1) := by decide +kernel
theorem dX7_safeBits_11 : decode cX7_safeBits 11 = .ok (.istore_n 3, 1) := by decide +kernel
theorem dX7_safeBits_12 : decode cX7_safeBits 12 = .ok (.iload_n 1, 1) := by decide +kernel
theorem dX7_safeBits_13 : decode cX7_safeBits 13 = .ok (.bipush (-9), 2) := by decide +kernel
theorem dX7_safeBits_15 : decode cX7_safeBits 15 = .ok (.if_icmp .eq 7, 3) := by decide +kernel
theorem dX7_safeBits_18 : decode cX7_safeBits 18 = .ok (.iload_n 3, 1) := by decide +kernel
theorem dX7_safeBits_19 : decode cX7_safeBits 19 = .ok (.iconst 2, 1) := by decide +kernel
theorem dX7_safeBits_20 : decode cX7_safeBits 20 = .ok (.ior, 1) := by decide +kernel
theorem dX7_safeBits_21 : decode cX7_safeBits 21 = .ok (.istore_n 3, 1) := by decide +kernel
theorem dX7_safeBits_22 : decode cX7_safeBits 22 = .ok (.iload_n 2, 1) := by decide +kernel
theorem dX7_safeBits_23 : decode cX7_safeBits 23 = .ok (.bipush (-9), 2) := by decide +kernel
theorem dX7_safeBits_25 : decode cX7_safeBits 25 = .ok (.if_icmp .eq 7, 3) := by decide +kernel
theorem dX7_safeBits_28 : decode cX7_safeBits 28 = .ok (.iload_n 3, 1) := by decide +kernel
theorem dX7_safeBits_29 : decode cX7_safeBits 29 = .ok (.iconst 4, 1) := by decide +kernel
theorem dX7_safeBits_30 : decode cX7_safeBits 30 = .ok (.ior, 1) := by decide +kernel
theorem dX7_safeBits_31 : decode cX7_safeBits 31 = .ok (.istore_n 3, 1) := by decide +kernel
theorem dX7_safeBits_32 : decode cX7_safeBits 32 = .ok (.iload_n 3, 1) := by decide +kernel
theorem dX7_safeBits_33 : decode cX7_safeBits 33 = .ok (.ireturn, 1) := by decide +kernel
theorem dX7_soonest_0 : decode cX7_soonest 0 = .ok (.bipush (-9), 2) := by decide +kernel
theorem dX7_soonest_2 : decode cX7_soonest 2 = .ok (.istore_n 3, 1) := by decide +kernel
theorem dX7_soonest_3 : decode cX7_soonest 3 = .ok (.bipush 41, 2) := by decide +kernel
theorem dX7_soonest_5 : decode cX7_soonest 5 = .ok (.istore 4, 2) := by decide +kernel
theorem dX7_soonest_7 : decode cX7_soonest 7 = .ok (.iload_n 0, 1) := by decide +kernel
theorem dX7_soonest_8 : decode cX7_soonest 8 = .ok (.bipush (-9), 2) := by decide +kernel
theorem dX7_soonest_10 : decode cX7_soonest 10 = .ok (.if_icmp .eq 8, 3) := by decide +kernel
theorem dX7_soonest_13 : decode cX7_soonest 13 = .ok (.iconst 0, 1) := by decide +kernel
theorem dX7_soonest_14 : decode cX7_soonest 14 = .ok (.istore_n 3, 1) := by decide +kernel
theorem dX7_soonest_15 : decode cX7_soonest 15 = .ok (.iload_n 0, 1) := by decide +kernel
theorem dX7_soonest_16 : decode cX7_soonest 16 = .ok (.istore 4, 2) := by decide +kernel
theorem dX7_soonest_18 : decode cX7_soonest 18 = .ok (.iload_n 1, 1) := by decide +kernel
theorem dX7_soonest_19 : decode cX7_soonest 19 = .ok (.bipush (-9), 2) := by decide +kernel
theorem dX7_soonest_21 : decode cX7_soonest 21 = .ok (.if_icmp .eq 14, 3) := by decide +kernel
theorem dX7_soonest_24 : decode cX7_soonest 24 = .ok (.iload_n 1, 1) := by decide +kernel
theorem dX7_soonest_25 : decode cX7_soonest 25 = .ok (.iload 4, 2) := by decide +kernel
theorem dX7_soonest_27 : decode cX7_soonest 27 = .ok (.if_icmp .ge 8, 3) := by decide +kernel
theorem dX7_soonest_30 : decode cX7_soonest 30 = .ok (.iconst 1, 1) := by decide +kernel
theorem dX7_soonest_31 : decode cX7_soonest 31 = .ok (.istore_n 3, 1) := by decide +kernel
theorem dX7_soonest_32 : decode cX7_soonest 32 = .ok (.iload_n 1, 1) := by decide +kernel
theorem dX7_soonest_33 : decode cX7_soonest 33 = .ok (.istore 4, 2) := by decide +kernel
theorem dX7_soonest_35 : decode cX7_soonest 35 = .ok (.iload_n 2, 1) := by decide +kernel
theorem dX7_soonest_36 : decode cX7_soonest 36 = .ok (.bipush (-9), 2) := by decide +kernel
theorem dX7_soonest_38 : decode cX7_soonest 38 = .ok (.if_icmp .eq 11, 3) := by decide +kernel
theorem dX7_soonest_41 : decode cX7_soonest 41 = .ok (.iload_n 2, 1) := by decide +kernel
theorem dX7_soonest_42 : decode cX7_soonest 42 = .ok (.iload 4, 2) := by decide +kernel
theorem dX7_soonest_44 : decode cX7_soonest 44 = .ok (.if_icmp .ge 5, 3) := by decide +kernel
theorem dX7_soonest_47 : decode cX7_soonest 47 = .ok (.iconst 2, 1) := by decide +kernel
theorem dX7_soonest_48 : decode cX7_soonest 48 = .ok (.istore_n 3, 1) := by decide +kernel
theorem dX7_soonest_49 : decode cX7_soonest 49 = .ok (.iload_n 3, 1) := by decide +kernel
theorem dX7_soonest_50 : decode cX7_soonest 50 = .ok (.ireturn, 1) := by decide +kernel
theorem dX7_drawnWay_0 : decode cX7_drawnWay 0 = .ok (.aload_n 0, 1) := by decide +kernel
theorem dX7_drawnWay_1 : decode cX7_drawnWay 1 = .ok (.aload_n 0, 1) := by decide +kernel
theorem dX7_drawnWay_2 : decode cX7_drawnWay 2 = .ok (.getfield 67, 3) := by decide +kernel
theorem dX7_drawnWay_5 : decode cX7_drawnWay 5 = .ok (.ldc2_w 289, 3) := by decide +kernel
theorem dX7_drawnWay_8 : decode cX7_drawnWay 8 = .ok (.lmul, 1) := by decide +kernel
theorem dX7_drawnWay_9 : decode cX7_drawnWay 9 = .ok (.ldc2_w 291, 3) := by decide +kernel
theorem dX7_drawnWay_12 : decode cX7_drawnWay 12 = .ok (.ladd, 1) := by decide +kernel
theorem dX7_drawnWay_13 : decode cX7_drawnWay 13 = .ok (.putfield 67, 3) := by decide +kernel
theorem dX7_drawnWay_16 : decode cX7_drawnWay 16 = .ok (.aload_n 0, 1) := by decide +kernel
theorem dX7_drawnWay_17 : decode cX7_drawnWay 17 = .ok (.getfield 67, 3) := by decide +kernel
theorem dX7_drawnWay_20 : decode cX7_drawnWay 20 = .ok (.bipush 33, 2) := by decide +kernel
theorem dX7_drawnWay_22 : decode cX7_drawnWay 22 = .ok (.lushr, 1) := by decide +kernel
theorem dX7_drawnWay_23 : decode cX7_drawnWay 23 = .ok (.ldc2_w 293, 3) := by decide +kernel
theorem dX7_drawnWay_26 : decode cX7_drawnWay 26 = .ok (.lrem, 1) := by decide +kernel
theorem dX7_drawnWay_27 : decode cX7_drawnWay 27 = .ok (.lconst 0, 1) := by decide +kernel
theorem dX7_drawnWay_28 : decode cX7_drawnWay 28 = .ok (.lcmp, 1) := by decide +kernel
theorem dX7_drawnWay_29 : decode cX7_drawnWay 29 = .ok (.ifCond .ne 7, 3) := by decide +kernel
theorem dX7_drawnWay_32 : decode cX7_drawnWay 32 = .ok (.iconst 2, 1) := by decide +kernel
theorem dX7_drawnWay_33 : decode cX7_drawnWay 33 = .ok (.goto 4, 3) := by decide +kernel
theorem dX7_drawnWay_36 : decode cX7_drawnWay 36 = .ok (.iconst 1, 1) := by decide +kernel
theorem dX7_drawnWay_37 : decode cX7_drawnWay 37 = .ok (.ireturn, 1) := by decide +kernel
theorem dX7_meetingStep_0 : decode cX7_meetingStep 0 = .ok (.ldc2_w 295, 3) := by decide +kernel
theorem dX7_meetingStep_3 : decode cX7_meetingStep 3 = .ok (.lstore_n 1, 1) := by decide +kernel
theorem dX7_meetingStep_4 : decode cX7_meetingStep 4 = .ok (.iconst 0, 1) := by decide +kernel
theorem dX7_meetingStep_5 : decode cX7_meetingStep 5 = .ok (.istore_n 3, 1) := by decide +kernel
theorem dX7_meetingStep_6 : decode cX7_meetingStep 6 = .ok (.iload_n 3, 1) := by decide +kernel
theorem dX7_meetingStep_7 : decode cX7_meetingStep 7 = .ok (.aload_n 0, 1) := by decide +kernel
theorem dX7_meetingStep_8 : decode cX7_meetingStep 8 = .ok (.getfield 19, 3) := by decide +kernel
theorem dX7_meetingStep_11 : decode cX7_meetingStep 11 = .ok (.getfield 89, 3) := by decide +kernel
theorem dX7_meetingStep_14 : decode cX7_meetingStep 14 = .ok (.if_icmp .ge 60, 3) := by decide +kernel
theorem dX7_meetingStep_17 : decode cX7_meetingStep 17 = .ok (.lconst 0, 1) := by decide +kernel
theorem dX7_meetingStep_18 : decode cX7_meetingStep 18 = .ok (.lstore 4, 2) := by decide +kernel
theorem dX7_meetingStep_20 : decode cX7_meetingStep 20 = .ok (.iconst 0, 1) := by decide +kernel
theorem dX7_meetingStep_21 : decode cX7_meetingStep 21 = .ok (.istore 6, 2) := by decide +kernel
theorem dX7_meetingStep_23 : decode cX7_meetingStep 23 = .ok (.iload 6, 2) := by decide +kernel
theorem dX7_meetingStep_25 : decode cX7_meetingStep 25 = .ok (.bipush 40, 2) := by decide +kernel
theorem dX7_meetingStep_27 : decode cX7_meetingStep 27 = .ok (.if_icmp .gt 36, 3) := by decide +kernel
theorem dX7_meetingStep_30 : decode cX7_meetingStep 30 = .ok (.aload_n 0, 1) := by decide +kernel
theorem dX7_meetingStep_31 : decode cX7_meetingStep 31 = .ok (.iload_n 3, 1) := by decide +kernel
theorem dX7_meetingStep_32 : decode cX7_meetingStep 32 = .ok (.iconst 0, 1) := by decide +kernel
theorem dX7_meetingStep_33 : decode cX7_meetingStep 33 = .ok (.iload 6, 2) := by decide +kernel
theorem dX7_meetingStep_35 : decode cX7_meetingStep 35 = .ok (.iconst 1, 1) := by decide +kernel
theorem dX7_meetingStep_36 : decode cX7_meetingStep 36 = .ok (.invokevirtual 185, 3) := by decide +kernel
theorem dX7_meetingStep_39 : decode cX7_meetingStep 39 = .ok (.istore 7, 2) := by decide +kernel
theorem dX7_meetingStep_41 : decode cX7_meetingStep 41 = .ok (.iload 7, 2) := by decide +kernel
theorem dX7_meetingStep_43 : decode cX7_meetingStep 43 = .ok (.bipush (-9), 2) := by decide +kernel
theorem dX7_meetingStep_45 : decode cX7_meetingStep 45 = .ok (.if_icmp .eq 12, 3) := by decide +kernel
theorem dX7_meetingStep_48 : decode cX7_meetingStep 48 = .ok (.lload 4, 2) := by decide +kernel
theorem dX7_meetingStep_50 : decode cX7_meetingStep 50 = .ok (.lconst 1, 1) := by decide +kernel
theorem dX7_meetingStep_51 : decode cX7_meetingStep 51 = .ok (.iload 7, 2) := by decide +kernel
theorem dX7_meetingStep_53 : decode cX7_meetingStep 53 = .ok (.lshl, 1) := by decide +kernel
theorem dX7_meetingStep_54 : decode cX7_meetingStep 54 = .ok (.lor, 1) := by decide +kernel
theorem dX7_meetingStep_55 : decode cX7_meetingStep 55 = .ok (.lstore 4, 2) := by decide +kernel
theorem dX7_meetingStep_57 : decode cX7_meetingStep 57 = .ok (.iinc 6 1, 3) := by decide +kernel
theorem dX7_meetingStep_60 : decode cX7_meetingStep 60 = .ok (.goto (-37), 3) := by decide +kernel
theorem dX7_meetingStep_63 : decode cX7_meetingStep 63 = .ok (.lload_n 1, 1) := by decide +kernel
theorem dX7_meetingStep_64 : decode cX7_meetingStep 64 = .ok (.lload 4, 2) := by decide +kernel
theorem dX7_meetingStep_66 : decode cX7_meetingStep 66 = .ok (.land, 1) := by decide +kernel
theorem dX7_meetingStep_67 : decode cX7_meetingStep 67 = .ok (.lstore_n 1, 1) := by decide +kernel
theorem dX7_meetingStep_68 : decode cX7_meetingStep 68 = .ok (.iinc 3 1, 3) := by decide +kernel
theorem dX7_meetingStep_71 : decode cX7_meetingStep 71 = .ok (.goto (-65), 3) := by decide +kernel
theorem dX7_meetingStep_74 : decode cX7_meetingStep 74 = .ok (.iconst 0, 1) := by decide +kernel
theorem dX7_meetingStep_75 : decode cX7_meetingStep 75 = .ok (.istore_n 3, 1) := by decide +kernel
theorem dX7_meetingStep_76 : decode cX7_meetingStep 76 = .ok (.iload_n 3, 1) := by decide +kernel
theorem dX7_meetingStep_77 : decode cX7_meetingStep 77 = .ok (.bipush 40, 2) := by decide +kernel
theorem dX7_meetingStep_79 : decode cX7_meetingStep 79 = .ok (.if_icmp .gt 21, 3) := by decide +kernel
theorem dX7_meetingStep_82 : decode cX7_meetingStep 82 = .ok (.lload_n 1, 1) := by decide +kernel
theorem dX7_meetingStep_83 : decode cX7_meetingStep 83 = .ok (.iload_n 3, 1) := by decide +kernel
theorem dX7_meetingStep_84 : decode cX7_meetingStep 84 = .ok (.lushr, 1) := by decide +kernel
theorem dX7_meetingStep_85 : decode cX7_meetingStep 85 = .ok (.lconst 1, 1) := by decide +kernel
theorem dX7_meetingStep_86 : decode cX7_meetingStep 86 = .ok (.land, 1) := by decide +kernel
theorem dX7_meetingStep_87 : decode cX7_meetingStep 87 = .ok (.lconst 0, 1) := by decide +kernel
theorem dX7_meetingStep_88 : decode cX7_meetingStep 88 = .ok (.lcmp, 1) := by decide +kernel
theorem dX7_meetingStep_89 : decode cX7_meetingStep 89 = .ok (.ifCond .eq 5, 3) := by decide +kernel
theorem dX7_meetingStep_92 : decode cX7_meetingStep 92 = .ok (.iload_n 3, 1) := by decide +kernel
theorem dX7_meetingStep_93 : decode cX7_meetingStep 93 = .ok (.ireturn, 1) := by decide +kernel
theorem dX7_meetingStep_94 : decode cX7_meetingStep 94 = .ok (.iinc 3 1, 3) := by decide +kernel
theorem dX7_meetingStep_97 : decode cX7_meetingStep 97 = .ok (.goto (-21), 3) := by decide +kernel
theorem dX7_meetingStep_100 : decode cX7_meetingStep 100 = .ok (.bipush (-9), 2) := by decide +kernel
theorem dX7_meetingStep_102 : decode cX7_meetingStep 102 = .ok (.ireturn, 1) := by decide +kernel
theorem dX7_power_0 : decode cX7_power 0 = .ok (.iconst 1, 1) := by decide +kernel
theorem dX7_power_1 : decode cX7_power 1 = .ok (.istore_n 2, 1) := by decide +kernel
theorem dX7_power_2 : decode cX7_power 2 = .ok (.iconst 0, 1) := by decide +kernel
theorem dX7_power_3 : decode cX7_power 3 = .ok (.istore_n 3, 1) := by decide +kernel
theorem dX7_power_4 : decode cX7_power 4 = .ok (.iload_n 3, 1) := by decide +kernel
theorem dX7_power_5 : decode cX7_power 5 = .ok (.iload_n 1, 1) := by decide +kernel
theorem dX7_power_6 : decode cX7_power 6 = .ok (.if_icmp .ge 13, 3) := by decide +kernel
theorem dX7_power_9 : decode cX7_power 9 = .ok (.iload_n 2, 1) := by decide +kernel
theorem dX7_power_10 : decode cX7_power 10 = .ok (.iload_n 0, 1) := by decide +kernel
theorem dX7_power_11 : decode cX7_power 11 = .ok (.imul, 1) := by decide +kernel
theorem dX7_power_12 : decode cX7_power 12 = .ok (.istore_n 2, 1) := by decide +kernel
theorem dX7_power_13 : decode cX7_power 13 = .ok (.iinc 3 1, 3) := by decide +kernel
theorem dX7_power_16 : decode cX7_power 16 = .ok (.goto (-12), 3) := by decide +kernel
theorem dX7_power_19 : decode cX7_power 19 = .ok (.iload_n 2, 1) := by decide +kernel
theorem dX7_power_20 : decode cX7_power 20 = .ok (.ireturn, 1) := by decide +kernel
theorem dX7_figureAt_0 : decode cX7_figureAt 0 = .ok (.iload_n 0, 1) := by decide +kernel
theorem dX7_figureAt_1 : decode cX7_figureAt 1 = .ok (.istore_n 2, 1) := by decide +kernel
theorem dX7_figureAt_2 : decode cX7_figureAt 2 = .ok (.iconst 0, 1) := by decide +kernel
theorem dX7_figureAt_3 : decode cX7_figureAt 3 = .ok (.istore_n 3, 1) := by decide +kernel
theorem dX7_figureAt_4 : decode cX7_figureAt 4 = .ok (.iload_n 3, 1) := by decide +kernel
theorem dX7_figureAt_5 : decode cX7_figureAt 5 = .ok (.iload_n 1, 1) := by decide +kernel
theorem dX7_figureAt_6 : decode cX7_figureAt 6 = .ok (.if_icmp .ge 14, 3) := by decide +kernel
theorem dX7_figureAt_9 : decode cX7_figureAt 9 = .ok (.iload_n 2, 1) := by decide +kernel
theorem dX7_figureAt_10 : decode cX7_figureAt 10 = .ok (.bipush 10, 2) := by decide +kernel
theorem dX7_figureAt_12 : decode cX7_figureAt 12 = .ok (.idiv, 1) := by decide +kernel
theorem dX7_figureAt_13 : decode cX7_figureAt 13 = .ok (.istore_n 2, 1) := by decide +kernel
theorem dX7_figureAt_14 : decode cX7_figureAt 14 = .ok (.iinc 3 1, 3) := by decide +kernel
theorem dX7_figureAt_17 : decode cX7_figureAt 17 = .ok (.goto (-13), 3) := by decide +kernel
theorem dX7_figureAt_20 : decode cX7_figureAt 20 = .ok (.iload_n 2, 1) := by decide +kernel
theorem dX7_figureAt_21 : decode cX7_figureAt 21 = .ok (.bipush 10, 2) := by decide +kernel
theorem dX7_figureAt_23 : decode cX7_figureAt 23 = .ok (.irem, 1) := by decide +kernel
theorem dX7_figureAt_24 : decode cX7_figureAt 24 = .ok (.ireturn, 1) := by decide +kernel
theorem dX7_choices_0 : decode cX7_choices 0 = .ok (.iconst 1, 1) := by decide +kernel
theorem dX7_choices_1 : decode cX7_choices 1 = .ok (.istore_n 2, 1) := by decide +kernel
theorem dX7_choices_2 : decode cX7_choices 2 = .ok (.iconst 1, 1) := by decide +kernel
theorem dX7_choices_3 : decode cX7_choices 3 = .ok (.istore_n 3, 1) := by decide +kernel
theorem dX7_choices_4 : decode cX7_choices 4 = .ok (.iload_n 3, 1) := by decide +kernel
theorem dX7_choices_5 : decode cX7_choices 5 = .ok (.iload_n 1, 1) := by decide +kernel
theorem dX7_choices_6 : decode cX7_choices 6 = .ok (.if_icmp .gt 19, 3) := by decide +kernel
theorem dX7_choices_9 : decode cX7_choices 9 = .ok (.iload_n 2, 1) := by decide +kernel
theorem dX7_choices_10 : decode cX7_choices 10 = .ok (.iload_n 0, 1) := by decide +kernel
theorem dX7_choices_11 : decode cX7_choices 11 = .ok (.iload_n 1, 1) := by decide +kernel
theorem dX7_choices_12 : decode cX7_choices 12 = .ok (.isub, 1) := by decide +kernel
theorem dX7_choices_13 : decode cX7_choices 13 = .ok (.iload_n 3, 1) := by decide +kernel
theorem dX7_choices_14 : decode cX7_choices 14 = .ok (.iadd, 1) := by decide +kernel
theorem dX7_choices_15 : decode cX7_choices 15 = .ok (.imul, 1) := by decide +kernel
theorem dX7_choices_16 : decode cX7_choices 16 = .ok (.iload_n 3, 1) := by decide +kernel
theorem dX7_choices_17 : decode cX7_choices 17 = .ok (.idiv, 1) := by decide +kernel
theorem dX7_choices_18 : decode cX7_choices 18 = .ok (.istore_n 2, 1) := by decide +kernel
theorem dX7_choices_19 : decode cX7_choices 19 = .ok (.iinc 3 1, 3) := by decide +kernel
theorem dX7_choices_22 : decode cX7_choices 22 = .ok (.goto (-18), 3) := by decide +kernel
theorem dX7_choices_25 : decode cX7_choices 25 = .ok (.iload_n 2, 1) := by decide +kernel
theorem dX7_choices_26 : decode cX7_choices 26 = .ok (.ireturn, 1) := by decide +kernel
theorem dX7_commonPart_0 : decode cX7_commonPart 0 = .ok (.iload_n 0, 1) := by decide +kernel
theorem dX7_commonPart_1 : decode cX7_commonPart 1 = .ok (.istore_n 2, 1) := by decide +kernel
theorem dX7_commonPart_2 : decode cX7_commonPart 2 = .ok (.iload_n 1, 1) := by decide +kernel
theorem dX7_commonPart_3 : decode cX7_commonPart 3 = .ok (.istore_n 3, 1) := by decide +kernel
theorem dX7_commonPart_4 : decode cX7_commonPart 4 = .ok (.iconst 0, 1) := by decide +kernel
theorem dX7_commonPart_5 : decode cX7_commonPart 5 = .ok (.istore 4, 2) := by decide +kernel
theorem dX7_commonPart_7 : decode cX7_commonPart 7 = .ok (.iload 4, 2) := by decide +kernel
theorem dX7_commonPart_9 : decode cX7_commonPart 9 = .ok (.bipush 64, 2) := by decide +kernel
theorem dX7_commonPart_11 : decode cX7_commonPart 11 = .ok (.if_icmp .ge 23, 3) := by decide +kernel
theorem dX7_commonPart_14 : decode cX7_commonPart 14 = .ok (.iload_n 3, 1) := by decide +kernel
theorem dX7_commonPart_15 : decode cX7_commonPart 15 = .ok (.ifCond .eq 19, 3) := by decide +kernel
theorem dX7_commonPart_18 : decode cX7_commonPart 18 = .ok (.iload_n 2, 1) := by decide +kernel
theorem dX7_commonPart_19 : decode cX7_commonPart 19 = .ok (.iload_n 3, 1) := by decide +kernel
theorem dX7_commonPart_20 : decode cX7_commonPart 20 = .ok (.irem, 1) := by decide +kernel
theorem dX7_commonPart_21 : decode cX7_commonPart 21 = .ok (.istore 5, 2) := by decide +kernel
theorem dX7_commonPart_23 : decode cX7_commonPart 23 = .ok (.iload_n 3, 1) := by decide +kernel
theorem dX7_commonPart_24 : decode cX7_commonPart 24 = .ok (.istore_n 2, 1) := by decide +kernel
theorem dX7_commonPart_25 : decode cX7_commonPart 25 = .ok (.iload 5, 2) := by decide +kernel
theorem dX7_commonPart_27 : decode cX7_commonPart 27 = .ok (.istore_n 3, 1) := by decide +kernel
theorem dX7_commonPart_28 : decode cX7_commonPart 28 = .ok (.iinc 4 1, 3) := by decide +kernel
theorem dX7_commonPart_31 : decode cX7_commonPart 31 = .ok (.goto (-24), 3) := by decide +kernel
theorem dX7_commonPart_34 : decode cX7_commonPart 34 = .ok (.iload_n 2, 1) := by decide +kernel
theorem dX7_commonPart_35 : decode cX7_commonPart 35 = .ok (.ireturn, 1) := by decide +kernel
theorem dX7_told_0 : decode cX7_told 0 = .ok (.iload_n 0, 1) := by decide +kernel
theorem dX7_told_1 : decode cX7_told 1 = .ok (.iload_n 1, 1) := by decide +kernel
theorem dX7_told_2 : decode cX7_told 2 = .ok (.invokestatic 297, 3) := by decide +kernel
theorem dX7_told_5 : decode cX7_told 5 = .ok (.istore_n 3, 1) := by decide +kernel
theorem dX7_told_6 : decode cX7_told 6 = .ok (.iload_n 3, 1) := by decide +kernel
theorem dX7_told_7 : decode cX7_told 7 = .ok (.ifCond .ne 5, 3) := by decide +kernel
theorem dX7_told_10 : decode cX7_told 10 = .ok (.iconst 0, 1) := by decide +kernel
theorem dX7_told_11 : decode cX7_told 11 = .ok (.ireturn, 1) := by decide +kernel
theorem dX7_told_12 : decode cX7_told 12 = .ok (.iload_n 2, 1) := by decide +kernel
theorem dX7_told_13 : decode cX7_told 13 = .ok (.ifCond .eq 7, 3) := by decide +kernel
theorem dX7_told_16 : decode cX7_told 16 = .ok (.iload_n 0, 1) := by decide +kernel
theorem dX7_told_17 : decode cX7_told 17 = .ok (.goto 4, 3) := by decide +kernel
theorem dX7_told_20 : decode cX7_told 20 = .ok (.iload_n 1, 1) := by decide +kernel
theorem dX7_told_21 : decode cX7_told 21 = .ok (.iload_n 3, 1) := by decide +kernel
theorem dX7_told_22 : decode cX7_told 22 = .ok (.idiv, 1) := by decide +kernel
theorem dX7_told_23 : decode cX7_told 23 = .ok (.ireturn, 1) := by decide +kernel
end
section
theorem dX8_init_0 : decode cX8_init 0 = .ok (.aload_n 0, 1) := by decide +kernel
theorem dX8_init_1 : decode cX8_init 1 = .ok (.invokespecial 1, 3) := by decide +kernel
theorem dX8_init_4 : decode cX8_init 4 = .ok (.aload_n 0, 1) := by decide +kernel
theorem dX8_init_5 : decode cX8_init 5 = .ok (.bipush 56, 2) := by decide +kernel
theorem dX8_init_7 : decode cX8_init 7 = .ok (.newarray .int, 2) := by decide +kernel
theorem dX8_init_9 : decode cX8_init 9 = .ok (.putfield 7, 3) := by decide +kernel
theorem dX8_init_12 : decode cX8_init 12 = .ok (.aload_n 0, 1) := by decide +kernel
theorem dX8_init_13 : decode cX8_init 13 = .ok (.bipush 10, 2) := by decide +kernel
theorem dX8_init_15 : decode cX8_init 15 = .ok (.newarray .int, 2) := by decide +kernel
theorem dX8_init_17 : decode cX8_init 17 = .ok (.putfield 13, 3) := by decide +kernel
theorem dX8_init_20 : decode cX8_init 20 = .ok (.aload_n 0, 1) := by decide +kernel
theorem dX8_init_21 : decode cX8_init 21 = .ok (.iconst 1, 1) := by decide +kernel
theorem dX8_init_22 : decode cX8_init 22 = .ok (.putfield 16, 3) := by decide +kernel
theorem dX8_init_25 : decode cX8_init 25 = .ok (.aload_n 0, 1) := by decide +kernel
theorem dX8_init_26 : decode cX8_init 26 = .ok (.iconst 5, 1) := by decide +kernel
theorem dX8_init_27 : decode cX8_init 27 = .ok (.newarray .int, 2) := by decide +kernel
theorem dX8_init_29 : decode cX8_init 29 = .ok (.putfield 20, 3) := by decide +kernel
theorem dX8_init_32 : decode cX8_init 32 = .ok (.aload_n 0, 1) := by decide +kernel
theorem dX8_init_33 : decode cX8_init 33 = .ok (.iconst 5, 1) := by decide +kernel
theorem dX8_init_34 : decode cX8_init 34 = .ok (.newarray .int, 2) := by decide +kernel
theorem dX8_init_36 : decode cX8_init 36 = .ok (.putfield 23, 3) := by decide +kernel
theorem dX8_init_39 : decode cX8_init 39 = .ok (.aload_n 0, 1) := by decide +kernel
theorem dX8_init_40 : decode cX8_init 40 = .ok (.iconst 2, 1) := by decide +kernel
theorem dX8_init_41 : decode cX8_init 41 = .ok (.newarray .int, 2) := by decide +kernel
theorem dX8_init_43 : decode cX8_init 43 = .ok (.putfield 26, 3) := by decide +kernel
theorem dX8_init_46 : decode cX8_init 46 = .ok (.aload_n 0, 1) := by decide +kernel
theorem dX8_init_47 : decode cX8_init 47 = .ok (.iconst 2, 1) := by decide +kernel
theorem dX8_init_48 : decode cX8_init 48 = .ok (.newarray .int, 2) := by decide +kernel
theorem dX8_init_50 : decode cX8_init 50 = .ok (.putfield 29, 3) := by decide +kernel
theorem dX8_init_53 : decode cX8_init 53 = .ok (.aload_n 0, 1) := by decide +kernel
theorem dX8_init_54 : decode cX8_init 54 = .ok (.bipush 10, 2) := by decide +kernel
theorem dX8_init_56 : decode cX8_init 56 = .ok (.newarray .int, 2) := by decide +kernel
theorem dX8_init_58 : decode cX8_init 58 = .ok (.putfield 32, 3) := by decide +kernel
theorem dX8_init_61 : decode cX8_init 61 = .ok (.aload_n 0, 1) := by decide +kernel
theorem dX8_init_62 : decode cX8_init 62 = .ok (.iconst 5, 1) := by decide +kernel
theorem dX8_init_63 : decode cX8_init 63 = .ok (.newarray .int, 2) := by decide +kernel
theorem dX8_init_65 : decode cX8_init 65 = .ok (.putfield 35, 3) := by decide +kernel
theorem dX8_init_68 : decode cX8_init 68 = .ok (.aload_n 0, 1) := by decide +kernel
theorem dX8_init_69 : decode cX8_init 69 = .ok (.iconst 5, 1) := by decide +kernel
theorem dX8_init_70 : decode cX8_init 70 = .ok (.newarray .int, 2) := by decide +kernel
theorem dX8_init_72 : decode cX8_init 72 = .ok (.putfield 38, 3) := by decide +kernel
theorem dX8_init_75 : decode cX8_init 75 = .ok (.aload_n 0, 1) := by decide +kernel
theorem dX8_init_76 : decode cX8_init 76 = .ok (.iconst 2, 1) := by decide +kernel
theorem dX8_init_77 : decode cX8_init 77 = .ok (.newarray .int, 2) := by decide +kernel
theorem dX8_init_79 : decode cX8_init 79 = .ok (.putfield 41, 3) := by decide +kernel
theorem dX8_init_82 : decode cX8_init 82 = .ok (.aload_n 0, 1) := by decide +kernel
theorem dX8_init_83 : decode cX8_init 83 = .ok (.iconst 2, 1) := by decide +kernel
theorem dX8_init_84 : decode cX8_init 84 = .ok (.newarray .int, 2) := by decide +kernel
theorem dX8_init_86 : decode cX8_init 86 = .ok (.putfield 44, 3) := by decide +kernel
theorem dX8_init_89 : decode cX8_init 89 = .ok (.aload_n 0, 1) := by decide +kernel
theorem dX8_init_90 : decode cX8_init 90 = .ok (.bipush 16, 2) := by decide +kernel
theorem dX8_init_92 : decode cX8_init 92 = .ok (.newarray .int, 2) := by decide +kernel
theorem dX8_init_94 : decode cX8_init 94 = .ok (.putfield 47, 3) := by decide +kernel
theorem dX8_init_97 : decode cX8_init 97 = .ok (.aload_n 0, 1) := by decide +kernel
theorem dX8_init_98 : decode cX8_init 98 = .ok (.sipush 256, 3) := by decide +kernel
theorem dX8_init_101 : decode cX8_init 101 = .ok (.newarray .int, 2) := by decide +kernel
theorem dX8_init_103 : decode cX8_init 103 = .ok (.putfield 50, 3) := by decide +kernel
theorem dX8_init_106 : decode cX8_init 106 = .ok (.aload_n 0, 1) := by decide +kernel
theorem dX8_init_107 : decode cX8_init 107 = .ok (.bipush 32, 2) := by decide +kernel
theorem dX8_init_109 : decode cX8_init 109 = .ok (.newarray .int, 2) := by decide +kernel
theorem dX8_init_111 : decode cX8_init 111 = .ok (.putfield 53, 3) := by decide +kernel
theorem dX8_init_114 : decode cX8_init 114 = .ok (.aload_n 0, 1) := by decide +kernel
theorem dX8_init_115 : decode cX8_init 115 = .ok (.iconst 2, 1) := by decide +kernel
theorem dX8_init_116 : decode cX8_init 116 = .ok (.newarray .boolean, 2) := by decide +kernel
theorem dX8_init_118 : decode cX8_init 118 = .ok (.putfield 56, 3) := by decide +kernel
theorem dX8_init_121 : decode cX8_init 121 = .ok (.aload_n 0, 1) := by decide +kernel
theorem dX8_init_122 : decode cX8_init 122 = .ok (.bipush 10, 2) := by decide +kernel
theorem dX8_init_124 : decode cX8_init 124 = .ok (.newarray .long, 2) := by decide +kernel
theorem dX8_init_126 : decode cX8_init 126 = .ok (.putfield 60, 3) := by decide +kernel
theorem dX8_init_129 : decode cX8_init 129 = .ok (.aload_n 0, 1) := by decide +kernel
theorem dX8_init_130 : decode cX8_init 130 = .ok (.bipush 10, 2) := by decide +kernel
theorem dX8_init_132 : decode cX8_init 132 = .ok (.newarray .long, 2) := by decide +kernel
theorem dX8_init_134 : decode cX8_init 134 = .ok (.putfield 64, 3) := by decide +kernel
theorem dX8_init_137 : decode cX8_init 137 = .ok (.return_, 1) := by decide +kernel
theorem dX8_in_0 : decode cX8_in 0 = .ok (.lload_n 0, 1) := by decide +kernel
theorem dX8_in_1 : decode cX8_in 1 = .ok (.lload_n 2, 1) := by decide +kernel
theorem dX8_in_2 : decode cX8_in 2 = .ok (.lcmp, 1) := by decide +kernel
theorem dX8_in_3 : decode cX8_in 3 = .ok (.ifCond .lt 14, 3) := by decide +kernel
theorem dX8_in_6 : decode cX8_in 6 = .ok (.lload_n 0, 1) := by decide +kernel
theorem dX8_in_7 : decode cX8_in 7 = .ok (.lload 4, 2) := by decide +kernel
theorem dX8_in_9 : decode cX8_in 9 = .ok (.lcmp, 1) := by decide +kernel
theorem dX8_in_10 : decode cX8_in 10 = .ok (.ifCond .gt 7, 3) := by decide +kernel
theorem dX8_in_13 : decode cX8_in 13 = .ok (.iconst 1, 1) := by decide +kernel
theorem dX8_in_14 : decode cX8_in 14 = .ok (.goto 4, 3) := by decide +kernel
theorem dX8_in_17 : decode cX8_in 17 = .ok (.iconst 0, 1) := by decide +kernel
theorem dX8_in_18 : decode cX8_in 18 = .ok (.ireturn, 1) := by decide +kernel
theorem dX8_has_0 : decode cX8_has 0 = .ok (.iload_n 0, 1) := by decide +kernel
theorem dX8_has_1 : decode cX8_has 1 = .ok (.iload_n 1, 1) := by decide +kernel
theorem dX8_has_2 : decode cX8_has 2 = .ok (.ishr, 1) := by decide +kernel
theorem dX8_has_3 : decode cX8_has 3 = .ok (.iconst 1, 1) := by decide +kernel
theorem dX8_has_4 : decode cX8_has 4 = .ok (.iand, 1) := by decide +kernel
theorem dX8_has_5 : decode cX8_has 5 = .ok (.iconst 1, 1) := by decide +kernel
theorem dX8_has_6 : decode cX8_has 6 = .ok (.if_icmp .ne 7, 3) := by decide +kernel
theorem dX8_has_9 : decode cX8_has 9 = .ok (.iconst 1, 1) := by decide +kernel
theorem dX8_has_10 : decode cX8_has 10 = .ok (.goto 4, 3) := by decide +kernel
theorem dX8_has_13 : decode cX8_has 13 = .ok (.iconst 0, 1) := by decide +kernel
theorem dX8_has_14 : decode cX8_has 14 = .ok (.ireturn, 1) := by decide +kernel
theorem dX8_noOne_0 : decode cX8_noOne 0 = .ok (.iload_n 1, 1) := by decide +kernel
theorem dX8_noOne_1 : decode cX8_noOne 1 = .ok (.i2l, 1) := by decide +kernel
theorem dX8_noOne_2 : decode cX8_noOne 2 = .ok (.lconst 0, 1) := by decide +kernel
theorem dX8_noOne_3 : decode cX8_noOne 3 = .ok (.aload_n 0, 1) := by decide +kernel
theorem dX8_noOne_4 : decode cX8_noOne 4 = .ok (.getfield 70, 3) := by decide +kernel
theorem dX8_noOne_7 : decode cX8_noOne 7 = .ok (.iconst 1, 1) := by decide +kernel
theorem dX8_noOne_8 : decode cX8_noOne 8 = .ok (.isub, 1) := by decide +kernel
theorem dX8_noOne_9 : decode cX8_noOne 9 = .ok (.i2l, 1) := by decide +kernel
theorem dX8_noOne_10 : decode cX8_noOne 10 = .ok (.invokestatic 73, 3) := by decide +kernel
theorem dX8_noOne_13 : decode cX8_noOne 13 = .ok (.ifCond .ne 7, 3) := by decide +kernel
theorem dX8_noOne_16 : decode cX8_noOne 16 = .ok (.iconst 1, 1) := by decide +kernel
theorem dX8_noOne_17 : decode cX8_noOne 17 = .ok (.goto 4, 3) := by decide +kernel
theorem dX8_noOne_20 : decode cX8_noOne 20 = .ok (.iconst 0, 1) := by decide +kernel
theorem dX8_noOne_21 : decode cX8_noOne 21 = .ok (.ireturn, 1) := by decide +kernel
theorem dX8_noCell_0 : decode cX8_noCell 0 = .ok (.iload_n 0, 1) := by decide +kernel
theorem dX8_noCell_1 : decode cX8_noCell 1 = .ok (.i2l, 1) := by decide +kernel
theorem dX8_noCell_2 : decode cX8_noCell 2 = .ok (.lconst 0, 1) := by decide +kernel
theorem dX8_noCell_3 : decode cX8_noCell 3 = .ok (.ldc2_w 77, 3) := by decide +kernel
theorem dX8_noCell_6 : decode cX8_noCell 6 = .ok (.invokestatic 73, 3) := by decide +kernel
theorem dX8_noCell_9 : decode cX8_noCell 9 = .ok (.ifCond .ne 7, 3) := by decide +kernel
theorem dX8_noCell_12 : decode cX8_noCell 12 = .ok (.iconst 1, 1) := by decide +kernel
theorem dX8_noCell_13 : decode cX8_noCell 13 = .ok (.goto 4, 3) := by decide +kernel
theorem dX8_noCell_16 : decode cX8_noCell 16 = .ok (.iconst 0, 1) := by decide +kernel
theorem dX8_noCell_17 : decode cX8_noCell 17 = .ok (.ireturn, 1) := by decide +kernel
theorem dX8_write_0 : decode cX8_write 0 = .ok (.aload_n 0, 1) := by decide +kernel
theorem dX8_write_1 : decode cX8_write 1 = .ok (.iconst 0, 1) := by decide +kernel
theorem dX8_write_2 : decode cX8_write 2 = .ok (.putfield 67, 3) := by decide +kernel
theorem dX8_write_5 : decode cX8_write 5 = .ok (.iload_n 1, 1) := by decide +kernel
theorem dX8_write_6 : decode cX8_write 6 = .ok (.i2l, 1) := by decide +kernel
theorem dX8_write_7 : decode cX8_write 7 = .ok (.lconst 0, 1) := by decide +kernel
theorem dX8_write_8 : decode cX8_write 8 = .ok (.ldc2_w 79, 3) := by decide +kernel
theorem dX8_write_11 : decode cX8_write 11 = .ok (.invokestatic 73, 3) := by decide +kernel
theorem dX8_write_14 : decode cX8_write 14 = .ok (.ifCond .ne 6, 3) := by decide +kernel
theorem dX8_write_17 : decode cX8_write 17 = .ok (.bipush (-2), 2) := by decide +kernel
theorem dX8_write_19 : decode cX8_write 19 = .ok (.ireturn, 1) := by decide +kernel
theorem dX8_write_20 : decode cX8_write 20 = .ok (.aload_n 0, 1) := by decide +kernel
theorem dX8_write_21 : decode cX8_write 21 = .ok (.getfield 81, 3) := by decide +kernel
theorem dX8_write_24 : decode cX8_write 24 = .ok (.bipush 56, 2) := by decide +kernel
theorem dX8_write_26 : decode cX8_write 26 = .ok (.if_icmp .ne 6, 3) := by decide +kernel
theorem dX8_write_29 : decode cX8_write 29 = .ok (.bipush (-4), 2) := by decide +kernel
theorem dX8_write_31 : decode cX8_write 31 = .ok (.ireturn, 1) := by decide +kernel
theorem dX8_write_32 : decode cX8_write 32 = .ok (.aload_n 0, 1) := by decide +kernel
theorem dX8_write_33 : decode cX8_write 33 = .ok (.getfield 7, 3) := by decide +kernel
theorem dX8_write_36 : decode cX8_write 36 = .ok (.aload_n 0, 1) := by decide +kernel
theorem dX8_write_37 : decode cX8_write 37 = .ok (.getfield 81, 3) := by decide +kernel
theorem dX8_write_40 : decode cX8_write 40 = .ok (.iload_n 1, 1) := by decide +kernel
theorem dX8_write_41 : decode cX8_write 41 = .ok (.iastore, 1) := by decide +kernel
theorem dX8_write_42 : decode cX8_write 42 = .ok (.aload_n 0, 1) := by decide +kernel
theorem dX8_write_43 : decode cX8_write 43 = .ok (.dup, 1) := by decide +kernel
theorem dX8_write_44 : decode cX8_write 44 = .ok (.getfield 81, 3) := by decide +kernel
theorem dX8_write_47 : decode cX8_write 47 = .ok (.iconst 1, 1) := by decide +kernel
theorem dX8_write_48 : decode cX8_write 48 = .ok (.iadd, 1) := by decide +kernel
theorem dX8_write_49 : decode cX8_write 49 = .ok (.putfield 81, 3) := by decide +kernel
theorem dX8_write_52 : decode cX8_write 52 = .ok (.aload_n 0, 1) := by decide +kernel
theorem dX8_write_53 : decode cX8_write 53 = .ok (.getfield 81, 3) := by decide +kernel
theorem dX8_write_56 : decode cX8_write 56 = .ok (.ireturn, 1) := by decide +kernel
theorem dX8_wipe_0 : decode cX8_wipe 0 = .ok (.aload_n 0, 1) := by decide +kernel
theorem dX8_wipe_1 : decode cX8_wipe 1 = .ok (.iconst 0, 1) := by decide +kernel
theorem dX8_wipe_2 : decode cX8_wipe 2 = .ok (.putfield 67, 3) := by decide +kernel
theorem dX8_wipe_5 : decode cX8_wipe 5 = .ok (.aload_n 0, 1) := by decide +kernel
theorem dX8_wipe_6 : decode cX8_wipe 6 = .ok (.getfield 81, 3) := by decide +kernel
theorem dX8_wipe_9 : decode cX8_wipe 9 = .ok (.istore_n 1, 1) := by decide +kernel
theorem dX8_wipe_10 : decode cX8_wipe 10 = .ok (.aload_n 0, 1) := by decide +kernel
theorem dX8_wipe_11 : decode cX8_wipe 11 = .ok (.iconst 0, 1) := by decide +kernel
theorem dX8_wipe_12 : decode cX8_wipe 12 = .ok (.putfield 81, 3) := by decide +kernel
theorem dX8_wipe_15 : decode cX8_wipe 15 = .ok (.iload_n 1, 1) := by decide +kernel
theorem dX8_wipe_16 : decode cX8_wipe 16 = .ok (.ireturn, 1) := by decide +kernel
theorem dX8_figure_0 : decode cX8_figure 0 = .ok (.aload_n 0, 1) := by decide +kernel
theorem dX8_figure_1 : decode cX8_figure 1 = .ok (.getfield 84, 3) := by decide +kernel
theorem dX8_figure_4 : decode cX8_figure 4 = .ok (.aload_n 0, 1) := by decide +kernel
theorem dX8_figure_5 : decode cX8_figure 5 = .ok (.getfield 81, 3) := by decide +kernel
theorem dX8_figure_8 : decode cX8_figure 8 = .ok (.if_icmp .eq 26, 3) := by decide +kernel
theorem dX8_figure_11 : decode cX8_figure 11 = .ok (.aload_n 0, 1) := by decide +kernel
theorem dX8_figure_12 : decode cX8_figure 12 = .ok (.getfield 7, 3) := by decide +kernel
theorem dX8_figure_15 : decode cX8_figure 15 = .ok (.aload_n 0, 1) := by decide +kernel
theorem dX8_figure_16 : decode cX8_figure 16 = .ok (.getfield 84, 3) := by decide +kernel
theorem dX8_figure_19 : decode cX8_figure 19 = .ok (.iaload, 1) := by decide +kernel
theorem dX8_figure_20 : decode cX8_figure 20 = .ok (.bipush 48, 2) := by decide +kernel
theorem dX8_figure_22 : decode cX8_figure 22 = .ok (.isub, 1) := by decide +kernel
theorem dX8_figure_23 : decode cX8_figure 23 = .ok (.i2l, 1) := by decide +kernel
theorem dX8_figure_24 : decode cX8_figure 24 = .ok (.iload_n 1, 1) := by decide +kernel
theorem dX8_figure_25 : decode cX8_figure 25 = .ok (.i2l, 1) := by decide +kernel
theorem dX8_figure_26 : decode cX8_figure 26 = .ok (.iload_n 2, 1) := by decide +kernel
theorem dX8_figure_27 : decode cX8_figure 27 = .ok (.i2l, 1) := by decide +kernel
theorem dX8_figure_28 : decode cX8_figure 28 = .ok (.invokestatic 73, 3) := by decide +kernel
theorem dX8_figure_31 : decode cX8_figure 31 = .ok (.ifCond .ne 6, 3) := by decide +kernel
theorem dX8_figure_34 : decode cX8_figure 34 = .ok (.bipush (-9), 2) := by decide +kernel
theorem dX8_figure_36 : decode cX8_figure 36 = .ok (.ireturn, 1) := by decide +kernel
theorem dX8_figure_37 : decode cX8_figure 37 = .ok (.aload_n 0, 1) := by decide +kernel
theorem dX8_figure_38 : decode cX8_figure 38 = .ok (.dup, 1) := by decide +kernel
theorem dX8_figure_39 : decode cX8_figure 39 = .ok (.getfield 84, 3) := by decide +kernel
theorem dX8_figure_42 : decode cX8_figure 42 = .ok (.iconst 1, 1) := by decide +kernel
theorem dX8_figure_43 : decode cX8_figure 43 = .ok (.iadd, 1) := by decide +kernel
theorem dX8_figure_44 : decode cX8_figure 44 = .ok (.putfield 84, 3) := by decide +kernel
theorem dX8_figure_47 : decode cX8_figure 47 = .ok (.aload_n 0, 1) := by decide +kernel
theorem dX8_figure_48 : decode cX8_figure 48 = .ok (.getfield 7, 3) := by decide +kernel
theorem dX8_figure_51 : decode cX8_figure 51 = .ok (.aload_n 0, 1) := by decide +kernel
theorem dX8_figure_52 : decode cX8_figure 52 = .ok (.getfield 84, 3) := by decide +kernel
theorem dX8_figure_55 : decode cX8_figure 55 = .ok (.iconst 1, 1) := by decide +kernel
theorem dX8_figure_56 : decode cX8_figure 56 = .ok (.isub, 1) := by decide +kernel
theorem dX8_figure_57 : decode cX8_figure 57 = .ok (.iaload, 1) := by decide +kernel
theorem dX8_figure_58 : decode cX8_figure 58 = .ok (.bipush 48, 2) := by decide +kernel
theorem dX8_figure_60 : decode cX8_figure 60 = .ok (.isub, 1) := by decide +kernel
theorem dX8_figure_61 : decode cX8_figure 61 = .ok (.ireturn, 1) := by decide +kernel
theorem dX8_freeTowers_0 : decode cX8_freeTowers 0 = .ok (.sipush 510, 3) := by decide +kernel
theorem dX8_freeTowers_3 : decode cX8_freeTowers 3 = .ok (.istore_n 1, 1) := by decide +kernel
theorem dX8_freeTowers_4 : decode cX8_freeTowers 4 = .ok (.iconst 0, 1) := by decide +kernel
theorem dX8_freeTowers_5 : decode cX8_freeTowers 5 = .ok (.istore_n 2, 1) := by decide +kernel
theorem dX8_freeTowers_6 : decode cX8_freeTowers 6 = .ok (.iload_n 2, 1) := by decide +kernel
theorem dX8_freeTowers_7 : decode cX8_freeTowers 7 = .ok (.aload_n 0, 1) := by decide +kernel
theorem dX8_freeTowers_8 : decode cX8_freeTowers 8 = .ok (.getfield 87, 3) := by decide +kernel
theorem dX8_freeTowers_11 : decode cX8_freeTowers 11 = .ok (.if_icmp .ge 22, 3) := by decide +kernel
theorem dX8_freeTowers_14 : decode cX8_freeTowers 14 = .ok (.iload_n 1, 1) := by decide +kernel
theorem dX8_freeTowers_15 : decode cX8_freeTowers 15 = .ok (.iconst 1, 1) := by decide +kernel
theorem dX8_freeTowers_16 : decode cX8_freeTowers 16 = .ok (.aload_n 0, 1) := by decide +kernel
theorem dX8_freeTowers_17 : decode cX8_freeTowers 17 = .ok (.getfield 41, 3) := by decide +kernel
theorem dX8_freeTowers_20 : decode cX8_freeTowers 20 = .ok (.iload_n 2, 1) := by decide +kernel
theorem dX8_freeTowers_21 : decode cX8_freeTowers 21 = .ok (.iaload, 1) := by decide +kernel
theorem dX8_freeTowers_22 : decode cX8_freeTowers 22 = .ok (.ishl, 1) := by decide +kernel
theorem dX8_freeTowers_23 : decode cX8_freeTowers 23 = .ok (.iconst (-1), 1) := by decide +kernel
theorem dX8_freeTowers_24 : decode cX8_freeTowers 24 = .ok (.ixor, 1) := by decide +kernel
theorem dX8_freeTowers_25 : decode cX8_freeTowers 25 = .ok (.iand, 1) := by decide +kernel
theorem dX8_freeTowers_26 : decode cX8_freeTowers 26 = .ok (.istore_n 1, 1) := by decide +kernel
theorem dX8_freeTowers_27 : decode cX8_freeTowers 27 = .ok (.iinc 2 1, 3) := by decide +kernel
theorem dX8_freeTowers_30 : decode cX8_freeTowers 30 = .ok (.goto (-24), 3) := by decide +kernel
theorem dX8_freeTowers_33 : decode cX8_freeTowers 33 = .ok (.iload_n 1, 1) := by decide +kernel
theorem dX8_freeTowers_34 : decode cX8_freeTowers 34 = .ok (.ireturn, 1) := by decide +kernel
theorem dX8_one_0 : decode cX8_one 0 = .ok (.aload_n 0, 1) := by decide +kernel
theorem dX8_one_1 : decode cX8_one 1 = .ok (.getfield 84, 3) := by decide +kernel
theorem dX8_one_4 : decode cX8_one 4 = .ok (.aload_n 0, 1) := by decide +kernel
theorem dX8_one_5 : decode cX8_one 5 = .ok (.getfield 81, 3) := by decide +kernel
theorem dX8_one_8 : decode cX8_one 8 = .ok (.if_icmp .ge 18, 3) := by decide +kernel
theorem dX8_one_11 : decode cX8_one 11 = .ok (.aload_n 0, 1) := by decide +kernel
theorem dX8_one_12 : decode cX8_one 12 = .ok (.getfield 7, 3) := by decide +kernel
theorem dX8_one_15 : decode cX8_one 15 = .ok (.aload_n 0, 1) := by decide +kernel
theorem dX8_one_16 : decode cX8_one 16 = .ok (.getfield 84, 3) := by decide +kernel
theorem dX8_one_19 : decode cX8_one 19 = .ok (.iaload, 1) := by decide +kernel
theorem dX8_one_20 : decode cX8_one 20 = .ok (.bipush 48, 2) := by decide +kernel
theorem dX8_one_22 : decode cX8_one 22 = .ok (.isub, 1) := by decide +kernel
theorem dX8_one_23 : decode cX8_one 23 = .ok (.goto 5, 3) := by decide +kernel
theorem dX8_one_26 : decode cX8_one 26 = .ok (.bipush (-9), 2) := by decide +kernel
theorem dX8_one_28 : decode cX8_one 28 = .ok (.istore_n 2, 1) := by decide +kernel
theorem dX8_one_29 : decode cX8_one 29 = .ok (.iload_n 2, 1) := by decide +kernel
theorem dX8_one_30 : decode cX8_one 30 = .ok (.i2l, 1) := by decide +kernel
theorem dX8_one_31 : decode cX8_one 31 = .ok (.lconst 1, 1) := by decide +kernel
theorem dX8_one_32 : decode cX8_one 32 = .ok (.ldc2_w 90, 3) := by decide +kernel
theorem dX8_one_35 : decode cX8_one 35 = .ok (.invokestatic 73, 3) := by decide +kernel
theorem dX8_one_38 : decode cX8_one 38 = .ok (.ifCond .eq 11, 3) := by decide +kernel
theorem dX8_one_41 : decode cX8_one 41 = .ok (.iload_n 1, 1) := by decide +kernel
theorem dX8_one_42 : decode cX8_one 42 = .ok (.iload_n 2, 1) := by decide +kernel
theorem dX8_one_43 : decode cX8_one 43 = .ok (.invokestatic 92, 3) := by decide +kernel
theorem dX8_one_46 : decode cX8_one 46 = .ok (.ifCond .ne 6, 3) := by decide +kernel
theorem dX8_one_49 : decode cX8_one 49 = .ok (.bipush (-9), 2) := by decide +kernel
theorem dX8_one_51 : decode cX8_one 51 = .ok (.ireturn, 1) := by decide +kernel
theorem dX8_one_52 : decode cX8_one 52 = .ok (.aload_n 0, 1) := by decide +kernel
theorem dX8_one_53 : decode cX8_one 53 = .ok (.dup, 1) := by decide +kernel
theorem dX8_one_54 : decode cX8_one 54 = .ok (.getfield 84, 3) := by decide +kernel
theorem dX8_one_57 : decode cX8_one 57 = .ok (.iconst 1, 1) := by decide +kernel
theorem dX8_one_58 : decode cX8_one 58 = .ok (.iadd, 1) := by decide +kernel
theorem dX8_one_59 : decode cX8_one 59 = .ok (.putfield 84, 3) := by decide +kernel
theorem dX8_one_62 : decode cX8_one 62 = .ok (.iload_n 2, 1) := by decide +kernel
theorem dX8_one_63 : decode cX8_one 63 = .ok (.ireturn, 1) := by decide +kernel
theorem dX8_readWalker_0 : decode cX8_readWalker 0 = .ok (.aload_n 0, 1) := by decide +kernel
theorem dX8_readWalker_1 : decode cX8_readWalker 1 = .ok (.iconst 1, 1) := by decide +kernel
theorem dX8_readWalker_2 : decode cX8_readWalker 2 = .ok (.iconst 3, 1) := by decide +kernel
theorem dX8_readWalker_3 : decode cX8_readWalker 3 = .ok (.invokevirtual 96, 3) := by decide +kernel
theorem dX8_readWalker_6 : decode cX8_readWalker 6 = .ok (.istore_n 1, 1) := by decide +kernel
theorem dX8_readWalker_7 : decode cX8_readWalker 7 = .ok (.iload_n 1, 1) := by decide +kernel
theorem dX8_readWalker_8 : decode cX8_readWalker 8 = .ok (.bipush (-9), 2) := by decide +kernel
theorem dX8_readWalker_10 : decode cX8_readWalker 10 = .ok (.if_icmp .ne 8, 3) := by decide +kernel
theorem dX8_readWalker_13 : decode cX8_readWalker 13 = .ok (.bipush (-9), 2) := by decide +kernel
theorem dX8_readWalker_15 : decode cX8_readWalker 15 = .ok (.goto 9, 3) := by decide +kernel
theorem dX8_readWalker_18 : decode cX8_readWalker 18 = .ok (.aload_n 0, 1) := by decide +kernel
theorem dX8_readWalker_19 : decode cX8_readWalker 19 = .ok (.iconst 0, 1) := by decide +kernel
theorem dX8_readWalker_20 : decode cX8_readWalker 20 = .ok (.iconst 5, 1) := by decide +kernel
theorem dX8_readWalker_21 : decode cX8_readWalker 21 = .ok (.invokevirtual 96, 3) := by decide +kernel
theorem dX8_readWalker_24 : decode cX8_readWalker 24 = .ok (.istore_n 2, 1) := by decide +kernel
theorem dX8_readWalker_25 : decode cX8_readWalker 25 = .ok (.iload_n 2, 1) := by decide +kernel
theorem dX8_readWalker_26 : decode cX8_readWalker 26 = .ok (.bipush (-9), 2) := by decide +kernel
theorem dX8_readWalker_28 : decode cX8_readWalker 28 = .ok (.if_icmp .ne 5, 3) := by decide +kernel
theorem dX8_readWalker_31 : decode cX8_readWalker 31 = .ok (.iconst 0, 1) := by decide +kernel
theorem dX8_readWalker_32 : decode cX8_readWalker 32 = .ok (.ireturn, 1) := by decide +kernel
theorem dX8_readWalker_33 : decode cX8_readWalker 33 = .ok (.aload_n 0, 1) := by decide +kernel
theorem dX8_readWalker_34 : decode cX8_readWalker 34 = .ok (.getfield 35, 3) := by decide +kernel
theorem dX8_readWalker_37 : decode cX8_readWalker 37 = .ok (.aload_n 0, 1) := by decide +kernel
theorem dX8_readWalker_38 : decode cX8_readWalker 38 = .ok (.getfield 100, 3) := by decide +kernel
theorem dX8_readWalker_41 : decode cX8_readWalker 41 = .ok (.iload_n 1, 1) := by decide +kernel
theorem dX8_readWalker_42 : decode cX8_readWalker 42 = .ok (.iastore, 1) := by decide +kernel
theorem dX8_readWalker_43 : decode cX8_readWalker 43 = .ok (.aload_n 0, 1) := by decide +kernel
theorem dX8_readWalker_44 : decode cX8_readWalker 44 = .ok (.getfield 38, 3) := by decide +kernel
theorem dX8_readWalker_47 : decode cX8_readWalker 47 = .ok (.aload_n 0, 1) := by decide +kernel
theorem dX8_readWalker_48 : decode cX8_readWalker 48 = .ok (.getfield 100, 3) := by decide +kernel
theorem dX8_readWalker_51 : decode cX8_readWalker 51 = .ok (.iload_n 2, 1) := by decide +kernel
theorem dX8_readWalker_52 : decode cX8_readWalker 52 = .ok (.iastore, 1) := by decide +kernel
theorem dX8_readWalker_53 : decode cX8_readWalker 53 = .ok (.aload_n 0, 1) := by decide +kernel
theorem dX8_readWalker_54 : decode cX8_readWalker 54 = .ok (.dup, 1) := by decide +kernel
theorem dX8_readWalker_55 : decode cX8_readWalker 55 = .ok (.getfield 100, 3) := by decide +kernel
theorem dX8_readWalker_58 : decode cX8_readWalker 58 = .ok (.iconst 1, 1) := by decide +kernel
theorem dX8_readWalker_59 : decode cX8_readWalker 59 = .ok (.iadd, 1) := by decide +kernel
theorem dX8_readWalker_60 : decode cX8_readWalker 60 = .ok (.putfield 100, 3) := by decide +kernel
theorem dX8_readWalker_63 : decode cX8_readWalker 63 = .ok (.iconst 1, 1) := by decide +kernel
theorem dX8_readWalker_64 : decode cX8_readWalker 64 = .ok (.ireturn, 1) := by decide +kernel
theorem dX8_readTower_0 : decode cX8_readTower 0 = .ok (.aload_n 0, 1) := by decide +kernel
theorem dX8_readTower_1 : decode cX8_readTower 1 = .ok (.aload_n 0, 1) := by decide +kernel
theorem dX8_readTower_2 : decode cX8_readTower 2 = .ok (.invokevirtual 103, 3) := by decide +kernel
theorem dX8_readTower_5 : decode cX8_readTower 5 = .ok (.invokevirtual 107, 3) := by decide +kernel
theorem dX8_readTower_8 : decode cX8_readTower 8 = .ok (.istore_n 1, 1) := by decide +kernel
theorem dX8_readTower_9 : decode cX8_readTower 9 = .ok (.iload_n 1, 1) := by decide +kernel
theorem dX8_readTower_10 : decode cX8_readTower 10 = .ok (.bipush (-9), 2) := by decide +kernel
theorem dX8_readTower_12 : decode cX8_readTower 12 = .ok (.if_icmp .ne 8, 3) := by decide +kernel
theorem dX8_readTower_15 : decode cX8_readTower 15 = .ok (.bipush (-9), 2) := by decide +kernel
theorem dX8_readTower_17 : decode cX8_readTower 17 = .ok (.goto 9, 3) := by decide +kernel
theorem dX8_readTower_20 : decode cX8_readTower 20 = .ok (.aload_n 0, 1) := by decide +kernel
theorem dX8_readTower_21 : decode cX8_readTower 21 = .ok (.iconst 1, 1) := by decide +kernel
theorem dX8_readTower_22 : decode cX8_readTower 22 = .ok (.iconst 4, 1) := by decide +kernel
theorem dX8_readTower_23 : decode cX8_readTower 23 = .ok (.invokevirtual 96, 3) := by decide +kernel
theorem dX8_readTower_26 : decode cX8_readTower 26 = .ok (.istore_n 2, 1) := by decide +kernel
theorem dX8_readTower_27 : decode cX8_readTower 27 = .ok (.iload_n 2, 1) := by decide +kernel
theorem dX8_readTower_28 : decode cX8_readTower 28 = .ok (.bipush (-9), 2) := by decide +kernel
theorem dX8_readTower_30 : decode cX8_readTower 30 = .ok (.if_icmp .ne 5, 3) := by decide +kernel
theorem dX8_readTower_33 : decode cX8_readTower 33 = .ok (.iconst 0, 1) := by decide +kernel
theorem dX8_readTower_34 : decode cX8_readTower 34 = .ok (.ireturn, 1) := by decide +kernel
theorem dX8_readTower_35 : decode cX8_readTower 35 = .ok (.aload_n 0, 1) := by decide +kernel
theorem dX8_readTower_36 : decode cX8_readTower 36 = .ok (.getfield 41, 3) := by decide +kernel
theorem dX8_readTower_39 : decode cX8_readTower 39 = .ok (.aload_n 0, 1) := by decide +kernel
theorem dX8_readTower_40 : decode cX8_readTower 40 = .ok (.getfield 87, 3) := by decide +kernel
theorem dX8_readTower_43 : decode cX8_readTower 43 = .ok (.iload_n 1, 1) := by decide +kernel
theorem dX8_readTower_44 : decode cX8_readTower 44 = .ok (.iastore, 1) := by decide +kernel
theorem dX8_readTower_45 : decode cX8_readTower 45 = .ok (.aload_n 0, 1) := by decide +kernel
theorem dX8_readTower_46 : decode cX8_readTower 46 = .ok (.getfield 44, 3) := by decide +kernel
theorem dX8_readTower_49 : decode cX8_readTower 49 = .ok (.aload_n 0, 1) := by decide +kernel
theorem dX8_readTower_50 : decode cX8_readTower 50 = .ok (.getfield 87, 3) := by decide +kernel
theorem dX8_readTower_53 : decode cX8_readTower 53 = .ok (.iload_n 2, 1) := by decide +kernel
theorem dX8_readTower_54 : decode cX8_readTower 54 = .ok (.iastore, 1) := by decide +kernel
theorem dX8_readTower_55 : decode cX8_readTower 55 = .ok (.aload_n 0, 1) := by decide +kernel
theorem dX8_readTower_56 : decode cX8_readTower 56 = .ok (.dup, 1) := by decide +kernel
theorem dX8_readTower_57 : decode cX8_readTower 57 = .ok (.getfield 87, 3) := by decide +kernel
theorem dX8_readTower_60 : decode cX8_readTower 60 = .ok (.iconst 1, 1) := by decide +kernel
theorem dX8_readTower_61 : decode cX8_readTower 61 = .ok (.iadd, 1) := by decide +kernel
theorem dX8_readTower_62 : decode cX8_readTower 62 = .ok (.putfield 87, 3) := by decide +kernel
theorem dX8_readTower_65 : decode cX8_readTower 65 = .ok (.iconst 1, 1) := by decide +kernel
theorem dX8_readTower_66 : decode cX8_readTower 66 = .ok (.ireturn, 1) := by decide +kernel
theorem dX8_readPart_0 : decode cX8_readPart 0 = .ok (.aload_n 0, 1) := by decide +kernel
theorem dX8_readPart_1 : decode cX8_readPart 1 = .ok (.getfield 7, 3) := by decide +kernel
theorem dX8_readPart_4 : decode cX8_readPart 4 = .ok (.aload_n 0, 1) := by decide +kernel
theorem dX8_readPart_5 : decode cX8_readPart 5 = .ok (.getfield 84, 3) := by decide +kernel
theorem dX8_readPart_8 : decode cX8_readPart 8 = .ok (.iaload, 1) := by decide +kernel
theorem dX8_readPart_9 : decode cX8_readPart 9 = .ok (.istore_n 1, 1) := by decide +kernel
theorem dX8_readPart_10 : decode cX8_readPart 10 = .ok (.iload_n 1, 1) := by decide +kernel
theorem dX8_readPart_11 : decode cX8_readPart 11 = .ok (.bipush 87, 2) := by decide +kernel
theorem dX8_readPart_13 : decode cX8_readPart 13 = .ok (.if_icmp .ne 26, 3) := by decide +kernel
theorem dX8_readPart_16 : decode cX8_readPart 16 = .ok (.aload_n 0, 1) := by decide +kernel
theorem dX8_readPart_17 : decode cX8_readPart 17 = .ok (.getfield 100, 3) := by decide +kernel
theorem dX8_readPart_20 : decode cX8_readPart 20 = .ok (.iconst 5, 1) := by decide +kernel
theorem dX8_readPart_21 : decode cX8_readPart 21 = .ok (.if_icmp .ge 18, 3) := by decide +kernel
theorem dX8_readPart_24 : decode cX8_readPart 24 = .ok (.aload_n 0, 1) := by decide +kernel
theorem dX8_readPart_25 : decode cX8_readPart 25 = .ok (.dup, 1) := by decide +kernel
theorem dX8_readPart_26 : decode cX8_readPart 26 = .ok (.getfield 84, 3) := by decide +kernel
theorem dX8_readPart_29 : decode cX8_readPart 29 = .ok (.iconst 1, 1) := by decide +kernel
theorem dX8_readPart_30 : decode cX8_readPart 30 = .ok (.iadd, 1) := by decide +kernel
theorem dX8_readPart_31 : decode cX8_readPart 31 = .ok (.putfield 84, 3) := by decide +kernel
theorem dX8_readPart_34 : decode cX8_readPart 34 = .ok (.aload_n 0, 1) := by decide +kernel
theorem dX8_readPart_35 : decode cX8_readPart 35 = .ok (.invokevirtual 111, 3) := by decide +kernel
theorem dX8_readPart_38 : decode cX8_readPart 38 = .ok (.ireturn, 1) := by decide +kernel
theorem dX8_readPart_39 : decode cX8_readPart 39 = .ok (.iload_n 1, 1) := by decide +kernel
theorem dX8_readPart_40 : decode cX8_readPart 40 = .ok (.bipush 84, 2) := by decide +kernel
theorem dX8_readPart_42 : decode cX8_readPart 42 = .ok (.if_icmp .ne 26, 3) := by decide +kernel
theorem dX8_readPart_45 : decode cX8_readPart 45 = .ok (.aload_n 0, 1) := by decide +kernel
theorem dX8_readPart_46 : decode cX8_readPart 46 = .ok (.getfield 87, 3) := by decide +kernel
theorem dX8_readPart_49 : decode cX8_readPart 49 = .ok (.iconst 2, 1) := by decide +kernel
theorem dX8_readPart_50 : decode cX8_readPart 50 = .ok (.if_icmp .ge 18, 3) := by decide +kernel
theorem dX8_readPart_53 : decode cX8_readPart 53 = .ok (.aload_n 0, 1) := by decide +kernel
theorem dX8_readPart_54 : decode cX8_readPart 54 = .ok (.dup, 1) := by decide +kernel
theorem dX8_readPart_55 : decode cX8_readPart 55 = .ok (.getfield 84, 3) := by decide +kernel
theorem dX8_readPart_58 : decode cX8_readPart 58 = .ok (.iconst 1, 1) := by decide +kernel
theorem dX8_readPart_59 : decode cX8_readPart 59 = .ok (.iadd, 1) := by decide +kernel
theorem dX8_readPart_60 : decode cX8_readPart 60 = .ok (.putfield 84, 3) := by decide +kernel
theorem dX8_readPart_63 : decode cX8_readPart 63 = .ok (.aload_n 0, 1) := by decide +kernel
theorem dX8_readPart_64 : decode cX8_readPart 64 = .ok (.invokevirtual 115, 3) := by decide +kernel
theorem dX8_readPart_67 : decode cX8_readPart 67 = .ok (.ireturn, 1) := by decide +kernel
theorem dX8_readPart_68 : decode cX8_readPart 68 = .ok (.iload_n 1, 1) := by decide +kernel
theorem dX8_readPart_69 : decode cX8_readPart 69 = .ok (.bipush 83, 2) := by decide +kernel
theorem dX8_readPart_71 : decode cX8_readPart 71 = .ok (.if_icmp .ne 72, 3) := by decide +kernel
theorem dX8_readPart_74 : decode cX8_readPart 74 = .ok (.aload_n 0, 1) := by decide +kernel
theorem dX8_readPart_75 : decode cX8_readPart 75 = .ok (.getfield 118, 3) := by decide +kernel
theorem dX8_readPart_78 : decode cX8_readPart 78 = .ok (.sipush 510, 3) := by decide +kernel
theorem dX8_readPart_81 : decode cX8_readPart 81 = .ok (.if_icmp .eq 62, 3) := by decide +kernel
theorem dX8_readPart_84 : decode cX8_readPart 84 = .ok (.aload_n 0, 1) := by decide +kernel
theorem dX8_readPart_85 : decode cX8_readPart 85 = .ok (.dup, 1) := by decide +kernel
theorem dX8_readPart_86 : decode cX8_readPart 86 = .ok (.getfield 84, 3) := by decide +kernel
theorem dX8_readPart_89 : decode cX8_readPart 89 = .ok (.iconst 1, 1) := by decide +kernel
theorem dX8_readPart_90 : decode cX8_readPart 90 = .ok (.iadd, 1) := by decide +kernel
theorem dX8_readPart_91 : decode cX8_readPart 91 = .ok (.putfield 84, 3) := by decide +kernel
theorem dX8_readPart_94 : decode cX8_readPart 94 = .ok (.aload_n 0, 1) := by decide +kernel
theorem dX8_readPart_95 : decode cX8_readPart 95 = .ok (.sipush 510, 3) := by decide +kernel
theorem dX8_readPart_98 : decode cX8_readPart 98 = .ok (.aload_n 0, 1) := by decide +kernel
theorem dX8_readPart_99 : decode cX8_readPart 99 = .ok (.getfield 118, 3) := by decide +kernel
theorem dX8_readPart_102 : decode cX8_readPart 102 = .ok (.iconst (-1), 1) := by decide +kernel
theorem dX8_readPart_103 : decode cX8_readPart 103 = .ok (.ixor, 1) := by decide +kernel
theorem dX8_readPart_104 : decode cX8_readPart 104 = .ok (.iand, 1) := by decide +kernel
theorem dX8_readPart_105 : decode cX8_readPart 105 = .ok (.invokevirtual 107, 3) := by decide +kernel
theorem dX8_readPart_108 : decode cX8_readPart 108 = .ok (.istore_n 2, 1) := by decide +kernel
theorem dX8_readPart_109 : decode cX8_readPart 109 = .ok (.aload_n 0, 1) := by decide +kernel
theorem dX8_readPart_110 : decode cX8_readPart 110 = .ok (.dup, 1) := by decide +kernel
theorem dX8_readPart_111 : decode cX8_readPart 111 = .ok (.getfield 118, 3) := by decide +kernel
theorem dX8_readPart_114 : decode cX8_readPart 114 = .ok (.iload_n 2, 1) := by decide +kernel
theorem dX8_readPart_115 : decode cX8_readPart 115 = .ok (.bipush (-9), 2) := by decide +kernel
theorem dX8_readPart_117 : decode cX8_readPart 117 = .ok (.if_icmp .ne 7, 3) := by decide +kernel
theorem dX8_readPart_120 : decode cX8_readPart 120 = .ok (.iconst 0, 1) := by decide +kernel
theorem dX8_readPart_121 : decode cX8_readPart 121 = .ok (.goto 6, 3) := by decide +kernel
theorem dX8_readPart_124 : decode cX8_readPart 124 = .ok (.iconst 1, 1) := by decide +kernel
theorem dX8_readPart_125 : decode cX8_readPart 125 = .ok (.iload_n 2, 1) := by decide +kernel
theorem dX8_readPart_126 : decode cX8_readPart 126 = .ok (.ishl, 1) := by decide +kernel
theorem dX8_readPart_127 : decode cX8_readPart 127 = .ok (.ior, 1) := by decide +kernel
theorem dX8_readPart_128 : decode cX8_readPart 128 = .ok (.putfield 118, 3) := by decide +kernel
theorem dX8_readPart_131 : decode cX8_readPart 131 = .ok (.iload_n 2, 1) := by decide +kernel
theorem dX8_readPart_132 : decode cX8_readPart 132 = .ok (.bipush (-9), 2) := by decide +kernel
theorem dX8_readPart_134 : decode cX8_readPart 134 = .ok (.if_icmp .eq 7, 3) := by decide +kernel
theorem dX8_readPart_137 : decode cX8_readPart 137 = .ok (.iconst 1, 1) := by decide +kernel
theorem dX8_readPart_138 : decode cX8_readPart 138 = .ok (.goto 4, 3) := by decide +kernel
theorem dX8_readPart_141 : decode cX8_readPart 141 = .ok (.iconst 0, 1) := by decide +kernel
theorem dX8_readPart_142 : decode cX8_readPart 142 = .ok (.ireturn, 1) := by decide +kernel
theorem dX8_readPart_143 : decode cX8_readPart 143 = .ok (.iconst 0, 1) := by decide +kernel
theorem dX8_readPart_144 : decode cX8_readPart 144 = .ok (.ireturn, 1) := by decide +kernel
theorem dX8_readHead_0 : decode cX8_readHead 0 = .ok (.iconst 0, 1) := by decide +kernel
theorem dX8_readHead_1 : decode cX8_readHead 1 = .ok (.istore_n 1, 1) := by decide +kernel
theorem dX8_readHead_2 : decode cX8_readHead 2 = .ok (.iload_n 1, 1) := by decide +kernel
theorem dX8_readHead_3 : decode cX8_readHead 3 = .ok (.bipush 10, 2) := by decide +kernel
theorem dX8_readHead_5 : decode cX8_readHead 5 = .ok (.if_icmp .ge 35, 3) := by decide +kernel
theorem dX8_readHead_8 : decode cX8_readHead 8 = .ok (.aload_n 0, 1) := by decide +kernel
theorem dX8_readHead_9 : decode cX8_readHead 9 = .ok (.getfield 32, 3) := by decide +kernel
theorem dX8_readHead_12 : decode cX8_readHead 12 = .ok (.iload_n 1, 1) := by decide +kernel
theorem dX8_readHead_13 : decode cX8_readHead 13 = .ok (.aload_n 0, 1) := by decide +kernel
theorem dX8_readHead_14 : decode cX8_readHead 14 = .ok (.iconst 0, 1) := by decide +kernel
theorem dX8_readHead_15 : decode cX8_readHead 15 = .ok (.bipush 9, 2) := by decide +kernel
theorem dX8_readHead_17 : decode cX8_readHead 17 = .ok (.invokevirtual 96, 3) := by decide +kernel
theorem dX8_readHead_20 : decode cX8_readHead 20 = .ok (.iastore, 1) := by decide +kernel
theorem dX8_readHead_21 : decode cX8_readHead 21 = .ok (.aload_n 0, 1) := by decide +kernel
theorem dX8_readHead_22 : decode cX8_readHead 22 = .ok (.getfield 32, 3) := by decide +kernel
theorem dX8_readHead_25 : decode cX8_readHead 25 = .ok (.iload_n 1, 1) := by decide +kernel
theorem dX8_readHead_26 : decode cX8_readHead 26 = .ok (.iaload, 1) := by decide +kernel
theorem dX8_readHead_27 : decode cX8_readHead 27 = .ok (.bipush (-9), 2) := by decide +kernel
theorem dX8_readHead_29 : decode cX8_readHead 29 = .ok (.if_icmp .ne 5, 3) := by decide +kernel
theorem dX8_readHead_32 : decode cX8_readHead 32 = .ok (.iconst 0, 1) := by decide +kernel
theorem dX8_readHead_33 : decode cX8_readHead 33 = .ok (.ireturn, 1) := by decide +kernel
theorem dX8_readHead_34 : decode cX8_readHead 34 = .ok (.iinc 1 1, 3) := by decide +kernel
theorem dX8_readHead_37 : decode cX8_readHead 37 = .ok (.goto (-35), 3) := by decide +kernel
theorem dX8_readHead_40 : decode cX8_readHead 40 = .ok (.aload_n 0, 1) := by decide +kernel
theorem dX8_readHead_41 : decode cX8_readHead 41 = .ok (.iconst 0, 1) := by decide +kernel
theorem dX8_readHead_42 : decode cX8_readHead 42 = .ok (.iconst 4, 1) := by decide +kernel
theorem dX8_readHead_43 : decode cX8_readHead 43 = .ok (.invokevirtual 96, 3) := by decide +kernel
theorem dX8_readHead_46 : decode cX8_readHead 46 = .ok (.istore_n 1, 1) := by decide +kernel
theorem dX8_readHead_47 : decode cX8_readHead 47 = .ok (.iload_n 1, 1) := by decide +kernel
theorem dX8_readHead_48 : decode cX8_readHead 48 = .ok (.bipush (-9), 2) := by decide +kernel
theorem dX8_readHead_50 : decode cX8_readHead 50 = .ok (.if_icmp .ne 8, 3) := by decide +kernel
theorem dX8_readHead_53 : decode cX8_readHead 53 = .ok (.bipush (-9), 2) := by decide +kernel
theorem dX8_readHead_55 : decode cX8_readHead 55 = .ok (.goto 19, 3) := by decide +kernel
theorem dX8_readHead_58 : decode cX8_readHead 58 = .ok (.aload_n 0, 1) := by decide +kernel
theorem dX8_readHead_59 : decode cX8_readHead 59 = .ok (.iconst 0, 1) := by decide +kernel
theorem dX8_readHead_60 : decode cX8_readHead 60 = .ok (.iload_n 1, 1) := by decide +kernel
theorem dX8_readHead_61 : decode cX8_readHead 61 = .ok (.iconst 4, 1) := by decide +kernel
theorem dX8_readHead_62 : decode cX8_readHead 62 = .ok (.if_icmp .ne 7, 3) := by decide +kernel
theorem dX8_readHead_65 : decode cX8_readHead 65 = .ok (.iconst 0, 1) := by decide +kernel
theorem dX8_readHead_66 : decode cX8_readHead 66 = .ok (.goto 5, 3) := by decide +kernel
theorem dX8_readHead_69 : decode cX8_readHead 69 = .ok (.bipush 9, 2) := by decide +kernel
theorem dX8_readHead_71 : decode cX8_readHead 71 = .ok (.invokevirtual 96, 3) := by decide +kernel
theorem dX8_readHead_74 : decode cX8_readHead 74 = .ok (.istore_n 2, 1) := by decide +kernel
theorem dX8_readHead_75 : decode cX8_readHead 75 = .ok (.aload_n 0, 1) := by decide +kernel
theorem dX8_readHead_76 : decode cX8_readHead 76 = .ok (.bipush 10, 2) := by decide +kernel
theorem dX8_readHead_78 : decode cX8_readHead 78 = .ok (.iload_n 1, 1) := by decide +kernel
theorem dX8_readHead_79 : decode cX8_readHead 79 = .ok (.imul, 1) := by decide +kernel
theorem dX8_readHead_80 : decode cX8_readHead 80 = .ok (.iload_n 2, 1) := by decide +kernel
theorem dX8_readHead_81 : decode cX8_readHead 81 = .ok (.iadd, 1) := by decide +kernel
theorem dX8_readHead_82 : decode cX8_readHead 82 = .ok (.putfield 121, 3) := by decide +kernel
theorem dX8_readHead_85 : decode cX8_readHead 85 = .ok (.aload_n 0, 1) := by decide +kernel
theorem dX8_readHead_86 : decode cX8_readHead 86 = .ok (.iload_n 2, 1) := by decide +kernel
theorem dX8_readHead_87 : decode cX8_readHead 87 = .ok (.bipush (-9), 2) := by decide +kernel
theorem dX8_readHead_89 : decode cX8_readHead 89 = .ok (.if_icmp .ne 8, 3) := by decide +kernel
theorem dX8_readHead_92 : decode cX8_readHead 92 = .ok (.bipush (-9), 2) := by decide +kernel
theorem dX8_readHead_94 : decode cX8_readHead 94 = .ok (.goto 9, 3) := by decide +kernel
theorem dX8_readHead_97 : decode cX8_readHead 97 = .ok (.aload_n 0, 1) := by decide +kernel
theorem dX8_readHead_98 : decode cX8_readHead 98 = .ok (.iconst 1, 1) := by decide +kernel
theorem dX8_readHead_99 : decode cX8_readHead 99 = .ok (.iconst 3, 1) := by decide +kernel
theorem dX8_readHead_100 : decode cX8_readHead 100 = .ok (.invokevirtual 96, 3) := by decide +kernel
theorem dX8_readHead_103 : decode cX8_readHead 103 = .ok (.putfield 124, 3) := by decide +kernel
theorem dX8_readHead_106 : decode cX8_readHead 106 = .ok (.aload_n 0, 1) := by decide +kernel
theorem dX8_readHead_107 : decode cX8_readHead 107 = .ok (.aload_n 0, 1) := by decide +kernel
theorem dX8_readHead_108 : decode cX8_readHead 108 = .ok (.getfield 124, 3) := by decide +kernel
theorem dX8_readHead_111 : decode cX8_readHead 111 = .ok (.bipush (-9), 2) := by decide +kernel
theorem dX8_readHead_113 : decode cX8_readHead 113 = .ok (.if_icmp .ne 8, 3) := by decide +kernel
theorem dX8_readHead_116 : decode cX8_readHead 116 = .ok (.bipush (-9), 2) := by decide +kernel
theorem dX8_readHead_118 : decode cX8_readHead 118 = .ok (.goto 10, 3) := by decide +kernel
theorem dX8_readHead_121 : decode cX8_readHead 121 = .ok (.aload_n 0, 1) := by decide +kernel
theorem dX8_readHead_122 : decode cX8_readHead 122 = .ok (.iconst 0, 1) := by decide +kernel
theorem dX8_readHead_123 : decode cX8_readHead 123 = .ok (.bipush 9, 2) := by decide +kernel
theorem dX8_readHead_125 : decode cX8_readHead 125 = .ok (.invokevirtual 96, 3) := by decide +kernel
theorem dX8_readHead_128 : decode cX8_readHead 128 = .ok (.putfield 127, 3) := by decide +kernel
theorem dX8_readHead_131 : decode cX8_readHead 131 = .ok (.aload_n 0, 1) := by decide +kernel
theorem dX8_readHead_132 : decode cX8_readHead 132 = .ok (.getfield 127, 3) := by decide +kernel
theorem dX8_readHead_135 : decode cX8_readHead 135 = .ok (.bipush (-9), 2) := by decide +kernel
theorem dX8_readHead_137 : decode cX8_readHead 137 = .ok (.if_icmp .eq 7, 3) := by decide +kernel
theorem dX8_readHead_140 : decode cX8_readHead 140 = .ok (.iconst 1, 1) := by decide +kernel
theorem dX8_readHead_141 : decode cX8_readHead 141 = .ok (.goto 4, 3) := by decide +kernel
theorem dX8_readHead_144 : decode cX8_readHead 144 = .ok (.iconst 0, 1) := by decide +kernel
theorem dX8_readHead_145 : decode cX8_readHead 145 = .ok (.ireturn, 1) := by decide +kernel
theorem dX8_readBay_0 : decode cX8_readBay 0 = .ok (.aload_n 0, 1) := by decide +kernel
theorem dX8_readBay_1 : decode cX8_readBay 1 = .ok (.iconst 0, 1) := by decide +kernel
theorem dX8_readBay_2 : decode cX8_readBay 2 = .ok (.putfield 84, 3) := by decide +kernel
theorem dX8_readBay_5 : decode cX8_readBay 5 = .ok (.aload_n 0, 1) := by decide +kernel
theorem dX8_readBay_6 : decode cX8_readBay 6 = .ok (.iconst 0, 1) := by decide +kernel
theorem dX8_readBay_7 : decode cX8_readBay 7 = .ok (.putfield 100, 3) := by decide +kernel
theorem dX8_readBay_10 : decode cX8_readBay 10 = .ok (.aload_n 0, 1) := by decide +kernel
theorem dX8_readBay_11 : decode cX8_readBay 11 = .ok (.iconst 0, 1) := by decide +kernel
theorem dX8_readBay_12 : decode cX8_readBay 12 = .ok (.putfield 87, 3) := by decide +kernel
theorem dX8_readBay_15 : decode cX8_readBay 15 = .ok (.aload_n 0, 1) := by decide +kernel
theorem dX8_readBay_16 : decode cX8_readBay 16 = .ok (.iconst 0, 1) := by decide +kernel
theorem dX8_readBay_17 : decode cX8_readBay 17 = .ok (.putfield 118, 3) := by decide +kernel
theorem dX8_readBay_20 : decode cX8_readBay 20 = .ok (.aload_n 0, 1) := by decide +kernel
theorem dX8_readBay_21 : decode cX8_readBay 21 = .ok (.getfield 81, 3) := by decide +kernel
theorem dX8_readBay_24 : decode cX8_readBay 24 = .ok (.ifCond .eq 14, 3) := by decide +kernel
theorem dX8_readBay_27 : decode cX8_readBay 27 = .ok (.aload_n 0, 1) := by decide +kernel
theorem dX8_readBay_28 : decode cX8_readBay 28 = .ok (.getfield 7, 3) := by decide +kernel
theorem dX8_readBay_31 : decode cX8_readBay 31 = .ok (.iconst 0, 1) := by decide +kernel
theorem dX8_readBay_32 : decode cX8_readBay 32 = .ok (.iaload, 1) := by decide +kernel
theorem dX8_readBay_33 : decode cX8_readBay 33 = .ok (.bipush 66, 2) := by decide +kernel
theorem dX8_readBay_35 : decode cX8_readBay 35 = .ok (.if_icmp .eq 5, 3) := by decide +kernel
theorem dX8_readBay_38 : decode cX8_readBay 38 = .ok (.iconst 0, 1) := by decide +kernel
theorem dX8_readBay_39 : decode cX8_readBay 39 = .ok (.ireturn, 1) := by decide +kernel
theorem dX8_readBay_40 : decode cX8_readBay 40 = .ok (.aload_n 0, 1) := by decide +kernel
theorem dX8_readBay_41 : decode cX8_readBay 41 = .ok (.iconst 1, 1) := by decide +kernel
theorem dX8_readBay_42 : decode cX8_readBay 42 = .ok (.putfield 84, 3) := by decide +kernel
theorem dX8_readBay_45 : decode cX8_readBay 45 = .ok (.aload_n 0, 1) := by decide +kernel
theorem dX8_readBay_46 : decode cX8_readBay 46 = .ok (.invokevirtual 130, 3) := by decide +kernel
theorem dX8_readBay_49 : decode cX8_readBay 49 = .ok (.ifCond .ne 8, 3) := by decide +kernel
theorem dX8_readBay_52 : decode cX8_readBay 52 = .ok (.aload_n 0, 1) := by decide +kernel
theorem dX8_readBay_53 : decode cX8_readBay 53 = .ok (.getfield 84, 3) := by decide +kernel
theorem dX8_readBay_56 : decode cX8_readBay 56 = .ok (.ireturn, 1) := by decide +kernel
theorem dX8_readBay_57 : decode cX8_readBay 57 = .ok (.aload_n 0, 1) := by decide +kernel
theorem dX8_readBay_58 : decode cX8_readBay 58 = .ok (.getfield 84, 3) := by decide +kernel
theorem dX8_readBay_61 : decode cX8_readBay 61 = .ok (.aload_n 0, 1) := by decide +kernel
theorem dX8_readBay_62 : decode cX8_readBay 62 = .ok (.getfield 81, 3) := by decide +kernel
theorem dX8_readBay_65 : decode cX8_readBay 65 = .ok (.if_icmp .ge 15, 3) := by decide +kernel
theorem dX8_readBay_68 : decode cX8_readBay 68 = .ok (.aload_n 0, 1) := by decide +kernel
theorem dX8_readBay_69 : decode cX8_readBay 69 = .ok (.invokevirtual 133, 3) := by decide +kernel
theorem dX8_readBay_72 : decode cX8_readBay 72 = .ok (.ifCond .ne (-15), 3) := by decide +kernel
theorem dX8_readBay_75 : decode cX8_readBay 75 = .ok (.aload_n 0, 1) := by decide +kernel
theorem dX8_readBay_76 : decode cX8_readBay 76 = .ok (.getfield 84, 3) := by decide +kernel
theorem dX8_readBay_79 : decode cX8_readBay 79 = .ok (.ireturn, 1) := by decide +kernel
theorem dX8_readBay_80 : decode cX8_readBay 80 = .ok (.bipush (-9), 2) := by decide +kernel
theorem dX8_readBay_82 : decode cX8_readBay 82 = .ok (.ireturn, 1) := by decide +kernel
theorem dX8_fault_0 : decode cX8_fault 0 = .ok (.aload_n 0, 1) := by decide +kernel
theorem dX8_fault_1 : decode cX8_fault 1 = .ok (.iconst 0, 1) := by decide +kernel
theorem dX8_fault_2 : decode cX8_fault 2 = .ok (.putfield 67, 3) := by decide +kernel
theorem dX8_fault_5 : decode cX8_fault 5 = .ok (.aload_n 0, 1) := by decide +kernel
theorem dX8_fault_6 : decode cX8_fault 6 = .ok (.invokevirtual 136, 3) := by decide +kernel
theorem dX8_fault_9 : decode cX8_fault 9 = .ok (.ireturn, 1) := by decide +kernel
theorem dX8_bay_0 : decode cX8_bay 0 = .ok (.aload_n 0, 1) := by decide +kernel
theorem dX8_bay_1 : decode cX8_bay 1 = .ok (.iconst 0, 1) := by decide +kernel
theorem dX8_bay_2 : decode cX8_bay 2 = .ok (.putfield 67, 3) := by decide +kernel
theorem dX8_bay_5 : decode cX8_bay 5 = .ok (.aload_n 0, 1) := by decide +kernel
theorem dX8_bay_6 : decode cX8_bay 6 = .ok (.invokevirtual 136, 3) := by decide +kernel
theorem dX8_bay_9 : decode cX8_bay 9 = .ok (.bipush (-9), 2) := by decide +kernel
theorem dX8_bay_11 : decode cX8_bay 11 = .ok (.if_icmp .eq 6, 3) := by decide +kernel
theorem dX8_bay_14 : decode cX8_bay 14 = .ok (.bipush (-3), 2) := by decide +kernel
theorem dX8_bay_16 : decode cX8_bay 16 = .ok (.ireturn, 1) := by decide +kernel
theorem dX8_bay_17 : decode cX8_bay 17 = .ok (.iconst 0, 1) := by decide +kernel
theorem dX8_bay_18 : decode cX8_bay 18 = .ok (.istore_n 1, 1) := by decide +kernel
theorem dX8_bay_19 : decode cX8_bay 19 = .ok (.iload_n 1, 1) := by decide +kernel
theorem dX8_bay_20 : decode cX8_bay 20 = .ok (.bipush 10, 2) := by decide +kernel
theorem dX8_bay_22 : decode cX8_bay 22 = .ok (.if_icmp .ge 21, 3) := by decide +kernel
theorem dX8_bay_25 : decode cX8_bay 25 = .ok (.aload_n 0, 1) := by decide +kernel
theorem dX8_bay_26 : decode cX8_bay 26 = .ok (.getfield 13, 3) := by decide +kernel
theorem dX8_bay_29 : decode cX8_bay 29 = .ok (.iload_n 1, 1) := by decide +kernel
theorem dX8_bay_30 : decode cX8_bay 30 = .ok (.aload_n 0, 1) := by decide +kernel
theorem dX8_bay_31 : decode cX8_bay 31 = .ok (.getfield 32, 3) := by decide +kernel
theorem dX8_bay_34 : decode cX8_bay 34 = .ok (.iload_n 1, 1) := by decide +kernel
theorem dX8_bay_35 : decode cX8_bay 35 = .ok (.iaload, 1) := by decide +kernel
theorem dX8_bay_36 : decode cX8_bay 36 = .ok (.iastore, 1) := by decide +kernel
theorem dX8_bay_37 : decode cX8_bay 37 = .ok (.iinc 1 1, 3) := by decide +kernel
theorem dX8_bay_40 : decode cX8_bay 40 = .ok (.goto (-21), 3) := by decide +kernel
theorem dX8_bay_43 : decode cX8_bay 43 = .ok (.aload_n 0, 1) := by decide +kernel
theorem dX8_bay_44 : decode cX8_bay 44 = .ok (.aload_n 0, 1) := by decide +kernel
theorem dX8_bay_45 : decode cX8_bay 45 = .ok (.getfield 121, 3) := by decide +kernel
theorem dX8_bay_48 : decode cX8_bay 48 = .ok (.putfield 139, 3) := by decide +kernel
theorem dX8_bay_51 : decode cX8_bay 51 = .ok (.aload_n 0, 1) := by decide +kernel
theorem dX8_bay_52 : decode cX8_bay 52 = .ok (.aload_n 0, 1) := by decide +kernel
theorem dX8_bay_53 : decode cX8_bay 53 = .ok (.getfield 124, 3) := by decide +kernel
theorem dX8_bay_56 : decode cX8_bay 56 = .ok (.putfield 16, 3) := by decide +kernel
theorem dX8_bay_59 : decode cX8_bay 59 = .ok (.aload_n 0, 1) := by decide +kernel
theorem dX8_bay_60 : decode cX8_bay 60 = .ok (.aload_n 0, 1) := by decide +kernel
theorem dX8_bay_61 : decode cX8_bay 61 = .ok (.getfield 127, 3) := by decide +kernel
theorem dX8_bay_64 : decode cX8_bay 64 = .ok (.putfield 142, 3) := by decide +kernel
theorem dX8_bay_67 : decode cX8_bay 67 = .ok (.aload_n 0, 1) := by decide +kernel
theorem dX8_bay_68 : decode cX8_bay 68 = .ok (.aload_n 0, 1) := by decide +kernel
theorem dX8_bay_69 : decode cX8_bay 69 = .ok (.getfield 100, 3) := by decide +kernel
theorem dX8_bay_72 : decode cX8_bay 72 = .ok (.putfield 70, 3) := by decide +kernel
theorem dX8_bay_75 : decode cX8_bay 75 = .ok (.aload_n 0, 1) := by decide +kernel
theorem dX8_bay_76 : decode cX8_bay 76 = .ok (.aload_n 0, 1) := by decide +kernel
theorem dX8_bay_77 : decode cX8_bay 77 = .ok (.getfield 87, 3) := by decide +kernel
theorem dX8_bay_80 : decode cX8_bay 80 = .ok (.putfield 145, 3) := by decide +kernel
theorem dX8_bay_83 : decode cX8_bay 83 = .ok (.aload_n 0, 1) := by decide +kernel
theorem dX8_bay_84 : decode cX8_bay 84 = .ok (.aload_n 0, 1) := by decide +kernel
theorem dX8_bay_85 : decode cX8_bay 85 = .ok (.getfield 118, 3) := by decide +kernel
theorem dX8_bay_88 : decode cX8_bay 88 = .ok (.putfield 148, 3) := by decide +kernel
theorem dX8_bay_91 : decode cX8_bay 91 = .ok (.iconst 0, 1) := by decide +kernel
theorem dX8_bay_92 : decode cX8_bay 92 = .ok (.istore_n 1, 1) := by decide +kernel
theorem dX8_bay_93 : decode cX8_bay 93 = .ok (.iload_n 1, 1) := by decide +kernel
theorem dX8_bay_94 : decode cX8_bay 94 = .ok (.aload_n 0, 1) := by decide +kernel
theorem dX8_bay_95 : decode cX8_bay 95 = .ok (.getfield 70, 3) := by decide +kernel
theorem dX8_bay_98 : decode cX8_bay 98 = .ok (.if_icmp .ge 33, 3) := by decide +kernel
theorem dX8_bay_101 : decode cX8_bay 101 = .ok (.aload_n 0, 1) := by decide +kernel
theorem dX8_bay_102 : decode cX8_bay 102 = .ok (.getfield 20, 3) := by decide +kernel
theorem dX8_bay_105 : decode cX8_bay 105 = .ok (.iload_n 1, 1) := by decide +kernel
theorem dX8_bay_106 : decode cX8_bay 106 = .ok (.aload_n 0, 1) := by decide +kernel
theorem dX8_bay_107 : decode cX8_bay 107 = .ok (.getfield 35, 3) := by decide +kernel
theorem dX8_bay_110 : decode cX8_bay 110 = .ok (.iload_n 1, 1) := by decide +kernel
theorem dX8_bay_111 : decode cX8_bay 111 = .ok (.iaload, 1) := by decide +kernel
theorem dX8_bay_112 : decode cX8_bay 112 = .ok (.iastore, 1) := by decide +kernel
theorem dX8_bay_113 : decode cX8_bay 113 = .ok (.aload_n 0, 1) := by decide +kernel
theorem dX8_bay_114 : decode cX8_bay 114 = .ok (.getfield 23, 3) := by decide +kernel
theorem dX8_bay_117 : decode cX8_bay 117 = .ok (.iload_n 1, 1) := by decide +kernel
theorem dX8_bay_118 : decode cX8_bay 118 = .ok (.aload_n 0, 1) := by decide +kernel
theorem dX8_bay_119 : decode cX8_bay 119 = .ok (.getfield 38, 3) := by decide +kernel
theorem dX8_bay_122 : decode cX8_bay 122 = .ok (.iload_n 1, 1) := by decide +kernel
theorem dX8_bay_123 : decode cX8_bay 123 = .ok (.iaload, 1) := by decide +kernel
theorem dX8_bay_124 : decode cX8_bay 124 = .ok (.iastore, 1) := by decide +kernel
theorem dX8_bay_125 : decode cX8_bay 125 = .ok (.iinc 1 1, 3) := by decide +kernel
theorem dX8_bay_128 : decode cX8_bay 128 = .ok (.goto (-35), 3) := by decide +kernel
theorem dX8_bay_131 : decode cX8_bay 131 = .ok (.iconst 0, 1) := by decide +kernel
theorem dX8_bay_132 : decode cX8_bay 132 = .ok (.istore_n 1, 1) := by decide +kernel
theorem dX8_bay_133 : decode cX8_bay 133 = .ok (.iload_n 1, 1) := by decide +kernel
theorem dX8_bay_134 : decode cX8_bay 134 = .ok (.aload_n 0, 1) := by decide +kernel
theorem dX8_bay_135 : decode cX8_bay 135 = .ok (.getfield 145, 3) := by decide +kernel
theorem dX8_bay_138 : decode cX8_bay 138 = .ok (.if_icmp .ge 33, 3) := by decide +kernel
theorem dX8_bay_141 : decode cX8_bay 141 = .ok (.aload_n 0, 1) := by decide +kernel
theorem dX8_bay_142 : decode cX8_bay 142 = .ok (.getfield 26, 3) := by decide +kernel
theorem dX8_bay_145 : decode cX8_bay 145 = .ok (.iload_n 1, 1) := by decide +kernel
theorem dX8_bay_146 : decode cX8_bay 146 = .ok (.aload_n 0, 1) := by decide +kernel
theorem dX8_bay_147 : decode cX8_bay 147 = .ok (.getfield 41, 3) := by decide +kernel
theorem dX8_bay_150 : decode cX8_bay 150 = .ok (.iload_n 1, 1) := by decide +kernel
theorem dX8_bay_151 : decode cX8_bay 151 = .ok (.iaload, 1) := by decide +kernel
theorem dX8_bay_152 : decode cX8_bay 152 = .ok (.iastore, 1) := by decide +kernel
theorem dX8_bay_153 : decode cX8_bay 153 = .ok (.aload_n 0, 1) := by decide +kernel
theorem dX8_bay_154 : decode cX8_bay 154 = .ok (.getfield 29, 3) := by decide +kernel
theorem dX8_bay_157 : decode cX8_bay 157 = .ok (.iload_n 1, 1) := by decide +kernel
theorem dX8_bay_158 : decode cX8_bay 158 = .ok (.aload_n 0, 1) := by decide +kernel
theorem dX8_bay_159 : decode cX8_bay 159 = .ok (.getfield 44, 3) := by decide +kernel
theorem dX8_bay_162 : decode cX8_bay 162 = .ok (.iload_n 1, 1) := by decide +kernel
theorem dX8_bay_163 : decode cX8_bay 163 = .ok (.iaload, 1) := by decide +kernel
theorem dX8_bay_164 : decode cX8_bay 164 = .ok (.iastore, 1) := by decide +kernel
theorem dX8_bay_165 : decode cX8_bay 165 = .ok (.iinc 1 1, 3) := by decide +kernel
theorem dX8_bay_168 : decode cX8_bay 168 = .ok (.goto (-35), 3) := by decide +kernel
theorem dX8_bay_171 : decode cX8_bay 171 = .ok (.iconst 0, 1) := by decide +kernel
theorem dX8_bay_172 : decode cX8_bay 172 = .ok (.istore_n 1, 1) := by decide +kernel
theorem dX8_bay_173 : decode cX8_bay 173 = .ok (.iload_n 1, 1) := by decide +kernel
theorem dX8_bay_174 : decode cX8_bay 174 = .ok (.bipush 16, 2) := by decide +kernel
theorem dX8_bay_176 : decode cX8_bay 176 = .ok (.if_icmp .ge 16, 3) := by decide +kernel
theorem dX8_bay_179 : decode cX8_bay 179 = .ok (.aload_n 0, 1) := by decide +kernel
theorem dX8_bay_180 : decode cX8_bay 180 = .ok (.getfield 47, 3) := by decide +kernel
theorem dX8_bay_183 : decode cX8_bay 183 = .ok (.iload_n 1, 1) := by decide +kernel
theorem dX8_bay_184 : decode cX8_bay 184 = .ok (.iconst 0, 1) := by decide +kernel
theorem dX8_bay_185 : decode cX8_bay 185 = .ok (.iastore, 1) := by decide +kernel
theorem dX8_bay_186 : decode cX8_bay 186 = .ok (.iinc 1 1, 3) := by decide +kernel
theorem dX8_bay_189 : decode cX8_bay 189 = .ok (.goto (-16), 3) := by decide +kernel
theorem dX8_bay_192 : decode cX8_bay 192 = .ok (.aload_n 0, 1) := by decide +kernel
theorem dX8_bay_193 : decode cX8_bay 193 = .ok (.iconst 0, 1) := by decide +kernel
theorem dX8_bay_194 : decode cX8_bay 194 = .ok (.putfield 151, 3) := by decide +kernel
theorem dX8_bay_197 : decode cX8_bay 197 = .ok (.aload_n 0, 1) := by decide +kernel
theorem dX8_bay_198 : decode cX8_bay 198 = .ok (.getfield 56, 3) := by decide +kernel
theorem dX8_bay_201 : decode cX8_bay 201 = .ok (.iconst 0, 1) := by decide +kernel
theorem dX8_bay_202 : decode cX8_bay 202 = .ok (.iconst 0, 1) := by decide +kernel
theorem dX8_bay_203 : decode cX8_bay 203 = .ok (.bastore, 1) := by decide +kernel
theorem dX8_bay_204 : decode cX8_bay 204 = .ok (.aload_n 0, 1) := by decide +kernel
theorem dX8_bay_205 : decode cX8_bay 205 = .ok (.getfield 56, 3) := by decide +kernel
theorem dX8_bay_208 : decode cX8_bay 208 = .ok (.iconst 1, 1) := by decide +kernel
theorem dX8_bay_209 : decode cX8_bay 209 = .ok (.iconst 0, 1) := by decide +kernel
theorem dX8_bay_210 : decode cX8_bay 210 = .ok (.bastore, 1) := by decide +kernel
theorem dX8_bay_211 : decode cX8_bay 211 = .ok (.bipush 10, 2) := by decide +kernel
theorem dX8_bay_213 : decode cX8_bay 213 = .ok (.aload_n 0, 1) := by decide +kernel
theorem dX8_bay_214 : decode cX8_bay 214 = .ok (.getfield 70, 3) := by decide +kernel
theorem dX8_bay_217 : decode cX8_bay 217 = .ok (.imul, 1) := by decide +kernel
theorem dX8_bay_218 : decode cX8_bay 218 = .ok (.aload_n 0, 1) := by decide +kernel
theorem dX8_bay_219 : decode cX8_bay 219 = .ok (.getfield 145, 3) := by decide +kernel
theorem dX8_bay_222 : decode cX8_bay 222 = .ok (.iadd, 1) := by decide +kernel
theorem dX8_bay_223 : decode cX8_bay 223 = .ok (.ireturn, 1) := by decide +kernel
theorem dX8_water_0 : decode cX8_water 0 = .ok (.aload_n 0, 1) := by decide +kernel
theorem dX8_water_1 : decode cX8_water 1 = .ok (.getfield 142, 3) := by decide +kernel
theorem dX8_water_4 : decode cX8_water 4 = .ok (.aload_n 0, 1) := by decide +kernel
theorem dX8_water_5 : decode cX8_water 5 = .ok (.getfield 16, 3) := by decide +kernel
theorem dX8_water_8 : decode cX8_water 8 = .ok (.iload_n 1, 1) := by decide +kernel
theorem dX8_water_9 : decode cX8_water 9 = .ok (.iload_n 2, 1) := by decide +kernel
theorem dX8_water_10 : decode cX8_water 10 = .ok (.if_icmp .ge 9, 3) := by decide +kernel
theorem dX8_water_13 : decode cX8_water 13 = .ok (.iload_n 2, 1) := by decide +kernel
theorem dX8_water_14 : decode cX8_water 14 = .ok (.iload_n 1, 1) := by decide +kernel
theorem dX8_water_15 : decode cX8_water 15 = .ok (.isub, 1) := by decide +kernel
theorem dX8_water_16 : decode cX8_water 16 = .ok (.goto 6, 3) := by decide +kernel
theorem dX8_water_19 : decode cX8_water 19 = .ok (.iload_n 1, 1) := by decide +kernel
theorem dX8_water_20 : decode cX8_water 20 = .ok (.iload_n 2, 1) := by decide +kernel
theorem dX8_water_21 : decode cX8_water 21 = .ok (.isub, 1) := by decide +kernel
theorem dX8_water_22 : decode cX8_water 22 = .ok (.imul, 1) := by decide +kernel
theorem dX8_water_23 : decode cX8_water 23 = .ok (.iadd, 1) := by decide +kernel
theorem dX8_water_24 : decode cX8_water 24 = .ok (.istore_n 3, 1) := by decide +kernel
theorem dX8_water_25 : decode cX8_water 25 = .ok (.iload_n 3, 1) := by decide +kernel
theorem dX8_water_26 : decode cX8_water 26 = .ok (.bipush 9, 2) := by decide +kernel
theorem dX8_water_28 : decode cX8_water 28 = .ok (.if_icmp .le 8, 3) := by decide +kernel
theorem dX8_water_31 : decode cX8_water 31 = .ok (.bipush 9, 2) := by decide +kernel
theorem dX8_water_33 : decode cX8_water 33 = .ok (.goto 4, 3) := by decide +kernel
theorem dX8_water_36 : decode cX8_water 36 = .ok (.iload_n 3, 1) := by decide +kernel
theorem dX8_water_37 : decode cX8_water 37 = .ok (.ireturn, 1) := by decide +kernel
theorem dX8_deepBy_0 : decode cX8_deepBy 0 = .ok (.aload_n 0, 1) := by decide +kernel
theorem dX8_deepBy_1 : decode cX8_deepBy 1 = .ok (.iload_n 2, 1) := by decide +kernel
theorem dX8_deepBy_2 : decode cX8_deepBy 2 = .ok (.iload_n 3, 1) := by decide +kernel
theorem dX8_deepBy_3 : decode cX8_deepBy 3 = .ok (.invokevirtual 154, 3) := by decide +kernel
theorem dX8_deepBy_6 : decode cX8_deepBy 6 = .ok (.aload_n 0, 1) := by decide +kernel
theorem dX8_deepBy_7 : decode cX8_deepBy 7 = .ok (.getfield 13, 3) := by decide +kernel
theorem dX8_deepBy_10 : decode cX8_deepBy 10 = .ok (.iload_n 1, 1) := by decide +kernel
theorem dX8_deepBy_11 : decode cX8_deepBy 11 = .ok (.iaload, 1) := by decide +kernel
theorem dX8_deepBy_12 : decode cX8_deepBy 12 = .ok (.isub, 1) := by decide +kernel
theorem dX8_deepBy_13 : decode cX8_deepBy 13 = .ok (.istore 4, 2) := by decide +kernel
theorem dX8_deepBy_15 : decode cX8_deepBy 15 = .ok (.iload_n 1, 1) := by decide +kernel
theorem dX8_deepBy_16 : decode cX8_deepBy 16 = .ok (.ifCond .eq 14, 3) := by decide +kernel
theorem dX8_deepBy_19 : decode cX8_deepBy 19 = .ok (.iload_n 1, 1) := by decide +kernel
theorem dX8_deepBy_20 : decode cX8_deepBy 20 = .ok (.bipush 9, 2) := by decide +kernel
theorem dX8_deepBy_22 : decode cX8_deepBy 22 = .ok (.if_icmp .eq 8, 3) := by decide +kernel
theorem dX8_deepBy_25 : decode cX8_deepBy 25 = .ok (.iload 4, 2) := by decide +kernel
theorem dX8_deepBy_27 : decode cX8_deepBy 27 = .ok (.ifCond .ge 7, 3) := by decide +kernel
theorem dX8_deepBy_30 : decode cX8_deepBy 30 = .ok (.iconst 0, 1) := by decide +kernel
theorem dX8_deepBy_31 : decode cX8_deepBy 31 = .ok (.goto 5, 3) := by decide +kernel
theorem dX8_deepBy_34 : decode cX8_deepBy 34 = .ok (.iload 4, 2) := by decide +kernel
theorem dX8_deepBy_36 : decode cX8_deepBy 36 = .ok (.ireturn, 1) := by decide +kernel
theorem dX8_those_0 : decode cX8_those 0 = .ok (.iconst 0, 1) := by decide +kernel
theorem dX8_those_1 : decode cX8_those 1 = .ok (.istore_n 2, 1) := by decide +kernel
theorem dX8_those_2 : decode cX8_those 2 = .ok (.iconst 0, 1) := by decide +kernel
theorem dX8_those_3 : decode cX8_those 3 = .ok (.istore_n 3, 1) := by decide +kernel
theorem dX8_those_4 : decode cX8_those 4 = .ok (.iload_n 3, 1) := by decide +kernel
theorem dX8_those_5 : decode cX8_those 5 = .ok (.aload_n 0, 1) := by decide +kernel
theorem dX8_those_6 : decode cX8_those 6 = .ok (.getfield 70, 3) := by decide +kernel
theorem dX8_those_9 : decode cX8_those 9 = .ok (.if_icmp .ge 33, 3) := by decide +kernel
theorem dX8_those_12 : decode cX8_those 12 = .ok (.iload_n 2, 1) := by decide +kernel
theorem dX8_those_13 : decode cX8_those 13 = .ok (.aload_n 0, 1) := by decide +kernel
theorem dX8_those_14 : decode cX8_those 14 = .ok (.getfield 47, 3) := by decide +kernel
theorem dX8_those_17 : decode cX8_those 17 = .ok (.iconst 3, 1) := by decide +kernel
theorem dX8_those_18 : decode cX8_those 18 = .ok (.iload_n 3, 1) := by decide +kernel
theorem dX8_those_19 : decode cX8_those 19 = .ok (.imul, 1) := by decide +kernel
theorem dX8_those_20 : decode cX8_those 20 = .ok (.iconst 2, 1) := by decide +kernel
theorem dX8_those_21 : decode cX8_those 21 = .ok (.iadd, 1) := by decide +kernel
theorem dX8_those_22 : decode cX8_those 22 = .ok (.iaload, 1) := by decide +kernel
theorem dX8_those_23 : decode cX8_those 23 = .ok (.iload_n 1, 1) := by decide +kernel
theorem dX8_those_24 : decode cX8_those 24 = .ok (.if_icmp .ne 9, 3) := by decide +kernel
theorem dX8_those_27 : decode cX8_those 27 = .ok (.iconst 1, 1) := by decide +kernel
theorem dX8_those_28 : decode cX8_those 28 = .ok (.iload_n 3, 1) := by decide +kernel
theorem dX8_those_29 : decode cX8_those 29 = .ok (.ishl, 1) := by decide +kernel
theorem dX8_those_30 : decode cX8_those 30 = .ok (.goto 4, 3) := by decide +kernel
theorem dX8_those_33 : decode cX8_those 33 = .ok (.iconst 0, 1) := by decide +kernel
theorem dX8_those_34 : decode cX8_those 34 = .ok (.ior, 1) := by decide +kernel
theorem dX8_those_35 : decode cX8_those 35 = .ok (.istore_n 2, 1) := by decide +kernel
theorem dX8_those_36 : decode cX8_those 36 = .ok (.iinc 3 1, 3) := by decide +kernel
theorem dX8_those_39 : decode cX8_those 39 = .ok (.goto (-35), 3) := by decide +kernel
theorem dX8_those_42 : decode cX8_those 42 = .ok (.iload_n 2, 1) := by decide +kernel
theorem dX8_those_43 : decode cX8_those 43 = .ok (.ireturn, 1) := by decide +kernel
theorem dX8_about_0 : decode cX8_about 0 = .ok (.aload_n 0, 1) := by decide +kernel
theorem dX8_about_1 : decode cX8_about 1 = .ok (.iconst 0, 1) := by decide +kernel
theorem dX8_about_2 : decode cX8_about 2 = .ok (.putfield 67, 3) := by decide +kernel
theorem dX8_about_5 : decode cX8_about 5 = .ok (.iload_n 1, 1) := by decide +kernel
theorem dX8_about_6 : decode cX8_about 6 = .ok (.tableswitch 138 0 13 #[70, 75, 80, 88, 104, 109, 114, 119, 119, 119, 119, 119, 128, 133], 70) := by decide +kernel
theorem dX8_about_76 : decode cX8_about 76 = .ok (.aload_n 0, 1) := by decide +kernel
theorem dX8_about_77 : decode cX8_about 77 = .ok (.getfield 70, 3) := by decide +kernel
theorem dX8_about_80 : decode cX8_about 80 = .ok (.ireturn, 1) := by decide +kernel
theorem dX8_about_81 : decode cX8_about 81 = .ok (.aload_n 0, 1) := by decide +kernel
theorem dX8_about_82 : decode cX8_about 82 = .ok (.getfield 145, 3) := by decide +kernel
theorem dX8_about_85 : decode cX8_about 85 = .ok (.ireturn, 1) := by decide +kernel
theorem dX8_about_86 : decode cX8_about 86 = .ok (.aload_n 0, 1) := by decide +kernel
theorem dX8_about_87 : decode cX8_about 87 = .ok (.getfield 47, 3) := by decide +kernel
theorem dX8_about_90 : decode cX8_about 90 = .ok (.bipush 15, 2) := by decide +kernel
theorem dX8_about_92 : decode cX8_about 92 = .ok (.iaload, 1) := by decide +kernel
theorem dX8_about_93 : decode cX8_about 93 = .ok (.ireturn, 1) := by decide +kernel
theorem dX8_about_94 : decode cX8_about 94 = .ok (.aload_n 0, 1) := by decide +kernel
theorem dX8_about_95 : decode cX8_about 95 = .ok (.aload_n 0, 1) := by decide +kernel
theorem dX8_about_96 : decode cX8_about 96 = .ok (.getfield 47, 3) := by decide +kernel
theorem dX8_about_99 : decode cX8_about 99 = .ok (.bipush 15, 2) := by decide +kernel
theorem dX8_about_101 : decode cX8_about 101 = .ok (.iaload, 1) := by decide +kernel
theorem dX8_about_102 : decode cX8_about 102 = .ok (.aload_n 0, 1) := by decide +kernel
theorem dX8_about_103 : decode cX8_about 103 = .ok (.getfield 139, 3) := by decide +kernel
theorem dX8_about_106 : decode cX8_about 106 = .ok (.invokevirtual 154, 3) := by decide +kernel
theorem dX8_about_109 : decode cX8_about 109 = .ok (.ireturn, 1) := by decide +kernel
theorem dX8_about_110 : decode cX8_about 110 = .ok (.aload_n 0, 1) := by decide +kernel
theorem dX8_about_111 : decode cX8_about 111 = .ok (.getfield 139, 3) := by decide +kernel
theorem dX8_about_114 : decode cX8_about 114 = .ok (.ireturn, 1) := by decide +kernel
theorem dX8_about_115 : decode cX8_about 115 = .ok (.aload_n 0, 1) := by decide +kernel
theorem dX8_about_116 : decode cX8_about 116 = .ok (.getfield 16, 3) := by decide +kernel
theorem dX8_about_119 : decode cX8_about 119 = .ok (.ireturn, 1) := by decide +kernel
theorem dX8_about_120 : decode cX8_about 120 = .ok (.aload_n 0, 1) := by decide +kernel
theorem dX8_about_121 : decode cX8_about 121 = .ok (.getfield 142, 3) := by decide +kernel
theorem dX8_about_124 : decode cX8_about 124 = .ok (.ireturn, 1) := by decide +kernel
theorem dX8_about_125 : decode cX8_about 125 = .ok (.aload_n 0, 1) := by decide +kernel
theorem dX8_about_126 : decode cX8_about 126 = .ok (.iload_n 1, 1) := by decide +kernel
theorem dX8_about_127 : decode cX8_about 127 = .ok (.bipush 7, 2) := by decide +kernel
theorem dX8_about_129 : decode cX8_about 129 = .ok (.isub, 1) := by decide +kernel
theorem dX8_about_130 : decode cX8_about 130 = .ok (.invokevirtual 157, 3) := by decide +kernel
theorem dX8_about_133 : decode cX8_about 133 = .ok (.ireturn, 1) := by decide +kernel
theorem dX8_about_134 : decode cX8_about 134 = .ok (.aload_n 0, 1) := by decide +kernel
theorem dX8_about_135 : decode cX8_about 135 = .ok (.getfield 151, 3) := by decide +kernel
theorem dX8_about_138 : decode cX8_about 138 = .ok (.ireturn, 1) := by decide +kernel
theorem dX8_about_139 : decode cX8_about 139 = .ok (.aload_n 0, 1) := by decide +kernel
theorem dX8_about_140 : decode cX8_about 140 = .ok (.getfield 81, 3) := by decide +kernel
theorem dX8_about_143 : decode cX8_about 143 = .ok (.ireturn, 1) := by decide +kernel
theorem dX8_about_144 : decode cX8_about 144 = .ok (.bipush (-2), 2) := by decide +kernel
theorem dX8_about_146 : decode cX8_about 146 = .ok (.ireturn, 1) := by decide +kernel
theorem dX8_towerOf_0 : decode cX8_towerOf 0 = .ok (.bipush (-9), 2) := by decide +kernel
theorem dX8_towerOf_2 : decode cX8_towerOf 2 = .ok (.istore_n 2, 1) := by decide +kernel
theorem dX8_towerOf_3 : decode cX8_towerOf 3 = .ok (.iconst 0, 1) := by decide +kernel
theorem dX8_towerOf_4 : decode cX8_towerOf 4 = .ok (.istore_n 3, 1) := by decide +kernel
theorem dX8_towerOf_5 : decode cX8_towerOf 5 = .ok (.iload_n 3, 1) := by decide +kernel
theorem dX8_towerOf_6 : decode cX8_towerOf 6 = .ok (.aload_n 0, 1) := by decide +kernel
theorem dX8_towerOf_7 : decode cX8_towerOf 7 = .ok (.getfield 145, 3) := by decide +kernel
theorem dX8_towerOf_10 : decode cX8_towerOf 10 = .ok (.if_icmp .ge 25, 3) := by decide +kernel
theorem dX8_towerOf_13 : decode cX8_towerOf 13 = .ok (.aload_n 0, 1) := by decide +kernel
theorem dX8_towerOf_14 : decode cX8_towerOf 14 = .ok (.getfield 26, 3) := by decide +kernel
theorem dX8_towerOf_17 : decode cX8_towerOf 17 = .ok (.iload_n 3, 1) := by decide +kernel
theorem dX8_towerOf_18 : decode cX8_towerOf 18 = .ok (.iaload, 1) := by decide +kernel
theorem dX8_towerOf_19 : decode cX8_towerOf 19 = .ok (.iload_n 1, 1) := by decide +kernel
theorem dX8_towerOf_20 : decode cX8_towerOf 20 = .ok (.if_icmp .ne 7, 3) := by decide +kernel
theorem dX8_towerOf_23 : decode cX8_towerOf 23 = .ok (.iload_n 3, 1) := by decide +kernel
theorem dX8_towerOf_24 : decode cX8_towerOf 24 = .ok (.goto 4, 3) := by decide +kernel
theorem dX8_towerOf_27 : decode cX8_towerOf 27 = .ok (.iload_n 2, 1) := by decide +kernel
theorem dX8_towerOf_28 : decode cX8_towerOf 28 = .ok (.istore_n 2, 1) := by decide +kernel
theorem dX8_towerOf_29 : decode cX8_towerOf 29 = .ok (.iinc 3 1, 3) := by decide +kernel
theorem dX8_towerOf_32 : decode cX8_towerOf 32 = .ok (.goto (-27), 3) := by decide +kernel
theorem dX8_towerOf_35 : decode cX8_towerOf 35 = .ok (.iload_n 2, 1) := by decide +kernel
theorem dX8_towerOf_36 : decode cX8_towerOf 36 = .ok (.ireturn, 1) := by decide +kernel
theorem dX8_upAt_0 : decode cX8_upAt 0 = .ok (.iconst 0, 1) := by decide +kernel
theorem dX8_upAt_1 : decode cX8_upAt 1 = .ok (.istore_n 2, 1) := by decide +kernel
theorem dX8_upAt_2 : decode cX8_upAt 2 = .ok (.iconst 0, 1) := by decide +kernel
theorem dX8_upAt_3 : decode cX8_upAt 3 = .ok (.istore_n 3, 1) := by decide +kernel
theorem dX8_upAt_4 : decode cX8_upAt 4 = .ok (.iload_n 3, 1) := by decide +kernel
theorem dX8_upAt_5 : decode cX8_upAt 5 = .ok (.aload_n 0, 1) := by decide +kernel
theorem dX8_upAt_6 : decode cX8_upAt 6 = .ok (.getfield 70, 3) := by decide +kernel
theorem dX8_upAt_9 : decode cX8_upAt 9 = .ok (.if_icmp .ge 43, 3) := by decide +kernel
theorem dX8_upAt_12 : decode cX8_upAt 12 = .ok (.iload_n 2, 1) := by decide +kernel
theorem dX8_upAt_13 : decode cX8_upAt 13 = .ok (.aload_n 0, 1) := by decide +kernel
theorem dX8_upAt_14 : decode cX8_upAt 14 = .ok (.getfield 47, 3) := by decide +kernel
theorem dX8_upAt_17 : decode cX8_upAt 17 = .ok (.iconst 3, 1) := by decide +kernel
theorem dX8_upAt_18 : decode cX8_upAt 18 = .ok (.iload_n 3, 1) := by decide +kernel
theorem dX8_upAt_19 : decode cX8_upAt 19 = .ok (.imul, 1) := by decide +kernel
theorem dX8_upAt_20 : decode cX8_upAt 20 = .ok (.iaload, 1) := by decide +kernel
theorem dX8_upAt_21 : decode cX8_upAt 21 = .ok (.iload_n 1, 1) := by decide +kernel
theorem dX8_upAt_22 : decode cX8_upAt 22 = .ok (.if_icmp .ne 21, 3) := by decide +kernel
theorem dX8_upAt_25 : decode cX8_upAt 25 = .ok (.aload_n 0, 1) := by decide +kernel
theorem dX8_upAt_26 : decode cX8_upAt 26 = .ok (.getfield 47, 3) := by decide +kernel
theorem dX8_upAt_29 : decode cX8_upAt 29 = .ok (.iconst 3, 1) := by decide +kernel
theorem dX8_upAt_30 : decode cX8_upAt 30 = .ok (.iload_n 3, 1) := by decide +kernel
theorem dX8_upAt_31 : decode cX8_upAt 31 = .ok (.imul, 1) := by decide +kernel
theorem dX8_upAt_32 : decode cX8_upAt 32 = .ok (.iconst 2, 1) := by decide +kernel
theorem dX8_upAt_33 : decode cX8_upAt 33 = .ok (.iadd, 1) := by decide +kernel
theorem dX8_upAt_34 : decode cX8_upAt 34 = .ok (.iaload, 1) := by decide +kernel
theorem dX8_upAt_35 : decode cX8_upAt 35 = .ok (.iconst 4, 1) := by decide +kernel
theorem dX8_upAt_36 : decode cX8_upAt 36 = .ok (.if_icmp .ne 7, 3) := by decide +kernel
theorem dX8_upAt_39 : decode cX8_upAt 39 = .ok (.iconst 1, 1) := by decide +kernel
theorem dX8_upAt_40 : decode cX8_upAt 40 = .ok (.goto 4, 3) := by decide +kernel
theorem dX8_upAt_43 : decode cX8_upAt 43 = .ok (.iconst 0, 1) := by decide +kernel
theorem dX8_upAt_44 : decode cX8_upAt 44 = .ok (.iadd, 1) := by decide +kernel
theorem dX8_upAt_45 : decode cX8_upAt 45 = .ok (.istore_n 2, 1) := by decide +kernel
theorem dX8_upAt_46 : decode cX8_upAt 46 = .ok (.iinc 3 1, 3) := by decide +kernel
theorem dX8_upAt_49 : decode cX8_upAt 49 = .ok (.goto (-45), 3) := by decide +kernel
theorem dX8_upAt_52 : decode cX8_upAt 52 = .ok (.iload_n 2, 1) := by decide +kernel
theorem dX8_upAt_53 : decode cX8_upAt 53 = .ok (.ireturn, 1) := by decide +kernel
theorem dX8_cell_0 : decode cX8_cell 0 = .ok (.aload_n 0, 1) := by decide +kernel
theorem dX8_cell_1 : decode cX8_cell 1 = .ok (.iconst 0, 1) := by decide +kernel
theorem dX8_cell_2 : decode cX8_cell 2 = .ok (.putfield 67, 3) := by decide +kernel
theorem dX8_cell_5 : decode cX8_cell 5 = .ok (.iload_n 1, 1) := by decide +kernel
theorem dX8_cell_6 : decode cX8_cell 6 = .ok (.invokestatic 160, 3) := by decide +kernel
theorem dX8_cell_9 : decode cX8_cell 9 = .ok (.ifCond .eq 5, 3) := by decide +kernel
theorem dX8_cell_12 : decode cX8_cell 12 = .ok (.iconst (-1), 1) := by decide +kernel
theorem dX8_cell_13 : decode cX8_cell 13 = .ok (.ireturn, 1) := by decide +kernel
theorem dX8_cell_14 : decode cX8_cell 14 = .ok (.aload_n 0, 1) := by decide +kernel
theorem dX8_cell_15 : decode cX8_cell 15 = .ok (.iload_n 1, 1) := by decide +kernel
theorem dX8_cell_16 : decode cX8_cell 16 = .ok (.invokevirtual 164, 3) := by decide +kernel
theorem dX8_cell_19 : decode cX8_cell 19 = .ok (.istore_n 3, 1) := by decide +kernel
theorem dX8_cell_20 : decode cX8_cell 20 = .ok (.iload_n 2, 1) := by decide +kernel
theorem dX8_cell_21 : decode cX8_cell 21 = .ok (.tableswitch 91 0 4 #[35, 42, 59, 68, 85], 35) := by decide +kernel
theorem dX8_cell_56 : decode cX8_cell 56 = .ok (.aload_n 0, 1) := by decide +kernel
theorem dX8_cell_57 : decode cX8_cell 57 = .ok (.getfield 13, 3) := by decide +kernel
theorem dX8_cell_60 : decode cX8_cell 60 = .ok (.iload_n 1, 1) := by decide +kernel
theorem dX8_cell_61 : decode cX8_cell 61 = .ok (.iaload, 1) := by decide +kernel
theorem dX8_cell_62 : decode cX8_cell 62 = .ok (.ireturn, 1) := by decide +kernel
theorem dX8_cell_63 : decode cX8_cell 63 = .ok (.aload_n 0, 1) := by decide +kernel
theorem dX8_cell_64 : decode cX8_cell 64 = .ok (.iload_n 1, 1) := by decide +kernel
theorem dX8_cell_65 : decode cX8_cell 65 = .ok (.aload_n 0, 1) := by decide +kernel
theorem dX8_cell_66 : decode cX8_cell 66 = .ok (.getfield 47, 3) := by decide +kernel
theorem dX8_cell_69 : decode cX8_cell 69 = .ok (.bipush 15, 2) := by decide +kernel
theorem dX8_cell_71 : decode cX8_cell 71 = .ok (.iaload, 1) := by decide +kernel
theorem dX8_cell_72 : decode cX8_cell 72 = .ok (.aload_n 0, 1) := by decide +kernel
theorem dX8_cell_73 : decode cX8_cell 73 = .ok (.getfield 139, 3) := by decide +kernel
theorem dX8_cell_76 : decode cX8_cell 76 = .ok (.invokevirtual 167, 3) := by decide +kernel
theorem dX8_cell_79 : decode cX8_cell 79 = .ok (.ireturn, 1) := by decide +kernel
theorem dX8_cell_80 : decode cX8_cell 80 = .ok (.aload_n 0, 1) := by decide +kernel
theorem dX8_cell_81 : decode cX8_cell 81 = .ok (.getfield 148, 3) := by decide +kernel
theorem dX8_cell_84 : decode cX8_cell 84 = .ok (.iload_n 1, 1) := by decide +kernel
theorem dX8_cell_85 : decode cX8_cell 85 = .ok (.ishr, 1) := by decide +kernel
theorem dX8_cell_86 : decode cX8_cell 86 = .ok (.iconst 1, 1) := by decide +kernel
theorem dX8_cell_87 : decode cX8_cell 87 = .ok (.iand, 1) := by decide +kernel
theorem dX8_cell_88 : decode cX8_cell 88 = .ok (.ireturn, 1) := by decide +kernel
theorem dX8_cell_89 : decode cX8_cell 89 = .ok (.iload_n 3, 1) := by decide +kernel
theorem dX8_cell_90 : decode cX8_cell 90 = .ok (.bipush (-9), 2) := by decide +kernel
theorem dX8_cell_92 : decode cX8_cell 92 = .ok (.if_icmp .ne 7, 3) := by decide +kernel
theorem dX8_cell_95 : decode cX8_cell 95 = .ok (.iconst 0, 1) := by decide +kernel
theorem dX8_cell_96 : decode cX8_cell 96 = .ok (.goto 9, 3) := by decide +kernel
theorem dX8_cell_99 : decode cX8_cell 99 = .ok (.aload_n 0, 1) := by decide +kernel
theorem dX8_cell_100 : decode cX8_cell 100 = .ok (.getfield 29, 3) := by decide +kernel
theorem dX8_cell_103 : decode cX8_cell 103 = .ok (.iload_n 3, 1) := by decide +kernel
theorem dX8_cell_104 : decode cX8_cell 104 = .ok (.iaload, 1) := by decide +kernel
theorem dX8_cell_105 : decode cX8_cell 105 = .ok (.ireturn, 1) := by decide +kernel
theorem dX8_cell_106 : decode cX8_cell 106 = .ok (.aload_n 0, 1) := by decide +kernel
theorem dX8_cell_107 : decode cX8_cell 107 = .ok (.iload_n 1, 1) := by decide +kernel
theorem dX8_cell_108 : decode cX8_cell 108 = .ok (.invokevirtual 171, 3) := by decide +kernel
theorem dX8_cell_111 : decode cX8_cell 111 = .ok (.ireturn, 1) := by decide +kernel
theorem dX8_cell_112 : decode cX8_cell 112 = .ok (.bipush (-2), 2) := by decide +kernel
theorem dX8_cell_114 : decode cX8_cell 114 = .ok (.ireturn, 1) := by decide +kernel
theorem dX8_walker_0 : decode cX8_walker 0 = .ok (.aload_n 0, 1) := by decide +kernel
theorem dX8_walker_1 : decode cX8_walker 1 = .ok (.iconst 0, 1) := by decide +kernel
theorem dX8_walker_2 : decode cX8_walker 2 = .ok (.putfield 67, 3) := by decide +kernel
theorem dX8_walker_5 : decode cX8_walker 5 = .ok (.aload_n 0, 1) := by decide +kernel
theorem dX8_walker_6 : decode cX8_walker 6 = .ok (.iload_n 1, 1) := by decide +kernel
theorem dX8_walker_7 : decode cX8_walker 7 = .ok (.invokevirtual 174, 3) := by decide +kernel
theorem dX8_walker_10 : decode cX8_walker 10 = .ok (.ifCond .eq 5, 3) := by decide +kernel
theorem dX8_walker_13 : decode cX8_walker 13 = .ok (.iconst (-1), 1) := by decide +kernel
theorem dX8_walker_14 : decode cX8_walker 14 = .ok (.ireturn, 1) := by decide +kernel
theorem dX8_walker_15 : decode cX8_walker 15 = .ok (.iload_n 2, 1) := by decide +kernel
theorem dX8_walker_16 : decode cX8_walker 16 = .ok (.tableswitch 81 0 4 #[36, 43, 50, 59, 70], 36) := by decide +kernel
theorem dX8_walker_52 : decode cX8_walker 52 = .ok (.aload_n 0, 1) := by decide +kernel
theorem dX8_walker_53 : decode cX8_walker 53 = .ok (.getfield 20, 3) := by decide +kernel
theorem dX8_walker_56 : decode cX8_walker 56 = .ok (.iload_n 1, 1) := by decide +kernel
theorem dX8_walker_57 : decode cX8_walker 57 = .ok (.iaload, 1) := by decide +kernel
theorem dX8_walker_58 : decode cX8_walker 58 = .ok (.ireturn, 1) := by decide +kernel
theorem dX8_walker_59 : decode cX8_walker 59 = .ok (.aload_n 0, 1) := by decide +kernel
theorem dX8_walker_60 : decode cX8_walker 60 = .ok (.getfield 23, 3) := by decide +kernel
theorem dX8_walker_63 : decode cX8_walker 63 = .ok (.iload_n 1, 1) := by decide +kernel
theorem dX8_walker_64 : decode cX8_walker 64 = .ok (.iaload, 1) := by decide +kernel
theorem dX8_walker_65 : decode cX8_walker 65 = .ok (.ireturn, 1) := by decide +kernel
theorem dX8_walker_66 : decode cX8_walker 66 = .ok (.aload_n 0, 1) := by decide +kernel
theorem dX8_walker_67 : decode cX8_walker 67 = .ok (.getfield 47, 3) := by decide +kernel
theorem dX8_walker_70 : decode cX8_walker 70 = .ok (.iconst 3, 1) := by decide +kernel
theorem dX8_walker_71 : decode cX8_walker 71 = .ok (.iload_n 1, 1) := by decide +kernel
theorem dX8_walker_72 : decode cX8_walker 72 = .ok (.imul, 1) := by decide +kernel
theorem dX8_walker_73 : decode cX8_walker 73 = .ok (.iaload, 1) := by decide +kernel
theorem dX8_walker_74 : decode cX8_walker 74 = .ok (.ireturn, 1) := by decide +kernel
theorem dX8_walker_75 : decode cX8_walker 75 = .ok (.aload_n 0, 1) := by decide +kernel
theorem dX8_walker_76 : decode cX8_walker 76 = .ok (.getfield 47, 3) := by decide +kernel
theorem dX8_walker_79 : decode cX8_walker 79 = .ok (.iconst 3, 1) := by decide +kernel
theorem dX8_walker_80 : decode cX8_walker 80 = .ok (.iload_n 1, 1) := by decide +kernel
theorem dX8_walker_81 : decode cX8_walker 81 = .ok (.imul, 1) := by decide +kernel
theorem dX8_walker_82 : decode cX8_walker 82 = .ok (.iconst 1, 1) := by decide +kernel
theorem dX8_walker_83 : decode cX8_walker 83 = .ok (.iadd, 1) := by decide +kernel
theorem dX8_walker_84 : decode cX8_walker 84 = .ok (.iaload, 1) := by decide +kernel
theorem dX8_walker_85 : decode cX8_walker 85 = .ok (.ireturn, 1) := by decide +kernel
theorem dX8_walker_86 : decode cX8_walker 86 = .ok (.aload_n 0, 1) := by decide +kernel
theorem dX8_walker_87 : decode cX8_walker 87 = .ok (.getfield 47, 3) := by decide +kernel
theorem dX8_walker_90 : decode cX8_walker 90 = .ok (.iconst 3, 1) := by decide +kernel
theorem dX8_walker_91 : decode cX8_walker 91 = .ok (.iload_n 1, 1) := by decide +kernel
theorem dX8_walker_92 : decode cX8_walker 92 = .ok (.imul, 1) := by decide +kernel
theorem dX8_walker_93 : decode cX8_walker 93 = .ok (.iconst 2, 1) := by decide +kernel
theorem dX8_walker_94 : decode cX8_walker 94 = .ok (.iadd, 1) := by decide +kernel
theorem dX8_walker_95 : decode cX8_walker 95 = .ok (.iaload, 1) := by decide +kernel
theorem dX8_walker_96 : decode cX8_walker 96 = .ok (.ireturn, 1) := by decide +kernel
theorem dX8_walker_97 : decode cX8_walker 97 = .ok (.bipush (-2), 2) := by decide +kernel
theorem dX8_walker_99 : decode cX8_walker 99 = .ok (.ireturn, 1) := by decide +kernel
theorem dX8_deep_0 : decode cX8_deep 0 = .ok (.aload_n 0, 1) := by decide +kernel
theorem dX8_deep_1 : decode cX8_deep 1 = .ok (.iconst 0, 1) := by decide +kernel
theorem dX8_deep_2 : decode cX8_deep 2 = .ok (.putfield 67, 3) := by decide +kernel
theorem dX8_deep_5 : decode cX8_deep 5 = .ok (.iload_n 1, 1) := by decide +kernel
theorem dX8_deep_6 : decode cX8_deep 6 = .ok (.invokestatic 160, 3) := by decide +kernel
theorem dX8_deep_9 : decode cX8_deep 9 = .ok (.ifCond .eq 7, 3) := by decide +kernel
theorem dX8_deep_12 : decode cX8_deep 12 = .ok (.iconst (-1), 1) := by decide +kernel
theorem dX8_deep_13 : decode cX8_deep 13 = .ok (.goto 30, 3) := by decide +kernel
theorem dX8_deep_16 : decode cX8_deep 16 = .ok (.iload_n 2, 1) := by decide +kernel
theorem dX8_deep_17 : decode cX8_deep 17 = .ok (.i2l, 1) := by decide +kernel
theorem dX8_deep_18 : decode cX8_deep 18 = .ok (.lconst 0, 1) := by decide +kernel
theorem dX8_deep_19 : decode cX8_deep 19 = .ok (.ldc2_w 177, 3) := by decide +kernel
theorem dX8_deep_22 : decode cX8_deep 22 = .ok (.invokestatic 73, 3) := by decide +kernel
theorem dX8_deep_25 : decode cX8_deep 25 = .ok (.ifCond .eq 16, 3) := by decide +kernel
theorem dX8_deep_28 : decode cX8_deep 28 = .ok (.aload_n 0, 1) := by decide +kernel
theorem dX8_deep_29 : decode cX8_deep 29 = .ok (.iload_n 1, 1) := by decide +kernel
theorem dX8_deep_30 : decode cX8_deep 30 = .ok (.iload_n 2, 1) := by decide +kernel
theorem dX8_deep_31 : decode cX8_deep 31 = .ok (.aload_n 0, 1) := by decide +kernel
theorem dX8_deep_32 : decode cX8_deep 32 = .ok (.getfield 139, 3) := by decide +kernel
theorem dX8_deep_35 : decode cX8_deep 35 = .ok (.invokevirtual 167, 3) := by decide +kernel
theorem dX8_deep_38 : decode cX8_deep 38 = .ok (.goto 5, 3) := by decide +kernel
theorem dX8_deep_41 : decode cX8_deep 41 = .ok (.bipush (-2), 2) := by decide +kernel
theorem dX8_deep_43 : decode cX8_deep 43 = .ok (.ireturn, 1) := by decide +kernel
theorem dX8_goes_0 : decode cX8_goes 0 = .ok (.aload_n 0, 1) := by decide +kernel
theorem dX8_goes_1 : decode cX8_goes 1 = .ok (.iload_n 2, 1) := by decide +kernel
theorem dX8_goes_2 : decode cX8_goes 2 = .ok (.iload 4, 2) := by decide +kernel
theorem dX8_goes_4 : decode cX8_goes 4 = .ok (.iload 5, 2) := by decide +kernel
theorem dX8_goes_6 : decode cX8_goes 6 = .ok (.invokevirtual 167, 3) := by decide +kernel
theorem dX8_goes_9 : decode cX8_goes 9 = .ok (.ifCond .le 16, 3) := by decide +kernel
theorem dX8_goes_12 : decode cX8_goes 12 = .ok (.aload_n 0, 1) := by decide +kernel
theorem dX8_goes_13 : decode cX8_goes 13 = .ok (.getfield 20, 3) := by decide +kernel
theorem dX8_goes_16 : decode cX8_goes 16 = .ok (.iload_n 1, 1) := by decide +kernel
theorem dX8_goes_17 : decode cX8_goes 17 = .ok (.iaload, 1) := by decide +kernel
theorem dX8_goes_18 : decode cX8_goes 18 = .ok (.iconst 1, 1) := by decide +kernel
theorem dX8_goes_19 : decode cX8_goes 19 = .ok (.iadd, 1) := by decide +kernel
theorem dX8_goes_20 : decode cX8_goes 20 = .ok (.iconst 2, 1) := by decide +kernel
theorem dX8_goes_21 : decode cX8_goes 21 = .ok (.idiv, 1) := by decide +kernel
theorem dX8_goes_22 : decode cX8_goes 22 = .ok (.goto 9, 3) := by decide +kernel
theorem dX8_goes_25 : decode cX8_goes 25 = .ok (.aload_n 0, 1) := by decide +kernel
theorem dX8_goes_26 : decode cX8_goes 26 = .ok (.getfield 20, 3) := by decide +kernel
theorem dX8_goes_29 : decode cX8_goes 29 = .ok (.iload_n 1, 1) := by decide +kernel
theorem dX8_goes_30 : decode cX8_goes 30 = .ok (.iaload, 1) := by decide +kernel
theorem dX8_goes_31 : decode cX8_goes 31 = .ok (.istore 6, 2) := by decide +kernel
theorem dX8_goes_33 : decode cX8_goes 33 = .ok (.iload_n 2, 1) := by decide +kernel
theorem dX8_goes_34 : decode cX8_goes 34 = .ok (.istore 7, 2) := by decide +kernel
theorem dX8_goes_36 : decode cX8_goes 36 = .ok (.iload_n 3, 1) := by decide +kernel
theorem dX8_goes_37 : decode cX8_goes 37 = .ok (.iconst 1, 1) := by decide +kernel
theorem dX8_goes_38 : decode cX8_goes 38 = .ok (.if_icmp .ne 7, 3) := by decide +kernel
theorem dX8_goes_41 : decode cX8_goes 41 = .ok (.iconst 1, 1) := by decide +kernel
theorem dX8_goes_42 : decode cX8_goes 42 = .ok (.goto 4, 3) := by decide +kernel
theorem dX8_goes_45 : decode cX8_goes 45 = .ok (.iconst (-1), 1) := by decide +kernel
theorem dX8_goes_46 : decode cX8_goes 46 = .ok (.istore 8, 2) := by decide +kernel
theorem dX8_goes_48 : decode cX8_goes 48 = .ok (.iload_n 3, 1) := by decide +kernel
theorem dX8_goes_49 : decode cX8_goes 49 = .ok (.ifCond .eq 54, 3) := by decide +kernel
theorem dX8_goes_52 : decode cX8_goes 52 = .ok (.iload 6, 2) := by decide +kernel
theorem dX8_goes_54 : decode cX8_goes 54 = .ok (.ifCond .le 49, 3) := by decide +kernel
theorem dX8_goes_57 : decode cX8_goes 57 = .ok (.iload 7, 2) := by decide +kernel
theorem dX8_goes_59 : decode cX8_goes 59 = .ok (.iload 8, 2) := by decide +kernel
theorem dX8_goes_61 : decode cX8_goes 61 = .ok (.iadd, 1) := by decide +kernel
theorem dX8_goes_62 : decode cX8_goes 62 = .ok (.invokestatic 160, 3) := by decide +kernel
theorem dX8_goes_65 : decode cX8_goes 65 = .ok (.ifCond .ne 38, 3) := by decide +kernel
theorem dX8_goes_68 : decode cX8_goes 68 = .ok (.aload_n 0, 1) := by decide +kernel
theorem dX8_goes_69 : decode cX8_goes 69 = .ok (.iload 7, 2) := by decide +kernel
theorem dX8_goes_71 : decode cX8_goes 71 = .ok (.iload 8, 2) := by decide +kernel
theorem dX8_goes_73 : decode cX8_goes 73 = .ok (.iadd, 1) := by decide +kernel
theorem dX8_goes_74 : decode cX8_goes 74 = .ok (.iload 4, 2) := by decide +kernel
theorem dX8_goes_76 : decode cX8_goes 76 = .ok (.iload 5, 2) := by decide +kernel
theorem dX8_goes_78 : decode cX8_goes 78 = .ok (.invokevirtual 167, 3) := by decide +kernel
theorem dX8_goes_81 : decode cX8_goes 81 = .ok (.aload_n 0, 1) := by decide +kernel
theorem dX8_goes_82 : decode cX8_goes 82 = .ok (.getfield 23, 3) := by decide +kernel
theorem dX8_goes_85 : decode cX8_goes 85 = .ok (.iload_n 1, 1) := by decide +kernel
theorem dX8_goes_86 : decode cX8_goes 86 = .ok (.iaload, 1) := by decide +kernel
theorem dX8_goes_87 : decode cX8_goes 87 = .ok (.if_icmp .gt 16, 3) := by decide +kernel
theorem dX8_goes_90 : decode cX8_goes 90 = .ok (.iload 7, 2) := by decide +kernel
theorem dX8_goes_92 : decode cX8_goes 92 = .ok (.iload 8, 2) := by decide +kernel
theorem dX8_goes_94 : decode cX8_goes 94 = .ok (.iadd, 1) := by decide +kernel
theorem dX8_goes_95 : decode cX8_goes 95 = .ok (.istore 7, 2) := by decide +kernel
theorem dX8_goes_97 : decode cX8_goes 97 = .ok (.iinc 6 (-1), 3) := by decide +kernel
theorem dX8_goes_100 : decode cX8_goes 100 = .ok (.goto (-52), 3) := by decide +kernel
theorem dX8_goes_103 : decode cX8_goes 103 = .ok (.iload 7, 2) := by decide +kernel
theorem dX8_goes_105 : decode cX8_goes 105 = .ok (.ireturn, 1) := by decide +kernel
theorem dX8_stateOf_0 : decode cX8_stateOf 0 = .ok (.iload_n 3, 1) := by decide +kernel
theorem dX8_stateOf_1 : decode cX8_stateOf 1 = .ok (.bipush 9, 2) := by decide +kernel
theorem dX8_stateOf_3 : decode cX8_stateOf 3 = .ok (.if_icmp .ne 11, 3) := by decide +kernel
theorem dX8_stateOf_6 : decode cX8_stateOf 6 = .ok (.iload 4, 2) := by decide +kernel
theorem dX8_stateOf_8 : decode cX8_stateOf 8 = .ok (.iconst 1, 1) := by decide +kernel
theorem dX8_stateOf_9 : decode cX8_stateOf 9 = .ok (.if_icmp .ne 5, 3) := by decide +kernel
theorem dX8_stateOf_12 : decode cX8_stateOf 12 = .ok (.iconst 1, 1) := by decide +kernel
theorem dX8_stateOf_13 : decode cX8_stateOf 13 = .ok (.ireturn, 1) := by decide +kernel
theorem dX8_stateOf_14 : decode cX8_stateOf 14 = .ok (.aload_n 0, 1) := by decide +kernel
theorem dX8_stateOf_15 : decode cX8_stateOf 15 = .ok (.iload_n 3, 1) := by decide +kernel
theorem dX8_stateOf_16 : decode cX8_stateOf 16 = .ok (.iload 5, 2) := by decide +kernel
theorem dX8_stateOf_18 : decode cX8_stateOf 18 = .ok (.iload 6, 2) := by decide +kernel
theorem dX8_stateOf_20 : decode cX8_stateOf 20 = .ok (.invokevirtual 167, 3) := by decide +kernel
theorem dX8_stateOf_23 : decode cX8_stateOf 23 = .ok (.aload_n 0, 1) := by decide +kernel
theorem dX8_stateOf_24 : decode cX8_stateOf 24 = .ok (.getfield 23, 3) := by decide +kernel
theorem dX8_stateOf_27 : decode cX8_stateOf 27 = .ok (.iload_n 1, 1) := by decide +kernel
theorem dX8_stateOf_28 : decode cX8_stateOf 28 = .ok (.iaload, 1) := by decide +kernel
theorem dX8_stateOf_29 : decode cX8_stateOf 29 = .ok (.if_icmp .le 5, 3) := by decide +kernel
theorem dX8_stateOf_32 : decode cX8_stateOf 32 = .ok (.iconst 2, 1) := by decide +kernel
theorem dX8_stateOf_33 : decode cX8_stateOf 33 = .ok (.ireturn, 1) := by decide +kernel
theorem dX8_stateOf_34 : decode cX8_stateOf 34 = .ok (.iload_n 2, 1) := by decide +kernel
theorem dX8_stateOf_35 : decode cX8_stateOf 35 = .ok (.iload_n 3, 1) := by decide +kernel
theorem dX8_stateOf_36 : decode cX8_stateOf 36 = .ok (.if_icmp .ne 18, 3) := by decide +kernel
theorem dX8_stateOf_39 : decode cX8_stateOf 39 = .ok (.aload_n 0, 1) := by decide +kernel
theorem dX8_stateOf_40 : decode cX8_stateOf 40 = .ok (.getfield 148, 3) := by decide +kernel
theorem dX8_stateOf_43 : decode cX8_stateOf 43 = .ok (.iload_n 3, 1) := by decide +kernel
theorem dX8_stateOf_44 : decode cX8_stateOf 44 = .ok (.invokestatic 92, 3) := by decide +kernel
theorem dX8_stateOf_47 : decode cX8_stateOf 47 = .ok (.ifCond .eq 7, 3) := by decide +kernel
theorem dX8_stateOf_50 : decode cX8_stateOf 50 = .ok (.iconst 3, 1) := by decide +kernel
theorem dX8_stateOf_51 : decode cX8_stateOf 51 = .ok (.goto 4, 3) := by decide +kernel
theorem dX8_stateOf_54 : decode cX8_stateOf 54 = .ok (.iconst 0, 1) := by decide +kernel
theorem dX8_stateOf_55 : decode cX8_stateOf 55 = .ok (.ireturn, 1) := by decide +kernel
theorem dX8_goAlone_0 : decode cX8_goAlone 0 = .ok (.aload_n 0, 1) := by decide +kernel
theorem dX8_goAlone_1 : decode cX8_goAlone 1 = .ok (.iload_n 1, 1) := by decide +kernel
theorem dX8_goAlone_2 : decode cX8_goAlone 2 = .ok (.aload_n 0, 1) := by decide +kernel
theorem dX8_goAlone_3 : decode cX8_goAlone 3 = .ok (.getfield 179, 3) := by decide +kernel
theorem dX8_goAlone_6 : decode cX8_goAlone 6 = .ok (.iload_n 2, 1) := by decide +kernel
theorem dX8_goAlone_7 : decode cX8_goAlone 7 = .ok (.iload_n 3, 1) := by decide +kernel
theorem dX8_goAlone_8 : decode cX8_goAlone 8 = .ok (.aload_n 0, 1) := by decide +kernel
theorem dX8_goAlone_9 : decode cX8_goAlone 9 = .ok (.getfield 182, 3) := by decide +kernel
theorem dX8_goAlone_12 : decode cX8_goAlone 12 = .ok (.invokevirtual 185, 3) := by decide +kernel
theorem dX8_goAlone_15 : decode cX8_goAlone 15 = .ok (.istore 4, 2) := by decide +kernel
theorem dX8_goAlone_17 : decode cX8_goAlone 17 = .ok (.aload_n 0, 1) := by decide +kernel
theorem dX8_goAlone_18 : decode cX8_goAlone 18 = .ok (.aload_n 0, 1) := by decide +kernel
theorem dX8_goAlone_19 : decode cX8_goAlone 19 = .ok (.iload_n 1, 1) := by decide +kernel
theorem dX8_goAlone_20 : decode cX8_goAlone 20 = .ok (.aload_n 0, 1) := by decide +kernel
theorem dX8_goAlone_21 : decode cX8_goAlone 21 = .ok (.getfield 179, 3) := by decide +kernel
theorem dX8_goAlone_24 : decode cX8_goAlone 24 = .ok (.iload 4, 2) := by decide +kernel
theorem dX8_goAlone_26 : decode cX8_goAlone 26 = .ok (.iload_n 2, 1) := by decide +kernel
theorem dX8_goAlone_27 : decode cX8_goAlone 27 = .ok (.iload_n 3, 1) := by decide +kernel
theorem dX8_goAlone_28 : decode cX8_goAlone 28 = .ok (.iconst 1, 1) := by decide +kernel
theorem dX8_goAlone_29 : decode cX8_goAlone 29 = .ok (.iadd, 1) := by decide +kernel
theorem dX8_goAlone_30 : decode cX8_goAlone 30 = .ok (.aload_n 0, 1) := by decide +kernel
theorem dX8_goAlone_31 : decode cX8_goAlone 31 = .ok (.getfield 182, 3) := by decide +kernel
theorem dX8_goAlone_34 : decode cX8_goAlone 34 = .ok (.invokevirtual 189, 3) := by decide +kernel
theorem dX8_goAlone_37 : decode cX8_goAlone 37 = .ok (.putfield 193, 3) := by decide +kernel
theorem dX8_goAlone_40 : decode cX8_goAlone 40 = .ok (.aload_n 0, 1) := by decide +kernel
theorem dX8_goAlone_41 : decode cX8_goAlone 41 = .ok (.iload 4, 2) := by decide +kernel
theorem dX8_goAlone_43 : decode cX8_goAlone 43 = .ok (.putfield 179, 3) := by decide +kernel
theorem dX8_goAlone_46 : decode cX8_goAlone 46 = .ok (.return_, 1) := by decide +kernel
theorem dX8_note_0 : decode cX8_note 0 = .ok (.aload_n 0, 1) := by decide +kernel
theorem dX8_note_1 : decode cX8_note 1 = .ok (.getfield 151, 3) := by decide +kernel
theorem dX8_note_4 : decode cX8_note 4 = .ok (.bipush 16, 2) := by decide +kernel
theorem dX8_note_6 : decode cX8_note 6 = .ok (.if_icmp .ne 43, 3) := by decide +kernel
theorem dX8_note_9 : decode cX8_note 9 = .ok (.iconst 0, 1) := by decide +kernel
theorem dX8_note_10 : decode cX8_note 10 = .ok (.istore_n 1, 1) := by decide +kernel
theorem dX8_note_11 : decode cX8_note 11 = .ok (.iload_n 1, 1) := by decide +kernel
theorem dX8_note_12 : decode cX8_note 12 = .ok (.sipush 240, 3) := by decide +kernel
theorem dX8_note_15 : decode cX8_note 15 = .ok (.if_icmp .ge 24, 3) := by decide +kernel
theorem dX8_note_18 : decode cX8_note 18 = .ok (.aload_n 0, 1) := by decide +kernel
theorem dX8_note_19 : decode cX8_note 19 = .ok (.getfield 50, 3) := by decide +kernel
theorem dX8_note_22 : decode cX8_note 22 = .ok (.iload_n 1, 1) := by decide +kernel
theorem dX8_note_23 : decode cX8_note 23 = .ok (.aload_n 0, 1) := by decide +kernel
theorem dX8_note_24 : decode cX8_note 24 = .ok (.getfield 50, 3) := by decide +kernel
theorem dX8_note_27 : decode cX8_note 27 = .ok (.iload_n 1, 1) := by decide +kernel
theorem dX8_note_28 : decode cX8_note 28 = .ok (.bipush 16, 2) := by decide +kernel
theorem dX8_note_30 : decode cX8_note 30 = .ok (.iadd, 1) := by decide +kernel
theorem dX8_note_31 : decode cX8_note 31 = .ok (.iaload, 1) := by decide +kernel
theorem dX8_note_32 : decode cX8_note 32 = .ok (.iastore, 1) := by decide +kernel
theorem dX8_note_33 : decode cX8_note 33 = .ok (.iinc 1 1, 3) := by decide +kernel
theorem dX8_note_36 : decode cX8_note 36 = .ok (.goto (-25), 3) := by decide +kernel
theorem dX8_note_39 : decode cX8_note 39 = .ok (.aload_n 0, 1) := by decide +kernel
theorem dX8_note_40 : decode cX8_note 40 = .ok (.dup, 1) := by decide +kernel
theorem dX8_note_41 : decode cX8_note 41 = .ok (.getfield 151, 3) := by decide +kernel
theorem dX8_note_44 : decode cX8_note 44 = .ok (.iconst 1, 1) := by decide +kernel
theorem dX8_note_45 : decode cX8_note 45 = .ok (.isub, 1) := by decide +kernel
theorem dX8_note_46 : decode cX8_note 46 = .ok (.putfield 151, 3) := by decide +kernel
theorem dX8_note_49 : decode cX8_note 49 = .ok (.iconst 0, 1) := by decide +kernel
theorem dX8_note_50 : decode cX8_note 50 = .ok (.istore_n 1, 1) := by decide +kernel
theorem dX8_note_51 : decode cX8_note 51 = .ok (.iload_n 1, 1) := by decide +kernel
theorem dX8_note_52 : decode cX8_note 52 = .ok (.bipush 16, 2) := by decide +kernel
theorem dX8_note_54 : decode cX8_note 54 = .ok (.if_icmp .ge 29, 3) := by decide +kernel
theorem dX8_note_57 : decode cX8_note 57 = .ok (.aload_n 0, 1) := by decide +kernel
theorem dX8_note_58 : decode cX8_note 58 = .ok (.getfield 50, 3) := by decide +kernel
theorem dX8_note_61 : decode cX8_note 61 = .ok (.bipush 16, 2) := by decide +kernel
theorem dX8_note_63 : decode cX8_note 63 = .ok (.aload_n 0, 1) := by decide +kernel
theorem dX8_note_64 : decode cX8_note 64 = .ok (.getfield 151, 3) := by decide +kernel
theorem dX8_note_67 : decode cX8_note 67 = .ok (.imul, 1) := by decide +kernel
theorem dX8_note_68 : decode cX8_note 68 = .ok (.iload_n 1, 1) := by decide +kernel
theorem dX8_note_69 : decode cX8_note 69 = .ok (.iadd, 1) := by decide +kernel
theorem dX8_note_70 : decode cX8_note 70 = .ok (.aload_n 0, 1) := by decide +kernel
theorem dX8_note_71 : decode cX8_note 71 = .ok (.getfield 47, 3) := by decide +kernel
theorem dX8_note_74 : decode cX8_note 74 = .ok (.iload_n 1, 1) := by decide +kernel
theorem dX8_note_75 : decode cX8_note 75 = .ok (.iaload, 1) := by decide +kernel
theorem dX8_note_76 : decode cX8_note 76 = .ok (.iastore, 1) := by decide +kernel
theorem dX8_note_77 : decode cX8_note 77 = .ok (.iinc 1 1, 3) := by decide +kernel
theorem dX8_note_80 : decode cX8_note 80 = .ok (.goto (-29), 3) := by decide +kernel
theorem dX8_note_83 : decode cX8_note 83 = .ok (.aload_n 0, 1) := by decide +kernel
theorem dX8_note_84 : decode cX8_note 84 = .ok (.dup, 1) := by decide +kernel
theorem dX8_note_85 : decode cX8_note 85 = .ok (.getfield 151, 3) := by decide +kernel
theorem dX8_note_88 : decode cX8_note 88 = .ok (.iconst 1, 1) := by decide +kernel
theorem dX8_note_89 : decode cX8_note 89 = .ok (.iadd, 1) := by decide +kernel
theorem dX8_note_90 : decode cX8_note 90 = .ok (.putfield 151, 3) := by decide +kernel
theorem dX8_note_93 : decode cX8_note 93 = .ok (.return_, 1) := by decide +kernel
theorem dX8_head_0 : decode cX8_head 0 = .ok (.aload_n 0, 1) := by decide +kernel
theorem dX8_head_1 : decode cX8_head 1 = .ok (.iconst 0, 1) := by decide +kernel
theorem dX8_head_2 : decode cX8_head 2 = .ok (.putfield 67, 3) := by decide +kernel
theorem dX8_head_5 : decode cX8_head 5 = .ok (.aload_n 0, 1) := by decide +kernel
theorem dX8_head_6 : decode cX8_head 6 = .ok (.iload_n 1, 1) := by decide +kernel
theorem dX8_head_7 : decode cX8_head 7 = .ok (.invokevirtual 174, 3) := by decide +kernel
theorem dX8_head_10 : decode cX8_head 10 = .ok (.ifCond .eq 5, 3) := by decide +kernel
theorem dX8_head_13 : decode cX8_head 13 = .ok (.iconst (-1), 1) := by decide +kernel
theorem dX8_head_14 : decode cX8_head 14 = .ok (.ireturn, 1) := by decide +kernel
theorem dX8_head_15 : decode cX8_head 15 = .ok (.iload_n 2, 1) := by decide +kernel
theorem dX8_head_16 : decode cX8_head 16 = .ok (.i2l, 1) := by decide +kernel
theorem dX8_head_17 : decode cX8_head 17 = .ok (.lconst 0, 1) := by decide +kernel
theorem dX8_head_18 : decode cX8_head 18 = .ok (.ldc2_w 196, 3) := by decide +kernel
theorem dX8_head_21 : decode cX8_head 21 = .ok (.invokestatic 73, 3) := by decide +kernel
theorem dX8_head_24 : decode cX8_head 24 = .ok (.ifCond .ne 6, 3) := by decide +kernel
theorem dX8_head_27 : decode cX8_head 27 = .ok (.bipush (-2), 2) := by decide +kernel
theorem dX8_head_29 : decode cX8_head 29 = .ok (.ireturn, 1) := by decide +kernel
theorem dX8_head_30 : decode cX8_head 30 = .ok (.aload_n 0, 1) := by decide +kernel
theorem dX8_head_31 : decode cX8_head 31 = .ok (.getfield 47, 3) := by decide +kernel
theorem dX8_head_34 : decode cX8_head 34 = .ok (.iconst 3, 1) := by decide +kernel
theorem dX8_head_35 : decode cX8_head 35 = .ok (.iload_n 1, 1) := by decide +kernel
theorem dX8_head_36 : decode cX8_head 36 = .ok (.imul, 1) := by decide +kernel
theorem dX8_head_37 : decode cX8_head 37 = .ok (.iconst 1, 1) := by decide +kernel
theorem dX8_head_38 : decode cX8_head 38 = .ok (.iadd, 1) := by decide +kernel
theorem dX8_head_39 : decode cX8_head 39 = .ok (.iaload, 1) := by decide +kernel
theorem dX8_head_40 : decode cX8_head 40 = .ok (.istore_n 3, 1) := by decide +kernel
theorem dX8_head_41 : decode cX8_head 41 = .ok (.aload_n 0, 1) := by decide +kernel
theorem dX8_head_42 : decode cX8_head 42 = .ok (.getfield 47, 3) := by decide +kernel
theorem dX8_head_45 : decode cX8_head 45 = .ok (.iconst 3, 1) := by decide +kernel
theorem dX8_head_46 : decode cX8_head 46 = .ok (.iload_n 1, 1) := by decide +kernel
theorem dX8_head_47 : decode cX8_head 47 = .ok (.imul, 1) := by decide +kernel
theorem dX8_head_48 : decode cX8_head 48 = .ok (.iconst 2, 1) := by decide +kernel
theorem dX8_head_49 : decode cX8_head 49 = .ok (.iadd, 1) := by decide +kernel
theorem dX8_head_50 : decode cX8_head 50 = .ok (.iaload, 1) := by decide +kernel
theorem dX8_head_51 : decode cX8_head 51 = .ok (.ifCond .ne 8, 3) := by decide +kernel
theorem dX8_head_54 : decode cX8_head 54 = .ok (.iload_n 3, 1) := by decide +kernel
theorem dX8_head_55 : decode cX8_head 55 = .ok (.iload_n 2, 1) := by decide +kernel
theorem dX8_head_56 : decode cX8_head 56 = .ok (.if_icmp .ne 6, 3) := by decide +kernel
theorem dX8_head_59 : decode cX8_head 59 = .ok (.bipush (-3), 2) := by decide +kernel
theorem dX8_head_61 : decode cX8_head 61 = .ok (.ireturn, 1) := by decide +kernel
theorem dX8_head_62 : decode cX8_head 62 = .ok (.aload_n 0, 1) := by decide +kernel
theorem dX8_head_63 : decode cX8_head 63 = .ok (.invokevirtual 198, 3) := by decide +kernel
theorem dX8_head_66 : decode cX8_head 66 = .ok (.aload_n 0, 1) := by decide +kernel
theorem dX8_head_67 : decode cX8_head 67 = .ok (.getfield 47, 3) := by decide +kernel
theorem dX8_head_70 : decode cX8_head 70 = .ok (.iconst 3, 1) := by decide +kernel
theorem dX8_head_71 : decode cX8_head 71 = .ok (.iload_n 1, 1) := by decide +kernel
theorem dX8_head_72 : decode cX8_head 72 = .ok (.imul, 1) := by decide +kernel
theorem dX8_head_73 : decode cX8_head 73 = .ok (.iconst 1, 1) := by decide +kernel
theorem dX8_head_74 : decode cX8_head 74 = .ok (.iadd, 1) := by decide +kernel
theorem dX8_head_75 : decode cX8_head 75 = .ok (.iload_n 2, 1) := by decide +kernel
theorem dX8_head_76 : decode cX8_head 76 = .ok (.iastore, 1) := by decide +kernel
theorem dX8_head_77 : decode cX8_head 77 = .ok (.iload_n 3, 1) := by decide +kernel
theorem dX8_head_78 : decode cX8_head 78 = .ok (.ireturn, 1) := by decide +kernel
theorem dX8_step_0 : decode cX8_step 0 = .ok (.aload_n 0, 1) := by decide +kernel
theorem dX8_step_1 : decode cX8_step 1 = .ok (.iconst 0, 1) := by decide +kernel
theorem dX8_step_2 : decode cX8_step 2 = .ok (.putfield 67, 3) := by decide +kernel
theorem dX8_step_5 : decode cX8_step 5 = .ok (.aload_n 0, 1) := by decide +kernel
theorem dX8_step_6 : decode cX8_step 6 = .ok (.getfield 47, 3) := by decide +kernel
theorem dX8_step_9 : decode cX8_step 9 = .ok (.bipush 15, 2) := by decide +kernel
theorem dX8_step_11 : decode cX8_step 11 = .ok (.iaload, 1) := by decide +kernel
theorem dX8_step_12 : decode cX8_step 12 = .ok (.bipush 40, 2) := by decide +kernel
theorem dX8_step_14 : decode cX8_step 14 = .ok (.if_icmp .ne 6, 3) := by decide +kernel
theorem dX8_step_17 : decode cX8_step 17 = .ok (.bipush (-3), 2) := by decide +kernel
theorem dX8_step_19 : decode cX8_step 19 = .ok (.ireturn, 1) := by decide +kernel
theorem dX8_step_20 : decode cX8_step 20 = .ok (.aload_n 0, 1) := by decide +kernel
theorem dX8_step_21 : decode cX8_step 21 = .ok (.invokevirtual 198, 3) := by decide +kernel
theorem dX8_step_24 : decode cX8_step 24 = .ok (.iconst 0, 1) := by decide +kernel
theorem dX8_step_25 : decode cX8_step 25 = .ok (.istore_n 1, 1) := by decide +kernel
theorem dX8_step_26 : decode cX8_step 26 = .ok (.iconst 0, 1) := by decide +kernel
theorem dX8_step_27 : decode cX8_step 27 = .ok (.istore_n 2, 1) := by decide +kernel
theorem dX8_step_28 : decode cX8_step 28 = .ok (.iload_n 2, 1) := by decide +kernel
theorem dX8_step_29 : decode cX8_step 29 = .ok (.aload_n 0, 1) := by decide +kernel
theorem dX8_step_30 : decode cX8_step 30 = .ok (.getfield 70, 3) := by decide +kernel
theorem dX8_step_33 : decode cX8_step 33 = .ok (.if_icmp .ge 133, 3) := by decide +kernel
theorem dX8_step_36 : decode cX8_step 36 = .ok (.aload_n 0, 1) := by decide +kernel
theorem dX8_step_37 : decode cX8_step 37 = .ok (.getfield 47, 3) := by decide +kernel
theorem dX8_step_40 : decode cX8_step 40 = .ok (.iconst 3, 1) := by decide +kernel
theorem dX8_step_41 : decode cX8_step 41 = .ok (.iload_n 2, 1) := by decide +kernel
theorem dX8_step_42 : decode cX8_step 42 = .ok (.imul, 1) := by decide +kernel
theorem dX8_step_43 : decode cX8_step 43 = .ok (.iconst 2, 1) := by decide +kernel
theorem dX8_step_44 : decode cX8_step 44 = .ok (.iadd, 1) := by decide +kernel
theorem dX8_step_45 : decode cX8_step 45 = .ok (.iaload, 1) := by decide +kernel
theorem dX8_step_46 : decode cX8_step 46 = .ok (.ifCond .ne 114, 3) := by decide +kernel
theorem dX8_step_49 : decode cX8_step 49 = .ok (.aload_n 0, 1) := by decide +kernel
theorem dX8_step_50 : decode cX8_step 50 = .ok (.getfield 47, 3) := by decide +kernel
theorem dX8_step_53 : decode cX8_step 53 = .ok (.iconst 3, 1) := by decide +kernel
theorem dX8_step_54 : decode cX8_step 54 = .ok (.iload_n 2, 1) := by decide +kernel
theorem dX8_step_55 : decode cX8_step 55 = .ok (.imul, 1) := by decide +kernel
theorem dX8_step_56 : decode cX8_step 56 = .ok (.iaload, 1) := by decide +kernel
theorem dX8_step_57 : decode cX8_step 57 = .ok (.istore_n 3, 1) := by decide +kernel
theorem dX8_step_58 : decode cX8_step 58 = .ok (.aload_n 0, 1) := by decide +kernel
theorem dX8_step_59 : decode cX8_step 59 = .ok (.getfield 47, 3) := by decide +kernel
theorem dX8_step_62 : decode cX8_step 62 = .ok (.iconst 3, 1) := by decide +kernel
theorem dX8_step_63 : decode cX8_step 63 = .ok (.iload_n 2, 1) := by decide +kernel
theorem dX8_step_64 : decode cX8_step 64 = .ok (.imul, 1) := by decide +kernel
theorem dX8_step_65 : decode cX8_step 65 = .ok (.iconst 1, 1) := by decide +kernel
theorem dX8_step_66 : decode cX8_step 66 = .ok (.iadd, 1) := by decide +kernel
theorem dX8_step_67 : decode cX8_step 67 = .ok (.iaload, 1) := by decide +kernel
theorem dX8_step_68 : decode cX8_step 68 = .ok (.istore 4, 2) := by decide +kernel
theorem dX8_step_70 : decode cX8_step 70 = .ok (.aload_n 0, 1) := by decide +kernel
theorem dX8_step_71 : decode cX8_step 71 = .ok (.getfield 47, 3) := by decide +kernel
theorem dX8_step_74 : decode cX8_step 74 = .ok (.iconst 3, 1) := by decide +kernel
theorem dX8_step_75 : decode cX8_step 75 = .ok (.iload_n 2, 1) := by decide +kernel
theorem dX8_step_76 : decode cX8_step 76 = .ok (.imul, 1) := by decide +kernel
theorem dX8_step_77 : decode cX8_step 77 = .ok (.aload_n 0, 1) := by decide +kernel
theorem dX8_step_78 : decode cX8_step 78 = .ok (.iload_n 2, 1) := by decide +kernel
theorem dX8_step_79 : decode cX8_step 79 = .ok (.iload_n 3, 1) := by decide +kernel
theorem dX8_step_80 : decode cX8_step 80 = .ok (.iload 4, 2) := by decide +kernel
theorem dX8_step_82 : decode cX8_step 82 = .ok (.aload_n 0, 1) := by decide +kernel
theorem dX8_step_83 : decode cX8_step 83 = .ok (.getfield 47, 3) := by decide +kernel
theorem dX8_step_86 : decode cX8_step 86 = .ok (.bipush 15, 2) := by decide +kernel
theorem dX8_step_88 : decode cX8_step 88 = .ok (.iaload, 1) := by decide +kernel
theorem dX8_step_89 : decode cX8_step 89 = .ok (.aload_n 0, 1) := by decide +kernel
theorem dX8_step_90 : decode cX8_step 90 = .ok (.getfield 139, 3) := by decide +kernel
theorem dX8_step_93 : decode cX8_step 93 = .ok (.invokevirtual 185, 3) := by decide +kernel
theorem dX8_step_96 : decode cX8_step 96 = .ok (.iastore, 1) := by decide +kernel
theorem dX8_step_97 : decode cX8_step 97 = .ok (.aload_n 0, 1) := by decide +kernel
theorem dX8_step_98 : decode cX8_step 98 = .ok (.getfield 47, 3) := by decide +kernel
theorem dX8_step_101 : decode cX8_step 101 = .ok (.iconst 3, 1) := by decide +kernel
theorem dX8_step_102 : decode cX8_step 102 = .ok (.iload_n 2, 1) := by decide +kernel
theorem dX8_step_103 : decode cX8_step 103 = .ok (.imul, 1) := by decide +kernel
theorem dX8_step_104 : decode cX8_step 104 = .ok (.iconst 2, 1) := by decide +kernel
theorem dX8_step_105 : decode cX8_step 105 = .ok (.iadd, 1) := by decide +kernel
theorem dX8_step_106 : decode cX8_step 106 = .ok (.aload_n 0, 1) := by decide +kernel
theorem dX8_step_107 : decode cX8_step 107 = .ok (.iload_n 2, 1) := by decide +kernel
theorem dX8_step_108 : decode cX8_step 108 = .ok (.iload_n 3, 1) := by decide +kernel
theorem dX8_step_109 : decode cX8_step 109 = .ok (.aload_n 0, 1) := by decide +kernel
theorem dX8_step_110 : decode cX8_step 110 = .ok (.getfield 47, 3) := by decide +kernel
theorem dX8_step_113 : decode cX8_step 113 = .ok (.iconst 3, 1) := by decide +kernel
theorem dX8_step_114 : decode cX8_step 114 = .ok (.iload_n 2, 1) := by decide +kernel
theorem dX8_step_115 : decode cX8_step 115 = .ok (.imul, 1) := by decide +kernel
theorem dX8_step_116 : decode cX8_step 116 = .ok (.iaload, 1) := by decide +kernel
theorem dX8_step_117 : decode cX8_step 117 = .ok (.iload 4, 2) := by decide +kernel
theorem dX8_step_119 : decode cX8_step 119 = .ok (.aload_n 0, 1) := by decide +kernel
theorem dX8_step_120 : decode cX8_step 120 = .ok (.getfield 47, 3) := by decide +kernel
theorem dX8_step_123 : decode cX8_step 123 = .ok (.bipush 15, 2) := by decide +kernel
theorem dX8_step_125 : decode cX8_step 125 = .ok (.iaload, 1) := by decide +kernel
theorem dX8_step_126 : decode cX8_step 126 = .ok (.iconst 1, 1) := by decide +kernel
theorem dX8_step_127 : decode cX8_step 127 = .ok (.iadd, 1) := by decide +kernel
theorem dX8_step_128 : decode cX8_step 128 = .ok (.aload_n 0, 1) := by decide +kernel
theorem dX8_step_129 : decode cX8_step 129 = .ok (.getfield 139, 3) := by decide +kernel
theorem dX8_step_132 : decode cX8_step 132 = .ok (.invokevirtual 189, 3) := by decide +kernel
theorem dX8_step_135 : decode cX8_step 135 = .ok (.iastore, 1) := by decide +kernel
theorem dX8_step_136 : decode cX8_step 136 = .ok (.iload_n 1, 1) := by decide +kernel
theorem dX8_step_137 : decode cX8_step 137 = .ok (.aload_n 0, 1) := by decide +kernel
theorem dX8_step_138 : decode cX8_step 138 = .ok (.getfield 47, 3) := by decide +kernel
theorem dX8_step_141 : decode cX8_step 141 = .ok (.iconst 3, 1) := by decide +kernel
theorem dX8_step_142 : decode cX8_step 142 = .ok (.iload_n 2, 1) := by decide +kernel
theorem dX8_step_143 : decode cX8_step 143 = .ok (.imul, 1) := by decide +kernel
theorem dX8_step_144 : decode cX8_step 144 = .ok (.iconst 2, 1) := by decide +kernel
theorem dX8_step_145 : decode cX8_step 145 = .ok (.iadd, 1) := by decide +kernel
theorem dX8_step_146 : decode cX8_step 146 = .ok (.iaload, 1) := by decide +kernel
theorem dX8_step_147 : decode cX8_step 147 = .ok (.iconst 1, 1) := by decide +kernel
theorem dX8_step_148 : decode cX8_step 148 = .ok (.if_icmp .le 9, 3) := by decide +kernel
theorem dX8_step_151 : decode cX8_step 151 = .ok (.iconst 1, 1) := by decide +kernel
theorem dX8_step_152 : decode cX8_step 152 = .ok (.iload_n 2, 1) := by decide +kernel
theorem dX8_step_153 : decode cX8_step 153 = .ok (.ishl, 1) := by decide +kernel
theorem dX8_step_154 : decode cX8_step 154 = .ok (.goto 4, 3) := by decide +kernel
theorem dX8_step_157 : decode cX8_step 157 = .ok (.iconst 0, 1) := by decide +kernel
theorem dX8_step_158 : decode cX8_step 158 = .ok (.ior, 1) := by decide +kernel
theorem dX8_step_159 : decode cX8_step 159 = .ok (.istore_n 1, 1) := by decide +kernel
theorem dX8_step_160 : decode cX8_step 160 = .ok (.iinc 2 1, 3) := by decide +kernel
theorem dX8_step_163 : decode cX8_step 163 = .ok (.goto (-135), 3) := by decide +kernel
theorem dX8_step_166 : decode cX8_step 166 = .ok (.aload_n 0, 1) := by decide +kernel
theorem dX8_step_167 : decode cX8_step 167 = .ok (.getfield 47, 3) := by decide +kernel
theorem dX8_step_170 : decode cX8_step 170 = .ok (.bipush 15, 2) := by decide +kernel
theorem dX8_step_172 : decode cX8_step 172 = .ok (.dup2, 1) := by decide +kernel
theorem dX8_step_173 : decode cX8_step 173 = .ok (.iaload, 1) := by decide +kernel
theorem dX8_step_174 : decode cX8_step 174 = .ok (.iconst 1, 1) := by decide +kernel
theorem dX8_step_175 : decode cX8_step 175 = .ok (.iadd, 1) := by decide +kernel
theorem dX8_step_176 : decode cX8_step 176 = .ok (.iastore, 1) := by decide +kernel
theorem dX8_step_177 : decode cX8_step 177 = .ok (.iload_n 1, 1) := by decide +kernel
theorem dX8_step_178 : decode cX8_step 178 = .ok (.ireturn, 1) := by decide +kernel
theorem dX8_climb_0 : decode cX8_climb 0 = .ok (.aload_n 0, 1) := by decide +kernel
theorem dX8_climb_1 : decode cX8_climb 1 = .ok (.iconst 0, 1) := by decide +kernel
theorem dX8_climb_2 : decode cX8_climb 2 = .ok (.putfield 67, 3) := by decide +kernel
theorem dX8_climb_5 : decode cX8_climb 5 = .ok (.aload_n 0, 1) := by decide +kernel
theorem dX8_climb_6 : decode cX8_climb 6 = .ok (.iload_n 1, 1) := by decide +kernel
theorem dX8_climb_7 : decode cX8_climb 7 = .ok (.invokevirtual 174, 3) := by decide +kernel
theorem dX8_climb_10 : decode cX8_climb 10 = .ok (.ifCond .eq 5, 3) := by decide +kernel
theorem dX8_climb_13 : decode cX8_climb 13 = .ok (.iconst (-1), 1) := by decide +kernel
theorem dX8_climb_14 : decode cX8_climb 14 = .ok (.ireturn, 1) := by decide +kernel
theorem dX8_climb_15 : decode cX8_climb 15 = .ok (.aload_n 0, 1) := by decide +kernel
theorem dX8_climb_16 : decode cX8_climb 16 = .ok (.aload_n 0, 1) := by decide +kernel
theorem dX8_climb_17 : decode cX8_climb 17 = .ok (.getfield 47, 3) := by decide +kernel
theorem dX8_climb_20 : decode cX8_climb 20 = .ok (.iconst 3, 1) := by decide +kernel
theorem dX8_climb_21 : decode cX8_climb 21 = .ok (.iload_n 1, 1) := by decide +kernel
theorem dX8_climb_22 : decode cX8_climb 22 = .ok (.imul, 1) := by decide +kernel
theorem dX8_climb_23 : decode cX8_climb 23 = .ok (.iaload, 1) := by decide +kernel
theorem dX8_climb_24 : decode cX8_climb 24 = .ok (.invokevirtual 164, 3) := by decide +kernel
theorem dX8_climb_27 : decode cX8_climb 27 = .ok (.istore_n 2, 1) := by decide +kernel
theorem dX8_climb_28 : decode cX8_climb 28 = .ok (.aload_n 0, 1) := by decide +kernel
theorem dX8_climb_29 : decode cX8_climb 29 = .ok (.getfield 47, 3) := by decide +kernel
theorem dX8_climb_32 : decode cX8_climb 32 = .ok (.iconst 3, 1) := by decide +kernel
theorem dX8_climb_33 : decode cX8_climb 33 = .ok (.iload_n 1, 1) := by decide +kernel
theorem dX8_climb_34 : decode cX8_climb 34 = .ok (.imul, 1) := by decide +kernel
theorem dX8_climb_35 : decode cX8_climb 35 = .ok (.iconst 2, 1) := by decide +kernel
theorem dX8_climb_36 : decode cX8_climb 36 = .ok (.iadd, 1) := by decide +kernel
theorem dX8_climb_37 : decode cX8_climb 37 = .ok (.iaload, 1) := by decide +kernel
theorem dX8_climb_38 : decode cX8_climb 38 = .ok (.ifCond .ne 9, 3) := by decide +kernel
theorem dX8_climb_41 : decode cX8_climb 41 = .ok (.iload_n 2, 1) := by decide +kernel
theorem dX8_climb_42 : decode cX8_climb 42 = .ok (.bipush (-9), 2) := by decide +kernel
theorem dX8_climb_44 : decode cX8_climb 44 = .ok (.if_icmp .ne 6, 3) := by decide +kernel
theorem dX8_climb_47 : decode cX8_climb 47 = .ok (.bipush (-3), 2) := by decide +kernel
theorem dX8_climb_49 : decode cX8_climb 49 = .ok (.ireturn, 1) := by decide +kernel
theorem dX8_climb_50 : decode cX8_climb 50 = .ok (.aload_n 0, 1) := by decide +kernel
theorem dX8_climb_51 : decode cX8_climb 51 = .ok (.aload_n 0, 1) := by decide +kernel
theorem dX8_climb_52 : decode cX8_climb 52 = .ok (.getfield 26, 3) := by decide +kernel
theorem dX8_climb_55 : decode cX8_climb 55 = .ok (.iload_n 2, 1) := by decide +kernel
theorem dX8_climb_56 : decode cX8_climb 56 = .ok (.iaload, 1) := by decide +kernel
theorem dX8_climb_57 : decode cX8_climb 57 = .ok (.invokevirtual 171, 3) := by decide +kernel
theorem dX8_climb_60 : decode cX8_climb 60 = .ok (.aload_n 0, 1) := by decide +kernel
theorem dX8_climb_61 : decode cX8_climb 61 = .ok (.getfield 29, 3) := by decide +kernel
theorem dX8_climb_64 : decode cX8_climb 64 = .ok (.iload_n 2, 1) := by decide +kernel
theorem dX8_climb_65 : decode cX8_climb 65 = .ok (.iaload, 1) := by decide +kernel
theorem dX8_climb_66 : decode cX8_climb 66 = .ok (.if_icmp .ne 6, 3) := by decide +kernel
theorem dX8_climb_69 : decode cX8_climb 69 = .ok (.bipush (-4), 2) := by decide +kernel
theorem dX8_climb_71 : decode cX8_climb 71 = .ok (.ireturn, 1) := by decide +kernel
theorem dX8_climb_72 : decode cX8_climb 72 = .ok (.aload_n 0, 1) := by decide +kernel
theorem dX8_climb_73 : decode cX8_climb 73 = .ok (.invokevirtual 198, 3) := by decide +kernel
theorem dX8_climb_76 : decode cX8_climb 76 = .ok (.aload_n 0, 1) := by decide +kernel
theorem dX8_climb_77 : decode cX8_climb 77 = .ok (.getfield 47, 3) := by decide +kernel
theorem dX8_climb_80 : decode cX8_climb 80 = .ok (.iconst 3, 1) := by decide +kernel
theorem dX8_climb_81 : decode cX8_climb 81 = .ok (.iload_n 1, 1) := by decide +kernel
theorem dX8_climb_82 : decode cX8_climb 82 = .ok (.imul, 1) := by decide +kernel
theorem dX8_climb_83 : decode cX8_climb 83 = .ok (.iconst 2, 1) := by decide +kernel
theorem dX8_climb_84 : decode cX8_climb 84 = .ok (.iadd, 1) := by decide +kernel
theorem dX8_climb_85 : decode cX8_climb 85 = .ok (.iconst 4, 1) := by decide +kernel
theorem dX8_climb_86 : decode cX8_climb 86 = .ok (.iastore, 1) := by decide +kernel
theorem dX8_climb_87 : decode cX8_climb 87 = .ok (.aload_n 0, 1) := by decide +kernel
theorem dX8_climb_88 : decode cX8_climb 88 = .ok (.aload_n 0, 1) := by decide +kernel
theorem dX8_climb_89 : decode cX8_climb 89 = .ok (.getfield 26, 3) := by decide +kernel
theorem dX8_climb_92 : decode cX8_climb 92 = .ok (.iload_n 2, 1) := by decide +kernel
theorem dX8_climb_93 : decode cX8_climb 93 = .ok (.iaload, 1) := by decide +kernel
theorem dX8_climb_94 : decode cX8_climb 94 = .ok (.invokevirtual 171, 3) := by decide +kernel
theorem dX8_climb_97 : decode cX8_climb 97 = .ok (.ireturn, 1) := by decide +kernel
theorem dX8_undo_0 : decode cX8_undo 0 = .ok (.aload_n 0, 1) := by decide +kernel
theorem dX8_undo_1 : decode cX8_undo 1 = .ok (.iconst 0, 1) := by decide +kernel
theorem dX8_undo_2 : decode cX8_undo 2 = .ok (.putfield 67, 3) := by decide +kernel
theorem dX8_undo_5 : decode cX8_undo 5 = .ok (.aload_n 0, 1) := by decide +kernel
theorem dX8_undo_6 : decode cX8_undo 6 = .ok (.getfield 151, 3) := by decide +kernel
theorem dX8_undo_9 : decode cX8_undo 9 = .ok (.ifCond .ne 6, 3) := by decide +kernel
theorem dX8_undo_12 : decode cX8_undo 12 = .ok (.bipush (-3), 2) := by decide +kernel
theorem dX8_undo_14 : decode cX8_undo 14 = .ok (.ireturn, 1) := by decide +kernel
theorem dX8_undo_15 : decode cX8_undo 15 = .ok (.aload_n 0, 1) := by decide +kernel
theorem dX8_undo_16 : decode cX8_undo 16 = .ok (.dup, 1) := by decide +kernel
theorem dX8_undo_17 : decode cX8_undo 17 = .ok (.getfield 151, 3) := by decide +kernel
theorem dX8_undo_20 : decode cX8_undo 20 = .ok (.iconst 1, 1) := by decide +kernel
theorem dX8_undo_21 : decode cX8_undo 21 = .ok (.isub, 1) := by decide +kernel
theorem dX8_undo_22 : decode cX8_undo 22 = .ok (.putfield 151, 3) := by decide +kernel
theorem dX8_undo_25 : decode cX8_undo 25 = .ok (.iconst 0, 1) := by decide +kernel
theorem dX8_undo_26 : decode cX8_undo 26 = .ok (.istore_n 1, 1) := by decide +kernel
theorem dX8_undo_27 : decode cX8_undo 27 = .ok (.iload_n 1, 1) := by decide +kernel
theorem dX8_undo_28 : decode cX8_undo 28 = .ok (.bipush 16, 2) := by decide +kernel
theorem dX8_undo_30 : decode cX8_undo 30 = .ok (.if_icmp .ge 29, 3) := by decide +kernel
theorem dX8_undo_33 : decode cX8_undo 33 = .ok (.aload_n 0, 1) := by decide +kernel
theorem dX8_undo_34 : decode cX8_undo 34 = .ok (.getfield 47, 3) := by decide +kernel
theorem dX8_undo_37 : decode cX8_undo 37 = .ok (.iload_n 1, 1) := by decide +kernel
theorem dX8_undo_38 : decode cX8_undo 38 = .ok (.aload_n 0, 1) := by decide +kernel
theorem dX8_undo_39 : decode cX8_undo 39 = .ok (.getfield 50, 3) := by decide +kernel
theorem dX8_undo_42 : decode cX8_undo 42 = .ok (.bipush 16, 2) := by decide +kernel
theorem dX8_undo_44 : decode cX8_undo 44 = .ok (.aload_n 0, 1) := by decide +kernel
theorem dX8_undo_45 : decode cX8_undo 45 = .ok (.getfield 151, 3) := by decide +kernel
theorem dX8_undo_48 : decode cX8_undo 48 = .ok (.imul, 1) := by decide +kernel
theorem dX8_undo_49 : decode cX8_undo 49 = .ok (.iload_n 1, 1) := by decide +kernel
theorem dX8_undo_50 : decode cX8_undo 50 = .ok (.iadd, 1) := by decide +kernel
theorem dX8_undo_51 : decode cX8_undo 51 = .ok (.iaload, 1) := by decide +kernel
theorem dX8_undo_52 : decode cX8_undo 52 = .ok (.iastore, 1) := by decide +kernel
theorem dX8_undo_53 : decode cX8_undo 53 = .ok (.iinc 1 1, 3) := by decide +kernel
theorem dX8_undo_56 : decode cX8_undo 56 = .ok (.goto (-29), 3) := by decide +kernel
theorem dX8_undo_59 : decode cX8_undo 59 = .ok (.aload_n 0, 1) := by decide +kernel
theorem dX8_undo_60 : decode cX8_undo 60 = .ok (.getfield 151, 3) := by decide +kernel
theorem dX8_undo_63 : decode cX8_undo 63 = .ok (.ireturn, 1) := by decide +kernel
theorem dX8_goneOf_0 : decode cX8_goneOf 0 = .ok (.aload_n 0, 1) := by decide +kernel
theorem dX8_goneOf_1 : decode cX8_goneOf 1 = .ok (.iload 5, 2) := by decide +kernel
theorem dX8_goneOf_3 : decode cX8_goneOf 3 = .ok (.putfield 182, 3) := by decide +kernel
theorem dX8_goneOf_6 : decode cX8_goneOf 6 = .ok (.aload_n 0, 1) := by decide +kernel
theorem dX8_goneOf_7 : decode cX8_goneOf 7 = .ok (.iload_n 2, 1) := by decide +kernel
theorem dX8_goneOf_8 : decode cX8_goneOf 8 = .ok (.putfield 179, 3) := by decide +kernel
theorem dX8_goneOf_11 : decode cX8_goneOf 11 = .ok (.aload_n 0, 1) := by decide +kernel
theorem dX8_goneOf_12 : decode cX8_goneOf 12 = .ok (.iconst 0, 1) := by decide +kernel
theorem dX8_goneOf_13 : decode cX8_goneOf 13 = .ok (.putfield 193, 3) := by decide +kernel
theorem dX8_goneOf_16 : decode cX8_goneOf 16 = .ok (.iload 4, 2) := by decide +kernel
theorem dX8_goneOf_18 : decode cX8_goneOf 18 = .ok (.iconst 1, 1) := by decide +kernel
theorem dX8_goneOf_19 : decode cX8_goneOf 19 = .ok (.if_icmp .ne 8, 3) := by decide +kernel
theorem dX8_goneOf_22 : decode cX8_goneOf 22 = .ok (.bipush 9, 2) := by decide +kernel
theorem dX8_goneOf_24 : decode cX8_goneOf 24 = .ok (.goto 4, 3) := by decide +kernel
theorem dX8_goneOf_27 : decode cX8_goneOf 27 = .ok (.iconst 0, 1) := by decide +kernel
theorem dX8_goneOf_28 : decode cX8_goneOf 28 = .ok (.istore 6, 2) := by decide +kernel
theorem dX8_goneOf_30 : decode cX8_goneOf 30 = .ok (.iload_n 3, 1) := by decide +kernel
theorem dX8_goneOf_31 : decode cX8_goneOf 31 = .ok (.istore 7, 2) := by decide +kernel
theorem dX8_goneOf_33 : decode cX8_goneOf 33 = .ok (.aload_n 0, 1) := by decide +kernel
theorem dX8_goneOf_34 : decode cX8_goneOf 34 = .ok (.getfield 179, 3) := by decide +kernel
theorem dX8_goneOf_37 : decode cX8_goneOf 37 = .ok (.iload 6, 2) := by decide +kernel
theorem dX8_goneOf_39 : decode cX8_goneOf 39 = .ok (.if_icmp .eq 32, 3) := by decide +kernel
theorem dX8_goneOf_42 : decode cX8_goneOf 42 = .ok (.aload_n 0, 1) := by decide +kernel
theorem dX8_goneOf_43 : decode cX8_goneOf 43 = .ok (.getfield 193, 3) := by decide +kernel
theorem dX8_goneOf_46 : decode cX8_goneOf 46 = .ok (.ifCond .ne 25, 3) := by decide +kernel
theorem dX8_goneOf_49 : decode cX8_goneOf 49 = .ok (.iload 7, 2) := by decide +kernel
theorem dX8_goneOf_51 : decode cX8_goneOf 51 = .ok (.bipush 40, 2) := by decide +kernel
theorem dX8_goneOf_53 : decode cX8_goneOf 53 = .ok (.if_icmp .ge 18, 3) := by decide +kernel
theorem dX8_goneOf_56 : decode cX8_goneOf 56 = .ok (.aload_n 0, 1) := by decide +kernel
theorem dX8_goneOf_57 : decode cX8_goneOf 57 = .ok (.iload_n 1, 1) := by decide +kernel
theorem dX8_goneOf_58 : decode cX8_goneOf 58 = .ok (.iload 4, 2) := by decide +kernel
theorem dX8_goneOf_60 : decode cX8_goneOf 60 = .ok (.iload 7, 2) := by decide +kernel
theorem dX8_goneOf_62 : decode cX8_goneOf 62 = .ok (.invokevirtual 201, 3) := by decide +kernel
theorem dX8_goneOf_65 : decode cX8_goneOf 65 = .ok (.iinc 7 1, 3) := by decide +kernel
theorem dX8_goneOf_68 : decode cX8_goneOf 68 = .ok (.goto (-35), 3) := by decide +kernel
theorem dX8_goneOf_71 : decode cX8_goneOf 71 = .ok (.aload_n 0, 1) := by decide +kernel
theorem dX8_goneOf_72 : decode cX8_goneOf 72 = .ok (.getfield 179, 3) := by decide +kernel
theorem dX8_goneOf_75 : decode cX8_goneOf 75 = .ok (.iload 6, 2) := by decide +kernel
theorem dX8_goneOf_77 : decode cX8_goneOf 77 = .ok (.if_icmp .ne 16, 3) := by decide +kernel
theorem dX8_goneOf_80 : decode cX8_goneOf 80 = .ok (.aload_n 0, 1) := by decide +kernel
theorem dX8_goneOf_81 : decode cX8_goneOf 81 = .ok (.getfield 193, 3) := by decide +kernel
theorem dX8_goneOf_84 : decode cX8_goneOf 84 = .ok (.iconst 2, 1) := by decide +kernel
theorem dX8_goneOf_85 : decode cX8_goneOf 85 = .ok (.if_icmp .ge 8, 3) := by decide +kernel
theorem dX8_goneOf_88 : decode cX8_goneOf 88 = .ok (.iload 7, 2) := by decide +kernel
theorem dX8_goneOf_90 : decode cX8_goneOf 90 = .ok (.goto 5, 3) := by decide +kernel
theorem dX8_goneOf_93 : decode cX8_goneOf 93 = .ok (.bipush (-9), 2) := by decide +kernel
theorem dX8_goneOf_95 : decode cX8_goneOf 95 = .ok (.ireturn, 1) := by decide +kernel
theorem dX8_gone_0 : decode cX8_gone 0 = .ok (.aload_n 0, 1) := by decide +kernel
theorem dX8_gone_1 : decode cX8_gone 1 = .ok (.iconst 0, 1) := by decide +kernel
theorem dX8_gone_2 : decode cX8_gone 2 = .ok (.putfield 67, 3) := by decide +kernel
theorem dX8_gone_5 : decode cX8_gone 5 = .ok (.aload_n 0, 1) := by decide +kernel
theorem dX8_gone_6 : decode cX8_gone 6 = .ok (.iload_n 1, 1) := by decide +kernel
theorem dX8_gone_7 : decode cX8_gone 7 = .ok (.invokevirtual 174, 3) := by decide +kernel
theorem dX8_gone_10 : decode cX8_gone 10 = .ok (.ifCond .ne 10, 3) := by decide +kernel
theorem dX8_gone_13 : decode cX8_gone 13 = .ok (.iload_n 2, 1) := by decide +kernel
theorem dX8_gone_14 : decode cX8_gone 14 = .ok (.invokestatic 160, 3) := by decide +kernel
theorem dX8_gone_17 : decode cX8_gone 17 = .ok (.ifCond .eq 5, 3) := by decide +kernel
theorem dX8_gone_20 : decode cX8_gone 20 = .ok (.iconst (-1), 1) := by decide +kernel
theorem dX8_gone_21 : decode cX8_gone 21 = .ok (.ireturn, 1) := by decide +kernel
theorem dX8_gone_22 : decode cX8_gone 22 = .ok (.iload 4, 2) := by decide +kernel
theorem dX8_gone_24 : decode cX8_gone 24 = .ok (.i2l, 1) := by decide +kernel
theorem dX8_gone_25 : decode cX8_gone 25 = .ok (.lconst 1, 1) := by decide +kernel
theorem dX8_gone_26 : decode cX8_gone 26 = .ok (.ldc2_w 196, 3) := by decide +kernel
theorem dX8_gone_29 : decode cX8_gone 29 = .ok (.invokestatic 73, 3) := by decide +kernel
theorem dX8_gone_32 : decode cX8_gone 32 = .ok (.ifCond .eq 31, 3) := by decide +kernel
theorem dX8_gone_35 : decode cX8_gone 35 = .ok (.iload_n 3, 1) := by decide +kernel
theorem dX8_gone_36 : decode cX8_gone 36 = .ok (.i2l, 1) := by decide +kernel
theorem dX8_gone_37 : decode cX8_gone 37 = .ok (.lconst 0, 1) := by decide +kernel
theorem dX8_gone_38 : decode cX8_gone 38 = .ok (.ldc2_w 177, 3) := by decide +kernel
theorem dX8_gone_41 : decode cX8_gone 41 = .ok (.invokestatic 73, 3) := by decide +kernel
theorem dX8_gone_44 : decode cX8_gone 44 = .ok (.ifCond .eq 19, 3) := by decide +kernel
theorem dX8_gone_47 : decode cX8_gone 47 = .ok (.aload_n 0, 1) := by decide +kernel
theorem dX8_gone_48 : decode cX8_gone 48 = .ok (.iload_n 1, 1) := by decide +kernel
theorem dX8_gone_49 : decode cX8_gone 49 = .ok (.iload_n 2, 1) := by decide +kernel
theorem dX8_gone_50 : decode cX8_gone 50 = .ok (.iload_n 3, 1) := by decide +kernel
theorem dX8_gone_51 : decode cX8_gone 51 = .ok (.iload 4, 2) := by decide +kernel
theorem dX8_gone_53 : decode cX8_gone 53 = .ok (.aload_n 0, 1) := by decide +kernel
theorem dX8_gone_54 : decode cX8_gone 54 = .ok (.getfield 139, 3) := by decide +kernel
theorem dX8_gone_57 : decode cX8_gone 57 = .ok (.invokevirtual 205, 3) := by decide +kernel
theorem dX8_gone_60 : decode cX8_gone 60 = .ok (.goto 5, 3) := by decide +kernel
theorem dX8_gone_63 : decode cX8_gone 63 = .ok (.bipush (-2), 2) := by decide +kernel
theorem dX8_gone_65 : decode cX8_gone 65 = .ok (.ireturn, 1) := by decide +kernel
theorem dX8_latest_0 : decode cX8_latest 0 = .ok (.aload_n 0, 1) := by decide +kernel
theorem dX8_latest_1 : decode cX8_latest 1 = .ok (.iconst 0, 1) := by decide +kernel
theorem dX8_latest_2 : decode cX8_latest 2 = .ok (.putfield 67, 3) := by decide +kernel
theorem dX8_latest_5 : decode cX8_latest 5 = .ok (.aload_n 0, 1) := by decide +kernel
theorem dX8_latest_6 : decode cX8_latest 6 = .ok (.iload_n 1, 1) := by decide +kernel
theorem dX8_latest_7 : decode cX8_latest 7 = .ok (.invokevirtual 174, 3) := by decide +kernel
theorem dX8_latest_10 : decode cX8_latest 10 = .ok (.ifCond .eq 5, 3) := by decide +kernel
theorem dX8_latest_13 : decode cX8_latest 13 = .ok (.iconst (-1), 1) := by decide +kernel
theorem dX8_latest_14 : decode cX8_latest 14 = .ok (.ireturn, 1) := by decide +kernel
theorem dX8_latest_15 : decode cX8_latest 15 = .ok (.bipush (-9), 2) := by decide +kernel
theorem dX8_latest_17 : decode cX8_latest 17 = .ok (.istore_n 2, 1) := by decide +kernel
theorem dX8_latest_18 : decode cX8_latest 18 = .ok (.iconst 0, 1) := by decide +kernel
theorem dX8_latest_19 : decode cX8_latest 19 = .ok (.istore_n 3, 1) := by decide +kernel
theorem dX8_latest_20 : decode cX8_latest 20 = .ok (.iload_n 3, 1) := by decide +kernel
theorem dX8_latest_21 : decode cX8_latest 21 = .ok (.bipush 40, 2) := by decide +kernel
theorem dX8_latest_23 : decode cX8_latest 23 = .ok (.if_icmp .gt 32, 3) := by decide +kernel
theorem dX8_latest_26 : decode cX8_latest 26 = .ok (.aload_n 0, 1) := by decide +kernel
theorem dX8_latest_27 : decode cX8_latest 27 = .ok (.iload_n 1, 1) := by decide +kernel
theorem dX8_latest_28 : decode cX8_latest 28 = .ok (.iconst 0, 1) := by decide +kernel
theorem dX8_latest_29 : decode cX8_latest 29 = .ok (.iload_n 3, 1) := by decide +kernel
theorem dX8_latest_30 : decode cX8_latest 30 = .ok (.iconst 1, 1) := by decide +kernel
theorem dX8_latest_31 : decode cX8_latest 31 = .ok (.aload_n 0, 1) := by decide +kernel
theorem dX8_latest_32 : decode cX8_latest 32 = .ok (.getfield 139, 3) := by decide +kernel
theorem dX8_latest_35 : decode cX8_latest 35 = .ok (.invokevirtual 205, 3) := by decide +kernel
theorem dX8_latest_38 : decode cX8_latest 38 = .ok (.bipush (-9), 2) := by decide +kernel
theorem dX8_latest_40 : decode cX8_latest 40 = .ok (.if_icmp .ne 7, 3) := by decide +kernel
theorem dX8_latest_43 : decode cX8_latest 43 = .ok (.iload_n 2, 1) := by decide +kernel
theorem dX8_latest_44 : decode cX8_latest 44 = .ok (.goto 4, 3) := by decide +kernel
theorem dX8_latest_47 : decode cX8_latest 47 = .ok (.iload_n 3, 1) := by decide +kernel
theorem dX8_latest_48 : decode cX8_latest 48 = .ok (.istore_n 2, 1) := by decide +kernel
theorem dX8_latest_49 : decode cX8_latest 49 = .ok (.iinc 3 1, 3) := by decide +kernel
theorem dX8_latest_52 : decode cX8_latest 52 = .ok (.goto (-32), 3) := by decide +kernel
theorem dX8_latest_55 : decode cX8_latest 55 = .ok (.iload_n 2, 1) := by decide +kernel
theorem dX8_latest_56 : decode cX8_latest 56 = .ok (.ireturn, 1) := by decide +kernel
theorem dX8_noWalk_0 : decode cX8_noWalk 0 = .ok (.aload_n 0, 1) := by decide +kernel
theorem dX8_noWalk_1 : decode cX8_noWalk 1 = .ok (.iload_n 1, 1) := by decide +kernel
theorem dX8_noWalk_2 : decode cX8_noWalk 2 = .ok (.invokevirtual 174, 3) := by decide +kernel
theorem dX8_noWalk_5 : decode cX8_noWalk 5 = .ok (.ifCond .eq 7, 3) := by decide +kernel
theorem dX8_noWalk_8 : decode cX8_noWalk 8 = .ok (.iconst (-1), 1) := by decide +kernel
theorem dX8_noWalk_9 : decode cX8_noWalk 9 = .ok (.goto 22, 3) := by decide +kernel
theorem dX8_noWalk_12 : decode cX8_noWalk 12 = .ok (.aload_n 0, 1) := by decide +kernel
theorem dX8_noWalk_13 : decode cX8_noWalk 13 = .ok (.getfield 47, 3) := by decide +kernel
theorem dX8_noWalk_16 : decode cX8_noWalk 16 = .ok (.iconst 3, 1) := by decide +kernel
theorem dX8_noWalk_17 : decode cX8_noWalk 17 = .ok (.iload_n 1, 1) := by decide +kernel
theorem dX8_noWalk_18 : decode cX8_noWalk 18 = .ok (.imul, 1) := by decide +kernel
theorem dX8_noWalk_19 : decode cX8_noWalk 19 = .ok (.iconst 2, 1) := by decide +kernel
theorem dX8_noWalk_20 : decode cX8_noWalk 20 = .ok (.iadd, 1) := by decide +kernel
theorem dX8_noWalk_21 : decode cX8_noWalk 21 = .ok (.iaload, 1) := by decide +kernel
theorem dX8_noWalk_22 : decode cX8_noWalk 22 = .ok (.ifCond .ne 7, 3) := by decide +kernel
theorem dX8_noWalk_25 : decode cX8_noWalk 25 = .ok (.iconst 0, 1) := by decide +kernel
theorem dX8_noWalk_26 : decode cX8_noWalk 26 = .ok (.goto 5, 3) := by decide +kernel
theorem dX8_noWalk_29 : decode cX8_noWalk 29 = .ok (.bipush (-3), 2) := by decide +kernel
theorem dX8_noWalk_31 : decode cX8_noWalk 31 = .ok (.ireturn, 1) := by decide +kernel
theorem dX8_safest_0 : decode cX8_safest 0 = .ok (.aload_n 0, 1) := by decide +kernel
theorem dX8_safest_1 : decode cX8_safest 1 = .ok (.iconst 0, 1) := by decide +kernel
theorem dX8_safest_2 : decode cX8_safest 2 = .ok (.putfield 67, 3) := by decide +kernel
theorem dX8_safest_5 : decode cX8_safest 5 = .ok (.aload_n 0, 1) := by decide +kernel
theorem dX8_safest_6 : decode cX8_safest 6 = .ok (.iload_n 1, 1) := by decide +kernel
theorem dX8_safest_7 : decode cX8_safest 7 = .ok (.invokevirtual 174, 3) := by decide +kernel
theorem dX8_safest_10 : decode cX8_safest 10 = .ok (.ifCond .eq 5, 3) := by decide +kernel
theorem dX8_safest_13 : decode cX8_safest 13 = .ok (.iconst (-1), 1) := by decide +kernel
theorem dX8_safest_14 : decode cX8_safest 14 = .ok (.ireturn, 1) := by decide +kernel
theorem dX8_safest_15 : decode cX8_safest 15 = .ok (.iload_n 2, 1) := by decide +kernel
theorem dX8_safest_16 : decode cX8_safest 16 = .ok (.i2l, 1) := by decide +kernel
theorem dX8_safest_17 : decode cX8_safest 17 = .ok (.lconst 0, 1) := by decide +kernel
theorem dX8_safest_18 : decode cX8_safest 18 = .ok (.lconst 1, 1) := by decide +kernel
theorem dX8_safest_19 : decode cX8_safest 19 = .ok (.invokestatic 73, 3) := by decide +kernel
theorem dX8_safest_22 : decode cX8_safest 22 = .ok (.ifCond .ne 6, 3) := by decide +kernel
theorem dX8_safest_25 : decode cX8_safest 25 = .ok (.bipush (-2), 2) := by decide +kernel
theorem dX8_safest_27 : decode cX8_safest 27 = .ok (.ireturn, 1) := by decide +kernel
theorem dX8_safest_28 : decode cX8_safest 28 = .ok (.aload_n 0, 1) := by decide +kernel
theorem dX8_safest_29 : decode cX8_safest 29 = .ok (.iload_n 1, 1) := by decide +kernel
theorem dX8_safest_30 : decode cX8_safest 30 = .ok (.invokevirtual 208, 3) := by decide +kernel
theorem dX8_safest_33 : decode cX8_safest 33 = .ok (.ifCond .eq 6, 3) := by decide +kernel
theorem dX8_safest_36 : decode cX8_safest 36 = .ok (.bipush (-3), 2) := by decide +kernel
theorem dX8_safest_38 : decode cX8_safest 38 = .ok (.ireturn, 1) := by decide +kernel
theorem dX8_safest_39 : decode cX8_safest 39 = .ok (.aload_n 0, 1) := by decide +kernel
theorem dX8_safest_40 : decode cX8_safest 40 = .ok (.getfield 47, 3) := by decide +kernel
theorem dX8_safest_43 : decode cX8_safest 43 = .ok (.iconst 3, 1) := by decide +kernel
theorem dX8_safest_44 : decode cX8_safest 44 = .ok (.iload_n 1, 1) := by decide +kernel
theorem dX8_safest_45 : decode cX8_safest 45 = .ok (.imul, 1) := by decide +kernel
theorem dX8_safest_46 : decode cX8_safest 46 = .ok (.iaload, 1) := by decide +kernel
theorem dX8_safest_47 : decode cX8_safest 47 = .ok (.istore_n 3, 1) := by decide +kernel
theorem dX8_safest_48 : decode cX8_safest 48 = .ok (.aload_n 0, 1) := by decide +kernel
theorem dX8_safest_49 : decode cX8_safest 49 = .ok (.iload_n 1, 1) := by decide +kernel
theorem dX8_safest_50 : decode cX8_safest 50 = .ok (.iload_n 3, 1) := by decide +kernel
theorem dX8_safest_51 : decode cX8_safest 51 = .ok (.aload_n 0, 1) := by decide +kernel
theorem dX8_safest_52 : decode cX8_safest 52 = .ok (.getfield 47, 3) := by decide +kernel
theorem dX8_safest_55 : decode cX8_safest 55 = .ok (.bipush 15, 2) := by decide +kernel
theorem dX8_safest_57 : decode cX8_safest 57 = .ok (.iaload, 1) := by decide +kernel
theorem dX8_safest_58 : decode cX8_safest 58 = .ok (.iconst 1, 1) := by decide +kernel
theorem dX8_safest_59 : decode cX8_safest 59 = .ok (.aload_n 0, 1) := by decide +kernel
theorem dX8_safest_60 : decode cX8_safest 60 = .ok (.getfield 139, 3) := by decide +kernel
theorem dX8_safest_63 : decode cX8_safest 63 = .ok (.invokevirtual 205, 3) := by decide +kernel
theorem dX8_safest_66 : decode cX8_safest 66 = .ok (.istore 4, 2) := by decide +kernel
theorem dX8_safest_68 : decode cX8_safest 68 = .ok (.aload_n 0, 1) := by decide +kernel
theorem dX8_safest_69 : decode cX8_safest 69 = .ok (.iload_n 1, 1) := by decide +kernel
theorem dX8_safest_70 : decode cX8_safest 70 = .ok (.iload_n 3, 1) := by decide +kernel
theorem dX8_safest_71 : decode cX8_safest 71 = .ok (.aload_n 0, 1) := by decide +kernel
theorem dX8_safest_72 : decode cX8_safest 72 = .ok (.getfield 47, 3) := by decide +kernel
theorem dX8_safest_75 : decode cX8_safest 75 = .ok (.bipush 15, 2) := by decide +kernel
theorem dX8_safest_77 : decode cX8_safest 77 = .ok (.iaload, 1) := by decide +kernel
theorem dX8_safest_78 : decode cX8_safest 78 = .ok (.iconst 2, 1) := by decide +kernel
theorem dX8_safest_79 : decode cX8_safest 79 = .ok (.aload_n 0, 1) := by decide +kernel
theorem dX8_safest_80 : decode cX8_safest 80 = .ok (.getfield 139, 3) := by decide +kernel
theorem dX8_safest_83 : decode cX8_safest 83 = .ok (.invokevirtual 205, 3) := by decide +kernel
theorem dX8_safest_86 : decode cX8_safest 86 = .ok (.istore 5, 2) := by decide +kernel
theorem dX8_safest_88 : decode cX8_safest 88 = .ok (.aload_n 0, 1) := by decide +kernel
theorem dX8_safest_89 : decode cX8_safest 89 = .ok (.iload_n 3, 1) := by decide +kernel
theorem dX8_safest_90 : decode cX8_safest 90 = .ok (.invokevirtual 164, 3) := by decide +kernel
theorem dX8_safest_93 : decode cX8_safest 93 = .ok (.istore 6, 2) := by decide +kernel
theorem dX8_safest_95 : decode cX8_safest 95 = .ok (.iload 6, 2) := by decide +kernel
theorem dX8_safest_97 : decode cX8_safest 97 = .ok (.bipush (-9), 2) := by decide +kernel
theorem dX8_safest_99 : decode cX8_safest 99 = .ok (.if_icmp .eq 22, 3) := by decide +kernel
theorem dX8_safest_102 : decode cX8_safest 102 = .ok (.aload_n 0, 1) := by decide +kernel
theorem dX8_safest_103 : decode cX8_safest 103 = .ok (.iload_n 3, 1) := by decide +kernel
theorem dX8_safest_104 : decode cX8_safest 104 = .ok (.invokevirtual 171, 3) := by decide +kernel
theorem dX8_safest_107 : decode cX8_safest 107 = .ok (.aload_n 0, 1) := by decide +kernel
theorem dX8_safest_108 : decode cX8_safest 108 = .ok (.getfield 29, 3) := by decide +kernel
theorem dX8_safest_111 : decode cX8_safest 111 = .ok (.iload 6, 2) := by decide +kernel
theorem dX8_safest_113 : decode cX8_safest 113 = .ok (.iaload, 1) := by decide +kernel
theorem dX8_safest_114 : decode cX8_safest 114 = .ok (.if_icmp .ge 7, 3) := by decide +kernel
theorem dX8_safest_117 : decode cX8_safest 117 = .ok (.iconst 1, 1) := by decide +kernel
theorem dX8_safest_118 : decode cX8_safest 118 = .ok (.goto 4, 3) := by decide +kernel
theorem dX8_safest_121 : decode cX8_safest 121 = .ok (.iconst 0, 1) := by decide +kernel
theorem dX8_safest_122 : decode cX8_safest 122 = .ok (.istore 7, 2) := by decide +kernel
theorem dX8_safest_124 : decode cX8_safest 124 = .ok (.iload 4, 2) := by decide +kernel
theorem dX8_safest_126 : decode cX8_safest 126 = .ok (.istore 8, 2) := by decide +kernel
theorem dX8_safest_128 : decode cX8_safest 128 = .ok (.iload 4, 2) := by decide +kernel
theorem dX8_safest_130 : decode cX8_safest 130 = .ok (.bipush (-9), 2) := by decide +kernel
theorem dX8_safest_132 : decode cX8_safest 132 = .ok (.if_icmp .ne 8, 3) := by decide +kernel
theorem dX8_safest_135 : decode cX8_safest 135 = .ok (.bipush (-9), 2) := by decide +kernel
theorem dX8_safest_137 : decode cX8_safest 137 = .ok (.goto 4, 3) := by decide +kernel
theorem dX8_safest_140 : decode cX8_safest 140 = .ok (.iconst 0, 1) := by decide +kernel
theorem dX8_safest_141 : decode cX8_safest 141 = .ok (.istore 9, 2) := by decide +kernel
theorem dX8_safest_143 : decode cX8_safest 143 = .ok (.iload 5, 2) := by decide +kernel
theorem dX8_safest_145 : decode cX8_safest 145 = .ok (.bipush (-9), 2) := by decide +kernel
theorem dX8_safest_147 : decode cX8_safest 147 = .ok (.if_icmp .eq 24, 3) := by decide +kernel
theorem dX8_safest_150 : decode cX8_safest 150 = .ok (.iload 9, 2) := by decide +kernel
theorem dX8_safest_152 : decode cX8_safest 152 = .ok (.bipush (-9), 2) := by decide +kernel
theorem dX8_safest_154 : decode cX8_safest 154 = .ok (.if_icmp .eq 10, 3) := by decide +kernel
theorem dX8_safest_157 : decode cX8_safest 157 = .ok (.iload 5, 2) := by decide +kernel
theorem dX8_safest_159 : decode cX8_safest 159 = .ok (.iload 8, 2) := by decide +kernel
theorem dX8_safest_161 : decode cX8_safest 161 = .ok (.if_icmp .ge 10, 3) := by decide +kernel
theorem dX8_safest_164 : decode cX8_safest 164 = .ok (.iload 5, 2) := by decide +kernel
theorem dX8_safest_166 : decode cX8_safest 166 = .ok (.istore 8, 2) := by decide +kernel
theorem dX8_safest_168 : decode cX8_safest 168 = .ok (.iconst 1, 1) := by decide +kernel
theorem dX8_safest_169 : decode cX8_safest 169 = .ok (.istore 9, 2) := by decide +kernel
theorem dX8_safest_171 : decode cX8_safest 171 = .ok (.iload 7, 2) := by decide +kernel
theorem dX8_safest_173 : decode cX8_safest 173 = .ok (.ifCond .eq 25, 3) := by decide +kernel
theorem dX8_safest_176 : decode cX8_safest 176 = .ok (.iload 9, 2) := by decide +kernel
theorem dX8_safest_178 : decode cX8_safest 178 = .ok (.bipush (-9), 2) := by decide +kernel
theorem dX8_safest_180 : decode cX8_safest 180 = .ok (.if_icmp .eq 15, 3) := by decide +kernel
theorem dX8_safest_183 : decode cX8_safest 183 = .ok (.aload_n 0, 1) := by decide +kernel
theorem dX8_safest_184 : decode cX8_safest 184 = .ok (.getfield 47, 3) := by decide +kernel
theorem dX8_safest_187 : decode cX8_safest 187 = .ok (.bipush 15, 2) := by decide +kernel
theorem dX8_safest_189 : decode cX8_safest 189 = .ok (.iaload, 1) := by decide +kernel
theorem dX8_safest_190 : decode cX8_safest 190 = .ok (.iload 8, 2) := by decide +kernel
theorem dX8_safest_192 : decode cX8_safest 192 = .ok (.if_icmp .ge 6, 3) := by decide +kernel
theorem dX8_safest_195 : decode cX8_safest 195 = .ok (.iconst 2, 1) := by decide +kernel
theorem dX8_safest_196 : decode cX8_safest 196 = .ok (.istore 9, 2) := by decide +kernel
theorem dX8_safest_198 : decode cX8_safest 198 = .ok (.iload_n 2, 1) := by decide +kernel
theorem dX8_safest_199 : decode cX8_safest 199 = .ok (.iconst 1, 1) := by decide +kernel
theorem dX8_safest_200 : decode cX8_safest 200 = .ok (.if_icmp .ne 8, 3) := by decide +kernel
theorem dX8_safest_203 : decode cX8_safest 203 = .ok (.iload 9, 2) := by decide +kernel
theorem dX8_safest_205 : decode cX8_safest 205 = .ok (.goto 39, 3) := by decide +kernel
theorem dX8_safest_208 : decode cX8_safest 208 = .ok (.iload 4, 2) := by decide +kernel
theorem dX8_safest_210 : decode cX8_safest 210 = .ok (.bipush (-9), 2) := by decide +kernel
theorem dX8_safest_212 : decode cX8_safest 212 = .ok (.if_icmp .ne 7, 3) := by decide +kernel
theorem dX8_safest_215 : decode cX8_safest 215 = .ok (.iconst 0, 1) := by decide +kernel
theorem dX8_safest_216 : decode cX8_safest 216 = .ok (.goto 4, 3) := by decide +kernel
theorem dX8_safest_219 : decode cX8_safest 219 = .ok (.iconst 1, 1) := by decide +kernel
theorem dX8_safest_220 : decode cX8_safest 220 = .ok (.iload 5, 2) := by decide +kernel
theorem dX8_safest_222 : decode cX8_safest 222 = .ok (.bipush (-9), 2) := by decide +kernel
theorem dX8_safest_224 : decode cX8_safest 224 = .ok (.if_icmp .ne 7, 3) := by decide +kernel
theorem dX8_safest_227 : decode cX8_safest 227 = .ok (.iconst 0, 1) := by decide +kernel
theorem dX8_safest_228 : decode cX8_safest 228 = .ok (.goto 4, 3) := by decide +kernel
theorem dX8_safest_231 : decode cX8_safest 231 = .ok (.iconst 2, 1) := by decide +kernel
theorem dX8_safest_232 : decode cX8_safest 232 = .ok (.iadd, 1) := by decide +kernel
theorem dX8_safest_233 : decode cX8_safest 233 = .ok (.iload 7, 2) := by decide +kernel
theorem dX8_safest_235 : decode cX8_safest 235 = .ok (.ifCond .eq 7, 3) := by decide +kernel
theorem dX8_safest_238 : decode cX8_safest 238 = .ok (.iconst 4, 1) := by decide +kernel
theorem dX8_safest_239 : decode cX8_safest 239 = .ok (.goto 4, 3) := by decide +kernel
theorem dX8_safest_242 : decode cX8_safest 242 = .ok (.iconst 0, 1) := by decide +kernel
theorem dX8_safest_243 : decode cX8_safest 243 = .ok (.iadd, 1) := by decide +kernel
theorem dX8_safest_244 : decode cX8_safest 244 = .ok (.ireturn, 1) := by decide +kernel
theorem dX8_shells_0 : decode cX8_shells 0 = .ok (.aload_n 0, 1) := by decide +kernel
theorem dX8_shells_1 : decode cX8_shells 1 = .ok (.iconst 0, 1) := by decide +kernel
theorem dX8_shells_2 : decode cX8_shells 2 = .ok (.putfield 67, 3) := by decide +kernel
theorem dX8_shells_5 : decode cX8_shells 5 = .ok (.aload_n 0, 1) := by decide +kernel
theorem dX8_shells_6 : decode cX8_shells 6 = .ok (.iload_n 1, 1) := by decide +kernel
theorem dX8_shells_7 : decode cX8_shells 7 = .ok (.invokevirtual 208, 3) := by decide +kernel
theorem dX8_shells_10 : decode cX8_shells 10 = .ok (.istore_n 2, 1) := by decide +kernel
theorem dX8_shells_11 : decode cX8_shells 11 = .ok (.iload_n 2, 1) := by decide +kernel
theorem dX8_shells_12 : decode cX8_shells 12 = .ok (.ifCond .eq 5, 3) := by decide +kernel
theorem dX8_shells_15 : decode cX8_shells 15 = .ok (.iload_n 2, 1) := by decide +kernel
theorem dX8_shells_16 : decode cX8_shells 16 = .ok (.ireturn, 1) := by decide +kernel
theorem dX8_shells_17 : decode cX8_shells 17 = .ok (.aload_n 0, 1) := by decide +kernel
theorem dX8_shells_18 : decode cX8_shells 18 = .ok (.getfield 47, 3) := by decide +kernel
theorem dX8_shells_21 : decode cX8_shells 21 = .ok (.iconst 3, 1) := by decide +kernel
theorem dX8_shells_22 : decode cX8_shells 22 = .ok (.iload_n 1, 1) := by decide +kernel
theorem dX8_shells_23 : decode cX8_shells 23 = .ok (.imul, 1) := by decide +kernel
theorem dX8_shells_24 : decode cX8_shells 24 = .ok (.iaload, 1) := by decide +kernel
theorem dX8_shells_25 : decode cX8_shells 25 = .ok (.istore_n 3, 1) := by decide +kernel
theorem dX8_shells_26 : decode cX8_shells 26 = .ok (.bipush (-9), 2) := by decide +kernel
theorem dX8_shells_28 : decode cX8_shells 28 = .ok (.istore 4, 2) := by decide +kernel
theorem dX8_shells_30 : decode cX8_shells 30 = .ok (.iconst 1, 1) := by decide +kernel
theorem dX8_shells_31 : decode cX8_shells 31 = .ok (.istore 5, 2) := by decide +kernel
theorem dX8_shells_33 : decode cX8_shells 33 = .ok (.iconst 0, 1) := by decide +kernel
theorem dX8_shells_34 : decode cX8_shells 34 = .ok (.istore 6, 2) := by decide +kernel
theorem dX8_shells_36 : decode cX8_shells 36 = .ok (.iload 5, 2) := by decide +kernel
theorem dX8_shells_38 : decode cX8_shells 38 = .ok (.ifCond .eq 141, 3) := by decide +kernel
theorem dX8_shells_41 : decode cX8_shells 41 = .ok (.aload_n 0, 1) := by decide +kernel
theorem dX8_shells_42 : decode cX8_shells 42 = .ok (.getfield 47, 3) := by decide +kernel
theorem dX8_shells_45 : decode cX8_shells 45 = .ok (.bipush 15, 2) := by decide +kernel
theorem dX8_shells_47 : decode cX8_shells 47 = .ok (.iaload, 1) := by decide +kernel
theorem dX8_shells_48 : decode cX8_shells 48 = .ok (.iload 6, 2) := by decide +kernel
theorem dX8_shells_50 : decode cX8_shells 50 = .ok (.iadd, 1) := by decide +kernel
theorem dX8_shells_51 : decode cX8_shells 51 = .ok (.bipush 40, 2) := by decide +kernel
theorem dX8_shells_53 : decode cX8_shells 53 = .ok (.if_icmp .gt 126, 3) := by decide +kernel
theorem dX8_shells_56 : decode cX8_shells 56 = .ok (.aload_n 0, 1) := by decide +kernel
theorem dX8_shells_57 : decode cX8_shells 57 = .ok (.getfield 47, 3) := by decide +kernel
theorem dX8_shells_60 : decode cX8_shells 60 = .ok (.bipush 15, 2) := by decide +kernel
theorem dX8_shells_62 : decode cX8_shells 62 = .ok (.iaload, 1) := by decide +kernel
theorem dX8_shells_63 : decode cX8_shells 63 = .ok (.iload 6, 2) := by decide +kernel
theorem dX8_shells_65 : decode cX8_shells 65 = .ok (.iadd, 1) := by decide +kernel
theorem dX8_shells_66 : decode cX8_shells 66 = .ok (.istore 7, 2) := by decide +kernel
theorem dX8_shells_68 : decode cX8_shells 68 = .ok (.iload 6, 2) := by decide +kernel
theorem dX8_shells_70 : decode cX8_shells 70 = .ok (.ifCond .eq 34, 3) := by decide +kernel
theorem dX8_shells_73 : decode cX8_shells 73 = .ok (.aload_n 0, 1) := by decide +kernel
theorem dX8_shells_74 : decode cX8_shells 74 = .ok (.iload_n 3, 1) := by decide +kernel
theorem dX8_shells_75 : decode cX8_shells 75 = .ok (.iload 7, 2) := by decide +kernel
theorem dX8_shells_77 : decode cX8_shells 77 = .ok (.aload_n 0, 1) := by decide +kernel
theorem dX8_shells_78 : decode cX8_shells 78 = .ok (.getfield 139, 3) := by decide +kernel
theorem dX8_shells_81 : decode cX8_shells 81 = .ok (.invokevirtual 167, 3) := by decide +kernel
theorem dX8_shells_84 : decode cX8_shells 84 = .ok (.aload_n 0, 1) := by decide +kernel
theorem dX8_shells_85 : decode cX8_shells 85 = .ok (.getfield 23, 3) := by decide +kernel
theorem dX8_shells_88 : decode cX8_shells 88 = .ok (.iload_n 1, 1) := by decide +kernel
theorem dX8_shells_89 : decode cX8_shells 89 = .ok (.iaload, 1) := by decide +kernel
theorem dX8_shells_90 : decode cX8_shells 90 = .ok (.if_icmp .gt 18, 3) := by decide +kernel
theorem dX8_shells_93 : decode cX8_shells 93 = .ok (.aload_n 0, 1) := by decide +kernel
theorem dX8_shells_94 : decode cX8_shells 94 = .ok (.getfield 148, 3) := by decide +kernel
theorem dX8_shells_97 : decode cX8_shells 97 = .ok (.iload_n 3, 1) := by decide +kernel
theorem dX8_shells_98 : decode cX8_shells 98 = .ok (.invokestatic 92, 3) := by decide +kernel
theorem dX8_shells_101 : decode cX8_shells 101 = .ok (.ifCond .ne 7, 3) := by decide +kernel
theorem dX8_shells_104 : decode cX8_shells 104 = .ok (.iconst 1, 1) := by decide +kernel
theorem dX8_shells_105 : decode cX8_shells 105 = .ok (.goto 4, 3) := by decide +kernel
theorem dX8_shells_108 : decode cX8_shells 108 = .ok (.iconst 0, 1) := by decide +kernel
theorem dX8_shells_109 : decode cX8_shells 109 = .ok (.istore 5, 2) := by decide +kernel
theorem dX8_shells_111 : decode cX8_shells 111 = .ok (.aload_n 0, 1) := by decide +kernel
theorem dX8_shells_112 : decode cX8_shells 112 = .ok (.iload_n 1, 1) := by decide +kernel
theorem dX8_shells_113 : decode cX8_shells 113 = .ok (.iload_n 3, 1) := by decide +kernel
theorem dX8_shells_114 : decode cX8_shells 114 = .ok (.iload 7, 2) := by decide +kernel
theorem dX8_shells_116 : decode cX8_shells 116 = .ok (.iconst 1, 1) := by decide +kernel
theorem dX8_shells_117 : decode cX8_shells 117 = .ok (.aload_n 0, 1) := by decide +kernel
theorem dX8_shells_118 : decode cX8_shells 118 = .ok (.getfield 139, 3) := by decide +kernel
theorem dX8_shells_121 : decode cX8_shells 121 = .ok (.invokevirtual 205, 3) := by decide +kernel
theorem dX8_shells_124 : decode cX8_shells 124 = .ok (.bipush (-9), 2) := by decide +kernel
theorem dX8_shells_126 : decode cX8_shells 126 = .ok (.if_icmp .ne 21, 3) := by decide +kernel
theorem dX8_shells_129 : decode cX8_shells 129 = .ok (.aload_n 0, 1) := by decide +kernel
theorem dX8_shells_130 : decode cX8_shells 130 = .ok (.iload_n 1, 1) := by decide +kernel
theorem dX8_shells_131 : decode cX8_shells 131 = .ok (.iload_n 3, 1) := by decide +kernel
theorem dX8_shells_132 : decode cX8_shells 132 = .ok (.iload 7, 2) := by decide +kernel
theorem dX8_shells_134 : decode cX8_shells 134 = .ok (.iconst 2, 1) := by decide +kernel
theorem dX8_shells_135 : decode cX8_shells 135 = .ok (.aload_n 0, 1) := by decide +kernel
theorem dX8_shells_136 : decode cX8_shells 136 = .ok (.getfield 139, 3) := by decide +kernel
theorem dX8_shells_139 : decode cX8_shells 139 = .ok (.invokevirtual 205, 3) := by decide +kernel
theorem dX8_shells_142 : decode cX8_shells 142 = .ok (.bipush (-9), 2) := by decide +kernel
theorem dX8_shells_144 : decode cX8_shells 144 = .ok (.if_icmp .eq 7, 3) := by decide +kernel
theorem dX8_shells_147 : decode cX8_shells 147 = .ok (.iconst 1, 1) := by decide +kernel
theorem dX8_shells_148 : decode cX8_shells 148 = .ok (.goto 4, 3) := by decide +kernel
theorem dX8_shells_151 : decode cX8_shells 151 = .ok (.iconst 0, 1) := by decide +kernel
theorem dX8_shells_152 : decode cX8_shells 152 = .ok (.istore 8, 2) := by decide +kernel
theorem dX8_shells_154 : decode cX8_shells 154 = .ok (.iload 5, 2) := by decide +kernel
theorem dX8_shells_156 : decode cX8_shells 156 = .ok (.ifCond .eq 13, 3) := by decide +kernel
theorem dX8_shells_159 : decode cX8_shells 159 = .ok (.iload 8, 2) := by decide +kernel
theorem dX8_shells_161 : decode cX8_shells 161 = .ok (.ifCond .eq 8, 3) := by decide +kernel
theorem dX8_shells_164 : decode cX8_shells 164 = .ok (.iload 6, 2) := by decide +kernel
theorem dX8_shells_166 : decode cX8_shells 166 = .ok (.goto 5, 3) := by decide +kernel
theorem dX8_shells_169 : decode cX8_shells 169 = .ok (.iload 4, 2) := by decide +kernel
theorem dX8_shells_171 : decode cX8_shells 171 = .ok (.istore 4, 2) := by decide +kernel
theorem dX8_shells_173 : decode cX8_shells 173 = .ok (.iinc 6 1, 3) := by decide +kernel
theorem dX8_shells_176 : decode cX8_shells 176 = .ok (.goto (-140), 3) := by decide +kernel
theorem dX8_shells_179 : decode cX8_shells 179 = .ok (.iload 4, 2) := by decide +kernel
theorem dX8_shells_181 : decode cX8_shells 181 = .ok (.ireturn, 1) := by decide +kernel
theorem dX8_cut_0 : decode cX8_cut 0 = .ok (.aload_n 0, 1) := by decide +kernel
theorem dX8_cut_1 : decode cX8_cut 1 = .ok (.iconst 0, 1) := by decide +kernel
theorem dX8_cut_2 : decode cX8_cut 2 = .ok (.putfield 67, 3) := by decide +kernel
theorem dX8_cut_5 : decode cX8_cut 5 = .ok (.aload_n 0, 1) := by decide +kernel
theorem dX8_cut_6 : decode cX8_cut 6 = .ok (.iload_n 1, 1) := by decide +kernel
theorem dX8_cut_7 : decode cX8_cut 7 = .ok (.invokevirtual 174, 3) := by decide +kernel
theorem dX8_cut_10 : decode cX8_cut 10 = .ok (.ifCond .eq 5, 3) := by decide +kernel
theorem dX8_cut_13 : decode cX8_cut 13 = .ok (.iconst (-1), 1) := by decide +kernel
theorem dX8_cut_14 : decode cX8_cut 14 = .ok (.ireturn, 1) := by decide +kernel
theorem dX8_cut_15 : decode cX8_cut 15 = .ok (.aload_n 0, 1) := by decide +kernel
theorem dX8_cut_16 : decode cX8_cut 16 = .ok (.getfield 47, 3) := by decide +kernel
theorem dX8_cut_19 : decode cX8_cut 19 = .ok (.bipush 15, 2) := by decide +kernel
theorem dX8_cut_21 : decode cX8_cut 21 = .ok (.iaload, 1) := by decide +kernel
theorem dX8_cut_22 : decode cX8_cut 22 = .ok (.istore_n 2, 1) := by decide +kernel
theorem dX8_cut_23 : decode cX8_cut 23 = .ok (.iload_n 2, 1) := by decide +kernel
theorem dX8_cut_24 : decode cX8_cut 24 = .ok (.bipush 40, 2) := by decide +kernel
theorem dX8_cut_26 : decode cX8_cut 26 = .ok (.if_icmp .gt 50, 3) := by decide +kernel
theorem dX8_cut_29 : decode cX8_cut 29 = .ok (.iconst 0, 1) := by decide +kernel
theorem dX8_cut_30 : decode cX8_cut 30 = .ok (.istore_n 3, 1) := by decide +kernel
theorem dX8_cut_31 : decode cX8_cut 31 = .ok (.iload_n 3, 1) := by decide +kernel
theorem dX8_cut_32 : decode cX8_cut 32 = .ok (.aload_n 0, 1) := by decide +kernel
theorem dX8_cut_33 : decode cX8_cut 33 = .ok (.getfield 47, 3) := by decide +kernel
theorem dX8_cut_36 : decode cX8_cut 36 = .ok (.iconst 3, 1) := by decide +kernel
theorem dX8_cut_37 : decode cX8_cut 37 = .ok (.iload_n 1, 1) := by decide +kernel
theorem dX8_cut_38 : decode cX8_cut 38 = .ok (.imul, 1) := by decide +kernel
theorem dX8_cut_39 : decode cX8_cut 39 = .ok (.iaload, 1) := by decide +kernel
theorem dX8_cut_40 : decode cX8_cut 40 = .ok (.if_icmp .gt 30, 3) := by decide +kernel
theorem dX8_cut_43 : decode cX8_cut 43 = .ok (.aload_n 0, 1) := by decide +kernel
theorem dX8_cut_44 : decode cX8_cut 44 = .ok (.iload_n 3, 1) := by decide +kernel
theorem dX8_cut_45 : decode cX8_cut 45 = .ok (.iload_n 2, 1) := by decide +kernel
theorem dX8_cut_46 : decode cX8_cut 46 = .ok (.aload_n 0, 1) := by decide +kernel
theorem dX8_cut_47 : decode cX8_cut 47 = .ok (.getfield 139, 3) := by decide +kernel
theorem dX8_cut_50 : decode cX8_cut 50 = .ok (.invokevirtual 167, 3) := by decide +kernel
theorem dX8_cut_53 : decode cX8_cut 53 = .ok (.aload_n 0, 1) := by decide +kernel
theorem dX8_cut_54 : decode cX8_cut 54 = .ok (.getfield 23, 3) := by decide +kernel
theorem dX8_cut_57 : decode cX8_cut 57 = .ok (.iload_n 1, 1) := by decide +kernel
theorem dX8_cut_58 : decode cX8_cut 58 = .ok (.iaload, 1) := by decide +kernel
theorem dX8_cut_59 : decode cX8_cut 59 = .ok (.if_icmp .le 5, 3) := by decide +kernel
theorem dX8_cut_62 : decode cX8_cut 62 = .ok (.iload_n 2, 1) := by decide +kernel
theorem dX8_cut_63 : decode cX8_cut 63 = .ok (.ireturn, 1) := by decide +kernel
theorem dX8_cut_64 : decode cX8_cut 64 = .ok (.iinc 3 1, 3) := by decide +kernel
theorem dX8_cut_67 : decode cX8_cut 67 = .ok (.goto (-36), 3) := by decide +kernel
theorem dX8_cut_70 : decode cX8_cut 70 = .ok (.iinc 2 1, 3) := by decide +kernel
theorem dX8_cut_73 : decode cX8_cut 73 = .ok (.goto (-50), 3) := by decide +kernel
theorem dX8_cut_76 : decode cX8_cut 76 = .ok (.bipush (-9), 2) := by decide +kernel
theorem dX8_cut_78 : decode cX8_cut 78 = .ok (.ireturn, 1) := by decide +kernel
theorem dX8_ten_0 : decode cX8_ten 0 = .ok (.iconst 1, 1) := by decide +kernel
theorem dX8_ten_1 : decode cX8_ten 1 = .ok (.istore_n 1, 1) := by decide +kernel
theorem dX8_ten_2 : decode cX8_ten 2 = .ok (.iconst 0, 1) := by decide +kernel
theorem dX8_ten_3 : decode cX8_ten 3 = .ok (.istore_n 2, 1) := by decide +kernel
theorem dX8_ten_4 : decode cX8_ten 4 = .ok (.iload_n 2, 1) := by decide +kernel
theorem dX8_ten_5 : decode cX8_ten 5 = .ok (.iload_n 0, 1) := by decide +kernel
theorem dX8_ten_6 : decode cX8_ten 6 = .ok (.if_icmp .ge 14, 3) := by decide +kernel
theorem dX8_ten_9 : decode cX8_ten 9 = .ok (.iload_n 1, 1) := by decide +kernel
theorem dX8_ten_10 : decode cX8_ten 10 = .ok (.bipush 10, 2) := by decide +kernel
theorem dX8_ten_12 : decode cX8_ten 12 = .ok (.imul, 1) := by decide +kernel
theorem dX8_ten_13 : decode cX8_ten 13 = .ok (.istore_n 1, 1) := by decide +kernel
theorem dX8_ten_14 : decode cX8_ten 14 = .ok (.iinc 2 1, 3) := by decide +kernel
theorem dX8_ten_17 : decode cX8_ten 17 = .ok (.goto (-13), 3) := by decide +kernel
theorem dX8_ten_20 : decode cX8_ten 20 = .ok (.iload_n 1, 1) := by decide +kernel
theorem dX8_ten_21 : decode cX8_ten 21 = .ok (.ireturn, 1) := by decide +kernel
theorem dX8_judged_0 : decode cX8_judged 0 = .ok (.aload_n 0, 1) := by decide +kernel
theorem dX8_judged_1 : decode cX8_judged 1 = .ok (.iconst 0, 1) := by decide +kernel
theorem dX8_judged_2 : decode cX8_judged 2 = .ok (.putfield 67, 3) := by decide +kernel
theorem dX8_judged_5 : decode cX8_judged 5 = .ok (.aload_n 0, 1) := by decide +kernel
theorem dX8_judged_6 : decode cX8_judged 6 = .ok (.iload_n 1, 1) := by decide +kernel
theorem dX8_judged_7 : decode cX8_judged 7 = .ok (.invokevirtual 174, 3) := by decide +kernel
theorem dX8_judged_10 : decode cX8_judged 10 = .ok (.ifCond .eq 5, 3) := by decide +kernel
theorem dX8_judged_13 : decode cX8_judged 13 = .ok (.iconst (-1), 1) := by decide +kernel
theorem dX8_judged_14 : decode cX8_judged 14 = .ok (.ireturn, 1) := by decide +kernel
theorem dX8_judged_15 : decode cX8_judged 15 = .ok (.iload_n 2, 1) := by decide +kernel
theorem dX8_judged_16 : decode cX8_judged 16 = .ok (.i2l, 1) := by decide +kernel
theorem dX8_judged_17 : decode cX8_judged 17 = .ok (.lconst 1, 1) := by decide +kernel
theorem dX8_judged_18 : decode cX8_judged 18 = .ok (.ldc2_w 90, 3) := by decide +kernel
theorem dX8_judged_21 : decode cX8_judged 21 = .ok (.invokestatic 73, 3) := by decide +kernel
theorem dX8_judged_24 : decode cX8_judged 24 = .ok (.ifCond .eq 19, 3) := by decide +kernel
theorem dX8_judged_27 : decode cX8_judged 27 = .ok (.iload_n 3, 1) := by decide +kernel
theorem dX8_judged_28 : decode cX8_judged 28 = .ok (.i2l, 1) := by decide +kernel
theorem dX8_judged_29 : decode cX8_judged 29 = .ok (.lconst 0, 1) := by decide +kernel
theorem dX8_judged_30 : decode cX8_judged 30 = .ok (.iload_n 2, 1) := by decide +kernel
theorem dX8_judged_31 : decode cX8_judged 31 = .ok (.invokestatic 211, 3) := by decide +kernel
theorem dX8_judged_34 : decode cX8_judged 34 = .ok (.iconst 1, 1) := by decide +kernel
theorem dX8_judged_35 : decode cX8_judged 35 = .ok (.isub, 1) := by decide +kernel
theorem dX8_judged_36 : decode cX8_judged 36 = .ok (.i2l, 1) := by decide +kernel
theorem dX8_judged_37 : decode cX8_judged 37 = .ok (.invokestatic 73, 3) := by decide +kernel
theorem dX8_judged_40 : decode cX8_judged 40 = .ok (.ifCond .ne 6, 3) := by decide +kernel
theorem dX8_judged_43 : decode cX8_judged 43 = .ok (.bipush (-2), 2) := by decide +kernel
theorem dX8_judged_45 : decode cX8_judged 45 = .ok (.ireturn, 1) := by decide +kernel
theorem dX8_judged_46 : decode cX8_judged 46 = .ok (.aload_n 0, 1) := by decide +kernel
theorem dX8_judged_47 : decode cX8_judged 47 = .ok (.aload_n 0, 1) := by decide +kernel
theorem dX8_judged_48 : decode cX8_judged 48 = .ok (.getfield 139, 3) := by decide +kernel
theorem dX8_judged_51 : decode cX8_judged 51 = .ok (.putfield 182, 3) := by decide +kernel
theorem dX8_judged_54 : decode cX8_judged 54 = .ok (.aload_n 0, 1) := by decide +kernel
theorem dX8_judged_55 : decode cX8_judged 55 = .ok (.aload_n 0, 1) := by decide +kernel
theorem dX8_judged_56 : decode cX8_judged 56 = .ok (.getfield 47, 3) := by decide +kernel
theorem dX8_judged_59 : decode cX8_judged 59 = .ok (.iconst 3, 1) := by decide +kernel
theorem dX8_judged_60 : decode cX8_judged 60 = .ok (.iload_n 1, 1) := by decide +kernel
theorem dX8_judged_61 : decode cX8_judged 61 = .ok (.imul, 1) := by decide +kernel
theorem dX8_judged_62 : decode cX8_judged 62 = .ok (.iaload, 1) := by decide +kernel
theorem dX8_judged_63 : decode cX8_judged 63 = .ok (.putfield 179, 3) := by decide +kernel
theorem dX8_judged_66 : decode cX8_judged 66 = .ok (.aload_n 0, 1) := by decide +kernel
theorem dX8_judged_67 : decode cX8_judged 67 = .ok (.aload_n 0, 1) := by decide +kernel
theorem dX8_judged_68 : decode cX8_judged 68 = .ok (.getfield 47, 3) := by decide +kernel
theorem dX8_judged_71 : decode cX8_judged 71 = .ok (.iconst 3, 1) := by decide +kernel
theorem dX8_judged_72 : decode cX8_judged 72 = .ok (.iload_n 1, 1) := by decide +kernel
theorem dX8_judged_73 : decode cX8_judged 73 = .ok (.imul, 1) := by decide +kernel
theorem dX8_judged_74 : decode cX8_judged 74 = .ok (.iconst 2, 1) := by decide +kernel
theorem dX8_judged_75 : decode cX8_judged 75 = .ok (.iadd, 1) := by decide +kernel
theorem dX8_judged_76 : decode cX8_judged 76 = .ok (.iaload, 1) := by decide +kernel
theorem dX8_judged_77 : decode cX8_judged 77 = .ok (.putfield 193, 3) := by decide +kernel
theorem dX8_judged_80 : decode cX8_judged 80 = .ok (.iconst 0, 1) := by decide +kernel
theorem dX8_judged_81 : decode cX8_judged 81 = .ok (.istore 4, 2) := by decide +kernel
theorem dX8_judged_83 : decode cX8_judged 83 = .ok (.iload 4, 2) := by decide +kernel
theorem dX8_judged_85 : decode cX8_judged 85 = .ok (.iload_n 2, 1) := by decide +kernel
theorem dX8_judged_86 : decode cX8_judged 86 = .ok (.if_icmp .ge 92, 3) := by decide +kernel
theorem dX8_judged_89 : decode cX8_judged 89 = .ok (.iload_n 3, 1) := by decide +kernel
theorem dX8_judged_90 : decode cX8_judged 90 = .ok (.iload_n 2, 1) := by decide +kernel
theorem dX8_judged_91 : decode cX8_judged 91 = .ok (.iconst 1, 1) := by decide +kernel
theorem dX8_judged_92 : decode cX8_judged 92 = .ok (.isub, 1) := by decide +kernel
theorem dX8_judged_93 : decode cX8_judged 93 = .ok (.iload 4, 2) := by decide +kernel
theorem dX8_judged_95 : decode cX8_judged 95 = .ok (.isub, 1) := by decide +kernel
theorem dX8_judged_96 : decode cX8_judged 96 = .ok (.invokestatic 211, 3) := by decide +kernel
theorem dX8_judged_99 : decode cX8_judged 99 = .ok (.idiv, 1) := by decide +kernel
theorem dX8_judged_100 : decode cX8_judged 100 = .ok (.bipush 10, 2) := by decide +kernel
theorem dX8_judged_102 : decode cX8_judged 102 = .ok (.irem, 1) := by decide +kernel
theorem dX8_judged_103 : decode cX8_judged 103 = .ok (.istore 5, 2) := by decide +kernel
theorem dX8_judged_105 : decode cX8_judged 105 = .ok (.aload_n 0, 1) := by decide +kernel
theorem dX8_judged_106 : decode cX8_judged 106 = .ok (.getfield 193, 3) := by decide +kernel
theorem dX8_judged_109 : decode cX8_judged 109 = .ok (.ifCond .ne 24, 3) := by decide +kernel
theorem dX8_judged_112 : decode cX8_judged 112 = .ok (.aload_n 0, 1) := by decide +kernel
theorem dX8_judged_113 : decode cX8_judged 113 = .ok (.getfield 47, 3) := by decide +kernel
theorem dX8_judged_116 : decode cX8_judged 116 = .ok (.bipush 15, 2) := by decide +kernel
theorem dX8_judged_118 : decode cX8_judged 118 = .ok (.iaload, 1) := by decide +kernel
theorem dX8_judged_119 : decode cX8_judged 119 = .ok (.iload 4, 2) := by decide +kernel
theorem dX8_judged_121 : decode cX8_judged 121 = .ok (.iadd, 1) := by decide +kernel
theorem dX8_judged_122 : decode cX8_judged 122 = .ok (.bipush 40, 2) := by decide +kernel
theorem dX8_judged_124 : decode cX8_judged 124 = .ok (.if_icmp .ge 9, 3) := by decide +kernel
theorem dX8_judged_127 : decode cX8_judged 127 = .ok (.iload 5, 2) := by decide +kernel
theorem dX8_judged_129 : decode cX8_judged 129 = .ok (.iconst 2, 1) := by decide +kernel
theorem dX8_judged_130 : decode cX8_judged 130 = .ok (.if_icmp .le 6, 3) := by decide +kernel
theorem dX8_judged_133 : decode cX8_judged 133 = .ok (.iload 4, 2) := by decide +kernel
theorem dX8_judged_135 : decode cX8_judged 135 = .ok (.ireturn, 1) := by decide +kernel
theorem dX8_judged_136 : decode cX8_judged 136 = .ok (.aload_n 0, 1) := by decide +kernel
theorem dX8_judged_137 : decode cX8_judged 137 = .ok (.iload_n 1, 1) := by decide +kernel
theorem dX8_judged_138 : decode cX8_judged 138 = .ok (.iload 5, 2) := by decide +kernel
theorem dX8_judged_140 : decode cX8_judged 140 = .ok (.aload_n 0, 1) := by decide +kernel
theorem dX8_judged_141 : decode cX8_judged 141 = .ok (.getfield 47, 3) := by decide +kernel
theorem dX8_judged_144 : decode cX8_judged 144 = .ok (.bipush 15, 2) := by decide +kernel
theorem dX8_judged_146 : decode cX8_judged 146 = .ok (.iaload, 1) := by decide +kernel
theorem dX8_judged_147 : decode cX8_judged 147 = .ok (.iload 4, 2) := by decide +kernel
theorem dX8_judged_149 : decode cX8_judged 149 = .ok (.iadd, 1) := by decide +kernel
theorem dX8_judged_150 : decode cX8_judged 150 = .ok (.invokevirtual 201, 3) := by decide +kernel
theorem dX8_judged_153 : decode cX8_judged 153 = .ok (.aload_n 0, 1) := by decide +kernel
theorem dX8_judged_154 : decode cX8_judged 154 = .ok (.getfield 193, 3) := by decide +kernel
theorem dX8_judged_157 : decode cX8_judged 157 = .ok (.iconst 2, 1) := by decide +kernel
theorem dX8_judged_158 : decode cX8_judged 158 = .ok (.if_icmp .eq 11, 3) := by decide +kernel
theorem dX8_judged_161 : decode cX8_judged 161 = .ok (.aload_n 0, 1) := by decide +kernel
theorem dX8_judged_162 : decode cX8_judged 162 = .ok (.getfield 193, 3) := by decide +kernel
theorem dX8_judged_165 : decode cX8_judged 165 = .ok (.iconst 3, 1) := by decide +kernel
theorem dX8_judged_166 : decode cX8_judged 166 = .ok (.if_icmp .ne 6, 3) := by decide +kernel
theorem dX8_judged_169 : decode cX8_judged 169 = .ok (.iload 4, 2) := by decide +kernel
theorem dX8_judged_171 : decode cX8_judged 171 = .ok (.ireturn, 1) := by decide +kernel
theorem dX8_judged_172 : decode cX8_judged 172 = .ok (.iinc 4 1, 3) := by decide +kernel
theorem dX8_judged_175 : decode cX8_judged 175 = .ok (.goto (-92), 3) := by decide +kernel
theorem dX8_judged_178 : decode cX8_judged 178 = .ok (.bipush (-9), 2) := by decide +kernel
theorem dX8_judged_180 : decode cX8_judged 180 = .ok (.ireturn, 1) := by decide +kernel
theorem dX8_beginOf_0 : decode cX8_beginOf 0 = .ok (.bipush (-9), 2) := by decide +kernel
theorem dX8_beginOf_2 : decode cX8_beginOf 2 = .ok (.istore_n 3, 1) := by decide +kernel
theorem dX8_beginOf_3 : decode cX8_beginOf 3 = .ok (.iconst 0, 1) := by decide +kernel
theorem dX8_beginOf_4 : decode cX8_beginOf 4 = .ok (.istore 4, 2) := by decide +kernel
theorem dX8_beginOf_6 : decode cX8_beginOf 6 = .ok (.iload 4, 2) := by decide +kernel
theorem dX8_beginOf_8 : decode cX8_beginOf 8 = .ok (.bipush 40, 2) := by decide +kernel
theorem dX8_beginOf_10 : decode cX8_beginOf 10 = .ok (.if_icmp .gt 33, 3) := by decide +kernel
theorem dX8_beginOf_13 : decode cX8_beginOf 13 = .ok (.aload_n 0, 1) := by decide +kernel
theorem dX8_beginOf_14 : decode cX8_beginOf 14 = .ok (.iload_n 1, 1) := by decide +kernel
theorem dX8_beginOf_15 : decode cX8_beginOf 15 = .ok (.iconst 0, 1) := by decide +kernel
theorem dX8_beginOf_16 : decode cX8_beginOf 16 = .ok (.iload 4, 2) := by decide +kernel
theorem dX8_beginOf_18 : decode cX8_beginOf 18 = .ok (.iconst 1, 1) := by decide +kernel
theorem dX8_beginOf_19 : decode cX8_beginOf 19 = .ok (.aload_n 0, 1) := by decide +kernel
theorem dX8_beginOf_20 : decode cX8_beginOf 20 = .ok (.getfield 139, 3) := by decide +kernel
theorem dX8_beginOf_23 : decode cX8_beginOf 23 = .ok (.invokevirtual 205, 3) := by decide +kernel
theorem dX8_beginOf_26 : decode cX8_beginOf 26 = .ok (.iload_n 2, 1) := by decide +kernel
theorem dX8_beginOf_27 : decode cX8_beginOf 27 = .ok (.if_icmp .ne 8, 3) := by decide +kernel
theorem dX8_beginOf_30 : decode cX8_beginOf 30 = .ok (.iload 4, 2) := by decide +kernel
theorem dX8_beginOf_32 : decode cX8_beginOf 32 = .ok (.goto 4, 3) := by decide +kernel
theorem dX8_beginOf_35 : decode cX8_beginOf 35 = .ok (.iload_n 3, 1) := by decide +kernel
theorem dX8_beginOf_36 : decode cX8_beginOf 36 = .ok (.istore_n 3, 1) := by decide +kernel
theorem dX8_beginOf_37 : decode cX8_beginOf 37 = .ok (.iinc 4 1, 3) := by decide +kernel
theorem dX8_beginOf_40 : decode cX8_beginOf 40 = .ok (.goto (-34), 3) := by decide +kernel
theorem dX8_beginOf_43 : decode cX8_beginOf 43 = .ok (.iload_n 3, 1) := by decide +kernel
theorem dX8_beginOf_44 : decode cX8_beginOf 44 = .ok (.ireturn, 1) := by decide +kernel
theorem dX8_findAhead_0 : decode cX8_findAhead 0 = .ok (.iconst 0, 1) := by decide +kernel
theorem dX8_findAhead_1 : decode cX8_findAhead 1 = .ok (.istore_n 1, 1) := by decide +kernel
theorem dX8_findAhead_2 : decode cX8_findAhead 2 = .ok (.iload_n 1, 1) := by decide +kernel
theorem dX8_findAhead_3 : decode cX8_findAhead 3 = .ok (.bipush 40, 2) := by decide +kernel
theorem dX8_findAhead_5 : decode cX8_findAhead 5 = .ok (.if_icmp .gt 54, 3) := by decide +kernel
theorem dX8_findAhead_8 : decode cX8_findAhead 8 = .ok (.iconst 1, 1) := by decide +kernel
theorem dX8_findAhead_9 : decode cX8_findAhead 9 = .ok (.istore_n 2, 1) := by decide +kernel
theorem dX8_findAhead_10 : decode cX8_findAhead 10 = .ok (.iconst 0, 1) := by decide +kernel
theorem dX8_findAhead_11 : decode cX8_findAhead 11 = .ok (.istore_n 3, 1) := by decide +kernel
theorem dX8_findAhead_12 : decode cX8_findAhead 12 = .ok (.iload_n 3, 1) := by decide +kernel
theorem dX8_findAhead_13 : decode cX8_findAhead 13 = .ok (.aload_n 0, 1) := by decide +kernel
theorem dX8_findAhead_14 : decode cX8_findAhead 14 = .ok (.getfield 70, 3) := by decide +kernel
theorem dX8_findAhead_17 : decode cX8_findAhead 17 = .ok (.if_icmp .ge 30, 3) := by decide +kernel
theorem dX8_findAhead_20 : decode cX8_findAhead 20 = .ok (.iload_n 2, 1) := by decide +kernel
theorem dX8_findAhead_21 : decode cX8_findAhead 21 = .ok (.ifCond .eq 26, 3) := by decide +kernel
theorem dX8_findAhead_24 : decode cX8_findAhead 24 = .ok (.aload_n 0, 1) := by decide +kernel
theorem dX8_findAhead_25 : decode cX8_findAhead 25 = .ok (.iload_n 3, 1) := by decide +kernel
theorem dX8_findAhead_26 : decode cX8_findAhead 26 = .ok (.iload_n 1, 1) := by decide +kernel
theorem dX8_findAhead_27 : decode cX8_findAhead 27 = .ok (.invokevirtual 214, 3) := by decide +kernel
theorem dX8_findAhead_30 : decode cX8_findAhead 30 = .ok (.bipush (-9), 2) := by decide +kernel
theorem dX8_findAhead_32 : decode cX8_findAhead 32 = .ok (.if_icmp .eq 7, 3) := by decide +kernel
theorem dX8_findAhead_35 : decode cX8_findAhead 35 = .ok (.iconst 1, 1) := by decide +kernel
theorem dX8_findAhead_36 : decode cX8_findAhead 36 = .ok (.goto 4, 3) := by decide +kernel
theorem dX8_findAhead_39 : decode cX8_findAhead 39 = .ok (.iconst 0, 1) := by decide +kernel
theorem dX8_findAhead_40 : decode cX8_findAhead 40 = .ok (.istore_n 2, 1) := by decide +kernel
theorem dX8_findAhead_41 : decode cX8_findAhead 41 = .ok (.iinc 3 1, 3) := by decide +kernel
theorem dX8_findAhead_44 : decode cX8_findAhead 44 = .ok (.goto (-32), 3) := by decide +kernel
theorem dX8_findAhead_47 : decode cX8_findAhead 47 = .ok (.iload_n 2, 1) := by decide +kernel
theorem dX8_findAhead_48 : decode cX8_findAhead 48 = .ok (.ifCond .eq 5, 3) := by decide +kernel
theorem dX8_findAhead_51 : decode cX8_findAhead 51 = .ok (.iload_n 1, 1) := by decide +kernel
theorem dX8_findAhead_52 : decode cX8_findAhead 52 = .ok (.ireturn, 1) := by decide +kernel
theorem dX8_findAhead_53 : decode cX8_findAhead 53 = .ok (.iinc 1 1, 3) := by decide +kernel
theorem dX8_findAhead_56 : decode cX8_findAhead 56 = .ok (.goto (-54), 3) := by decide +kernel
theorem dX8_findAhead_59 : decode cX8_findAhead 59 = .ok (.bipush (-9), 2) := by decide +kernel
theorem dX8_findAhead_61 : decode cX8_findAhead 61 = .ok (.ireturn, 1) := by decide +kernel
theorem dX8_ahead_0 : decode cX8_ahead 0 = .ok (.aload_n 0, 1) := by decide +kernel
theorem dX8_ahead_1 : decode cX8_ahead 1 = .ok (.iconst 0, 1) := by decide +kernel
theorem dX8_ahead_2 : decode cX8_ahead 2 = .ok (.putfield 67, 3) := by decide +kernel
theorem dX8_ahead_5 : decode cX8_ahead 5 = .ok (.aload_n 0, 1) := by decide +kernel
theorem dX8_ahead_6 : decode cX8_ahead 6 = .ok (.getfield 70, 3) := by decide +kernel
theorem dX8_ahead_9 : decode cX8_ahead 9 = .ok (.ifCond .ne 8, 3) := by decide +kernel
theorem dX8_ahead_12 : decode cX8_ahead 12 = .ok (.bipush (-3), 2) := by decide +kernel
theorem dX8_ahead_14 : decode cX8_ahead 14 = .ok (.goto 7, 3) := by decide +kernel
theorem dX8_ahead_17 : decode cX8_ahead 17 = .ok (.aload_n 0, 1) := by decide +kernel
theorem dX8_ahead_18 : decode cX8_ahead 18 = .ok (.invokevirtual 217, 3) := by decide +kernel
theorem dX8_ahead_21 : decode cX8_ahead 21 = .ok (.ireturn, 1) := by decide +kernel
theorem dX8_aheadOf_0 : decode cX8_aheadOf 0 = .ok (.aload_n 0, 1) := by decide +kernel
theorem dX8_aheadOf_1 : decode cX8_aheadOf 1 = .ok (.iconst 0, 1) := by decide +kernel
theorem dX8_aheadOf_2 : decode cX8_aheadOf 2 = .ok (.putfield 67, 3) := by decide +kernel
theorem dX8_aheadOf_5 : decode cX8_aheadOf 5 = .ok (.aload_n 0, 1) := by decide +kernel
theorem dX8_aheadOf_6 : decode cX8_aheadOf 6 = .ok (.iload_n 1, 1) := by decide +kernel
theorem dX8_aheadOf_7 : decode cX8_aheadOf 7 = .ok (.invokevirtual 174, 3) := by decide +kernel
theorem dX8_aheadOf_10 : decode cX8_aheadOf 10 = .ok (.ifCond .eq 5, 3) := by decide +kernel
theorem dX8_aheadOf_13 : decode cX8_aheadOf 13 = .ok (.iconst (-1), 1) := by decide +kernel
theorem dX8_aheadOf_14 : decode cX8_aheadOf 14 = .ok (.ireturn, 1) := by decide +kernel
theorem dX8_aheadOf_15 : decode cX8_aheadOf 15 = .ok (.aload_n 0, 1) := by decide +kernel
theorem dX8_aheadOf_16 : decode cX8_aheadOf 16 = .ok (.invokevirtual 217, 3) := by decide +kernel
theorem dX8_aheadOf_19 : decode cX8_aheadOf 19 = .ok (.istore_n 2, 1) := by decide +kernel
theorem dX8_aheadOf_20 : decode cX8_aheadOf 20 = .ok (.iload_n 2, 1) := by decide +kernel
theorem dX8_aheadOf_21 : decode cX8_aheadOf 21 = .ok (.bipush (-9), 2) := by decide +kernel
theorem dX8_aheadOf_23 : decode cX8_aheadOf 23 = .ok (.if_icmp .ne 8, 3) := by decide +kernel
theorem dX8_aheadOf_26 : decode cX8_aheadOf 26 = .ok (.bipush (-9), 2) := by decide +kernel
theorem dX8_aheadOf_28 : decode cX8_aheadOf 28 = .ok (.goto 9, 3) := by decide +kernel
theorem dX8_aheadOf_31 : decode cX8_aheadOf 31 = .ok (.aload_n 0, 1) := by decide +kernel
theorem dX8_aheadOf_32 : decode cX8_aheadOf 32 = .ok (.iload_n 1, 1) := by decide +kernel
theorem dX8_aheadOf_33 : decode cX8_aheadOf 33 = .ok (.iload_n 2, 1) := by decide +kernel
theorem dX8_aheadOf_34 : decode cX8_aheadOf 34 = .ok (.invokevirtual 214, 3) := by decide +kernel
theorem dX8_aheadOf_37 : decode cX8_aheadOf 37 = .ok (.ireturn, 1) := by decide +kernel
theorem dX8_saved_0 : decode cX8_saved 0 = .ok (.aload_n 0, 1) := by decide +kernel
theorem dX8_saved_1 : decode cX8_saved 1 = .ok (.iconst 0, 1) := by decide +kernel
theorem dX8_saved_2 : decode cX8_saved 2 = .ok (.putfield 67, 3) := by decide +kernel
theorem dX8_saved_5 : decode cX8_saved 5 = .ok (.iconst 0, 1) := by decide +kernel
theorem dX8_saved_6 : decode cX8_saved 6 = .ok (.istore_n 1, 1) := by decide +kernel
theorem dX8_saved_7 : decode cX8_saved 7 = .ok (.iconst 0, 1) := by decide +kernel
theorem dX8_saved_8 : decode cX8_saved 8 = .ok (.istore_n 2, 1) := by decide +kernel
theorem dX8_saved_9 : decode cX8_saved 9 = .ok (.iload_n 2, 1) := by decide +kernel
theorem dX8_saved_10 : decode cX8_saved 10 = .ok (.aload_n 0, 1) := by decide +kernel
theorem dX8_saved_11 : decode cX8_saved 11 = .ok (.getfield 70, 3) := by decide +kernel
theorem dX8_saved_14 : decode cX8_saved 14 = .ok (.if_icmp .ge 25, 3) := by decide +kernel
theorem dX8_saved_17 : decode cX8_saved 17 = .ok (.iload_n 1, 1) := by decide +kernel
theorem dX8_saved_18 : decode cX8_saved 18 = .ok (.aload_n 0, 1) := by decide +kernel
theorem dX8_saved_19 : decode cX8_saved 19 = .ok (.iload_n 2, 1) := by decide +kernel
theorem dX8_saved_20 : decode cX8_saved 20 = .ok (.invokevirtual 220, 3) := by decide +kernel
theorem dX8_saved_23 : decode cX8_saved 23 = .ok (.ifCond .eq 7, 3) := by decide +kernel
theorem dX8_saved_26 : decode cX8_saved 26 = .ok (.iconst 1, 1) := by decide +kernel
theorem dX8_saved_27 : decode cX8_saved 27 = .ok (.goto 4, 3) := by decide +kernel
theorem dX8_saved_30 : decode cX8_saved 30 = .ok (.iconst 0, 1) := by decide +kernel
theorem dX8_saved_31 : decode cX8_saved 31 = .ok (.iadd, 1) := by decide +kernel
theorem dX8_saved_32 : decode cX8_saved 32 = .ok (.istore_n 1, 1) := by decide +kernel
theorem dX8_saved_33 : decode cX8_saved 33 = .ok (.iinc 2 1, 3) := by decide +kernel
theorem dX8_saved_36 : decode cX8_saved 36 = .ok (.goto (-27), 3) := by decide +kernel
theorem dX8_saved_39 : decode cX8_saved 39 = .ok (.iconst 0, 1) := by decide +kernel
theorem dX8_saved_40 : decode cX8_saved 40 = .ok (.istore_n 2, 1) := by decide +kernel
theorem dX8_saved_41 : decode cX8_saved 41 = .ok (.iload_n 2, 1) := by decide +kernel
theorem dX8_saved_42 : decode cX8_saved 42 = .ok (.aload_n 0, 1) := by decide +kernel
theorem dX8_saved_43 : decode cX8_saved 43 = .ok (.getfield 145, 3) := by decide +kernel
theorem dX8_saved_46 : decode cX8_saved 46 = .ok (.if_icmp .ge 123, 3) := by decide +kernel
theorem dX8_saved_49 : decode cX8_saved 49 = .ok (.aload_n 0, 1) := by decide +kernel
theorem dX8_saved_50 : decode cX8_saved 50 = .ok (.getfield 29, 3) := by decide +kernel
theorem dX8_saved_53 : decode cX8_saved 53 = .ok (.iload_n 2, 1) := by decide +kernel
theorem dX8_saved_54 : decode cX8_saved 54 = .ok (.iaload, 1) := by decide +kernel
theorem dX8_saved_55 : decode cX8_saved 55 = .ok (.aload_n 0, 1) := by decide +kernel
theorem dX8_saved_56 : decode cX8_saved 56 = .ok (.aload_n 0, 1) := by decide +kernel
theorem dX8_saved_57 : decode cX8_saved 57 = .ok (.getfield 26, 3) := by decide +kernel
theorem dX8_saved_60 : decode cX8_saved 60 = .ok (.iload_n 2, 1) := by decide +kernel
theorem dX8_saved_61 : decode cX8_saved 61 = .ok (.iaload, 1) := by decide +kernel
theorem dX8_saved_62 : decode cX8_saved 62 = .ok (.invokevirtual 171, 3) := by decide +kernel
theorem dX8_saved_65 : decode cX8_saved 65 = .ok (.isub, 1) := by decide +kernel
theorem dX8_saved_66 : decode cX8_saved 66 = .ok (.istore_n 3, 1) := by decide +kernel
theorem dX8_saved_67 : decode cX8_saved 67 = .ok (.iconst 0, 1) := by decide +kernel
theorem dX8_saved_68 : decode cX8_saved 68 = .ok (.istore 4, 2) := by decide +kernel
theorem dX8_saved_70 : decode cX8_saved 70 = .ok (.iload 4, 2) := by decide +kernel
theorem dX8_saved_72 : decode cX8_saved 72 = .ok (.aload_n 0, 1) := by decide +kernel
theorem dX8_saved_73 : decode cX8_saved 73 = .ok (.getfield 70, 3) := by decide +kernel
theorem dX8_saved_76 : decode cX8_saved 76 = .ok (.if_icmp .ge 87, 3) := by decide +kernel
theorem dX8_saved_79 : decode cX8_saved 79 = .ok (.aload_n 0, 1) := by decide +kernel
theorem dX8_saved_80 : decode cX8_saved 80 = .ok (.getfield 47, 3) := by decide +kernel
theorem dX8_saved_83 : decode cX8_saved 83 = .ok (.iconst 3, 1) := by decide +kernel
theorem dX8_saved_84 : decode cX8_saved 84 = .ok (.iload 4, 2) := by decide +kernel
theorem dX8_saved_86 : decode cX8_saved 86 = .ok (.imul, 1) := by decide +kernel
theorem dX8_saved_87 : decode cX8_saved 87 = .ok (.iconst 2, 1) := by decide +kernel
theorem dX8_saved_88 : decode cX8_saved 88 = .ok (.iadd, 1) := by decide +kernel
theorem dX8_saved_89 : decode cX8_saved 89 = .ok (.iaload, 1) := by decide +kernel
theorem dX8_saved_90 : decode cX8_saved 90 = .ok (.ifCond .ne 38, 3) := by decide +kernel
theorem dX8_saved_93 : decode cX8_saved 93 = .ok (.aload_n 0, 1) := by decide +kernel
theorem dX8_saved_94 : decode cX8_saved 94 = .ok (.getfield 47, 3) := by decide +kernel
theorem dX8_saved_97 : decode cX8_saved 97 = .ok (.iconst 3, 1) := by decide +kernel
theorem dX8_saved_98 : decode cX8_saved 98 = .ok (.iload 4, 2) := by decide +kernel
theorem dX8_saved_100 : decode cX8_saved 100 = .ok (.imul, 1) := by decide +kernel
theorem dX8_saved_101 : decode cX8_saved 101 = .ok (.iaload, 1) := by decide +kernel
theorem dX8_saved_102 : decode cX8_saved 102 = .ok (.aload_n 0, 1) := by decide +kernel
theorem dX8_saved_103 : decode cX8_saved 103 = .ok (.getfield 26, 3) := by decide +kernel
theorem dX8_saved_106 : decode cX8_saved 106 = .ok (.iload_n 2, 1) := by decide +kernel
theorem dX8_saved_107 : decode cX8_saved 107 = .ok (.iaload, 1) := by decide +kernel
theorem dX8_saved_108 : decode cX8_saved 108 = .ok (.if_icmp .ne 20, 3) := by decide +kernel
theorem dX8_saved_111 : decode cX8_saved 111 = .ok (.aload_n 0, 1) := by decide +kernel
theorem dX8_saved_112 : decode cX8_saved 112 = .ok (.iload 4, 2) := by decide +kernel
theorem dX8_saved_114 : decode cX8_saved 114 = .ok (.invokevirtual 220, 3) := by decide +kernel
theorem dX8_saved_117 : decode cX8_saved 117 = .ok (.ifCond .ne 11, 3) := by decide +kernel
theorem dX8_saved_120 : decode cX8_saved 120 = .ok (.iload_n 3, 1) := by decide +kernel
theorem dX8_saved_121 : decode cX8_saved 121 = .ok (.ifCond .le 7, 3) := by decide +kernel
theorem dX8_saved_124 : decode cX8_saved 124 = .ok (.iconst 1, 1) := by decide +kernel
theorem dX8_saved_125 : decode cX8_saved 125 = .ok (.goto 4, 3) := by decide +kernel
theorem dX8_saved_128 : decode cX8_saved 128 = .ok (.iconst 0, 1) := by decide +kernel
theorem dX8_saved_129 : decode cX8_saved 129 = .ok (.istore 5, 2) := by decide +kernel
theorem dX8_saved_131 : decode cX8_saved 131 = .ok (.iload_n 3, 1) := by decide +kernel
theorem dX8_saved_132 : decode cX8_saved 132 = .ok (.iload 5, 2) := by decide +kernel
theorem dX8_saved_134 : decode cX8_saved 134 = .ok (.ifCond .eq 7, 3) := by decide +kernel
theorem dX8_saved_137 : decode cX8_saved 137 = .ok (.iconst 1, 1) := by decide +kernel
theorem dX8_saved_138 : decode cX8_saved 138 = .ok (.goto 4, 3) := by decide +kernel
theorem dX8_saved_141 : decode cX8_saved 141 = .ok (.iconst 0, 1) := by decide +kernel
theorem dX8_saved_142 : decode cX8_saved 142 = .ok (.isub, 1) := by decide +kernel
theorem dX8_saved_143 : decode cX8_saved 143 = .ok (.istore_n 3, 1) := by decide +kernel
theorem dX8_saved_144 : decode cX8_saved 144 = .ok (.iload_n 1, 1) := by decide +kernel
theorem dX8_saved_145 : decode cX8_saved 145 = .ok (.iload 5, 2) := by decide +kernel
theorem dX8_saved_147 : decode cX8_saved 147 = .ok (.ifCond .eq 7, 3) := by decide +kernel
theorem dX8_saved_150 : decode cX8_saved 150 = .ok (.iconst 1, 1) := by decide +kernel
theorem dX8_saved_151 : decode cX8_saved 151 = .ok (.goto 4, 3) := by decide +kernel
theorem dX8_saved_154 : decode cX8_saved 154 = .ok (.iconst 0, 1) := by decide +kernel
theorem dX8_saved_155 : decode cX8_saved 155 = .ok (.iadd, 1) := by decide +kernel
theorem dX8_saved_156 : decode cX8_saved 156 = .ok (.istore_n 1, 1) := by decide +kernel
theorem dX8_saved_157 : decode cX8_saved 157 = .ok (.iinc 4 1, 3) := by decide +kernel
theorem dX8_saved_160 : decode cX8_saved 160 = .ok (.goto (-90), 3) := by decide +kernel
theorem dX8_saved_163 : decode cX8_saved 163 = .ok (.iinc 2 1, 3) := by decide +kernel
theorem dX8_saved_166 : decode cX8_saved 166 = .ok (.goto (-125), 3) := by decide +kernel
theorem dX8_saved_169 : decode cX8_saved 169 = .ok (.iload_n 1, 1) := by decide +kernel
theorem dX8_saved_170 : decode cX8_saved 170 = .ok (.ireturn, 1) := by decide +kernel
theorem dX8_isSaved_0 : decode cX8_isSaved 0 = .ok (.aload_n 0, 1) := by decide +kernel
theorem dX8_isSaved_1 : decode cX8_isSaved 1 = .ok (.getfield 47, 3) := by decide +kernel
theorem dX8_isSaved_4 : decode cX8_isSaved 4 = .ok (.iconst 3, 1) := by decide +kernel
theorem dX8_isSaved_5 : decode cX8_isSaved 5 = .ok (.iload_n 1, 1) := by decide +kernel
theorem dX8_isSaved_6 : decode cX8_isSaved 6 = .ok (.imul, 1) := by decide +kernel
theorem dX8_isSaved_7 : decode cX8_isSaved 7 = .ok (.iconst 2, 1) := by decide +kernel
theorem dX8_isSaved_8 : decode cX8_isSaved 8 = .ok (.iadd, 1) := by decide +kernel
theorem dX8_isSaved_9 : decode cX8_isSaved 9 = .ok (.iaload, 1) := by decide +kernel
theorem dX8_isSaved_10 : decode cX8_isSaved 10 = .ok (.istore_n 2, 1) := by decide +kernel
theorem dX8_isSaved_11 : decode cX8_isSaved 11 = .ok (.iload_n 2, 1) := by decide +kernel
theorem dX8_isSaved_12 : decode cX8_isSaved 12 = .ok (.ifCond .eq 19, 3) := by decide +kernel
theorem dX8_isSaved_15 : decode cX8_isSaved 15 = .ok (.iload_n 2, 1) := by decide +kernel
theorem dX8_isSaved_16 : decode cX8_isSaved 16 = .ok (.iconst 1, 1) := by decide +kernel
theorem dX8_isSaved_17 : decode cX8_isSaved 17 = .ok (.if_icmp .eq 8, 3) := by decide +kernel
theorem dX8_isSaved_20 : decode cX8_isSaved 20 = .ok (.iload_n 2, 1) := by decide +kernel
theorem dX8_isSaved_21 : decode cX8_isSaved 21 = .ok (.iconst 4, 1) := by decide +kernel
theorem dX8_isSaved_22 : decode cX8_isSaved 22 = .ok (.if_icmp .ne 7, 3) := by decide +kernel
theorem dX8_isSaved_25 : decode cX8_isSaved 25 = .ok (.iconst 1, 1) := by decide +kernel
theorem dX8_isSaved_26 : decode cX8_isSaved 26 = .ok (.goto 4, 3) := by decide +kernel
theorem dX8_isSaved_29 : decode cX8_isSaved 29 = .ok (.iconst 0, 1) := by decide +kernel
theorem dX8_isSaved_30 : decode cX8_isSaved 30 = .ok (.ireturn, 1) := by decide +kernel
theorem dX8_isSaved_31 : decode cX8_isSaved 31 = .ok (.aload_n 0, 1) := by decide +kernel
theorem dX8_isSaved_32 : decode cX8_isSaved 32 = .ok (.iload_n 1, 1) := by decide +kernel
theorem dX8_isSaved_33 : decode cX8_isSaved 33 = .ok (.aload_n 0, 1) := by decide +kernel
theorem dX8_isSaved_34 : decode cX8_isSaved 34 = .ok (.getfield 47, 3) := by decide +kernel
theorem dX8_isSaved_37 : decode cX8_isSaved 37 = .ok (.iconst 3, 1) := by decide +kernel
theorem dX8_isSaved_38 : decode cX8_isSaved 38 = .ok (.iload_n 1, 1) := by decide +kernel
theorem dX8_isSaved_39 : decode cX8_isSaved 39 = .ok (.imul, 1) := by decide +kernel
theorem dX8_isSaved_40 : decode cX8_isSaved 40 = .ok (.iaload, 1) := by decide +kernel
theorem dX8_isSaved_41 : decode cX8_isSaved 41 = .ok (.aload_n 0, 1) := by decide +kernel
theorem dX8_isSaved_42 : decode cX8_isSaved 42 = .ok (.getfield 47, 3) := by decide +kernel
theorem dX8_isSaved_45 : decode cX8_isSaved 45 = .ok (.bipush 15, 2) := by decide +kernel
theorem dX8_isSaved_47 : decode cX8_isSaved 47 = .ok (.iaload, 1) := by decide +kernel
theorem dX8_isSaved_48 : decode cX8_isSaved 48 = .ok (.iconst 1, 1) := by decide +kernel
theorem dX8_isSaved_49 : decode cX8_isSaved 49 = .ok (.aload_n 0, 1) := by decide +kernel
theorem dX8_isSaved_50 : decode cX8_isSaved 50 = .ok (.getfield 139, 3) := by decide +kernel
theorem dX8_isSaved_53 : decode cX8_isSaved 53 = .ok (.invokevirtual 205, 3) := by decide +kernel
theorem dX8_isSaved_56 : decode cX8_isSaved 56 = .ok (.bipush (-9), 2) := by decide +kernel
theorem dX8_isSaved_58 : decode cX8_isSaved 58 = .ok (.if_icmp .ne 33, 3) := by decide +kernel
theorem dX8_isSaved_61 : decode cX8_isSaved 61 = .ok (.aload_n 0, 1) := by decide +kernel
theorem dX8_isSaved_62 : decode cX8_isSaved 62 = .ok (.iload_n 1, 1) := by decide +kernel
theorem dX8_isSaved_63 : decode cX8_isSaved 63 = .ok (.aload_n 0, 1) := by decide +kernel
theorem dX8_isSaved_64 : decode cX8_isSaved 64 = .ok (.getfield 47, 3) := by decide +kernel
theorem dX8_isSaved_67 : decode cX8_isSaved 67 = .ok (.iconst 3, 1) := by decide +kernel
theorem dX8_isSaved_68 : decode cX8_isSaved 68 = .ok (.iload_n 1, 1) := by decide +kernel
theorem dX8_isSaved_69 : decode cX8_isSaved 69 = .ok (.imul, 1) := by decide +kernel
theorem dX8_isSaved_70 : decode cX8_isSaved 70 = .ok (.iaload, 1) := by decide +kernel
theorem dX8_isSaved_71 : decode cX8_isSaved 71 = .ok (.aload_n 0, 1) := by decide +kernel
theorem dX8_isSaved_72 : decode cX8_isSaved 72 = .ok (.getfield 47, 3) := by decide +kernel
theorem dX8_isSaved_75 : decode cX8_isSaved 75 = .ok (.bipush 15, 2) := by decide +kernel
theorem dX8_isSaved_77 : decode cX8_isSaved 77 = .ok (.iaload, 1) := by decide +kernel
theorem dX8_isSaved_78 : decode cX8_isSaved 78 = .ok (.iconst 2, 1) := by decide +kernel
theorem dX8_isSaved_79 : decode cX8_isSaved 79 = .ok (.aload_n 0, 1) := by decide +kernel
theorem dX8_isSaved_80 : decode cX8_isSaved 80 = .ok (.getfield 139, 3) := by decide +kernel
theorem dX8_isSaved_83 : decode cX8_isSaved 83 = .ok (.invokevirtual 205, 3) := by decide +kernel
theorem dX8_isSaved_86 : decode cX8_isSaved 86 = .ok (.bipush (-9), 2) := by decide +kernel
theorem dX8_isSaved_88 : decode cX8_isSaved 88 = .ok (.if_icmp .eq 7, 3) := by decide +kernel
theorem dX8_isSaved_91 : decode cX8_isSaved 91 = .ok (.iconst 1, 1) := by decide +kernel
theorem dX8_isSaved_92 : decode cX8_isSaved 92 = .ok (.goto 4, 3) := by decide +kernel
theorem dX8_isSaved_95 : decode cX8_isSaved 95 = .ok (.iconst 0, 1) := by decide +kernel
theorem dX8_isSaved_96 : decode cX8_isSaved 96 = .ok (.ireturn, 1) := by decide +kernel
theorem dX8_divisor_0 : decode cX8_divisor 0 = .ok (.lload_n 0, 1) := by decide +kernel
theorem dX8_divisor_1 : decode cX8_divisor 1 = .ok (.lstore 4, 2) := by decide +kernel
theorem dX8_divisor_3 : decode cX8_divisor 3 = .ok (.lload_n 2, 1) := by decide +kernel
theorem dX8_divisor_4 : decode cX8_divisor 4 = .ok (.lstore 6, 2) := by decide +kernel
theorem dX8_divisor_6 : decode cX8_divisor 6 = .ok (.lload 6, 2) := by decide +kernel
theorem dX8_divisor_8 : decode cX8_divisor 8 = .ok (.lconst 0, 1) := by decide +kernel
theorem dX8_divisor_9 : decode cX8_divisor 9 = .ok (.lcmp, 1) := by decide +kernel
theorem dX8_divisor_10 : decode cX8_divisor 10 = .ok (.ifCond .eq 21, 3) := by decide +kernel
theorem dX8_divisor_13 : decode cX8_divisor 13 = .ok (.lload 4, 2) := by decide +kernel
theorem dX8_divisor_15 : decode cX8_divisor 15 = .ok (.lload 6, 2) := by decide +kernel
theorem dX8_divisor_17 : decode cX8_divisor 17 = .ok (.lrem, 1) := by decide +kernel
theorem dX8_divisor_18 : decode cX8_divisor 18 = .ok (.lstore 8, 2) := by decide +kernel
theorem dX8_divisor_20 : decode cX8_divisor 20 = .ok (.lload 6, 2) := by decide +kernel
theorem dX8_divisor_22 : decode cX8_divisor 22 = .ok (.lstore 4, 2) := by decide +kernel
theorem dX8_divisor_24 : decode cX8_divisor 24 = .ok (.lload 8, 2) := by decide +kernel
theorem dX8_divisor_26 : decode cX8_divisor 26 = .ok (.lstore 6, 2) := by decide +kernel
theorem dX8_divisor_28 : decode cX8_divisor 28 = .ok (.goto (-22), 3) := by decide +kernel
theorem dX8_divisor_31 : decode cX8_divisor 31 = .ok (.lload 4, 2) := by decide +kernel
theorem dX8_divisor_33 : decode cX8_divisor 33 = .ok (.lreturn, 1) := by decide +kernel
theorem dX8_fraction_0 : decode cX8_fraction 0 = .ok (.lload_n 0, 1) := by decide +kernel
theorem dX8_fraction_1 : decode cX8_fraction 1 = .ok (.lload_n 2, 1) := by decide +kernel
theorem dX8_fraction_2 : decode cX8_fraction 2 = .ok (.invokestatic 223, 3) := by decide +kernel
theorem dX8_fraction_5 : decode cX8_fraction 5 = .ok (.lstore 5, 2) := by decide +kernel
theorem dX8_fraction_7 : decode cX8_fraction 7 = .ok (.iload 4, 2) := by decide +kernel
theorem dX8_fraction_9 : decode cX8_fraction 9 = .ok (.ifCond .eq 10, 3) := by decide +kernel
theorem dX8_fraction_12 : decode cX8_fraction 12 = .ok (.lload_n 0, 1) := by decide +kernel
theorem dX8_fraction_13 : decode cX8_fraction 13 = .ok (.lload 5, 2) := by decide +kernel
theorem dX8_fraction_15 : decode cX8_fraction 15 = .ok (.ldiv, 1) := by decide +kernel
theorem dX8_fraction_16 : decode cX8_fraction 16 = .ok (.goto 7, 3) := by decide +kernel
theorem dX8_fraction_19 : decode cX8_fraction 19 = .ok (.lload_n 2, 1) := by decide +kernel
theorem dX8_fraction_20 : decode cX8_fraction 20 = .ok (.lload 5, 2) := by decide +kernel
theorem dX8_fraction_22 : decode cX8_fraction 22 = .ok (.ldiv, 1) := by decide +kernel
theorem dX8_fraction_23 : decode cX8_fraction 23 = .ok (.l2i, 1) := by decide +kernel
theorem dX8_fraction_24 : decode cX8_fraction 24 = .ok (.ireturn, 1) := by decide +kernel
theorem dX8_noTenths_0 : decode cX8_noTenths 0 = .ok (.iload_n 0, 1) := by decide +kernel
theorem dX8_noTenths_1 : decode cX8_noTenths 1 = .ok (.i2l, 1) := by decide +kernel
theorem dX8_noTenths_2 : decode cX8_noTenths 2 = .ok (.lconst 0, 1) := by decide +kernel
theorem dX8_noTenths_3 : decode cX8_noTenths 3 = .ok (.ldc2_w 227, 3) := by decide +kernel
theorem dX8_noTenths_6 : decode cX8_noTenths 6 = .ok (.invokestatic 73, 3) := by decide +kernel
theorem dX8_noTenths_9 : decode cX8_noTenths 9 = .ok (.ifCond .eq 23, 3) := by decide +kernel
theorem dX8_noTenths_12 : decode cX8_noTenths 12 = .ok (.iload_n 1, 1) := by decide +kernel
theorem dX8_noTenths_13 : decode cX8_noTenths 13 = .ok (.i2l, 1) := by decide +kernel
theorem dX8_noTenths_14 : decode cX8_noTenths 14 = .ok (.lconst 0, 1) := by decide +kernel
theorem dX8_noTenths_15 : decode cX8_noTenths 15 = .ok (.ldc2_w 227, 3) := by decide +kernel
theorem dX8_noTenths_18 : decode cX8_noTenths 18 = .ok (.invokestatic 73, 3) := by decide +kernel
theorem dX8_noTenths_21 : decode cX8_noTenths 21 = .ok (.ifCond .eq 11, 3) := by decide +kernel
theorem dX8_noTenths_24 : decode cX8_noTenths 24 = .ok (.iload_n 0, 1) := by decide +kernel
theorem dX8_noTenths_25 : decode cX8_noTenths 25 = .ok (.iload_n 1, 1) := by decide +kernel
theorem dX8_noTenths_26 : decode cX8_noTenths 26 = .ok (.iadd, 1) := by decide +kernel
theorem dX8_noTenths_27 : decode cX8_noTenths 27 = .ok (.bipush 10, 2) := by decide +kernel
theorem dX8_noTenths_29 : decode cX8_noTenths 29 = .ok (.if_icmp .le 7, 3) := by decide +kernel
theorem dX8_noTenths_32 : decode cX8_noTenths 32 = .ok (.iconst 1, 1) := by decide +kernel
theorem dX8_noTenths_33 : decode cX8_noTenths 33 = .ok (.goto 4, 3) := by decide +kernel
theorem dX8_noTenths_36 : decode cX8_noTenths 36 = .ok (.iconst 0, 1) := by decide +kernel
theorem dX8_noTenths_37 : decode cX8_noTenths 37 = .ok (.ireturn, 1) := by decide +kernel
theorem dX8_channel_0 : decode cX8_channel 0 = .ok (.aload_n 0, 1) := by decide +kernel
theorem dX8_channel_1 : decode cX8_channel 1 = .ok (.iconst 0, 1) := by decide +kernel
theorem dX8_channel_2 : decode cX8_channel 2 = .ok (.putfield 67, 3) := by decide +kernel
theorem dX8_channel_5 : decode cX8_channel 5 = .ok (.iload_n 1, 1) := by decide +kernel
theorem dX8_channel_6 : decode cX8_channel 6 = .ok (.i2l, 1) := by decide +kernel
theorem dX8_channel_7 : decode cX8_channel 7 = .ok (.lconst 1, 1) := by decide +kernel
theorem dX8_channel_8 : decode cX8_channel 8 = .ok (.ldc2_w 90, 3) := by decide +kernel
theorem dX8_channel_11 : decode cX8_channel 11 = .ok (.invokestatic 73, 3) := by decide +kernel
theorem dX8_channel_14 : decode cX8_channel 14 = .ok (.ifCond .eq 37, 3) := by decide +kernel
theorem dX8_channel_17 : decode cX8_channel 17 = .ok (.iload_n 2, 1) := by decide +kernel
theorem dX8_channel_18 : decode cX8_channel 18 = .ok (.i2l, 1) := by decide +kernel
theorem dX8_channel_19 : decode cX8_channel 19 = .ok (.lconst 1, 1) := by decide +kernel
theorem dX8_channel_20 : decode cX8_channel 20 = .ok (.ldc2_w 90, 3) := by decide +kernel
theorem dX8_channel_23 : decode cX8_channel 23 = .ok (.invokestatic 73, 3) := by decide +kernel
theorem dX8_channel_26 : decode cX8_channel 26 = .ok (.ifCond .eq 25, 3) := by decide +kernel
theorem dX8_channel_29 : decode cX8_channel 29 = .ok (.iload_n 3, 1) := by decide +kernel
theorem dX8_channel_30 : decode cX8_channel 30 = .ok (.iload 4, 2) := by decide +kernel
theorem dX8_channel_32 : decode cX8_channel 32 = .ok (.invokestatic 229, 3) := by decide +kernel
theorem dX8_channel_35 : decode cX8_channel 35 = .ok (.ifCond .ne 16, 3) := by decide +kernel
theorem dX8_channel_38 : decode cX8_channel 38 = .ok (.iload 5, 2) := by decide +kernel
theorem dX8_channel_40 : decode cX8_channel 40 = .ok (.i2l, 1) := by decide +kernel
theorem dX8_channel_41 : decode cX8_channel 41 = .ok (.lconst 0, 1) := by decide +kernel
theorem dX8_channel_42 : decode cX8_channel 42 = .ok (.ldc2_w 232, 3) := by decide +kernel
theorem dX8_channel_45 : decode cX8_channel 45 = .ok (.invokestatic 73, 3) := by decide +kernel
theorem dX8_channel_48 : decode cX8_channel 48 = .ok (.ifCond .ne 6, 3) := by decide +kernel
theorem dX8_channel_51 : decode cX8_channel 51 = .ok (.bipush (-2), 2) := by decide +kernel
theorem dX8_channel_53 : decode cX8_channel 53 = .ok (.ireturn, 1) := by decide +kernel
theorem dX8_channel_54 : decode cX8_channel 54 = .ok (.iconst 0, 1) := by decide +kernel
theorem dX8_channel_55 : decode cX8_channel 55 = .ok (.istore 7, 2) := by decide +kernel
theorem dX8_channel_57 : decode cX8_channel 57 = .ok (.iload 7, 2) := by decide +kernel
theorem dX8_channel_59 : decode cX8_channel 59 = .ok (.bipush 10, 2) := by decide +kernel
theorem dX8_channel_61 : decode cX8_channel 61 = .ok (.if_icmp .ge 27, 3) := by decide +kernel
theorem dX8_channel_64 : decode cX8_channel 64 = .ok (.aload_n 0, 1) := by decide +kernel
theorem dX8_channel_65 : decode cX8_channel 65 = .ok (.getfield 60, 3) := by decide +kernel
theorem dX8_channel_68 : decode cX8_channel 68 = .ok (.iload 7, 2) := by decide +kernel
theorem dX8_channel_70 : decode cX8_channel 70 = .ok (.iload 7, 2) := by decide +kernel
theorem dX8_channel_72 : decode cX8_channel 72 = .ok (.iload_n 1, 1) := by decide +kernel
theorem dX8_channel_73 : decode cX8_channel 73 = .ok (.if_icmp .ne 7, 3) := by decide +kernel
theorem dX8_channel_76 : decode cX8_channel 76 = .ok (.lconst 1, 1) := by decide +kernel
theorem dX8_channel_77 : decode cX8_channel 77 = .ok (.goto 4, 3) := by decide +kernel
theorem dX8_channel_80 : decode cX8_channel 80 = .ok (.lconst 0, 1) := by decide +kernel
theorem dX8_channel_81 : decode cX8_channel 81 = .ok (.lastore, 1) := by decide +kernel
theorem dX8_channel_82 : decode cX8_channel 82 = .ok (.iinc 7 1, 3) := by decide +kernel
theorem dX8_channel_85 : decode cX8_channel 85 = .ok (.goto (-28), 3) := by decide +kernel
theorem dX8_channel_88 : decode cX8_channel 88 = .ok (.iconst 0, 1) := by decide +kernel
theorem dX8_channel_89 : decode cX8_channel 89 = .ok (.istore 7, 2) := by decide +kernel
theorem dX8_channel_91 : decode cX8_channel 91 = .ok (.iload 7, 2) := by decide +kernel
theorem dX8_channel_93 : decode cX8_channel 93 = .ok (.iload 5, 2) := by decide +kernel
theorem dX8_channel_95 : decode cX8_channel 95 = .ok (.if_icmp .ge 172, 3) := by decide +kernel
theorem dX8_channel_98 : decode cX8_channel 98 = .ok (.iconst 0, 1) := by decide +kernel
theorem dX8_channel_99 : decode cX8_channel 99 = .ok (.istore 8, 2) := by decide +kernel
theorem dX8_channel_101 : decode cX8_channel 101 = .ok (.iload 8, 2) := by decide +kernel
theorem dX8_channel_103 : decode cX8_channel 103 = .ok (.bipush 10, 2) := by decide +kernel
theorem dX8_channel_105 : decode cX8_channel 105 = .ok (.if_icmp .ge 17, 3) := by decide +kernel
theorem dX8_channel_108 : decode cX8_channel 108 = .ok (.aload_n 0, 1) := by decide +kernel
theorem dX8_channel_109 : decode cX8_channel 109 = .ok (.getfield 64, 3) := by decide +kernel
theorem dX8_channel_112 : decode cX8_channel 112 = .ok (.iload 8, 2) := by decide +kernel
theorem dX8_channel_114 : decode cX8_channel 114 = .ok (.lconst 0, 1) := by decide +kernel
theorem dX8_channel_115 : decode cX8_channel 115 = .ok (.lastore, 1) := by decide +kernel
theorem dX8_channel_116 : decode cX8_channel 116 = .ok (.iinc 8 1, 3) := by decide +kernel
theorem dX8_channel_119 : decode cX8_channel 119 = .ok (.goto (-18), 3) := by decide +kernel
theorem dX8_channel_122 : decode cX8_channel 122 = .ok (.iconst 1, 1) := by decide +kernel
theorem dX8_channel_123 : decode cX8_channel 123 = .ok (.istore 8, 2) := by decide +kernel
theorem dX8_channel_125 : decode cX8_channel 125 = .ok (.iload 8, 2) := by decide +kernel
theorem dX8_channel_127 : decode cX8_channel 127 = .ok (.bipush 8, 2) := by decide +kernel
theorem dX8_channel_129 : decode cX8_channel 129 = .ok (.if_icmp .gt 102, 3) := by decide +kernel
theorem dX8_channel_132 : decode cX8_channel 132 = .ok (.aload_n 0, 1) := by decide +kernel
theorem dX8_channel_133 : decode cX8_channel 133 = .ok (.getfield 64, 3) := by decide +kernel
theorem dX8_channel_136 : decode cX8_channel 136 = .ok (.iload 8, 2) := by decide +kernel
theorem dX8_channel_138 : decode cX8_channel 138 = .ok (.iconst 1, 1) := by decide +kernel
theorem dX8_channel_139 : decode cX8_channel 139 = .ok (.if_icmp .ne 7, 3) := by decide +kernel
theorem dX8_channel_142 : decode cX8_channel 142 = .ok (.iconst 1, 1) := by decide +kernel
theorem dX8_channel_143 : decode cX8_channel 143 = .ok (.goto 7, 3) := by decide +kernel
theorem dX8_channel_146 : decode cX8_channel 146 = .ok (.iload 8, 2) := by decide +kernel
theorem dX8_channel_148 : decode cX8_channel 148 = .ok (.iconst 1, 1) := by decide +kernel
theorem dX8_channel_149 : decode cX8_channel 149 = .ok (.isub, 1) := by decide +kernel
theorem dX8_channel_150 : decode cX8_channel 150 = .ok (.dup2, 1) := by decide +kernel
theorem dX8_channel_151 : decode cX8_channel 151 = .ok (.laload, 1) := by decide +kernel
theorem dX8_channel_152 : decode cX8_channel 152 = .ok (.iload_n 3, 1) := by decide +kernel
theorem dX8_channel_153 : decode cX8_channel 153 = .ok (.i2l, 1) := by decide +kernel
theorem dX8_channel_154 : decode cX8_channel 154 = .ok (.aload_n 0, 1) := by decide +kernel
theorem dX8_channel_155 : decode cX8_channel 155 = .ok (.getfield 60, 3) := by decide +kernel
theorem dX8_channel_158 : decode cX8_channel 158 = .ok (.iload 8, 2) := by decide +kernel
theorem dX8_channel_160 : decode cX8_channel 160 = .ok (.laload, 1) := by decide +kernel
theorem dX8_channel_161 : decode cX8_channel 161 = .ok (.lmul, 1) := by decide +kernel
theorem dX8_channel_162 : decode cX8_channel 162 = .ok (.ladd, 1) := by decide +kernel
theorem dX8_channel_163 : decode cX8_channel 163 = .ok (.lastore, 1) := by decide +kernel
theorem dX8_channel_164 : decode cX8_channel 164 = .ok (.aload_n 0, 1) := by decide +kernel
theorem dX8_channel_165 : decode cX8_channel 165 = .ok (.getfield 64, 3) := by decide +kernel
theorem dX8_channel_168 : decode cX8_channel 168 = .ok (.iload 8, 2) := by decide +kernel
theorem dX8_channel_170 : decode cX8_channel 170 = .ok (.bipush 8, 2) := by decide +kernel
theorem dX8_channel_172 : decode cX8_channel 172 = .ok (.if_icmp .ne 8, 3) := by decide +kernel
theorem dX8_channel_175 : decode cX8_channel 175 = .ok (.bipush 8, 2) := by decide +kernel
theorem dX8_channel_177 : decode cX8_channel 177 = .ok (.goto 7, 3) := by decide +kernel
theorem dX8_channel_180 : decode cX8_channel 180 = .ok (.iload 8, 2) := by decide +kernel
theorem dX8_channel_182 : decode cX8_channel 182 = .ok (.iconst 1, 1) := by decide +kernel
theorem dX8_channel_183 : decode cX8_channel 183 = .ok (.iadd, 1) := by decide +kernel
theorem dX8_channel_184 : decode cX8_channel 184 = .ok (.dup2, 1) := by decide +kernel
theorem dX8_channel_185 : decode cX8_channel 185 = .ok (.laload, 1) := by decide +kernel
theorem dX8_channel_186 : decode cX8_channel 186 = .ok (.iload 4, 2) := by decide +kernel
theorem dX8_channel_188 : decode cX8_channel 188 = .ok (.i2l, 1) := by decide +kernel
theorem dX8_channel_189 : decode cX8_channel 189 = .ok (.aload_n 0, 1) := by decide +kernel
theorem dX8_channel_190 : decode cX8_channel 190 = .ok (.getfield 60, 3) := by decide +kernel
theorem dX8_channel_193 : decode cX8_channel 193 = .ok (.iload 8, 2) := by decide +kernel
theorem dX8_channel_195 : decode cX8_channel 195 = .ok (.laload, 1) := by decide +kernel
theorem dX8_channel_196 : decode cX8_channel 196 = .ok (.lmul, 1) := by decide +kernel
theorem dX8_channel_197 : decode cX8_channel 197 = .ok (.ladd, 1) := by decide +kernel
theorem dX8_channel_198 : decode cX8_channel 198 = .ok (.lastore, 1) := by decide +kernel
theorem dX8_channel_199 : decode cX8_channel 199 = .ok (.aload_n 0, 1) := by decide +kernel
theorem dX8_channel_200 : decode cX8_channel 200 = .ok (.getfield 64, 3) := by decide +kernel
theorem dX8_channel_203 : decode cX8_channel 203 = .ok (.iload 8, 2) := by decide +kernel
theorem dX8_channel_205 : decode cX8_channel 205 = .ok (.dup2, 1) := by decide +kernel
theorem dX8_channel_206 : decode cX8_channel 206 = .ok (.laload, 1) := by decide +kernel
theorem dX8_channel_207 : decode cX8_channel 207 = .ok (.bipush 10, 2) := by decide +kernel
theorem dX8_channel_209 : decode cX8_channel 209 = .ok (.iload_n 3, 1) := by decide +kernel
theorem dX8_channel_210 : decode cX8_channel 210 = .ok (.isub, 1) := by decide +kernel
theorem dX8_channel_211 : decode cX8_channel 211 = .ok (.iload 4, 2) := by decide +kernel
theorem dX8_channel_213 : decode cX8_channel 213 = .ok (.isub, 1) := by decide +kernel
theorem dX8_channel_214 : decode cX8_channel 214 = .ok (.i2l, 1) := by decide +kernel
theorem dX8_channel_215 : decode cX8_channel 215 = .ok (.aload_n 0, 1) := by decide +kernel
theorem dX8_channel_216 : decode cX8_channel 216 = .ok (.getfield 60, 3) := by decide +kernel
theorem dX8_channel_219 : decode cX8_channel 219 = .ok (.iload 8, 2) := by decide +kernel
theorem dX8_channel_221 : decode cX8_channel 221 = .ok (.laload, 1) := by decide +kernel
theorem dX8_channel_222 : decode cX8_channel 222 = .ok (.lmul, 1) := by decide +kernel
theorem dX8_channel_223 : decode cX8_channel 223 = .ok (.ladd, 1) := by decide +kernel
theorem dX8_channel_224 : decode cX8_channel 224 = .ok (.lastore, 1) := by decide +kernel
theorem dX8_channel_225 : decode cX8_channel 225 = .ok (.iinc 8 1, 3) := by decide +kernel
theorem dX8_channel_228 : decode cX8_channel 228 = .ok (.goto (-103), 3) := by decide +kernel
theorem dX8_channel_231 : decode cX8_channel 231 = .ok (.iconst 0, 1) := by decide +kernel
theorem dX8_channel_232 : decode cX8_channel 232 = .ok (.istore 8, 2) := by decide +kernel
theorem dX8_channel_234 : decode cX8_channel 234 = .ok (.iload 8, 2) := by decide +kernel
theorem dX8_channel_236 : decode cX8_channel 236 = .ok (.bipush 10, 2) := by decide +kernel
theorem dX8_channel_238 : decode cX8_channel 238 = .ok (.if_icmp .ge 23, 3) := by decide +kernel
theorem dX8_channel_241 : decode cX8_channel 241 = .ok (.aload_n 0, 1) := by decide +kernel
theorem dX8_channel_242 : decode cX8_channel 242 = .ok (.getfield 60, 3) := by decide +kernel
theorem dX8_channel_245 : decode cX8_channel 245 = .ok (.iload 8, 2) := by decide +kernel
theorem dX8_channel_247 : decode cX8_channel 247 = .ok (.aload_n 0, 1) := by decide +kernel
theorem dX8_channel_248 : decode cX8_channel 248 = .ok (.getfield 64, 3) := by decide +kernel
theorem dX8_channel_251 : decode cX8_channel 251 = .ok (.iload 8, 2) := by decide +kernel
theorem dX8_channel_253 : decode cX8_channel 253 = .ok (.laload, 1) := by decide +kernel
theorem dX8_channel_254 : decode cX8_channel 254 = .ok (.lastore, 1) := by decide +kernel
theorem dX8_channel_255 : decode cX8_channel 255 = .ok (.iinc 8 1, 3) := by decide +kernel
theorem dX8_channel_258 : decode cX8_channel 258 = .ok (.goto (-24), 3) := by decide +kernel
theorem dX8_channel_261 : decode cX8_channel 261 = .ok (.iinc 7 1, 3) := by decide +kernel
theorem dX8_channel_264 : decode cX8_channel 264 = .ok (.goto (-173), 3) := by decide +kernel
theorem dX8_channel_267 : decode cX8_channel 267 = .ok (.aload_n 0, 1) := by decide +kernel
theorem dX8_channel_268 : decode cX8_channel 268 = .ok (.getfield 60, 3) := by decide +kernel
theorem dX8_channel_271 : decode cX8_channel 271 = .ok (.iload_n 2, 1) := by decide +kernel
theorem dX8_channel_272 : decode cX8_channel 272 = .ok (.laload, 1) := by decide +kernel
theorem dX8_channel_273 : decode cX8_channel 273 = .ok (.iload 5, 2) := by decide +kernel
theorem dX8_channel_275 : decode cX8_channel 275 = .ok (.invokestatic 211, 3) := by decide +kernel
theorem dX8_channel_278 : decode cX8_channel 278 = .ok (.i2l, 1) := by decide +kernel
theorem dX8_channel_279 : decode cX8_channel 279 = .ok (.iload 6, 2) := by decide +kernel
theorem dX8_channel_281 : decode cX8_channel 281 = .ok (.invokestatic 234, 3) := by decide +kernel
theorem dX8_channel_284 : decode cX8_channel 284 = .ok (.ireturn, 1) := by decide +kernel
theorem dX8_sticks_0 : decode cX8_sticks 0 = .ok (.aload_n 0, 1) := by decide +kernel
theorem dX8_sticks_1 : decode cX8_sticks 1 = .ok (.iconst 0, 1) := by decide +kernel
theorem dX8_sticks_2 : decode cX8_sticks 2 = .ok (.putfield 67, 3) := by decide +kernel
theorem dX8_sticks_5 : decode cX8_sticks 5 = .ok (.iload_n 1, 1) := by decide +kernel
theorem dX8_sticks_6 : decode cX8_sticks 6 = .ok (.i2l, 1) := by decide +kernel
theorem dX8_sticks_7 : decode cX8_sticks 7 = .ok (.lconst 1, 1) := by decide +kernel
theorem dX8_sticks_8 : decode cX8_sticks 8 = .ok (.ldc2_w 238, 3) := by decide +kernel
theorem dX8_sticks_11 : decode cX8_sticks 11 = .ok (.invokestatic 73, 3) := by decide +kernel
theorem dX8_sticks_14 : decode cX8_sticks 14 = .ok (.ifCond .eq 27, 3) := by decide +kernel
theorem dX8_sticks_17 : decode cX8_sticks 17 = .ok (.iload_n 2, 1) := by decide +kernel
theorem dX8_sticks_18 : decode cX8_sticks 18 = .ok (.i2l, 1) := by decide +kernel
theorem dX8_sticks_19 : decode cX8_sticks 19 = .ok (.lconst 0, 1) := by decide +kernel
theorem dX8_sticks_20 : decode cX8_sticks 20 = .ok (.ldc2_w 227, 3) := by decide +kernel
theorem dX8_sticks_23 : decode cX8_sticks 23 = .ok (.invokestatic 73, 3) := by decide +kernel
theorem dX8_sticks_26 : decode cX8_sticks 26 = .ok (.ifCond .eq 15, 3) := by decide +kernel
theorem dX8_sticks_29 : decode cX8_sticks 29 = .ok (.iload_n 3, 1) := by decide +kernel
theorem dX8_sticks_30 : decode cX8_sticks 30 = .ok (.i2l, 1) := by decide +kernel
theorem dX8_sticks_31 : decode cX8_sticks 31 = .ok (.lconst 0, 1) := by decide +kernel
theorem dX8_sticks_32 : decode cX8_sticks 32 = .ok (.ldc2_w 77, 3) := by decide +kernel
theorem dX8_sticks_35 : decode cX8_sticks 35 = .ok (.invokestatic 73, 3) := by decide +kernel
theorem dX8_sticks_38 : decode cX8_sticks 38 = .ok (.ifCond .ne 6, 3) := by decide +kernel
theorem dX8_sticks_41 : decode cX8_sticks 41 = .ok (.bipush (-2), 2) := by decide +kernel
theorem dX8_sticks_43 : decode cX8_sticks 43 = .ok (.ireturn, 1) := by decide +kernel
theorem dX8_sticks_44 : decode cX8_sticks 44 = .ok (.iload_n 2, 1) := by decide +kernel
theorem dX8_sticks_45 : decode cX8_sticks 45 = .ok (.iload_n 3, 1) := by decide +kernel
theorem dX8_sticks_46 : decode cX8_sticks 46 = .ok (.if_icmp .ge 7, 3) := by decide +kernel
theorem dX8_sticks_49 : decode cX8_sticks 49 = .ok (.iconst 0, 1) := by decide +kernel
theorem dX8_sticks_50 : decode cX8_sticks 50 = .ok (.goto 6, 3) := by decide +kernel
theorem dX8_sticks_53 : decode cX8_sticks 53 = .ok (.iload_n 2, 1) := by decide +kernel
theorem dX8_sticks_54 : decode cX8_sticks 54 = .ok (.iload_n 3, 1) := by decide +kernel
theorem dX8_sticks_55 : decode cX8_sticks 55 = .ok (.isub, 1) := by decide +kernel
theorem dX8_sticks_56 : decode cX8_sticks 56 = .ok (.istore 5, 2) := by decide +kernel
theorem dX8_sticks_58 : decode cX8_sticks 58 = .ok (.lconst 0, 1) := by decide +kernel
theorem dX8_sticks_59 : decode cX8_sticks 59 = .ok (.lstore 6, 2) := by decide +kernel
theorem dX8_sticks_61 : decode cX8_sticks 61 = .ok (.iconst 0, 1) := by decide +kernel
theorem dX8_sticks_62 : decode cX8_sticks 62 = .ok (.istore 8, 2) := by decide +kernel
theorem dX8_sticks_64 : decode cX8_sticks 64 = .ok (.iload 8, 2) := by decide +kernel
theorem dX8_sticks_66 : decode cX8_sticks 66 = .ok (.iconst 1, 1) := by decide +kernel
theorem dX8_sticks_67 : decode cX8_sticks 67 = .ok (.iload_n 1, 1) := by decide +kernel
theorem dX8_sticks_68 : decode cX8_sticks 68 = .ok (.ishl, 1) := by decide +kernel
theorem dX8_sticks_69 : decode cX8_sticks 69 = .ok (.if_icmp .ge 96, 3) := by decide +kernel
theorem dX8_sticks_72 : decode cX8_sticks 72 = .ok (.lconst 1, 1) := by decide +kernel
theorem dX8_sticks_73 : decode cX8_sticks 73 = .ok (.lstore 9, 2) := by decide +kernel
theorem dX8_sticks_75 : decode cX8_sticks 75 = .ok (.iconst 0, 1) := by decide +kernel
theorem dX8_sticks_76 : decode cX8_sticks 76 = .ok (.istore 11, 2) := by decide +kernel
theorem dX8_sticks_78 : decode cX8_sticks 78 = .ok (.iconst 0, 1) := by decide +kernel
theorem dX8_sticks_79 : decode cX8_sticks 79 = .ok (.istore 12, 2) := by decide +kernel
theorem dX8_sticks_81 : decode cX8_sticks 81 = .ok (.iload 12, 2) := by decide +kernel
theorem dX8_sticks_83 : decode cX8_sticks 83 = .ok (.iload_n 1, 1) := by decide +kernel
theorem dX8_sticks_84 : decode cX8_sticks 84 = .ok (.if_icmp .ge 56, 3) := by decide +kernel
theorem dX8_sticks_87 : decode cX8_sticks 87 = .ok (.lload 9, 2) := by decide +kernel
theorem dX8_sticks_89 : decode cX8_sticks 89 = .ok (.iload 8, 2) := by decide +kernel
theorem dX8_sticks_91 : decode cX8_sticks 91 = .ok (.iload 12, 2) := by decide +kernel
theorem dX8_sticks_93 : decode cX8_sticks 93 = .ok (.invokestatic 92, 3) := by decide +kernel
theorem dX8_sticks_96 : decode cX8_sticks 96 = .ok (.ifCond .eq 9, 3) := by decide +kernel
theorem dX8_sticks_99 : decode cX8_sticks 99 = .ok (.iload 5, 2) := by decide +kernel
theorem dX8_sticks_101 : decode cX8_sticks 101 = .ok (.i2l, 1) := by decide +kernel
theorem dX8_sticks_102 : decode cX8_sticks 102 = .ok (.goto 9, 3) := by decide +kernel
theorem dX8_sticks_105 : decode cX8_sticks 105 = .ok (.bipush 10, 2) := by decide +kernel
theorem dX8_sticks_107 : decode cX8_sticks 107 = .ok (.iload 5, 2) := by decide +kernel
theorem dX8_sticks_109 : decode cX8_sticks 109 = .ok (.isub, 1) := by decide +kernel
theorem dX8_sticks_110 : decode cX8_sticks 110 = .ok (.i2l, 1) := by decide +kernel
theorem dX8_sticks_111 : decode cX8_sticks 111 = .ok (.lmul, 1) := by decide +kernel
theorem dX8_sticks_112 : decode cX8_sticks 112 = .ok (.lstore 9, 2) := by decide +kernel
theorem dX8_sticks_114 : decode cX8_sticks 114 = .ok (.iload 11, 2) := by decide +kernel
theorem dX8_sticks_116 : decode cX8_sticks 116 = .ok (.iload 8, 2) := by decide +kernel
theorem dX8_sticks_118 : decode cX8_sticks 118 = .ok (.iload 12, 2) := by decide +kernel
theorem dX8_sticks_120 : decode cX8_sticks 120 = .ok (.invokestatic 92, 3) := by decide +kernel
theorem dX8_sticks_123 : decode cX8_sticks 123 = .ok (.ifCond .eq 7, 3) := by decide +kernel
theorem dX8_sticks_126 : decode cX8_sticks 126 = .ok (.iconst 1, 1) := by decide +kernel
theorem dX8_sticks_127 : decode cX8_sticks 127 = .ok (.goto 4, 3) := by decide +kernel
theorem dX8_sticks_130 : decode cX8_sticks 130 = .ok (.iconst 0, 1) := by decide +kernel
theorem dX8_sticks_131 : decode cX8_sticks 131 = .ok (.iadd, 1) := by decide +kernel
theorem dX8_sticks_132 : decode cX8_sticks 132 = .ok (.istore 11, 2) := by decide +kernel
theorem dX8_sticks_134 : decode cX8_sticks 134 = .ok (.iinc 12 1, 3) := by decide +kernel
theorem dX8_sticks_137 : decode cX8_sticks 137 = .ok (.goto (-56), 3) := by decide +kernel
theorem dX8_sticks_140 : decode cX8_sticks 140 = .ok (.lload 6, 2) := by decide +kernel
theorem dX8_sticks_142 : decode cX8_sticks 142 = .ok (.iconst 2, 1) := by decide +kernel
theorem dX8_sticks_143 : decode cX8_sticks 143 = .ok (.iload 11, 2) := by decide +kernel
theorem dX8_sticks_145 : decode cX8_sticks 145 = .ok (.imul, 1) := by decide +kernel
theorem dX8_sticks_146 : decode cX8_sticks 146 = .ok (.iload_n 1, 1) := by decide +kernel
theorem dX8_sticks_147 : decode cX8_sticks 147 = .ok (.if_icmp .le 8, 3) := by decide +kernel
theorem dX8_sticks_150 : decode cX8_sticks 150 = .ok (.lload 9, 2) := by decide +kernel
theorem dX8_sticks_152 : decode cX8_sticks 152 = .ok (.goto 4, 3) := by decide +kernel
theorem dX8_sticks_155 : decode cX8_sticks 155 = .ok (.lconst 0, 1) := by decide +kernel
theorem dX8_sticks_156 : decode cX8_sticks 156 = .ok (.ladd, 1) := by decide +kernel
theorem dX8_sticks_157 : decode cX8_sticks 157 = .ok (.lstore 6, 2) := by decide +kernel
theorem dX8_sticks_159 : decode cX8_sticks 159 = .ok (.iinc 8 1, 3) := by decide +kernel
theorem dX8_sticks_162 : decode cX8_sticks 162 = .ok (.goto (-98), 3) := by decide +kernel
theorem dX8_sticks_165 : decode cX8_sticks 165 = .ok (.lload 6, 2) := by decide +kernel
theorem dX8_sticks_167 : decode cX8_sticks 167 = .ok (.iload_n 1, 1) := by decide +kernel
theorem dX8_sticks_168 : decode cX8_sticks 168 = .ok (.invokestatic 211, 3) := by decide +kernel
theorem dX8_sticks_171 : decode cX8_sticks 171 = .ok (.i2l, 1) := by decide +kernel
theorem dX8_sticks_172 : decode cX8_sticks 172 = .ok (.iload 4, 2) := by decide +kernel
theorem dX8_sticks_174 : decode cX8_sticks 174 = .ok (.invokestatic 234, 3) := by decide +kernel
theorem dX8_sticks_177 : decode cX8_sticks 177 = .ok (.ireturn, 1) := by decide +kernel
theorem dX8_wind_0 : decode cX8_wind 0 = .ok (.aload_n 0, 1) := by decide +kernel
theorem dX8_wind_1 : decode cX8_wind 1 = .ok (.iconst 0, 1) := by decide +kernel
theorem dX8_wind_2 : decode cX8_wind 2 = .ok (.putfield 67, 3) := by decide +kernel
theorem dX8_wind_5 : decode cX8_wind 5 = .ok (.aload_n 0, 1) := by decide +kernel
theorem dX8_wind_6 : decode cX8_wind 6 = .ok (.iload_n 1, 1) := by decide +kernel
theorem dX8_wind_7 : decode cX8_wind 7 = .ok (.invokevirtual 174, 3) := by decide +kernel
theorem dX8_wind_10 : decode cX8_wind 10 = .ok (.ifCond .eq 5, 3) := by decide +kernel
theorem dX8_wind_13 : decode cX8_wind 13 = .ok (.iconst (-1), 1) := by decide +kernel
theorem dX8_wind_14 : decode cX8_wind 14 = .ok (.ireturn, 1) := by decide +kernel
theorem dX8_wind_15 : decode cX8_wind 15 = .ok (.iload_n 2, 1) := by decide +kernel
theorem dX8_wind_16 : decode cX8_wind 16 = .ok (.i2l, 1) := by decide +kernel
theorem dX8_wind_17 : decode cX8_wind 17 = .ok (.lconst 0, 1) := by decide +kernel
theorem dX8_wind_18 : decode cX8_wind 18 = .ok (.ldc2_w 177, 3) := by decide +kernel
theorem dX8_wind_21 : decode cX8_wind 21 = .ok (.invokestatic 73, 3) := by decide +kernel
theorem dX8_wind_24 : decode cX8_wind 24 = .ok (.ifCond .eq 12, 3) := by decide +kernel
theorem dX8_wind_27 : decode cX8_wind 27 = .ok (.iload_n 3, 1) := by decide +kernel
theorem dX8_wind_28 : decode cX8_wind 28 = .ok (.iload 4, 2) := by decide +kernel
theorem dX8_wind_30 : decode cX8_wind 30 = .ok (.invokestatic 229, 3) := by decide +kernel
theorem dX8_wind_33 : decode cX8_wind 33 = .ok (.ifCond .eq 6, 3) := by decide +kernel
theorem dX8_wind_36 : decode cX8_wind 36 = .ok (.bipush (-2), 2) := by decide +kernel
theorem dX8_wind_38 : decode cX8_wind 38 = .ok (.ireturn, 1) := by decide +kernel
theorem dX8_wind_39 : decode cX8_wind 39 = .ok (.aload_n 0, 1) := by decide +kernel
theorem dX8_wind_40 : decode cX8_wind 40 = .ok (.iload_n 1, 1) := by decide +kernel
theorem dX8_wind_41 : decode cX8_wind 41 = .ok (.iconst 0, 1) := by decide +kernel
theorem dX8_wind_42 : decode cX8_wind 42 = .ok (.iload_n 2, 1) := by decide +kernel
theorem dX8_wind_43 : decode cX8_wind 43 = .ok (.iconst 1, 1) := by decide +kernel
theorem dX8_wind_44 : decode cX8_wind 44 = .ok (.aload_n 0, 1) := by decide +kernel
theorem dX8_wind_45 : decode cX8_wind 45 = .ok (.getfield 139, 3) := by decide +kernel
theorem dX8_wind_48 : decode cX8_wind 48 = .ok (.ifCond .ne 7, 3) := by decide +kernel
theorem dX8_wind_51 : decode cX8_wind 51 = .ok (.iconst 0, 1) := by decide +kernel
theorem dX8_wind_52 : decode cX8_wind 52 = .ok (.goto 9, 3) := by decide +kernel
theorem dX8_wind_55 : decode cX8_wind 55 = .ok (.aload_n 0, 1) := by decide +kernel
theorem dX8_wind_56 : decode cX8_wind 56 = .ok (.getfield 139, 3) := by decide +kernel
theorem dX8_wind_59 : decode cX8_wind 59 = .ok (.iconst 1, 1) := by decide +kernel
theorem dX8_wind_60 : decode cX8_wind 60 = .ok (.isub, 1) := by decide +kernel
theorem dX8_wind_61 : decode cX8_wind 61 = .ok (.invokevirtual 205, 3) := by decide +kernel
theorem dX8_wind_64 : decode cX8_wind 64 = .ok (.bipush (-9), 2) := by decide +kernel
theorem dX8_wind_66 : decode cX8_wind 66 = .ok (.if_icmp .ne 7, 3) := by decide +kernel
theorem dX8_wind_69 : decode cX8_wind 69 = .ok (.iconst 0, 1) := by decide +kernel
theorem dX8_wind_70 : decode cX8_wind 70 = .ok (.goto 4, 3) := by decide +kernel
theorem dX8_wind_73 : decode cX8_wind 73 = .ok (.iload_n 3, 1) := by decide +kernel
theorem dX8_wind_74 : decode cX8_wind 74 = .ok (.istore 6, 2) := by decide +kernel
theorem dX8_wind_76 : decode cX8_wind 76 = .ok (.aload_n 0, 1) := by decide +kernel
theorem dX8_wind_77 : decode cX8_wind 77 = .ok (.iload_n 1, 1) := by decide +kernel
theorem dX8_wind_78 : decode cX8_wind 78 = .ok (.iconst 0, 1) := by decide +kernel
theorem dX8_wind_79 : decode cX8_wind 79 = .ok (.iload_n 2, 1) := by decide +kernel
theorem dX8_wind_80 : decode cX8_wind 80 = .ok (.iconst 1, 1) := by decide +kernel
theorem dX8_wind_81 : decode cX8_wind 81 = .ok (.aload_n 0, 1) := by decide +kernel
theorem dX8_wind_82 : decode cX8_wind 82 = .ok (.getfield 139, 3) := by decide +kernel
theorem dX8_wind_85 : decode cX8_wind 85 = .ok (.bipush 40, 2) := by decide +kernel
theorem dX8_wind_87 : decode cX8_wind 87 = .ok (.if_icmp .ne 8, 3) := by decide +kernel
theorem dX8_wind_90 : decode cX8_wind 90 = .ok (.bipush 40, 2) := by decide +kernel
theorem dX8_wind_92 : decode cX8_wind 92 = .ok (.goto 9, 3) := by decide +kernel
theorem dX8_wind_95 : decode cX8_wind 95 = .ok (.aload_n 0, 1) := by decide +kernel
theorem dX8_wind_96 : decode cX8_wind 96 = .ok (.getfield 139, 3) := by decide +kernel
theorem dX8_wind_99 : decode cX8_wind 99 = .ok (.iconst 1, 1) := by decide +kernel
theorem dX8_wind_100 : decode cX8_wind 100 = .ok (.iadd, 1) := by decide +kernel
theorem dX8_wind_101 : decode cX8_wind 101 = .ok (.invokevirtual 205, 3) := by decide +kernel
theorem dX8_wind_104 : decode cX8_wind 104 = .ok (.bipush (-9), 2) := by decide +kernel
theorem dX8_wind_106 : decode cX8_wind 106 = .ok (.if_icmp .ne 7, 3) := by decide +kernel
theorem dX8_wind_109 : decode cX8_wind 109 = .ok (.iconst 0, 1) := by decide +kernel
theorem dX8_wind_110 : decode cX8_wind 110 = .ok (.goto 5, 3) := by decide +kernel
theorem dX8_wind_113 : decode cX8_wind 113 = .ok (.iload 4, 2) := by decide +kernel
theorem dX8_wind_115 : decode cX8_wind 115 = .ok (.istore 7, 2) := by decide +kernel
theorem dX8_wind_117 : decode cX8_wind 117 = .ok (.aload_n 0, 1) := by decide +kernel
theorem dX8_wind_118 : decode cX8_wind 118 = .ok (.iload_n 1, 1) := by decide +kernel
theorem dX8_wind_119 : decode cX8_wind 119 = .ok (.iconst 0, 1) := by decide +kernel
theorem dX8_wind_120 : decode cX8_wind 120 = .ok (.iload_n 2, 1) := by decide +kernel
theorem dX8_wind_121 : decode cX8_wind 121 = .ok (.iconst 1, 1) := by decide +kernel
theorem dX8_wind_122 : decode cX8_wind 122 = .ok (.aload_n 0, 1) := by decide +kernel
theorem dX8_wind_123 : decode cX8_wind 123 = .ok (.getfield 139, 3) := by decide +kernel
theorem dX8_wind_126 : decode cX8_wind 126 = .ok (.invokevirtual 205, 3) := by decide +kernel
theorem dX8_wind_129 : decode cX8_wind 129 = .ok (.bipush (-9), 2) := by decide +kernel
theorem dX8_wind_131 : decode cX8_wind 131 = .ok (.if_icmp .ne 7, 3) := by decide +kernel
theorem dX8_wind_134 : decode cX8_wind 134 = .ok (.iconst 0, 1) := by decide +kernel
theorem dX8_wind_135 : decode cX8_wind 135 = .ok (.goto 10, 3) := by decide +kernel
theorem dX8_wind_138 : decode cX8_wind 138 = .ok (.bipush 10, 2) := by decide +kernel
theorem dX8_wind_140 : decode cX8_wind 140 = .ok (.iload_n 3, 1) := by decide +kernel
theorem dX8_wind_141 : decode cX8_wind 141 = .ok (.isub, 1) := by decide +kernel
theorem dX8_wind_142 : decode cX8_wind 142 = .ok (.iload 4, 2) := by decide +kernel
theorem dX8_wind_144 : decode cX8_wind 144 = .ok (.isub, 1) := by decide +kernel
theorem dX8_wind_145 : decode cX8_wind 145 = .ok (.istore 8, 2) := by decide +kernel
theorem dX8_wind_147 : decode cX8_wind 147 = .ok (.iload 6, 2) := by decide +kernel
theorem dX8_wind_149 : decode cX8_wind 149 = .ok (.iload 7, 2) := by decide +kernel
theorem dX8_wind_151 : decode cX8_wind 151 = .ok (.iadd, 1) := by decide +kernel
theorem dX8_wind_152 : decode cX8_wind 152 = .ok (.iload 8, 2) := by decide +kernel
theorem dX8_wind_154 : decode cX8_wind 154 = .ok (.iadd, 1) := by decide +kernel
theorem dX8_wind_155 : decode cX8_wind 155 = .ok (.i2l, 1) := by decide +kernel
theorem dX8_wind_156 : decode cX8_wind 156 = .ok (.ldc2_w 227, 3) := by decide +kernel
theorem dX8_wind_159 : decode cX8_wind 159 = .ok (.iload 5, 2) := by decide +kernel
theorem dX8_wind_161 : decode cX8_wind 161 = .ok (.invokestatic 234, 3) := by decide +kernel
theorem dX8_wind_164 : decode cX8_wind 164 = .ok (.ireturn, 1) := by decide +kernel
theorem dX8_seed_0 : decode cX8_seed 0 = .ok (.aload_n 0, 1) := by decide +kernel
theorem dX8_seed_1 : decode cX8_seed 1 = .ok (.iconst 0, 1) := by decide +kernel
theorem dX8_seed_2 : decode cX8_seed 2 = .ok (.putfield 67, 3) := by decide +kernel
theorem dX8_seed_5 : decode cX8_seed 5 = .ok (.aload_n 0, 1) := by decide +kernel
theorem dX8_seed_6 : decode cX8_seed 6 = .ok (.getfield 240, 3) := by decide +kernel
theorem dX8_seed_9 : decode cX8_seed 9 = .ok (.lstore_n 3, 1) := by decide +kernel
theorem dX8_seed_10 : decode cX8_seed 10 = .ok (.aload_n 0, 1) := by decide +kernel
theorem dX8_seed_11 : decode cX8_seed 11 = .ok (.lload_n 1, 1) := by decide +kernel
theorem dX8_seed_12 : decode cX8_seed 12 = .ok (.putfield 240, 3) := by decide +kernel
theorem dX8_seed_15 : decode cX8_seed 15 = .ok (.lload_n 3, 1) := by decide +kernel
theorem dX8_seed_16 : decode cX8_seed 16 = .ok (.lreturn, 1) := by decide +kernel
theorem dX8_fog_0 : decode cX8_fog 0 = .ok (.aload_n 0, 1) := by decide +kernel
theorem dX8_fog_1 : decode cX8_fog 1 = .ok (.iconst 0, 1) := by decide +kernel
theorem dX8_fog_2 : decode cX8_fog 2 = .ok (.putfield 67, 3) := by decide +kernel
theorem dX8_fog_5 : decode cX8_fog 5 = .ok (.aload_n 0, 1) := by decide +kernel
theorem dX8_fog_6 : decode cX8_fog 6 = .ok (.iload_n 1, 1) := by decide +kernel
theorem dX8_fog_7 : decode cX8_fog 7 = .ok (.invokevirtual 174, 3) := by decide +kernel
theorem dX8_fog_10 : decode cX8_fog 10 = .ok (.ifCond .eq 5, 3) := by decide +kernel
theorem dX8_fog_13 : decode cX8_fog 13 = .ok (.iconst (-1), 1) := by decide +kernel
theorem dX8_fog_14 : decode cX8_fog 14 = .ok (.ireturn, 1) := by decide +kernel
theorem dX8_fog_15 : decode cX8_fog 15 = .ok (.iload_n 2, 1) := by decide +kernel
theorem dX8_fog_16 : decode cX8_fog 16 = .ok (.i2l, 1) := by decide +kernel
theorem dX8_fog_17 : decode cX8_fog 17 = .ok (.lconst 0, 1) := by decide +kernel
theorem dX8_fog_18 : decode cX8_fog 18 = .ok (.ldc2_w 177, 3) := by decide +kernel
theorem dX8_fog_21 : decode cX8_fog 21 = .ok (.invokestatic 73, 3) := by decide +kernel
theorem dX8_fog_24 : decode cX8_fog 24 = .ok (.ifCond .eq 23, 3) := by decide +kernel
theorem dX8_fog_27 : decode cX8_fog 27 = .ok (.iload_n 3, 1) := by decide +kernel
theorem dX8_fog_28 : decode cX8_fog 28 = .ok (.i2l, 1) := by decide +kernel
theorem dX8_fog_29 : decode cX8_fog 29 = .ok (.lconst 1, 1) := by decide +kernel
theorem dX8_fog_30 : decode cX8_fog 30 = .ok (.ldc2_w 244, 3) := by decide +kernel
theorem dX8_fog_33 : decode cX8_fog 33 = .ok (.invokestatic 73, 3) := by decide +kernel
theorem dX8_fog_36 : decode cX8_fog 36 = .ok (.ifCond .eq 11, 3) := by decide +kernel
theorem dX8_fog_39 : decode cX8_fog 39 = .ok (.iload_n 2, 1) := by decide +kernel
theorem dX8_fog_40 : decode cX8_fog 40 = .ok (.iload_n 3, 1) := by decide +kernel
theorem dX8_fog_41 : decode cX8_fog 41 = .ok (.iadd, 1) := by decide +kernel
theorem dX8_fog_42 : decode cX8_fog 42 = .ok (.bipush 40, 2) := by decide +kernel
theorem dX8_fog_44 : decode cX8_fog 44 = .ok (.if_icmp .le 6, 3) := by decide +kernel
theorem dX8_fog_47 : decode cX8_fog 47 = .ok (.bipush (-2), 2) := by decide +kernel
theorem dX8_fog_49 : decode cX8_fog 49 = .ok (.ireturn, 1) := by decide +kernel
theorem dX8_fog_50 : decode cX8_fog 50 = .ok (.aload_n 0, 1) := by decide +kernel
theorem dX8_fog_51 : decode cX8_fog 51 = .ok (.aload_n 0, 1) := by decide +kernel
theorem dX8_fog_52 : decode cX8_fog 52 = .ok (.getfield 139, 3) := by decide +kernel
theorem dX8_fog_55 : decode cX8_fog 55 = .ok (.putfield 182, 3) := by decide +kernel
theorem dX8_fog_58 : decode cX8_fog 58 = .ok (.aload_n 0, 1) := by decide +kernel
theorem dX8_fog_59 : decode cX8_fog 59 = .ok (.iconst 0, 1) := by decide +kernel
theorem dX8_fog_60 : decode cX8_fog 60 = .ok (.putfield 179, 3) := by decide +kernel
theorem dX8_fog_63 : decode cX8_fog 63 = .ok (.aload_n 0, 1) := by decide +kernel
theorem dX8_fog_64 : decode cX8_fog 64 = .ok (.iconst 0, 1) := by decide +kernel
theorem dX8_fog_65 : decode cX8_fog 65 = .ok (.putfield 193, 3) := by decide +kernel
theorem dX8_fog_68 : decode cX8_fog 68 = .ok (.iconst 0, 1) := by decide +kernel
theorem dX8_fog_69 : decode cX8_fog 69 = .ok (.istore 4, 2) := by decide +kernel
theorem dX8_fog_71 : decode cX8_fog 71 = .ok (.iload 4, 2) := by decide +kernel
theorem dX8_fog_73 : decode cX8_fog 73 = .ok (.iload_n 3, 1) := by decide +kernel
theorem dX8_fog_74 : decode cX8_fog 74 = .ok (.if_icmp .ge 62, 3) := by decide +kernel
theorem dX8_fog_77 : decode cX8_fog 77 = .ok (.aload_n 0, 1) := by decide +kernel
theorem dX8_fog_78 : decode cX8_fog 78 = .ok (.getfield 193, 3) := by decide +kernel
theorem dX8_fog_81 : decode cX8_fog 81 = .ok (.ifCond .ne 55, 3) := by decide +kernel
theorem dX8_fog_84 : decode cX8_fog 84 = .ok (.aload_n 0, 1) := by decide +kernel
theorem dX8_fog_85 : decode cX8_fog 85 = .ok (.aload_n 0, 1) := by decide +kernel
theorem dX8_fog_86 : decode cX8_fog 86 = .ok (.getfield 240, 3) := by decide +kernel
theorem dX8_fog_89 : decode cX8_fog 89 = .ok (.ldc2_w 246, 3) := by decide +kernel
theorem dX8_fog_92 : decode cX8_fog 92 = .ok (.lmul, 1) := by decide +kernel
theorem dX8_fog_93 : decode cX8_fog 93 = .ok (.ldc2_w 248, 3) := by decide +kernel
theorem dX8_fog_96 : decode cX8_fog 96 = .ok (.ladd, 1) := by decide +kernel
theorem dX8_fog_97 : decode cX8_fog 97 = .ok (.putfield 240, 3) := by decide +kernel
theorem dX8_fog_100 : decode cX8_fog 100 = .ok (.aload_n 0, 1) := by decide +kernel
theorem dX8_fog_101 : decode cX8_fog 101 = .ok (.iload_n 1, 1) := by decide +kernel
theorem dX8_fog_102 : decode cX8_fog 102 = .ok (.aload_n 0, 1) := by decide +kernel
theorem dX8_fog_103 : decode cX8_fog 103 = .ok (.getfield 240, 3) := by decide +kernel
theorem dX8_fog_106 : decode cX8_fog 106 = .ok (.bipush 33, 2) := by decide +kernel
theorem dX8_fog_108 : decode cX8_fog 108 = .ok (.lushr, 1) := by decide +kernel
theorem dX8_fog_109 : decode cX8_fog 109 = .ok (.ldc2_w 250, 3) := by decide +kernel
theorem dX8_fog_112 : decode cX8_fog 112 = .ok (.lrem, 1) := by decide +kernel
theorem dX8_fog_113 : decode cX8_fog 113 = .ok (.lconst 0, 1) := by decide +kernel
theorem dX8_fog_114 : decode cX8_fog 114 = .ok (.lcmp, 1) := by decide +kernel
theorem dX8_fog_115 : decode cX8_fog 115 = .ok (.ifCond .ne 7, 3) := by decide +kernel
theorem dX8_fog_118 : decode cX8_fog 118 = .ok (.iconst 2, 1) := by decide +kernel
theorem dX8_fog_119 : decode cX8_fog 119 = .ok (.goto 4, 3) := by decide +kernel
theorem dX8_fog_122 : decode cX8_fog 122 = .ok (.iconst 1, 1) := by decide +kernel
theorem dX8_fog_123 : decode cX8_fog 123 = .ok (.iload_n 2, 1) := by decide +kernel
theorem dX8_fog_124 : decode cX8_fog 124 = .ok (.iload 4, 2) := by decide +kernel
theorem dX8_fog_126 : decode cX8_fog 126 = .ok (.iadd, 1) := by decide +kernel
theorem dX8_fog_127 : decode cX8_fog 127 = .ok (.invokevirtual 201, 3) := by decide +kernel
theorem dX8_fog_130 : decode cX8_fog 130 = .ok (.iinc 4 1, 3) := by decide +kernel
theorem dX8_fog_133 : decode cX8_fog 133 = .ok (.goto (-62), 3) := by decide +kernel
theorem dX8_fog_136 : decode cX8_fog 136 = .ok (.aload_n 0, 1) := by decide +kernel
theorem dX8_fog_137 : decode cX8_fog 137 = .ok (.getfield 193, 3) := by decide +kernel
theorem dX8_fog_140 : decode cX8_fog 140 = .ok (.iconst 2, 1) := by decide +kernel
theorem dX8_fog_141 : decode cX8_fog 141 = .ok (.if_icmp .eq 11, 3) := by decide +kernel
theorem dX8_fog_144 : decode cX8_fog 144 = .ok (.aload_n 0, 1) := by decide +kernel
theorem dX8_fog_145 : decode cX8_fog 145 = .ok (.getfield 193, 3) := by decide +kernel
theorem dX8_fog_148 : decode cX8_fog 148 = .ok (.iconst 3, 1) := by decide +kernel
theorem dX8_fog_149 : decode cX8_fog 149 = .ok (.if_icmp .ne 8, 3) := by decide +kernel
theorem dX8_fog_152 : decode cX8_fog 152 = .ok (.bipush (-9), 2) := by decide +kernel
theorem dX8_fog_154 : decode cX8_fog 154 = .ok (.goto 7, 3) := by decide +kernel
theorem dX8_fog_157 : decode cX8_fog 157 = .ok (.aload_n 0, 1) := by decide +kernel
theorem dX8_fog_158 : decode cX8_fog 158 = .ok (.getfield 179, 3) := by decide +kernel
theorem dX8_fog_161 : decode cX8_fog 161 = .ok (.ireturn, 1) := by decide +kernel
theorem dX8_keep_0 : decode cX8_keep 0 = .ok (.aload_n 0, 1) := by decide +kernel
theorem dX8_keep_1 : decode cX8_keep 1 = .ok (.iconst 0, 1) := by decide +kernel
theorem dX8_keep_2 : decode cX8_keep 2 = .ok (.putfield 67, 3) := by decide +kernel
theorem dX8_keep_5 : decode cX8_keep 5 = .ok (.iload_n 1, 1) := by decide +kernel
theorem dX8_keep_6 : decode cX8_keep 6 = .ok (.i2l, 1) := by decide +kernel
theorem dX8_keep_7 : decode cX8_keep 7 = .ok (.lconst 0, 1) := by decide +kernel
theorem dX8_keep_8 : decode cX8_keep 8 = .ok (.lconst 1, 1) := by decide +kernel
theorem dX8_keep_9 : decode cX8_keep 9 = .ok (.invokestatic 73, 3) := by decide +kernel
theorem dX8_keep_12 : decode cX8_keep 12 = .ok (.ifCond .ne 5, 3) := by decide +kernel
theorem dX8_keep_15 : decode cX8_keep 15 = .ok (.iconst (-1), 1) := by decide +kernel
theorem dX8_keep_16 : decode cX8_keep 16 = .ok (.ireturn, 1) := by decide +kernel
theorem dX8_keep_17 : decode cX8_keep 17 = .ok (.aload_n 0, 1) := by decide +kernel
theorem dX8_keep_18 : decode cX8_keep 18 = .ok (.getfield 56, 3) := by decide +kernel
theorem dX8_keep_21 : decode cX8_keep 21 = .ok (.iload_n 1, 1) := by decide +kernel
theorem dX8_keep_22 : decode cX8_keep 22 = .ok (.iconst 1, 1) := by decide +kernel
theorem dX8_keep_23 : decode cX8_keep 23 = .ok (.bastore, 1) := by decide +kernel
theorem dX8_keep_24 : decode cX8_keep 24 = .ok (.iconst 0, 1) := by decide +kernel
theorem dX8_keep_25 : decode cX8_keep 25 = .ok (.istore_n 2, 1) := by decide +kernel
theorem dX8_keep_26 : decode cX8_keep 26 = .ok (.iload_n 2, 1) := by decide +kernel
theorem dX8_keep_27 : decode cX8_keep 27 = .ok (.bipush 16, 2) := by decide +kernel
theorem dX8_keep_29 : decode cX8_keep 29 = .ok (.if_icmp .ge 26, 3) := by decide +kernel
theorem dX8_keep_32 : decode cX8_keep 32 = .ok (.aload_n 0, 1) := by decide +kernel
theorem dX8_keep_33 : decode cX8_keep 33 = .ok (.getfield 53, 3) := by decide +kernel
theorem dX8_keep_36 : decode cX8_keep 36 = .ok (.bipush 16, 2) := by decide +kernel
theorem dX8_keep_38 : decode cX8_keep 38 = .ok (.iload_n 1, 1) := by decide +kernel
theorem dX8_keep_39 : decode cX8_keep 39 = .ok (.imul, 1) := by decide +kernel
theorem dX8_keep_40 : decode cX8_keep 40 = .ok (.iload_n 2, 1) := by decide +kernel
theorem dX8_keep_41 : decode cX8_keep 41 = .ok (.iadd, 1) := by decide +kernel
theorem dX8_keep_42 : decode cX8_keep 42 = .ok (.aload_n 0, 1) := by decide +kernel
theorem dX8_keep_43 : decode cX8_keep 43 = .ok (.getfield 47, 3) := by decide +kernel
theorem dX8_keep_46 : decode cX8_keep 46 = .ok (.iload_n 2, 1) := by decide +kernel
theorem dX8_keep_47 : decode cX8_keep 47 = .ok (.iaload, 1) := by decide +kernel
theorem dX8_keep_48 : decode cX8_keep 48 = .ok (.iastore, 1) := by decide +kernel
theorem dX8_keep_49 : decode cX8_keep 49 = .ok (.iinc 2 1, 3) := by decide +kernel
theorem dX8_keep_52 : decode cX8_keep 52 = .ok (.goto (-26), 3) := by decide +kernel
theorem dX8_keep_55 : decode cX8_keep 55 = .ok (.aload_n 0, 1) := by decide +kernel
theorem dX8_keep_56 : decode cX8_keep 56 = .ok (.getfield 47, 3) := by decide +kernel
theorem dX8_keep_59 : decode cX8_keep 59 = .ok (.bipush 15, 2) := by decide +kernel
theorem dX8_keep_61 : decode cX8_keep 61 = .ok (.iaload, 1) := by decide +kernel
theorem dX8_keep_62 : decode cX8_keep 62 = .ok (.ireturn, 1) := by decide +kernel
theorem dX8_again_0 : decode cX8_again 0 = .ok (.aload_n 0, 1) := by decide +kernel
theorem dX8_again_1 : decode cX8_again 1 = .ok (.iconst 0, 1) := by decide +kernel
theorem dX8_again_2 : decode cX8_again 2 = .ok (.putfield 67, 3) := by decide +kernel
theorem dX8_again_5 : decode cX8_again 5 = .ok (.iload_n 1, 1) := by decide +kernel
theorem dX8_again_6 : decode cX8_again 6 = .ok (.i2l, 1) := by decide +kernel
theorem dX8_again_7 : decode cX8_again 7 = .ok (.lconst 0, 1) := by decide +kernel
theorem dX8_again_8 : decode cX8_again 8 = .ok (.lconst 1, 1) := by decide +kernel
theorem dX8_again_9 : decode cX8_again 9 = .ok (.invokestatic 73, 3) := by decide +kernel
theorem dX8_again_12 : decode cX8_again 12 = .ok (.ifCond .ne 5, 3) := by decide +kernel
theorem dX8_again_15 : decode cX8_again 15 = .ok (.iconst (-1), 1) := by decide +kernel
theorem dX8_again_16 : decode cX8_again 16 = .ok (.ireturn, 1) := by decide +kernel
theorem dX8_again_17 : decode cX8_again 17 = .ok (.aload_n 0, 1) := by decide +kernel
theorem dX8_again_18 : decode cX8_again 18 = .ok (.getfield 56, 3) := by decide +kernel
theorem dX8_again_21 : decode cX8_again 21 = .ok (.iload_n 1, 1) := by decide +kernel
theorem dX8_again_22 : decode cX8_again 22 = .ok (.baload, 1) := by decide +kernel
theorem dX8_again_23 : decode cX8_again 23 = .ok (.ifCond .ne 6, 3) := by decide +kernel
theorem dX8_again_26 : decode cX8_again 26 = .ok (.bipush (-3), 2) := by decide +kernel
theorem dX8_again_28 : decode cX8_again 28 = .ok (.ireturn, 1) := by decide +kernel
theorem dX8_again_29 : decode cX8_again 29 = .ok (.iconst 0, 1) := by decide +kernel
theorem dX8_again_30 : decode cX8_again 30 = .ok (.istore_n 2, 1) := by decide +kernel
theorem dX8_again_31 : decode cX8_again 31 = .ok (.iload_n 2, 1) := by decide +kernel
theorem dX8_again_32 : decode cX8_again 32 = .ok (.bipush 16, 2) := by decide +kernel
theorem dX8_again_34 : decode cX8_again 34 = .ok (.if_icmp .ge 26, 3) := by decide +kernel
theorem dX8_again_37 : decode cX8_again 37 = .ok (.aload_n 0, 1) := by decide +kernel
theorem dX8_again_38 : decode cX8_again 38 = .ok (.getfield 47, 3) := by decide +kernel
theorem dX8_again_41 : decode cX8_again 41 = .ok (.iload_n 2, 1) := by decide +kernel
theorem dX8_again_42 : decode cX8_again 42 = .ok (.aload_n 0, 1) := by decide +kernel
theorem dX8_again_43 : decode cX8_again 43 = .ok (.getfield 53, 3) := by decide +kernel
theorem dX8_again_46 : decode cX8_again 46 = .ok (.bipush 16, 2) := by decide +kernel
theorem dX8_again_48 : decode cX8_again 48 = .ok (.iload_n 1, 1) := by decide +kernel
theorem dX8_again_49 : decode cX8_again 49 = .ok (.imul, 1) := by decide +kernel
theorem dX8_again_50 : decode cX8_again 50 = .ok (.iload_n 2, 1) := by decide +kernel
theorem dX8_again_51 : decode cX8_again 51 = .ok (.iadd, 1) := by decide +kernel
theorem dX8_again_52 : decode cX8_again 52 = .ok (.iaload, 1) := by decide +kernel
theorem dX8_again_53 : decode cX8_again 53 = .ok (.iastore, 1) := by decide +kernel
theorem dX8_again_54 : decode cX8_again 54 = .ok (.iinc 2 1, 3) := by decide +kernel
theorem dX8_again_57 : decode cX8_again 57 = .ok (.goto (-26), 3) := by decide +kernel
theorem dX8_again_60 : decode cX8_again 60 = .ok (.aload_n 0, 1) := by decide +kernel
theorem dX8_again_61 : decode cX8_again 61 = .ok (.iconst 0, 1) := by decide +kernel
theorem dX8_again_62 : decode cX8_again 62 = .ok (.putfield 151, 3) := by decide +kernel
theorem dX8_again_65 : decode cX8_again 65 = .ok (.aload_n 0, 1) := by decide +kernel
theorem dX8_again_66 : decode cX8_again 66 = .ok (.getfield 47, 3) := by decide +kernel
theorem dX8_again_69 : decode cX8_again 69 = .ok (.bipush 15, 2) := by decide +kernel
theorem dX8_again_71 : decode cX8_again 71 = .ok (.iaload, 1) := by decide +kernel
theorem dX8_again_72 : decode cX8_again 72 = .ok (.ireturn, 1) := by decide +kernel
end
section
theorem dL_law_0 : decode cL_law 0 = .ok (.new 7, 3) := by decide +kernel
theorem dL_law_3 : decode cL_law 3 = .ok (.dup, 1) := by decide +kernel
theorem dL_law_4 : decode cL_law 4 = .ok (.invokespecial 9, 3) := by decide +kernel
theorem dL_law_7 : decode cL_law 7 = .ok (.astore_n 1, 1) := by decide +kernel
theorem dL_law_8 : decode cL_law 8 = .ok (.new 10, 3) := by decide +kernel
theorem dL_law_11 : decode cL_law 11 = .ok (.dup, 1) := by decide +kernel
theorem dL_law_12 : decode cL_law 12 = .ok (.invokespecial 12, 3) := by decide +kernel
theorem dL_law_15 : decode cL_law 15 = .ok (.astore_n 2, 1) := by decide +kernel
theorem dL_law_16 : decode cL_law 16 = .ok (.iconst 0, 1) := by decide +kernel
theorem dL_law_17 : decode cL_law 17 = .ok (.istore_n 3, 1) := by decide +kernel
theorem dL_law_18 : decode cL_law 18 = .ok (.iload_n 3, 1) := by decide +kernel
theorem dL_law_19 : decode cL_law 19 = .ok (.aload_n 0, 1) := by decide +kernel
theorem dL_law_20 : decode cL_law 20 = .ok (.arraylength, 1) := by decide +kernel
theorem dL_law_21 : decode cL_law 21 = .ok (.bipush 7, 2) := by decide +kernel
theorem dL_law_23 : decode cL_law 23 = .ok (.isub, 1) := by decide +kernel
theorem dL_law_24 : decode cL_law 24 = .ok (.if_icmp .gt 1037, 3) := by decide +kernel
theorem dL_law_27 : decode cL_law 27 = .ok (.aload_n 0, 1) := by decide +kernel
theorem dL_law_28 : decode cL_law 28 = .ok (.iload_n 3, 1) := by decide +kernel
theorem dL_law_29 : decode cL_law 29 = .ok (.iaload, 1) := by decide +kernel
theorem dL_law_30 : decode cL_law 30 = .ok (.bipush 31, 2) := by decide +kernel
theorem dL_law_32 : decode cL_law 32 = .ok (.iand, 1) := by decide +kernel
theorem dL_law_33 : decode cL_law 33 = .ok (.tableswitch 1022 0 27 #[127, 150, 163, 176, 189, 212, 245, 278, 311, 344, 357, 380, 393, 446, 469, 502, 525, 548, 591, 604, 627, 640, 731, 800, 879, 933, 976, 999], 127) := by decide +kernel
theorem dL_law_160 : decode cL_law 160 = .ok (.aload_n 1, 1) := by decide +kernel
theorem dL_law_161 : decode cL_law 161 = .ok (.aload_n 0, 1) := by decide +kernel
theorem dL_law_162 : decode cL_law 162 = .ok (.iload_n 3, 1) := by decide +kernel
theorem dL_law_163 : decode cL_law 163 = .ok (.iconst 1, 1) := by decide +kernel
theorem dL_law_164 : decode cL_law 164 = .ok (.iadd, 1) := by decide +kernel
theorem dL_law_165 : decode cL_law 165 = .ok (.iaload, 1) := by decide +kernel
theorem dL_law_166 : decode cL_law 166 = .ok (.invokevirtual 13, 3) := by decide +kernel
theorem dL_law_169 : decode cL_law 169 = .ok (.aload_n 2, 1) := by decide +kernel
theorem dL_law_170 : decode cL_law 170 = .ok (.aload_n 0, 1) := by decide +kernel
theorem dL_law_171 : decode cL_law 171 = .ok (.iload_n 3, 1) := by decide +kernel
theorem dL_law_172 : decode cL_law 172 = .ok (.iconst 1, 1) := by decide +kernel
theorem dL_law_173 : decode cL_law 173 = .ok (.iadd, 1) := by decide +kernel
theorem dL_law_174 : decode cL_law 174 = .ok (.iaload, 1) := by decide +kernel
theorem dL_law_175 : decode cL_law 175 = .ok (.invokevirtual 17, 3) := by decide +kernel
theorem dL_law_178 : decode cL_law 178 = .ok (.if_icmp .eq 877, 3) := by decide +kernel
theorem dL_law_181 : decode cL_law 181 = .ok (.iconst 0, 1) := by decide +kernel
theorem dL_law_182 : decode cL_law 182 = .ok (.ireturn, 1) := by decide +kernel
theorem dL_law_183 : decode cL_law 183 = .ok (.aload_n 1, 1) := by decide +kernel
theorem dL_law_184 : decode cL_law 184 = .ok (.invokevirtual 18, 3) := by decide +kernel
theorem dL_law_187 : decode cL_law 187 = .ok (.aload_n 2, 1) := by decide +kernel
theorem dL_law_188 : decode cL_law 188 = .ok (.invokevirtual 22, 3) := by decide +kernel
theorem dL_law_191 : decode cL_law 191 = .ok (.if_icmp .eq 864, 3) := by decide +kernel
theorem dL_law_194 : decode cL_law 194 = .ok (.iconst 0, 1) := by decide +kernel
theorem dL_law_195 : decode cL_law 195 = .ok (.ireturn, 1) := by decide +kernel
theorem dL_law_196 : decode cL_law 196 = .ok (.aload_n 1, 1) := by decide +kernel
theorem dL_law_197 : decode cL_law 197 = .ok (.invokevirtual 23, 3) := by decide +kernel
theorem dL_law_200 : decode cL_law 200 = .ok (.aload_n 2, 1) := by decide +kernel
theorem dL_law_201 : decode cL_law 201 = .ok (.invokevirtual 26, 3) := by decide +kernel
theorem dL_law_204 : decode cL_law 204 = .ok (.if_icmp .eq 851, 3) := by decide +kernel
theorem dL_law_207 : decode cL_law 207 = .ok (.iconst 0, 1) := by decide +kernel
theorem dL_law_208 : decode cL_law 208 = .ok (.ireturn, 1) := by decide +kernel
theorem dL_law_209 : decode cL_law 209 = .ok (.aload_n 1, 1) := by decide +kernel
theorem dL_law_210 : decode cL_law 210 = .ok (.invokevirtual 27, 3) := by decide +kernel
theorem dL_law_213 : decode cL_law 213 = .ok (.aload_n 2, 1) := by decide +kernel
theorem dL_law_214 : decode cL_law 214 = .ok (.invokevirtual 30, 3) := by decide +kernel
theorem dL_law_217 : decode cL_law 217 = .ok (.if_icmp .eq 838, 3) := by decide +kernel
theorem dL_law_220 : decode cL_law 220 = .ok (.iconst 0, 1) := by decide +kernel
theorem dL_law_221 : decode cL_law 221 = .ok (.ireturn, 1) := by decide +kernel
theorem dL_law_222 : decode cL_law 222 = .ok (.aload_n 1, 1) := by decide +kernel
theorem dL_law_223 : decode cL_law 223 = .ok (.aload_n 0, 1) := by decide +kernel
theorem dL_law_224 : decode cL_law 224 = .ok (.iload_n 3, 1) := by decide +kernel
theorem dL_law_225 : decode cL_law 225 = .ok (.iconst 1, 1) := by decide +kernel
theorem dL_law_226 : decode cL_law 226 = .ok (.iadd, 1) := by decide +kernel
theorem dL_law_227 : decode cL_law 227 = .ok (.iaload, 1) := by decide +kernel
theorem dL_law_228 : decode cL_law 228 = .ok (.invokevirtual 31, 3) := by decide +kernel
theorem dL_law_231 : decode cL_law 231 = .ok (.aload_n 2, 1) := by decide +kernel
theorem dL_law_232 : decode cL_law 232 = .ok (.aload_n 0, 1) := by decide +kernel
theorem dL_law_233 : decode cL_law 233 = .ok (.iload_n 3, 1) := by decide +kernel
theorem dL_law_234 : decode cL_law 234 = .ok (.iconst 1, 1) := by decide +kernel
theorem dL_law_235 : decode cL_law 235 = .ok (.iadd, 1) := by decide +kernel
theorem dL_law_236 : decode cL_law 236 = .ok (.iaload, 1) := by decide +kernel
theorem dL_law_237 : decode cL_law 237 = .ok (.invokevirtual 34, 3) := by decide +kernel
theorem dL_law_240 : decode cL_law 240 = .ok (.if_icmp .eq 815, 3) := by decide +kernel
theorem dL_law_243 : decode cL_law 243 = .ok (.iconst 0, 1) := by decide +kernel
theorem dL_law_244 : decode cL_law 244 = .ok (.ireturn, 1) := by decide +kernel
theorem dL_law_245 : decode cL_law 245 = .ok (.aload_n 1, 1) := by decide +kernel
theorem dL_law_246 : decode cL_law 246 = .ok (.aload_n 0, 1) := by decide +kernel
theorem dL_law_247 : decode cL_law 247 = .ok (.iload_n 3, 1) := by decide +kernel
theorem dL_law_248 : decode cL_law 248 = .ok (.iconst 1, 1) := by decide +kernel
theorem dL_law_249 : decode cL_law 249 = .ok (.iadd, 1) := by decide +kernel
theorem dL_law_250 : decode cL_law 250 = .ok (.iaload, 1) := by decide +kernel
theorem dL_law_251 : decode cL_law 251 = .ok (.aload_n 0, 1) := by decide +kernel
theorem dL_law_252 : decode cL_law 252 = .ok (.iload_n 3, 1) := by decide +kernel
theorem dL_law_253 : decode cL_law 253 = .ok (.iconst 2, 1) := by decide +kernel
theorem dL_law_254 : decode cL_law 254 = .ok (.iadd, 1) := by decide +kernel
theorem dL_law_255 : decode cL_law 255 = .ok (.iaload, 1) := by decide +kernel
theorem dL_law_256 : decode cL_law 256 = .ok (.invokevirtual 35, 3) := by decide +kernel
theorem dL_law_259 : decode cL_law 259 = .ok (.aload_n 2, 1) := by decide +kernel
theorem dL_law_260 : decode cL_law 260 = .ok (.aload_n 0, 1) := by decide +kernel
theorem dL_law_261 : decode cL_law 261 = .ok (.iload_n 3, 1) := by decide +kernel
theorem dL_law_262 : decode cL_law 262 = .ok (.iconst 1, 1) := by decide +kernel
theorem dL_law_263 : decode cL_law 263 = .ok (.iadd, 1) := by decide +kernel
theorem dL_law_264 : decode cL_law 264 = .ok (.iaload, 1) := by decide +kernel
theorem dL_law_265 : decode cL_law 265 = .ok (.aload_n 0, 1) := by decide +kernel
theorem dL_law_266 : decode cL_law 266 = .ok (.iload_n 3, 1) := by decide +kernel
theorem dL_law_267 : decode cL_law 267 = .ok (.iconst 2, 1) := by decide +kernel
theorem dL_law_268 : decode cL_law 268 = .ok (.iadd, 1) := by decide +kernel
theorem dL_law_269 : decode cL_law 269 = .ok (.iaload, 1) := by decide +kernel
theorem dL_law_270 : decode cL_law 270 = .ok (.invokevirtual 39, 3) := by decide +kernel
theorem dL_law_273 : decode cL_law 273 = .ok (.if_icmp .eq 782, 3) := by decide +kernel
theorem dL_law_276 : decode cL_law 276 = .ok (.iconst 0, 1) := by decide +kernel
theorem dL_law_277 : decode cL_law 277 = .ok (.ireturn, 1) := by decide +kernel
theorem dL_law_278 : decode cL_law 278 = .ok (.aload_n 1, 1) := by decide +kernel
theorem dL_law_279 : decode cL_law 279 = .ok (.aload_n 0, 1) := by decide +kernel
theorem dL_law_280 : decode cL_law 280 = .ok (.iload_n 3, 1) := by decide +kernel
theorem dL_law_281 : decode cL_law 281 = .ok (.iconst 1, 1) := by decide +kernel
theorem dL_law_282 : decode cL_law 282 = .ok (.iadd, 1) := by decide +kernel
theorem dL_law_283 : decode cL_law 283 = .ok (.iaload, 1) := by decide +kernel
theorem dL_law_284 : decode cL_law 284 = .ok (.aload_n 0, 1) := by decide +kernel
theorem dL_law_285 : decode cL_law 285 = .ok (.iload_n 3, 1) := by decide +kernel
theorem dL_law_286 : decode cL_law 286 = .ok (.iconst 2, 1) := by decide +kernel
theorem dL_law_287 : decode cL_law 287 = .ok (.iadd, 1) := by decide +kernel
theorem dL_law_288 : decode cL_law 288 = .ok (.iaload, 1) := by decide +kernel
theorem dL_law_289 : decode cL_law 289 = .ok (.invokevirtual 40, 3) := by decide +kernel
theorem dL_law_292 : decode cL_law 292 = .ok (.aload_n 2, 1) := by decide +kernel
theorem dL_law_293 : decode cL_law 293 = .ok (.aload_n 0, 1) := by decide +kernel
theorem dL_law_294 : decode cL_law 294 = .ok (.iload_n 3, 1) := by decide +kernel
theorem dL_law_295 : decode cL_law 295 = .ok (.iconst 1, 1) := by decide +kernel
theorem dL_law_296 : decode cL_law 296 = .ok (.iadd, 1) := by decide +kernel
theorem dL_law_297 : decode cL_law 297 = .ok (.iaload, 1) := by decide +kernel
theorem dL_law_298 : decode cL_law 298 = .ok (.aload_n 0, 1) := by decide +kernel
theorem dL_law_299 : decode cL_law 299 = .ok (.iload_n 3, 1) := by decide +kernel
theorem dL_law_300 : decode cL_law 300 = .ok (.iconst 2, 1) := by decide +kernel
theorem dL_law_301 : decode cL_law 301 = .ok (.iadd, 1) := by decide +kernel
theorem dL_law_302 : decode cL_law 302 = .ok (.iaload, 1) := by decide +kernel
theorem dL_law_303 : decode cL_law 303 = .ok (.invokevirtual 43, 3) := by decide +kernel
theorem dL_law_306 : decode cL_law 306 = .ok (.if_icmp .eq 749, 3) := by decide +kernel
theorem dL_law_309 : decode cL_law 309 = .ok (.iconst 0, 1) := by decide +kernel
theorem dL_law_310 : decode cL_law 310 = .ok (.ireturn, 1) := by decide +kernel
theorem dL_law_311 : decode cL_law 311 = .ok (.aload_n 1, 1) := by decide +kernel
theorem dL_law_312 : decode cL_law 312 = .ok (.aload_n 0, 1) := by decide +kernel
theorem dL_law_313 : decode cL_law 313 = .ok (.iload_n 3, 1) := by decide +kernel
theorem dL_law_314 : decode cL_law 314 = .ok (.iconst 1, 1) := by decide +kernel
theorem dL_law_315 : decode cL_law 315 = .ok (.iadd, 1) := by decide +kernel
theorem dL_law_316 : decode cL_law 316 = .ok (.iaload, 1) := by decide +kernel
theorem dL_law_317 : decode cL_law 317 = .ok (.aload_n 0, 1) := by decide +kernel
theorem dL_law_318 : decode cL_law 318 = .ok (.iload_n 3, 1) := by decide +kernel
theorem dL_law_319 : decode cL_law 319 = .ok (.iconst 2, 1) := by decide +kernel
theorem dL_law_320 : decode cL_law 320 = .ok (.iadd, 1) := by decide +kernel
theorem dL_law_321 : decode cL_law 321 = .ok (.iaload, 1) := by decide +kernel
theorem dL_law_322 : decode cL_law 322 = .ok (.invokevirtual 44, 3) := by decide +kernel
theorem dL_law_325 : decode cL_law 325 = .ok (.aload_n 2, 1) := by decide +kernel
theorem dL_law_326 : decode cL_law 326 = .ok (.aload_n 0, 1) := by decide +kernel
theorem dL_law_327 : decode cL_law 327 = .ok (.iload_n 3, 1) := by decide +kernel
theorem dL_law_328 : decode cL_law 328 = .ok (.iconst 1, 1) := by decide +kernel
theorem dL_law_329 : decode cL_law 329 = .ok (.iadd, 1) := by decide +kernel
theorem dL_law_330 : decode cL_law 330 = .ok (.iaload, 1) := by decide +kernel
theorem dL_law_331 : decode cL_law 331 = .ok (.aload_n 0, 1) := by decide +kernel
theorem dL_law_332 : decode cL_law 332 = .ok (.iload_n 3, 1) := by decide +kernel
theorem dL_law_333 : decode cL_law 333 = .ok (.iconst 2, 1) := by decide +kernel
theorem dL_law_334 : decode cL_law 334 = .ok (.iadd, 1) := by decide +kernel
theorem dL_law_335 : decode cL_law 335 = .ok (.iaload, 1) := by decide +kernel
theorem dL_law_336 : decode cL_law 336 = .ok (.invokevirtual 47, 3) := by decide +kernel
theorem dL_law_339 : decode cL_law 339 = .ok (.if_icmp .eq 716, 3) := by decide +kernel
theorem dL_law_342 : decode cL_law 342 = .ok (.iconst 0, 1) := by decide +kernel
theorem dL_law_343 : decode cL_law 343 = .ok (.ireturn, 1) := by decide +kernel
theorem dL_law_344 : decode cL_law 344 = .ok (.aload_n 1, 1) := by decide +kernel
theorem dL_law_345 : decode cL_law 345 = .ok (.aload_n 0, 1) := by decide +kernel
theorem dL_law_346 : decode cL_law 346 = .ok (.iload_n 3, 1) := by decide +kernel
theorem dL_law_347 : decode cL_law 347 = .ok (.iconst 1, 1) := by decide +kernel
theorem dL_law_348 : decode cL_law 348 = .ok (.iadd, 1) := by decide +kernel
theorem dL_law_349 : decode cL_law 349 = .ok (.iaload, 1) := by decide +kernel
theorem dL_law_350 : decode cL_law 350 = .ok (.aload_n 0, 1) := by decide +kernel
theorem dL_law_351 : decode cL_law 351 = .ok (.iload_n 3, 1) := by decide +kernel
theorem dL_law_352 : decode cL_law 352 = .ok (.iconst 2, 1) := by decide +kernel
theorem dL_law_353 : decode cL_law 353 = .ok (.iadd, 1) := by decide +kernel
theorem dL_law_354 : decode cL_law 354 = .ok (.iaload, 1) := by decide +kernel
theorem dL_law_355 : decode cL_law 355 = .ok (.invokevirtual 48, 3) := by decide +kernel
theorem dL_law_358 : decode cL_law 358 = .ok (.aload_n 2, 1) := by decide +kernel
theorem dL_law_359 : decode cL_law 359 = .ok (.aload_n 0, 1) := by decide +kernel
theorem dL_law_360 : decode cL_law 360 = .ok (.iload_n 3, 1) := by decide +kernel
theorem dL_law_361 : decode cL_law 361 = .ok (.iconst 1, 1) := by decide +kernel
theorem dL_law_362 : decode cL_law 362 = .ok (.iadd, 1) := by decide +kernel
theorem dL_law_363 : decode cL_law 363 = .ok (.iaload, 1) := by decide +kernel
theorem dL_law_364 : decode cL_law 364 = .ok (.aload_n 0, 1) := by decide +kernel
theorem dL_law_365 : decode cL_law 365 = .ok (.iload_n 3, 1) := by decide +kernel
theorem dL_law_366 : decode cL_law 366 = .ok (.iconst 2, 1) := by decide +kernel
theorem dL_law_367 : decode cL_law 367 = .ok (.iadd, 1) := by decide +kernel
theorem dL_law_368 : decode cL_law 368 = .ok (.iaload, 1) := by decide +kernel
theorem dL_law_369 : decode cL_law 369 = .ok (.invokevirtual 51, 3) := by decide +kernel
theorem dL_law_372 : decode cL_law 372 = .ok (.if_icmp .eq 683, 3) := by decide +kernel
theorem dL_law_375 : decode cL_law 375 = .ok (.iconst 0, 1) := by decide +kernel
theorem dL_law_376 : decode cL_law 376 = .ok (.ireturn, 1) := by decide +kernel
theorem dL_law_377 : decode cL_law 377 = .ok (.aload_n 1, 1) := by decide +kernel
theorem dL_law_378 : decode cL_law 378 = .ok (.invokevirtual 52, 3) := by decide +kernel
theorem dL_law_381 : decode cL_law 381 = .ok (.aload_n 2, 1) := by decide +kernel
theorem dL_law_382 : decode cL_law 382 = .ok (.invokevirtual 55, 3) := by decide +kernel
theorem dL_law_385 : decode cL_law 385 = .ok (.if_icmp .eq 670, 3) := by decide +kernel
theorem dL_law_388 : decode cL_law 388 = .ok (.iconst 0, 1) := by decide +kernel
theorem dL_law_389 : decode cL_law 389 = .ok (.ireturn, 1) := by decide +kernel
theorem dL_law_390 : decode cL_law 390 = .ok (.aload_n 1, 1) := by decide +kernel
theorem dL_law_391 : decode cL_law 391 = .ok (.aload_n 0, 1) := by decide +kernel
theorem dL_law_392 : decode cL_law 392 = .ok (.iload_n 3, 1) := by decide +kernel
theorem dL_law_393 : decode cL_law 393 = .ok (.iconst 1, 1) := by decide +kernel
theorem dL_law_394 : decode cL_law 394 = .ok (.iadd, 1) := by decide +kernel
theorem dL_law_395 : decode cL_law 395 = .ok (.iaload, 1) := by decide +kernel
theorem dL_law_396 : decode cL_law 396 = .ok (.invokevirtual 56, 3) := by decide +kernel
theorem dL_law_399 : decode cL_law 399 = .ok (.aload_n 2, 1) := by decide +kernel
theorem dL_law_400 : decode cL_law 400 = .ok (.aload_n 0, 1) := by decide +kernel
theorem dL_law_401 : decode cL_law 401 = .ok (.iload_n 3, 1) := by decide +kernel
theorem dL_law_402 : decode cL_law 402 = .ok (.iconst 1, 1) := by decide +kernel
theorem dL_law_403 : decode cL_law 403 = .ok (.iadd, 1) := by decide +kernel
theorem dL_law_404 : decode cL_law 404 = .ok (.iaload, 1) := by decide +kernel
theorem dL_law_405 : decode cL_law 405 = .ok (.invokevirtual 59, 3) := by decide +kernel
theorem dL_law_408 : decode cL_law 408 = .ok (.if_icmp .eq 647, 3) := by decide +kernel
theorem dL_law_411 : decode cL_law 411 = .ok (.iconst 0, 1) := by decide +kernel
theorem dL_law_412 : decode cL_law 412 = .ok (.ireturn, 1) := by decide +kernel
theorem dL_law_413 : decode cL_law 413 = .ok (.aload_n 1, 1) := by decide +kernel
theorem dL_law_414 : decode cL_law 414 = .ok (.invokevirtual 60, 3) := by decide +kernel
theorem dL_law_417 : decode cL_law 417 = .ok (.aload_n 2, 1) := by decide +kernel
theorem dL_law_418 : decode cL_law 418 = .ok (.invokevirtual 63, 3) := by decide +kernel
theorem dL_law_421 : decode cL_law 421 = .ok (.if_icmp .eq 634, 3) := by decide +kernel
theorem dL_law_424 : decode cL_law 424 = .ok (.iconst 0, 1) := by decide +kernel
theorem dL_law_425 : decode cL_law 425 = .ok (.ireturn, 1) := by decide +kernel
theorem dL_law_426 : decode cL_law 426 = .ok (.aload_n 1, 1) := by decide +kernel
theorem dL_law_427 : decode cL_law 427 = .ok (.aload_n 0, 1) := by decide +kernel
theorem dL_law_428 : decode cL_law 428 = .ok (.iload_n 3, 1) := by decide +kernel
theorem dL_law_429 : decode cL_law 429 = .ok (.iconst 1, 1) := by decide +kernel
theorem dL_law_430 : decode cL_law 430 = .ok (.iadd, 1) := by decide +kernel
theorem dL_law_431 : decode cL_law 431 = .ok (.iaload, 1) := by decide +kernel
theorem dL_law_432 : decode cL_law 432 = .ok (.aload_n 0, 1) := by decide +kernel
theorem dL_law_433 : decode cL_law 433 = .ok (.iload_n 3, 1) := by decide +kernel
theorem dL_law_434 : decode cL_law 434 = .ok (.iconst 2, 1) := by decide +kernel
theorem dL_law_435 : decode cL_law 435 = .ok (.iadd, 1) := by decide +kernel
theorem dL_law_436 : decode cL_law 436 = .ok (.iaload, 1) := by decide +kernel
theorem dL_law_437 : decode cL_law 437 = .ok (.aload_n 0, 1) := by decide +kernel
theorem dL_law_438 : decode cL_law 438 = .ok (.iload_n 3, 1) := by decide +kernel
theorem dL_law_439 : decode cL_law 439 = .ok (.iconst 3, 1) := by decide +kernel
theorem dL_law_440 : decode cL_law 440 = .ok (.iadd, 1) := by decide +kernel
theorem dL_law_441 : decode cL_law 441 = .ok (.iaload, 1) := by decide +kernel
theorem dL_law_442 : decode cL_law 442 = .ok (.aload_n 0, 1) := by decide +kernel
theorem dL_law_443 : decode cL_law 443 = .ok (.iload_n 3, 1) := by decide +kernel
theorem dL_law_444 : decode cL_law 444 = .ok (.iconst 4, 1) := by decide +kernel
theorem dL_law_445 : decode cL_law 445 = .ok (.iadd, 1) := by decide +kernel
theorem dL_law_446 : decode cL_law 446 = .ok (.iaload, 1) := by decide +kernel
theorem dL_law_447 : decode cL_law 447 = .ok (.invokevirtual 64, 3) := by decide +kernel
theorem dL_law_450 : decode cL_law 450 = .ok (.aload_n 2, 1) := by decide +kernel
theorem dL_law_451 : decode cL_law 451 = .ok (.aload_n 0, 1) := by decide +kernel
theorem dL_law_452 : decode cL_law 452 = .ok (.iload_n 3, 1) := by decide +kernel
theorem dL_law_453 : decode cL_law 453 = .ok (.iconst 1, 1) := by decide +kernel
theorem dL_law_454 : decode cL_law 454 = .ok (.iadd, 1) := by decide +kernel
theorem dL_law_455 : decode cL_law 455 = .ok (.iaload, 1) := by decide +kernel
theorem dL_law_456 : decode cL_law 456 = .ok (.aload_n 0, 1) := by decide +kernel
theorem dL_law_457 : decode cL_law 457 = .ok (.iload_n 3, 1) := by decide +kernel
theorem dL_law_458 : decode cL_law 458 = .ok (.iconst 2, 1) := by decide +kernel
theorem dL_law_459 : decode cL_law 459 = .ok (.iadd, 1) := by decide +kernel
theorem dL_law_460 : decode cL_law 460 = .ok (.iaload, 1) := by decide +kernel
theorem dL_law_461 : decode cL_law 461 = .ok (.aload_n 0, 1) := by decide +kernel
theorem dL_law_462 : decode cL_law 462 = .ok (.iload_n 3, 1) := by decide +kernel
theorem dL_law_463 : decode cL_law 463 = .ok (.iconst 3, 1) := by decide +kernel
theorem dL_law_464 : decode cL_law 464 = .ok (.iadd, 1) := by decide +kernel
theorem dL_law_465 : decode cL_law 465 = .ok (.iaload, 1) := by decide +kernel
theorem dL_law_466 : decode cL_law 466 = .ok (.aload_n 0, 1) := by decide +kernel
theorem dL_law_467 : decode cL_law 467 = .ok (.iload_n 3, 1) := by decide +kernel
theorem dL_law_468 : decode cL_law 468 = .ok (.iconst 4, 1) := by decide +kernel
theorem dL_law_469 : decode cL_law 469 = .ok (.iadd, 1) := by decide +kernel
theorem dL_law_470 : decode cL_law 470 = .ok (.iaload, 1) := by decide +kernel
theorem dL_law_471 : decode cL_law 471 = .ok (.invokevirtual 68, 3) := by decide +kernel
theorem dL_law_474 : decode cL_law 474 = .ok (.if_icmp .eq 581, 3) := by decide +kernel
theorem dL_law_477 : decode cL_law 477 = .ok (.iconst 0, 1) := by decide +kernel
theorem dL_law_478 : decode cL_law 478 = .ok (.ireturn, 1) := by decide +kernel
theorem dL_law_479 : decode cL_law 479 = .ok (.aload_n 1, 1) := by decide +kernel
theorem dL_law_480 : decode cL_law 480 = .ok (.aload_n 0, 1) := by decide +kernel
theorem dL_law_481 : decode cL_law 481 = .ok (.iload_n 3, 1) := by decide +kernel
theorem dL_law_482 : decode cL_law 482 = .ok (.iconst 1, 1) := by decide +kernel
theorem dL_law_483 : decode cL_law 483 = .ok (.iadd, 1) := by decide +kernel
theorem dL_law_484 : decode cL_law 484 = .ok (.iaload, 1) := by decide +kernel
theorem dL_law_485 : decode cL_law 485 = .ok (.invokevirtual 69, 3) := by decide +kernel
theorem dL_law_488 : decode cL_law 488 = .ok (.aload_n 2, 1) := by decide +kernel
theorem dL_law_489 : decode cL_law 489 = .ok (.aload_n 0, 1) := by decide +kernel
theorem dL_law_490 : decode cL_law 490 = .ok (.iload_n 3, 1) := by decide +kernel
theorem dL_law_491 : decode cL_law 491 = .ok (.iconst 1, 1) := by decide +kernel
theorem dL_law_492 : decode cL_law 492 = .ok (.iadd, 1) := by decide +kernel
theorem dL_law_493 : decode cL_law 493 = .ok (.iaload, 1) := by decide +kernel
theorem dL_law_494 : decode cL_law 494 = .ok (.invokevirtual 72, 3) := by decide +kernel
theorem dL_law_497 : decode cL_law 497 = .ok (.if_icmp .eq 558, 3) := by decide +kernel
theorem dL_law_500 : decode cL_law 500 = .ok (.iconst 0, 1) := by decide +kernel
theorem dL_law_501 : decode cL_law 501 = .ok (.ireturn, 1) := by decide +kernel
theorem dL_law_502 : decode cL_law 502 = .ok (.aload_n 1, 1) := by decide +kernel
theorem dL_law_503 : decode cL_law 503 = .ok (.aload_n 0, 1) := by decide +kernel
theorem dL_law_504 : decode cL_law 504 = .ok (.iload_n 3, 1) := by decide +kernel
theorem dL_law_505 : decode cL_law 505 = .ok (.iconst 1, 1) := by decide +kernel
theorem dL_law_506 : decode cL_law 506 = .ok (.iadd, 1) := by decide +kernel
theorem dL_law_507 : decode cL_law 507 = .ok (.iaload, 1) := by decide +kernel
theorem dL_law_508 : decode cL_law 508 = .ok (.aload_n 0, 1) := by decide +kernel
theorem dL_law_509 : decode cL_law 509 = .ok (.iload_n 3, 1) := by decide +kernel
theorem dL_law_510 : decode cL_law 510 = .ok (.iconst 2, 1) := by decide +kernel
theorem dL_law_511 : decode cL_law 511 = .ok (.iadd, 1) := by decide +kernel
theorem dL_law_512 : decode cL_law 512 = .ok (.iaload, 1) := by decide +kernel
theorem dL_law_513 : decode cL_law 513 = .ok (.invokevirtual 73, 3) := by decide +kernel
theorem dL_law_516 : decode cL_law 516 = .ok (.aload_n 2, 1) := by decide +kernel
theorem dL_law_517 : decode cL_law 517 = .ok (.aload_n 0, 1) := by decide +kernel
theorem dL_law_518 : decode cL_law 518 = .ok (.iload_n 3, 1) := by decide +kernel
theorem dL_law_519 : decode cL_law 519 = .ok (.iconst 1, 1) := by decide +kernel
theorem dL_law_520 : decode cL_law 520 = .ok (.iadd, 1) := by decide +kernel
theorem dL_law_521 : decode cL_law 521 = .ok (.iaload, 1) := by decide +kernel
theorem dL_law_522 : decode cL_law 522 = .ok (.aload_n 0, 1) := by decide +kernel
theorem dL_law_523 : decode cL_law 523 = .ok (.iload_n 3, 1) := by decide +kernel
theorem dL_law_524 : decode cL_law 524 = .ok (.iconst 2, 1) := by decide +kernel
theorem dL_law_525 : decode cL_law 525 = .ok (.iadd, 1) := by decide +kernel
theorem dL_law_526 : decode cL_law 526 = .ok (.iaload, 1) := by decide +kernel
theorem dL_law_527 : decode cL_law 527 = .ok (.invokevirtual 76, 3) := by decide +kernel
theorem dL_law_530 : decode cL_law 530 = .ok (.if_icmp .eq 525, 3) := by decide +kernel
theorem dL_law_533 : decode cL_law 533 = .ok (.iconst 0, 1) := by decide +kernel
theorem dL_law_534 : decode cL_law 534 = .ok (.ireturn, 1) := by decide +kernel
theorem dL_law_535 : decode cL_law 535 = .ok (.aload_n 1, 1) := by decide +kernel
theorem dL_law_536 : decode cL_law 536 = .ok (.aload_n 0, 1) := by decide +kernel
theorem dL_law_537 : decode cL_law 537 = .ok (.iload_n 3, 1) := by decide +kernel
theorem dL_law_538 : decode cL_law 538 = .ok (.iconst 1, 1) := by decide +kernel
theorem dL_law_539 : decode cL_law 539 = .ok (.iadd, 1) := by decide +kernel
theorem dL_law_540 : decode cL_law 540 = .ok (.iaload, 1) := by decide +kernel
theorem dL_law_541 : decode cL_law 541 = .ok (.invokevirtual 77, 3) := by decide +kernel
theorem dL_law_544 : decode cL_law 544 = .ok (.aload_n 2, 1) := by decide +kernel
theorem dL_law_545 : decode cL_law 545 = .ok (.aload_n 0, 1) := by decide +kernel
theorem dL_law_546 : decode cL_law 546 = .ok (.iload_n 3, 1) := by decide +kernel
theorem dL_law_547 : decode cL_law 547 = .ok (.iconst 1, 1) := by decide +kernel
theorem dL_law_548 : decode cL_law 548 = .ok (.iadd, 1) := by decide +kernel
theorem dL_law_549 : decode cL_law 549 = .ok (.iaload, 1) := by decide +kernel
theorem dL_law_550 : decode cL_law 550 = .ok (.invokevirtual 80, 3) := by decide +kernel
theorem dL_law_553 : decode cL_law 553 = .ok (.if_icmp .eq 502, 3) := by decide +kernel
theorem dL_law_556 : decode cL_law 556 = .ok (.iconst 0, 1) := by decide +kernel
theorem dL_law_557 : decode cL_law 557 = .ok (.ireturn, 1) := by decide +kernel
theorem dL_law_558 : decode cL_law 558 = .ok (.aload_n 1, 1) := by decide +kernel
theorem dL_law_559 : decode cL_law 559 = .ok (.aload_n 0, 1) := by decide +kernel
theorem dL_law_560 : decode cL_law 560 = .ok (.iload_n 3, 1) := by decide +kernel
theorem dL_law_561 : decode cL_law 561 = .ok (.iconst 1, 1) := by decide +kernel
theorem dL_law_562 : decode cL_law 562 = .ok (.iadd, 1) := by decide +kernel
theorem dL_law_563 : decode cL_law 563 = .ok (.iaload, 1) := by decide +kernel
theorem dL_law_564 : decode cL_law 564 = .ok (.invokevirtual 81, 3) := by decide +kernel
theorem dL_law_567 : decode cL_law 567 = .ok (.aload_n 2, 1) := by decide +kernel
theorem dL_law_568 : decode cL_law 568 = .ok (.aload_n 0, 1) := by decide +kernel
theorem dL_law_569 : decode cL_law 569 = .ok (.iload_n 3, 1) := by decide +kernel
theorem dL_law_570 : decode cL_law 570 = .ok (.iconst 1, 1) := by decide +kernel
theorem dL_law_571 : decode cL_law 571 = .ok (.iadd, 1) := by decide +kernel
theorem dL_law_572 : decode cL_law 572 = .ok (.iaload, 1) := by decide +kernel
theorem dL_law_573 : decode cL_law 573 = .ok (.invokevirtual 84, 3) := by decide +kernel
theorem dL_law_576 : decode cL_law 576 = .ok (.if_icmp .eq 479, 3) := by decide +kernel
theorem dL_law_579 : decode cL_law 579 = .ok (.iconst 0, 1) := by decide +kernel
theorem dL_law_580 : decode cL_law 580 = .ok (.ireturn, 1) := by decide +kernel
theorem dL_law_581 : decode cL_law 581 = .ok (.aload_n 1, 1) := by decide +kernel
theorem dL_law_582 : decode cL_law 582 = .ok (.aload_n 0, 1) := by decide +kernel
theorem dL_law_583 : decode cL_law 583 = .ok (.iload_n 3, 1) := by decide +kernel
theorem dL_law_584 : decode cL_law 584 = .ok (.iconst 1, 1) := by decide +kernel
theorem dL_law_585 : decode cL_law 585 = .ok (.iadd, 1) := by decide +kernel
theorem dL_law_586 : decode cL_law 586 = .ok (.iaload, 1) := by decide +kernel
theorem dL_law_587 : decode cL_law 587 = .ok (.aload_n 0, 1) := by decide +kernel
theorem dL_law_588 : decode cL_law 588 = .ok (.iload_n 3, 1) := by decide +kernel
theorem dL_law_589 : decode cL_law 589 = .ok (.iconst 2, 1) := by decide +kernel
theorem dL_law_590 : decode cL_law 590 = .ok (.iadd, 1) := by decide +kernel
theorem dL_law_591 : decode cL_law 591 = .ok (.iaload, 1) := by decide +kernel
theorem dL_law_592 : decode cL_law 592 = .ok (.aload_n 0, 1) := by decide +kernel
theorem dL_law_593 : decode cL_law 593 = .ok (.iload_n 3, 1) := by decide +kernel
theorem dL_law_594 : decode cL_law 594 = .ok (.iconst 3, 1) := by decide +kernel
theorem dL_law_595 : decode cL_law 595 = .ok (.iadd, 1) := by decide +kernel
theorem dL_law_596 : decode cL_law 596 = .ok (.iaload, 1) := by decide +kernel
theorem dL_law_597 : decode cL_law 597 = .ok (.invokevirtual 85, 3) := by decide +kernel
theorem dL_law_600 : decode cL_law 600 = .ok (.aload_n 2, 1) := by decide +kernel
theorem dL_law_601 : decode cL_law 601 = .ok (.aload_n 0, 1) := by decide +kernel
theorem dL_law_602 : decode cL_law 602 = .ok (.iload_n 3, 1) := by decide +kernel
theorem dL_law_603 : decode cL_law 603 = .ok (.iconst 1, 1) := by decide +kernel
theorem dL_law_604 : decode cL_law 604 = .ok (.iadd, 1) := by decide +kernel
theorem dL_law_605 : decode cL_law 605 = .ok (.iaload, 1) := by decide +kernel
theorem dL_law_606 : decode cL_law 606 = .ok (.aload_n 0, 1) := by decide +kernel
theorem dL_law_607 : decode cL_law 607 = .ok (.iload_n 3, 1) := by decide +kernel
theorem dL_law_608 : decode cL_law 608 = .ok (.iconst 2, 1) := by decide +kernel
theorem dL_law_609 : decode cL_law 609 = .ok (.iadd, 1) := by decide +kernel
theorem dL_law_610 : decode cL_law 610 = .ok (.iaload, 1) := by decide +kernel
theorem dL_law_611 : decode cL_law 611 = .ok (.aload_n 0, 1) := by decide +kernel
theorem dL_law_612 : decode cL_law 612 = .ok (.iload_n 3, 1) := by decide +kernel
theorem dL_law_613 : decode cL_law 613 = .ok (.iconst 3, 1) := by decide +kernel
theorem dL_law_614 : decode cL_law 614 = .ok (.iadd, 1) := by decide +kernel
theorem dL_law_615 : decode cL_law 615 = .ok (.iaload, 1) := by decide +kernel
theorem dL_law_616 : decode cL_law 616 = .ok (.invokevirtual 89, 3) := by decide +kernel
theorem dL_law_619 : decode cL_law 619 = .ok (.if_icmp .eq 436, 3) := by decide +kernel
theorem dL_law_622 : decode cL_law 622 = .ok (.iconst 0, 1) := by decide +kernel
theorem dL_law_623 : decode cL_law 623 = .ok (.ireturn, 1) := by decide +kernel
theorem dL_law_624 : decode cL_law 624 = .ok (.aload_n 1, 1) := by decide +kernel
theorem dL_law_625 : decode cL_law 625 = .ok (.invokevirtual 90, 3) := by decide +kernel
theorem dL_law_628 : decode cL_law 628 = .ok (.aload_n 2, 1) := by decide +kernel
theorem dL_law_629 : decode cL_law 629 = .ok (.invokevirtual 93, 3) := by decide +kernel
theorem dL_law_632 : decode cL_law 632 = .ok (.if_icmp .eq 423, 3) := by decide +kernel
theorem dL_law_635 : decode cL_law 635 = .ok (.iconst 0, 1) := by decide +kernel
theorem dL_law_636 : decode cL_law 636 = .ok (.ireturn, 1) := by decide +kernel
theorem dL_law_637 : decode cL_law 637 = .ok (.aload_n 1, 1) := by decide +kernel
theorem dL_law_638 : decode cL_law 638 = .ok (.aload_n 0, 1) := by decide +kernel
theorem dL_law_639 : decode cL_law 639 = .ok (.iload_n 3, 1) := by decide +kernel
theorem dL_law_640 : decode cL_law 640 = .ok (.iconst 1, 1) := by decide +kernel
theorem dL_law_641 : decode cL_law 641 = .ok (.iadd, 1) := by decide +kernel
theorem dL_law_642 : decode cL_law 642 = .ok (.iaload, 1) := by decide +kernel
theorem dL_law_643 : decode cL_law 643 = .ok (.invokevirtual 94, 3) := by decide +kernel
theorem dL_law_646 : decode cL_law 646 = .ok (.aload_n 2, 1) := by decide +kernel
theorem dL_law_647 : decode cL_law 647 = .ok (.aload_n 0, 1) := by decide +kernel
theorem dL_law_648 : decode cL_law 648 = .ok (.iload_n 3, 1) := by decide +kernel
theorem dL_law_649 : decode cL_law 649 = .ok (.iconst 1, 1) := by decide +kernel
theorem dL_law_650 : decode cL_law 650 = .ok (.iadd, 1) := by decide +kernel
theorem dL_law_651 : decode cL_law 651 = .ok (.iaload, 1) := by decide +kernel
theorem dL_law_652 : decode cL_law 652 = .ok (.invokevirtual 97, 3) := by decide +kernel
theorem dL_law_655 : decode cL_law 655 = .ok (.if_icmp .eq 400, 3) := by decide +kernel
theorem dL_law_658 : decode cL_law 658 = .ok (.iconst 0, 1) := by decide +kernel
theorem dL_law_659 : decode cL_law 659 = .ok (.ireturn, 1) := by decide +kernel
theorem dL_law_660 : decode cL_law 660 = .ok (.aload_n 1, 1) := by decide +kernel
theorem dL_law_661 : decode cL_law 661 = .ok (.invokevirtual 98, 3) := by decide +kernel
theorem dL_law_664 : decode cL_law 664 = .ok (.aload_n 2, 1) := by decide +kernel
theorem dL_law_665 : decode cL_law 665 = .ok (.invokevirtual 101, 3) := by decide +kernel
theorem dL_law_668 : decode cL_law 668 = .ok (.if_icmp .eq 387, 3) := by decide +kernel
theorem dL_law_671 : decode cL_law 671 = .ok (.iconst 0, 1) := by decide +kernel
theorem dL_law_672 : decode cL_law 672 = .ok (.ireturn, 1) := by decide +kernel
theorem dL_law_673 : decode cL_law 673 = .ok (.aload_n 1, 1) := by decide +kernel
theorem dL_law_674 : decode cL_law 674 = .ok (.aload_n 0, 1) := by decide +kernel
theorem dL_law_675 : decode cL_law 675 = .ok (.iload_n 3, 1) := by decide +kernel
theorem dL_law_676 : decode cL_law 676 = .ok (.iconst 1, 1) := by decide +kernel
theorem dL_law_677 : decode cL_law 677 = .ok (.iadd, 1) := by decide +kernel
theorem dL_law_678 : decode cL_law 678 = .ok (.iaload, 1) := by decide +kernel
theorem dL_law_679 : decode cL_law 679 = .ok (.aload_n 0, 1) := by decide +kernel
theorem dL_law_680 : decode cL_law 680 = .ok (.iload_n 3, 1) := by decide +kernel
theorem dL_law_681 : decode cL_law 681 = .ok (.iconst 2, 1) := by decide +kernel
theorem dL_law_682 : decode cL_law 682 = .ok (.iadd, 1) := by decide +kernel
theorem dL_law_683 : decode cL_law 683 = .ok (.iaload, 1) := by decide +kernel
theorem dL_law_684 : decode cL_law 684 = .ok (.aload_n 0, 1) := by decide +kernel
theorem dL_law_685 : decode cL_law 685 = .ok (.iload_n 3, 1) := by decide +kernel
theorem dL_law_686 : decode cL_law 686 = .ok (.iconst 3, 1) := by decide +kernel
theorem dL_law_687 : decode cL_law 687 = .ok (.iadd, 1) := by decide +kernel
theorem dL_law_688 : decode cL_law 688 = .ok (.iaload, 1) := by decide +kernel
theorem dL_law_689 : decode cL_law 689 = .ok (.aload_n 0, 1) := by decide +kernel
theorem dL_law_690 : decode cL_law 690 = .ok (.iload_n 3, 1) := by decide +kernel
theorem dL_law_691 : decode cL_law 691 = .ok (.iconst 4, 1) := by decide +kernel
theorem dL_law_692 : decode cL_law 692 = .ok (.iadd, 1) := by decide +kernel
theorem dL_law_693 : decode cL_law 693 = .ok (.iaload, 1) := by decide +kernel
theorem dL_law_694 : decode cL_law 694 = .ok (.aload_n 0, 1) := by decide +kernel
theorem dL_law_695 : decode cL_law 695 = .ok (.iload_n 3, 1) := by decide +kernel
theorem dL_law_696 : decode cL_law 696 = .ok (.iconst 5, 1) := by decide +kernel
theorem dL_law_697 : decode cL_law 697 = .ok (.iadd, 1) := by decide +kernel
theorem dL_law_698 : decode cL_law 698 = .ok (.iaload, 1) := by decide +kernel
theorem dL_law_699 : decode cL_law 699 = .ok (.aload_n 0, 1) := by decide +kernel
theorem dL_law_700 : decode cL_law 700 = .ok (.iload_n 3, 1) := by decide +kernel
theorem dL_law_701 : decode cL_law 701 = .ok (.bipush 6, 2) := by decide +kernel
theorem dL_law_703 : decode cL_law 703 = .ok (.iadd, 1) := by decide +kernel
theorem dL_law_704 : decode cL_law 704 = .ok (.iaload, 1) := by decide +kernel
theorem dL_law_705 : decode cL_law 705 = .ok (.ifCond .eq 7, 3) := by decide +kernel
theorem dL_law_708 : decode cL_law 708 = .ok (.iconst 1, 1) := by decide +kernel
theorem dL_law_709 : decode cL_law 709 = .ok (.goto 4, 3) := by decide +kernel
theorem dL_law_712 : decode cL_law 712 = .ok (.iconst 0, 1) := by decide +kernel
theorem dL_law_713 : decode cL_law 713 = .ok (.invokevirtual 102, 3) := by decide +kernel
theorem dL_law_716 : decode cL_law 716 = .ok (.aload_n 2, 1) := by decide +kernel
theorem dL_law_717 : decode cL_law 717 = .ok (.aload_n 0, 1) := by decide +kernel
theorem dL_law_718 : decode cL_law 718 = .ok (.iload_n 3, 1) := by decide +kernel
theorem dL_law_719 : decode cL_law 719 = .ok (.iconst 1, 1) := by decide +kernel
theorem dL_law_720 : decode cL_law 720 = .ok (.iadd, 1) := by decide +kernel
theorem dL_law_721 : decode cL_law 721 = .ok (.iaload, 1) := by decide +kernel
theorem dL_law_722 : decode cL_law 722 = .ok (.aload_n 0, 1) := by decide +kernel
theorem dL_law_723 : decode cL_law 723 = .ok (.iload_n 3, 1) := by decide +kernel
theorem dL_law_724 : decode cL_law 724 = .ok (.iconst 2, 1) := by decide +kernel
theorem dL_law_725 : decode cL_law 725 = .ok (.iadd, 1) := by decide +kernel
theorem dL_law_726 : decode cL_law 726 = .ok (.iaload, 1) := by decide +kernel
theorem dL_law_727 : decode cL_law 727 = .ok (.aload_n 0, 1) := by decide +kernel
theorem dL_law_728 : decode cL_law 728 = .ok (.iload_n 3, 1) := by decide +kernel
theorem dL_law_729 : decode cL_law 729 = .ok (.iconst 3, 1) := by decide +kernel
theorem dL_law_730 : decode cL_law 730 = .ok (.iadd, 1) := by decide +kernel
theorem dL_law_731 : decode cL_law 731 = .ok (.iaload, 1) := by decide +kernel
theorem dL_law_732 : decode cL_law 732 = .ok (.aload_n 0, 1) := by decide +kernel
theorem dL_law_733 : decode cL_law 733 = .ok (.iload_n 3, 1) := by decide +kernel
theorem dL_law_734 : decode cL_law 734 = .ok (.iconst 4, 1) := by decide +kernel
theorem dL_law_735 : decode cL_law 735 = .ok (.iadd, 1) := by decide +kernel
theorem dL_law_736 : decode cL_law 736 = .ok (.iaload, 1) := by decide +kernel
theorem dL_law_737 : decode cL_law 737 = .ok (.aload_n 0, 1) := by decide +kernel
theorem dL_law_738 : decode cL_law 738 = .ok (.iload_n 3, 1) := by decide +kernel
theorem dL_law_739 : decode cL_law 739 = .ok (.iconst 5, 1) := by decide +kernel
theorem dL_law_740 : decode cL_law 740 = .ok (.iadd, 1) := by decide +kernel
theorem dL_law_741 : decode cL_law 741 = .ok (.iaload, 1) := by decide +kernel
theorem dL_law_742 : decode cL_law 742 = .ok (.aload_n 0, 1) := by decide +kernel
theorem dL_law_743 : decode cL_law 743 = .ok (.iload_n 3, 1) := by decide +kernel
theorem dL_law_744 : decode cL_law 744 = .ok (.bipush 6, 2) := by decide +kernel
theorem dL_law_746 : decode cL_law 746 = .ok (.iadd, 1) := by decide +kernel
theorem dL_law_747 : decode cL_law 747 = .ok (.iaload, 1) := by decide +kernel
theorem dL_law_748 : decode cL_law 748 = .ok (.ifCond .eq 7, 3) := by decide +kernel
theorem dL_law_751 : decode cL_law 751 = .ok (.iconst 1, 1) := by decide +kernel
theorem dL_law_752 : decode cL_law 752 = .ok (.goto 4, 3) := by decide +kernel
theorem dL_law_755 : decode cL_law 755 = .ok (.iconst 0, 1) := by decide +kernel
theorem dL_law_756 : decode cL_law 756 = .ok (.invokevirtual 106, 3) := by decide +kernel
theorem dL_law_759 : decode cL_law 759 = .ok (.if_icmp .eq 296, 3) := by decide +kernel
theorem dL_law_762 : decode cL_law 762 = .ok (.iconst 0, 1) := by decide +kernel
theorem dL_law_763 : decode cL_law 763 = .ok (.ireturn, 1) := by decide +kernel
theorem dL_law_764 : decode cL_law 764 = .ok (.aload_n 1, 1) := by decide +kernel
theorem dL_law_765 : decode cL_law 765 = .ok (.aload_n 0, 1) := by decide +kernel
theorem dL_law_766 : decode cL_law 766 = .ok (.iload_n 3, 1) := by decide +kernel
theorem dL_law_767 : decode cL_law 767 = .ok (.iconst 1, 1) := by decide +kernel
theorem dL_law_768 : decode cL_law 768 = .ok (.iadd, 1) := by decide +kernel
theorem dL_law_769 : decode cL_law 769 = .ok (.iaload, 1) := by decide +kernel
theorem dL_law_770 : decode cL_law 770 = .ok (.aload_n 0, 1) := by decide +kernel
theorem dL_law_771 : decode cL_law 771 = .ok (.iload_n 3, 1) := by decide +kernel
theorem dL_law_772 : decode cL_law 772 = .ok (.iconst 2, 1) := by decide +kernel
theorem dL_law_773 : decode cL_law 773 = .ok (.iadd, 1) := by decide +kernel
theorem dL_law_774 : decode cL_law 774 = .ok (.iaload, 1) := by decide +kernel
theorem dL_law_775 : decode cL_law 775 = .ok (.aload_n 0, 1) := by decide +kernel
theorem dL_law_776 : decode cL_law 776 = .ok (.iload_n 3, 1) := by decide +kernel
theorem dL_law_777 : decode cL_law 777 = .ok (.iconst 3, 1) := by decide +kernel
theorem dL_law_778 : decode cL_law 778 = .ok (.iadd, 1) := by decide +kernel
theorem dL_law_779 : decode cL_law 779 = .ok (.iaload, 1) := by decide +kernel
theorem dL_law_780 : decode cL_law 780 = .ok (.aload_n 0, 1) := by decide +kernel
theorem dL_law_781 : decode cL_law 781 = .ok (.iload_n 3, 1) := by decide +kernel
theorem dL_law_782 : decode cL_law 782 = .ok (.iconst 4, 1) := by decide +kernel
theorem dL_law_783 : decode cL_law 783 = .ok (.iadd, 1) := by decide +kernel
theorem dL_law_784 : decode cL_law 784 = .ok (.iaload, 1) := by decide +kernel
theorem dL_law_785 : decode cL_law 785 = .ok (.ifCond .eq 7, 3) := by decide +kernel
theorem dL_law_788 : decode cL_law 788 = .ok (.iconst 1, 1) := by decide +kernel
theorem dL_law_789 : decode cL_law 789 = .ok (.goto 4, 3) := by decide +kernel
theorem dL_law_792 : decode cL_law 792 = .ok (.iconst 0, 1) := by decide +kernel
theorem dL_law_793 : decode cL_law 793 = .ok (.invokevirtual 107, 3) := by decide +kernel
theorem dL_law_796 : decode cL_law 796 = .ok (.aload_n 2, 1) := by decide +kernel
theorem dL_law_797 : decode cL_law 797 = .ok (.aload_n 0, 1) := by decide +kernel
theorem dL_law_798 : decode cL_law 798 = .ok (.iload_n 3, 1) := by decide +kernel
theorem dL_law_799 : decode cL_law 799 = .ok (.iconst 1, 1) := by decide +kernel
theorem dL_law_800 : decode cL_law 800 = .ok (.iadd, 1) := by decide +kernel
theorem dL_law_801 : decode cL_law 801 = .ok (.iaload, 1) := by decide +kernel
theorem dL_law_802 : decode cL_law 802 = .ok (.aload_n 0, 1) := by decide +kernel
theorem dL_law_803 : decode cL_law 803 = .ok (.iload_n 3, 1) := by decide +kernel
theorem dL_law_804 : decode cL_law 804 = .ok (.iconst 2, 1) := by decide +kernel
theorem dL_law_805 : decode cL_law 805 = .ok (.iadd, 1) := by decide +kernel
theorem dL_law_806 : decode cL_law 806 = .ok (.iaload, 1) := by decide +kernel
theorem dL_law_807 : decode cL_law 807 = .ok (.aload_n 0, 1) := by decide +kernel
theorem dL_law_808 : decode cL_law 808 = .ok (.iload_n 3, 1) := by decide +kernel
theorem dL_law_809 : decode cL_law 809 = .ok (.iconst 3, 1) := by decide +kernel
theorem dL_law_810 : decode cL_law 810 = .ok (.iadd, 1) := by decide +kernel
theorem dL_law_811 : decode cL_law 811 = .ok (.iaload, 1) := by decide +kernel
theorem dL_law_812 : decode cL_law 812 = .ok (.aload_n 0, 1) := by decide +kernel
theorem dL_law_813 : decode cL_law 813 = .ok (.iload_n 3, 1) := by decide +kernel
theorem dL_law_814 : decode cL_law 814 = .ok (.iconst 4, 1) := by decide +kernel
theorem dL_law_815 : decode cL_law 815 = .ok (.iadd, 1) := by decide +kernel
theorem dL_law_816 : decode cL_law 816 = .ok (.iaload, 1) := by decide +kernel
theorem dL_law_817 : decode cL_law 817 = .ok (.ifCond .eq 7, 3) := by decide +kernel
theorem dL_law_820 : decode cL_law 820 = .ok (.iconst 1, 1) := by decide +kernel
theorem dL_law_821 : decode cL_law 821 = .ok (.goto 4, 3) := by decide +kernel
theorem dL_law_824 : decode cL_law 824 = .ok (.iconst 0, 1) := by decide +kernel
theorem dL_law_825 : decode cL_law 825 = .ok (.invokevirtual 111, 3) := by decide +kernel
theorem dL_law_828 : decode cL_law 828 = .ok (.if_icmp .eq 227, 3) := by decide +kernel
theorem dL_law_831 : decode cL_law 831 = .ok (.iconst 0, 1) := by decide +kernel
theorem dL_law_832 : decode cL_law 832 = .ok (.ireturn, 1) := by decide +kernel
theorem dL_law_833 : decode cL_law 833 = .ok (.aload_n 1, 1) := by decide +kernel
theorem dL_law_834 : decode cL_law 834 = .ok (.aload_n 0, 1) := by decide +kernel
theorem dL_law_835 : decode cL_law 835 = .ok (.iload_n 3, 1) := by decide +kernel
theorem dL_law_836 : decode cL_law 836 = .ok (.iconst 1, 1) := by decide +kernel
theorem dL_law_837 : decode cL_law 837 = .ok (.iadd, 1) := by decide +kernel
theorem dL_law_838 : decode cL_law 838 = .ok (.iaload, 1) := by decide +kernel
theorem dL_law_839 : decode cL_law 839 = .ok (.aload_n 0, 1) := by decide +kernel
theorem dL_law_840 : decode cL_law 840 = .ok (.iload_n 3, 1) := by decide +kernel
theorem dL_law_841 : decode cL_law 841 = .ok (.iconst 2, 1) := by decide +kernel
theorem dL_law_842 : decode cL_law 842 = .ok (.iadd, 1) := by decide +kernel
theorem dL_law_843 : decode cL_law 843 = .ok (.iaload, 1) := by decide +kernel
theorem dL_law_844 : decode cL_law 844 = .ok (.aload_n 0, 1) := by decide +kernel
theorem dL_law_845 : decode cL_law 845 = .ok (.iload_n 3, 1) := by decide +kernel
theorem dL_law_846 : decode cL_law 846 = .ok (.iconst 3, 1) := by decide +kernel
theorem dL_law_847 : decode cL_law 847 = .ok (.iadd, 1) := by decide +kernel
theorem dL_law_848 : decode cL_law 848 = .ok (.iaload, 1) := by decide +kernel
theorem dL_law_849 : decode cL_law 849 = .ok (.aload_n 0, 1) := by decide +kernel
theorem dL_law_850 : decode cL_law 850 = .ok (.iload_n 3, 1) := by decide +kernel
theorem dL_law_851 : decode cL_law 851 = .ok (.iconst 4, 1) := by decide +kernel
theorem dL_law_852 : decode cL_law 852 = .ok (.iadd, 1) := by decide +kernel
theorem dL_law_853 : decode cL_law 853 = .ok (.iaload, 1) := by decide +kernel
theorem dL_law_854 : decode cL_law 854 = .ok (.aload_n 0, 1) := by decide +kernel
theorem dL_law_855 : decode cL_law 855 = .ok (.iload_n 3, 1) := by decide +kernel
theorem dL_law_856 : decode cL_law 856 = .ok (.iconst 5, 1) := by decide +kernel
theorem dL_law_857 : decode cL_law 857 = .ok (.iadd, 1) := by decide +kernel
theorem dL_law_858 : decode cL_law 858 = .ok (.iaload, 1) := by decide +kernel
theorem dL_law_859 : decode cL_law 859 = .ok (.ifCond .eq 7, 3) := by decide +kernel
theorem dL_law_862 : decode cL_law 862 = .ok (.iconst 1, 1) := by decide +kernel
theorem dL_law_863 : decode cL_law 863 = .ok (.goto 4, 3) := by decide +kernel
theorem dL_law_866 : decode cL_law 866 = .ok (.iconst 0, 1) := by decide +kernel
theorem dL_law_867 : decode cL_law 867 = .ok (.invokevirtual 112, 3) := by decide +kernel
theorem dL_law_870 : decode cL_law 870 = .ok (.aload_n 2, 1) := by decide +kernel
theorem dL_law_871 : decode cL_law 871 = .ok (.aload_n 0, 1) := by decide +kernel
theorem dL_law_872 : decode cL_law 872 = .ok (.iload_n 3, 1) := by decide +kernel
theorem dL_law_873 : decode cL_law 873 = .ok (.iconst 1, 1) := by decide +kernel
theorem dL_law_874 : decode cL_law 874 = .ok (.iadd, 1) := by decide +kernel
theorem dL_law_875 : decode cL_law 875 = .ok (.iaload, 1) := by decide +kernel
theorem dL_law_876 : decode cL_law 876 = .ok (.aload_n 0, 1) := by decide +kernel
theorem dL_law_877 : decode cL_law 877 = .ok (.iload_n 3, 1) := by decide +kernel
theorem dL_law_878 : decode cL_law 878 = .ok (.iconst 2, 1) := by decide +kernel
theorem dL_law_879 : decode cL_law 879 = .ok (.iadd, 1) := by decide +kernel
theorem dL_law_880 : decode cL_law 880 = .ok (.iaload, 1) := by decide +kernel
theorem dL_law_881 : decode cL_law 881 = .ok (.aload_n 0, 1) := by decide +kernel
theorem dL_law_882 : decode cL_law 882 = .ok (.iload_n 3, 1) := by decide +kernel
theorem dL_law_883 : decode cL_law 883 = .ok (.iconst 3, 1) := by decide +kernel
theorem dL_law_884 : decode cL_law 884 = .ok (.iadd, 1) := by decide +kernel
theorem dL_law_885 : decode cL_law 885 = .ok (.iaload, 1) := by decide +kernel
theorem dL_law_886 : decode cL_law 886 = .ok (.aload_n 0, 1) := by decide +kernel
theorem dL_law_887 : decode cL_law 887 = .ok (.iload_n 3, 1) := by decide +kernel
theorem dL_law_888 : decode cL_law 888 = .ok (.iconst 4, 1) := by decide +kernel
theorem dL_law_889 : decode cL_law 889 = .ok (.iadd, 1) := by decide +kernel
theorem dL_law_890 : decode cL_law 890 = .ok (.iaload, 1) := by decide +kernel
theorem dL_law_891 : decode cL_law 891 = .ok (.aload_n 0, 1) := by decide +kernel
theorem dL_law_892 : decode cL_law 892 = .ok (.iload_n 3, 1) := by decide +kernel
theorem dL_law_893 : decode cL_law 893 = .ok (.iconst 5, 1) := by decide +kernel
theorem dL_law_894 : decode cL_law 894 = .ok (.iadd, 1) := by decide +kernel
theorem dL_law_895 : decode cL_law 895 = .ok (.iaload, 1) := by decide +kernel
theorem dL_law_896 : decode cL_law 896 = .ok (.ifCond .eq 7, 3) := by decide +kernel
theorem dL_law_899 : decode cL_law 899 = .ok (.iconst 1, 1) := by decide +kernel
theorem dL_law_900 : decode cL_law 900 = .ok (.goto 4, 3) := by decide +kernel
theorem dL_law_903 : decode cL_law 903 = .ok (.iconst 0, 1) := by decide +kernel
theorem dL_law_904 : decode cL_law 904 = .ok (.invokevirtual 116, 3) := by decide +kernel
theorem dL_law_907 : decode cL_law 907 = .ok (.if_icmp .eq 148, 3) := by decide +kernel
theorem dL_law_910 : decode cL_law 910 = .ok (.iconst 0, 1) := by decide +kernel
theorem dL_law_911 : decode cL_law 911 = .ok (.ireturn, 1) := by decide +kernel
theorem dL_law_912 : decode cL_law 912 = .ok (.aload_n 1, 1) := by decide +kernel
theorem dL_law_913 : decode cL_law 913 = .ok (.aload_n 0, 1) := by decide +kernel
theorem dL_law_914 : decode cL_law 914 = .ok (.iload_n 3, 1) := by decide +kernel
theorem dL_law_915 : decode cL_law 915 = .ok (.iconst 1, 1) := by decide +kernel
theorem dL_law_916 : decode cL_law 916 = .ok (.iadd, 1) := by decide +kernel
theorem dL_law_917 : decode cL_law 917 = .ok (.iaload, 1) := by decide +kernel
theorem dL_law_918 : decode cL_law 918 = .ok (.i2l, 1) := by decide +kernel
theorem dL_law_919 : decode cL_law 919 = .ok (.bipush 32, 2) := by decide +kernel
theorem dL_law_921 : decode cL_law 921 = .ok (.lshl, 1) := by decide +kernel
theorem dL_law_922 : decode cL_law 922 = .ok (.aload_n 0, 1) := by decide +kernel
theorem dL_law_923 : decode cL_law 923 = .ok (.iload_n 3, 1) := by decide +kernel
theorem dL_law_924 : decode cL_law 924 = .ok (.iconst 2, 1) := by decide +kernel
theorem dL_law_925 : decode cL_law 925 = .ok (.iadd, 1) := by decide +kernel
theorem dL_law_926 : decode cL_law 926 = .ok (.iaload, 1) := by decide +kernel
theorem dL_law_927 : decode cL_law 927 = .ok (.i2l, 1) := by decide +kernel
theorem dL_law_928 : decode cL_law 928 = .ok (.ldc2_w 117, 3) := by decide +kernel
theorem dL_law_931 : decode cL_law 931 = .ok (.land, 1) := by decide +kernel
theorem dL_law_932 : decode cL_law 932 = .ok (.lor, 1) := by decide +kernel
theorem dL_law_933 : decode cL_law 933 = .ok (.invokevirtual 119, 3) := by decide +kernel
theorem dL_law_936 : decode cL_law 936 = .ok (.aload_n 2, 1) := by decide +kernel
theorem dL_law_937 : decode cL_law 937 = .ok (.aload_n 0, 1) := by decide +kernel
theorem dL_law_938 : decode cL_law 938 = .ok (.iload_n 3, 1) := by decide +kernel
theorem dL_law_939 : decode cL_law 939 = .ok (.iconst 1, 1) := by decide +kernel
theorem dL_law_940 : decode cL_law 940 = .ok (.iadd, 1) := by decide +kernel
theorem dL_law_941 : decode cL_law 941 = .ok (.iaload, 1) := by decide +kernel
theorem dL_law_942 : decode cL_law 942 = .ok (.i2l, 1) := by decide +kernel
theorem dL_law_943 : decode cL_law 943 = .ok (.bipush 32, 2) := by decide +kernel
theorem dL_law_945 : decode cL_law 945 = .ok (.lshl, 1) := by decide +kernel
theorem dL_law_946 : decode cL_law 946 = .ok (.aload_n 0, 1) := by decide +kernel
theorem dL_law_947 : decode cL_law 947 = .ok (.iload_n 3, 1) := by decide +kernel
theorem dL_law_948 : decode cL_law 948 = .ok (.iconst 2, 1) := by decide +kernel
theorem dL_law_949 : decode cL_law 949 = .ok (.iadd, 1) := by decide +kernel
theorem dL_law_950 : decode cL_law 950 = .ok (.iaload, 1) := by decide +kernel
theorem dL_law_951 : decode cL_law 951 = .ok (.i2l, 1) := by decide +kernel
theorem dL_law_952 : decode cL_law 952 = .ok (.ldc2_w 117, 3) := by decide +kernel
theorem dL_law_955 : decode cL_law 955 = .ok (.land, 1) := by decide +kernel
theorem dL_law_956 : decode cL_law 956 = .ok (.lor, 1) := by decide +kernel
theorem dL_law_957 : decode cL_law 957 = .ok (.invokevirtual 123, 3) := by decide +kernel
theorem dL_law_960 : decode cL_law 960 = .ok (.lcmp, 1) := by decide +kernel
theorem dL_law_961 : decode cL_law 961 = .ok (.ifCond .eq 94, 3) := by decide +kernel
theorem dL_law_964 : decode cL_law 964 = .ok (.iconst 0, 1) := by decide +kernel
theorem dL_law_965 : decode cL_law 965 = .ok (.ireturn, 1) := by decide +kernel
theorem dL_law_966 : decode cL_law 966 = .ok (.aload_n 1, 1) := by decide +kernel
theorem dL_law_967 : decode cL_law 967 = .ok (.aload_n 0, 1) := by decide +kernel
theorem dL_law_968 : decode cL_law 968 = .ok (.iload_n 3, 1) := by decide +kernel
theorem dL_law_969 : decode cL_law 969 = .ok (.iconst 1, 1) := by decide +kernel
theorem dL_law_970 : decode cL_law 970 = .ok (.iadd, 1) := by decide +kernel
theorem dL_law_971 : decode cL_law 971 = .ok (.iaload, 1) := by decide +kernel
theorem dL_law_972 : decode cL_law 972 = .ok (.aload_n 0, 1) := by decide +kernel
theorem dL_law_973 : decode cL_law 973 = .ok (.iload_n 3, 1) := by decide +kernel
theorem dL_law_974 : decode cL_law 974 = .ok (.iconst 2, 1) := by decide +kernel
theorem dL_law_975 : decode cL_law 975 = .ok (.iadd, 1) := by decide +kernel
theorem dL_law_976 : decode cL_law 976 = .ok (.iaload, 1) := by decide +kernel
theorem dL_law_977 : decode cL_law 977 = .ok (.aload_n 0, 1) := by decide +kernel
theorem dL_law_978 : decode cL_law 978 = .ok (.iload_n 3, 1) := by decide +kernel
theorem dL_law_979 : decode cL_law 979 = .ok (.iconst 3, 1) := by decide +kernel
theorem dL_law_980 : decode cL_law 980 = .ok (.iadd, 1) := by decide +kernel
theorem dL_law_981 : decode cL_law 981 = .ok (.iaload, 1) := by decide +kernel
theorem dL_law_982 : decode cL_law 982 = .ok (.invokevirtual 124, 3) := by decide +kernel
theorem dL_law_985 : decode cL_law 985 = .ok (.aload_n 2, 1) := by decide +kernel
theorem dL_law_986 : decode cL_law 986 = .ok (.aload_n 0, 1) := by decide +kernel
theorem dL_law_987 : decode cL_law 987 = .ok (.iload_n 3, 1) := by decide +kernel
theorem dL_law_988 : decode cL_law 988 = .ok (.iconst 1, 1) := by decide +kernel
theorem dL_law_989 : decode cL_law 989 = .ok (.iadd, 1) := by decide +kernel
theorem dL_law_990 : decode cL_law 990 = .ok (.iaload, 1) := by decide +kernel
theorem dL_law_991 : decode cL_law 991 = .ok (.aload_n 0, 1) := by decide +kernel
theorem dL_law_992 : decode cL_law 992 = .ok (.iload_n 3, 1) := by decide +kernel
theorem dL_law_993 : decode cL_law 993 = .ok (.iconst 2, 1) := by decide +kernel
theorem dL_law_994 : decode cL_law 994 = .ok (.iadd, 1) := by decide +kernel
theorem dL_law_995 : decode cL_law 995 = .ok (.iaload, 1) := by decide +kernel
theorem dL_law_996 : decode cL_law 996 = .ok (.aload_n 0, 1) := by decide +kernel
theorem dL_law_997 : decode cL_law 997 = .ok (.iload_n 3, 1) := by decide +kernel
theorem dL_law_998 : decode cL_law 998 = .ok (.iconst 3, 1) := by decide +kernel
theorem dL_law_999 : decode cL_law 999 = .ok (.iadd, 1) := by decide +kernel
theorem dL_law_1000 : decode cL_law 1000 = .ok (.iaload, 1) := by decide +kernel
theorem dL_law_1001 : decode cL_law 1001 = .ok (.invokevirtual 127, 3) := by decide +kernel
theorem dL_law_1004 : decode cL_law 1004 = .ok (.if_icmp .eq 51, 3) := by decide +kernel
theorem dL_law_1007 : decode cL_law 1007 = .ok (.iconst 0, 1) := by decide +kernel
theorem dL_law_1008 : decode cL_law 1008 = .ok (.ireturn, 1) := by decide +kernel
theorem dL_law_1009 : decode cL_law 1009 = .ok (.aload_n 1, 1) := by decide +kernel
theorem dL_law_1010 : decode cL_law 1010 = .ok (.aload_n 0, 1) := by decide +kernel
theorem dL_law_1011 : decode cL_law 1011 = .ok (.iload_n 3, 1) := by decide +kernel
theorem dL_law_1012 : decode cL_law 1012 = .ok (.iconst 1, 1) := by decide +kernel
theorem dL_law_1013 : decode cL_law 1013 = .ok (.iadd, 1) := by decide +kernel
theorem dL_law_1014 : decode cL_law 1014 = .ok (.iaload, 1) := by decide +kernel
theorem dL_law_1015 : decode cL_law 1015 = .ok (.invokevirtual 128, 3) := by decide +kernel
theorem dL_law_1018 : decode cL_law 1018 = .ok (.aload_n 2, 1) := by decide +kernel
theorem dL_law_1019 : decode cL_law 1019 = .ok (.aload_n 0, 1) := by decide +kernel
theorem dL_law_1020 : decode cL_law 1020 = .ok (.iload_n 3, 1) := by decide +kernel
theorem dL_law_1021 : decode cL_law 1021 = .ok (.iconst 1, 1) := by decide +kernel
theorem dL_law_1022 : decode cL_law 1022 = .ok (.iadd, 1) := by decide +kernel
theorem dL_law_1023 : decode cL_law 1023 = .ok (.iaload, 1) := by decide +kernel
theorem dL_law_1024 : decode cL_law 1024 = .ok (.invokevirtual 131, 3) := by decide +kernel
theorem dL_law_1027 : decode cL_law 1027 = .ok (.if_icmp .eq 28, 3) := by decide +kernel
theorem dL_law_1030 : decode cL_law 1030 = .ok (.iconst 0, 1) := by decide +kernel
theorem dL_law_1031 : decode cL_law 1031 = .ok (.ireturn, 1) := by decide +kernel
theorem dL_law_1032 : decode cL_law 1032 = .ok (.aload_n 1, 1) := by decide +kernel
theorem dL_law_1033 : decode cL_law 1033 = .ok (.aload_n 0, 1) := by decide +kernel
theorem dL_law_1034 : decode cL_law 1034 = .ok (.iload_n 3, 1) := by decide +kernel
theorem dL_law_1035 : decode cL_law 1035 = .ok (.iconst 1, 1) := by decide +kernel
theorem dL_law_1036 : decode cL_law 1036 = .ok (.iadd, 1) := by decide +kernel
theorem dL_law_1037 : decode cL_law 1037 = .ok (.iaload, 1) := by decide +kernel
theorem dL_law_1038 : decode cL_law 1038 = .ok (.invokevirtual 132, 3) := by decide +kernel
theorem dL_law_1041 : decode cL_law 1041 = .ok (.aload_n 2, 1) := by decide +kernel
theorem dL_law_1042 : decode cL_law 1042 = .ok (.aload_n 0, 1) := by decide +kernel
theorem dL_law_1043 : decode cL_law 1043 = .ok (.iload_n 3, 1) := by decide +kernel
theorem dL_law_1044 : decode cL_law 1044 = .ok (.iconst 1, 1) := by decide +kernel
theorem dL_law_1045 : decode cL_law 1045 = .ok (.iadd, 1) := by decide +kernel
theorem dL_law_1046 : decode cL_law 1046 = .ok (.iaload, 1) := by decide +kernel
theorem dL_law_1047 : decode cL_law 1047 = .ok (.invokevirtual 135, 3) := by decide +kernel
theorem dL_law_1050 : decode cL_law 1050 = .ok (.if_icmp .eq 5, 3) := by decide +kernel
theorem dL_law_1053 : decode cL_law 1053 = .ok (.iconst 0, 1) := by decide +kernel
theorem dL_law_1054 : decode cL_law 1054 = .ok (.ireturn, 1) := by decide +kernel
theorem dL_law_1055 : decode cL_law 1055 = .ok (.iinc 3 7, 3) := by decide +kernel
theorem dL_law_1058 : decode cL_law 1058 = .ok (.goto (-1040), 3) := by decide +kernel
theorem dL_law_1061 : decode cL_law 1061 = .ok (.iconst 1, 1) := by decide +kernel
theorem dL_law_1062 : decode cL_law 1062 = .ok (.ireturn, 1) := by decide +kernel
end
section
/-! A pure picture of a run. A world is a list of cells; a reference in it is a PLACE in that list; 'ad' gives each place its address, 'cy' each kind of array its array type. Go: from every machine state that this picture is of, the method comes to its end with Post. Ct: a method's contract in these words. -/
abbrev gM : Type := MethodName × ByteArray × Nat × Option FieldType
abbrev gcl : List vw_C := [(RX0, TX0, 3), (RX1, TX1, 11), (RX2, TX2, 1), (RX3, TX3, 2), (RX4, TX4, 4), (RX5, TX5, 6), (RX6, TX6, 2), (RX7, TX7, 10), (RX8, TX8, 37)]
def gw : List Cond := lw_tbl.filter goodWord
theorem gw_at {w : Cond} (i : Nat) (h : lw_tbl[i]? = some w) (hg : goodWord w = true) : w ∈ gw := List.mem_filter.mpr ⟨List.mem_of_getElem? h, hg⟩
def gIsN : Cond → Bool
  | .fieldLinkNest _ _ _ _ _ _ => true
  | .methodLinkNest _ _ _ _ => true
  | _ => false
def gnl : List Cond := lw_tbl.filter gIsN
theorem gnl_at {w : Cond} (i : Nat) (h : lw_tbl[i]? = some w) (hg : gIsN w = true) : w ∈ gnl := List.mem_filter.mpr ⟨List.mem_of_getElem? h, hg⟩
def gN (U : State) : Prop := ∀ w ∈ gnl, va_Nw w U
theorem gN_warm {s U : State} (hW : s.WarmedH U.vm) (h : gN s) : gN U := by
  intro w hw
  have h1 := h w hw
  have h2 := (List.mem_filter.mp hw).2
  cases w <;> first | exact va_Nw.warmF hW h1 | exact va_Nw.warmM hW h1 | exact absurd h2 (by decide) | simp [gIsN] at h2
theorem gN_same {s U : State} (hv : s.vm = U.vm) (h : gN s) : gN U := by
  intro w hw
  have h1 := h w hw
  have h2 := (List.mem_filter.mp hw).2
  cases w <;> first | exact va_Nw.same rfl hv h1 | exact absurd h2 (by decide) | simp [gIsN] at h2
def gR (d : Nat) : Room := { frames := d, cells := 0, slots := 0, locals := 32 * d }
def cV (ad : Nat → Nat) : Value → Value
  | .ref k => .ref (ad k)
  | v => v
theorem cV_cat (ad : Nat → Nat) (v : Value) : (cV ad v).category = v.category := by cases v <;> rfl
def cE (ad : Nat → Nat) (cy : Nat → ClassId) : va_E → va_E
  | .inl (t, a) => .inl (cy t, a)
  | .inr (ci, fs) => .inr (ci, fs.map (cV ad))
def gC (ad : Nat → Nat) (cy : Nat → ClassId) (ws : List va_E) : va_W := ws.mapIdx (fun k e => (ad k, cE ad cy e))
abbrev gT (cy : Nat → ClassId) : List (ClassId × FieldType) := [(cy 0, .int), (cy 1, .long), (cy 2, .boolean)]
theorem gC_at {ad : Nat → Nat} {cy : Nat → ClassId} {ws : List va_E} {k : Nat} {e : va_E} (h : ws[k]? = some e) : (gC ad cy ws)[k]? = some (ad k, cE ad cy e) := by
  simp [gC, h]
theorem gC_set {ad : Nat → Nat} {cy : Nat → ClassId} (ws : List va_E) (k : Nat) (e : va_E) : (gC ad cy ws).set k (ad k, cE ad cy e) = gC ad cy (ws.set k e) := by
  apply List.ext_getElem?
  intro j
  simp only [gC, List.getElem?_set, List.getElem?_mapIdx, List.length_mapIdx]
  by_cases hj : k = j
  · subst hj
    by_cases hl : k < ws.length <;> simp [hl]
  · simp [hj]
def cL (ad : Nat → Nat) (lv : List (Nat × Value)) : List (Nat × Value) := lv.map (fun q => (q.1, cV ad q.2))
def gQ (D : va_G) (cy : Nat → ClassId) (ad : Nat → Nat) (A : Nat → Prop) (Post : Option Value → List va_E → Prop) : Array Value → State → Outcome → State → Prop :=
  fun _ st oc t => (∃ (v : Option Value) (u : List va_E), oc = .returned (v.map (cV ad)) ∧ Post v u ∧ va_P D gcl (gC ad cy u) t.heap ∧ va_D A (gC ad cy u)) ∧ va_F A st t
def gCtx (M : gM) (D : va_G) (cy : Nat → ClassId) (A : Nat → Prop) (p : Program) (s : State) (m : MethodId) (args : Array Value) (meth : Method) (c : Code) : Prop :=
  p.tables.exec = Jvm.exec ∧ c.code = M.2.1 ∧ c.maxLocals = M.2.2.1 ∧ meth.sig.returnType = M.2.2.2 ∧ meth.locks = false ∧ (∀ w ∈ gw, w.before args s = true) ∧ s.vm.findClass M.1.cls = some m.cls ∧ va_K D gcl (gT cy) s ∧ gN s ∧ ∀ q, s.heap.size ≤ q → A q
def Go (M : gM) (d : Nat) (pc : Nat) (lv : List (Nat × Value)) (st : List Value) (ws : List va_E) (Post : Option Value → List va_E → Prop) : Prop :=
  ∀ (p : Program) (l : Launch) (e : Env) (s : State) (m : MethodId) (args : Array Value) (below : List Frame) (meth : Method) (c : Code) (D : va_G) (cy : Nat → ClassId) (ad : Nat → Nat) (A : Nat → Prop) (H : Heap) (locs : List Loc) (ls : Array Slot),
    gCtx M D cy A p s m args meth c → va_P D gcl (gC ad cy ws) H → va_D A (gC ad cy ws) → va_S A s.heap H locs → lv_has ls M.2.2.1 (cL ad lv) →
    W p l e (gR d) s m args below meth c H locs 0 0 (MQ below (gQ D cy ad A Post) args s 0 0 A) (F0 m pc ls (st.map (cV ad)))
def Ct (M : gM) (d : Nat) (as : List Value) (ws : List va_E) (Post : Option Value → List va_E → Prop) : Prop :=
  ∀ (l : Launch) (D : va_G) (cy : Nat → ClassId) (ad : Nat → Nat) (sz : Nat), Met l M.1 (.code M.1 M.2.1 M.2.2.1 M.2.2.2 :: gw) (gR d)
    (va_Pc (as.map (cV ad)) (fun U => U.heap.size = sz ∧ va_P D gcl (gC ad cy ws) U.heap ∧ va_K D gcl (gT cy) U ∧ gN U ∧ va_D (fun _ => True) (gC ad cy ws)))
    (gQ D cy ad (va_A (gC ad cy ws) sz) Post) 0 0 (va_A (gC ad cy ws) sz)
/-- the end of a run: this answer, this world -/
def gE (v : Option Value) (w : List va_E) : Option Value → List va_E → Prop := fun v' u => v' = v ∧ u = w
theorem lv_args_map (ad : Nat → Nat) : ∀ (as : List Value) (i : Nat), lv_args i (as.map (cV ad)) = cL ad (lv_args i as)
  | [], _ => rfl
  | v :: vs, i => by
    show (i, cV ad v) :: lv_args (if (cV ad v).category = 2 then i + 2 else i + 1) (vs.map (cV ad)) = (i, cV ad v) :: cL ad (lv_args (if v.category = 2 then i + 2 else i + 1) vs)
    rw [cV_cat, lv_args_map ad vs]
theorem lg_sl_len (ad : Nat → Nat) : ∀ (as : List Value), (lg_sl (as.map (cV ad))).length = (lg_sl as).length
  | [] => rfl
  | v :: vs => by
    have ih := lg_sl_len ad vs
    simp only [lg_sl, List.map_cons, List.flatMap_cons, List.length_append, cV_cat] at ih ⊢
    rw [ih]
    by_cases h : v.category = 2 <;> simp [h]
theorem Ct.of {M : gM} {d : Nat} {as : List Value} {ws : List va_E} {Post : Option Value → List va_E → Prop} (hy : plainName M.1.cls = true) (hn : (lg_sl as).length ≤ M.2.2.1) (k : Go M d 0 (lv_args 0 as) [] ws Post) : Ct M d as ws Post := by
  intro l D cy ad sz
  refine Met.ofW (cc := M.2.1) (maxL := M.2.2.1) (ret := M.2.2.2) hy rfl ?_
  intro p e s m args below meth c s₁ B hml hv
  obtain ⟨rfl, hsz, hP, hK, hN, hD0⟩ := hv
  have hts := atoms_spec (ws := .code M.1 M.2.1 M.2.2.1 M.2.2.2 :: gw) B.pre
  have hown : s.vm.findClass M.1.cls = some m.cls := findClass_of_methodNamed B.named
  subst hsz
  have hD := hD0.self (sz := s.heap.size)
  have hl := lv_entry (as.map (cV ad)) (n := M.2.2.1) (by rw [lg_sl_len]; exact hn)
  rw [lg_entry_eq]
  rw [lv_args_map] at hl
  exact k p l e s m _ below meth c D cy ad _ s.heap [] _ ⟨B.exec, B.bytes, hml, B.returns, B.notSynchronized, fun w h => hts w (List.mem_cons_of_mem _ h), hown, hK, hN, fun q h => Or.inr h⟩ hP hD va_S.rf hl
theorem lv_filter_map (ad : Nat → Nat) (i : Nat) (lv : List (Nat × Value)) : (cL ad lv).filter (fun q => !(q.1 == i) && !(q.1 + 1 == i && q.2.category == 2)) = cL ad (lv.filter (fun q => !(q.1 == i) && !(q.1 + 1 == i && q.2.category == 2))) := by
  induction lv with
  | nil => rfl
  | cons q t ih =>
    simp only [cL, List.map_cons, List.filter_cons, cV_cat] at ih ⊢
    split
    · rw [List.map_cons, ih]
    · rw [ih]
theorem lv_filter_map2 (ad : Nat → Nat) (i : Nat) (lv : List (Nat × Value)) : (cL ad lv).filter (fun q => !(q.1 == i) && (!(q.1 == i + 1) && !(q.1 + 1 == i && q.2.category == 2))) = cL ad (lv.filter (fun q => !(q.1 == i) && (!(q.1 == i + 1) && !(q.1 + 1 == i && q.2.category == 2)))) := by
  induction lv with
  | nil => rfl
  | cons q t ih =>
    simp only [cL, List.map_cons, List.filter_cons, cV_cat] at ih ⊢
    split
    · rw [List.map_cons, ih]
    · rw [ih]
theorem cL_at {ad : Nat → Nat} {lv : List (Nat × Value)} {k i : Nat} {v : Value} (h : lv[k]? = some (i, v)) : (cL ad lv)[k]? = some (i, cV ad v) := by simp [cL, h]
section GR
variable {M : gM} {d pc : Nat} {lv : List (Nat × Value)} {st : List Value} {ws : List va_E} {Post : Option Value → List va_E → Prop}
theorem g_iconst {n : Int} {v : Int32} (hd : decode M.2.1 pc = .ok (.iconst n, 1)) (hv : Int32.ofInt n = v) (k : Go M d (pc + 1) lv (.int v :: st) ws Post) : Go M d pc lv st ws Post := by
  intro p l e s m args below meth c D cy ad A H locs ls C hP hD hS hl
  exact lv_iconst C.1 C.2.1 hd hv (k p l e s m args below meth c D cy ad A H locs ls C hP hD hS hl)
theorem g_bipush {n : Int} {v : Int32} (hd : decode M.2.1 pc = .ok (.bipush n, 2)) (hv : (Int8.ofInt n).toInt32 = v) (k : Go M d (pc + 2) lv (.int v :: st) ws Post) : Go M d pc lv st ws Post := by
  intro p l e s m args below meth c D cy ad A H locs ls C hP hD hS hl
  exact lv_bipush C.1 C.2.1 hd hv (k p l e s m args below meth c D cy ad A H locs ls C hP hD hS hl)
theorem g_sipush {n : Int} {v : Int32} (hd : decode M.2.1 pc = .ok (.sipush n, 3)) (hv : (Int16.ofInt n).toInt32 = v) (k : Go M d (pc + 3) lv (.int v :: st) ws Post) : Go M d pc lv st ws Post := by
  intro p l e s m args below meth c D cy ad A H locs ls C hP hD hS hl
  exact lv_sipush C.1 C.2.1 hd hv (k p l e s m args below meth c D cy ad A H locs ls C hP hD hS hl)
theorem g_lconst {n : Fin 2} {v : Int64} (hd : decode M.2.1 pc = .ok (.lconst n, 1)) (hv : Int64.ofNat (n : Nat) = v) (k : Go M d (pc + 1) lv (.long v :: st) ws Post) : Go M d pc lv st ws Post := by
  intro p l e s m args below meth c D cy ad A H locs ls C hP hD hS hl
  exact lv_lconst C.1 C.2.1 hd hv (k p l e s m args below meth c D cy ad A H locs ls C hP hD hS hl)
theorem g_ldc2 {index : Nat} {v : Int64} (hw : Cond.constantLong M.1.cls index v ∈ gw) (hd : decode M.2.1 pc = .ok (.ldc2_w index, 3)) (k : Go M d (pc + 3) lv (.long v :: st) ws Post) : Go M d pc lv st ws Post := by
  intro p l e s m args below meth c D cy ad A H locs ls C hP hD hS hl
  exact lv_ldc2 C.1 C.2.1 C.2.2.2.2.2.2.1 (C.2.2.2.2.2.1 _ hw) hd (k p l e s m args below meth c D cy ad A H locs ls C hP hD hS hl)
theorem g_iload_n {x : Fin 4} {i j : Nat} {v : Int32} (hd : decode M.2.1 pc = .ok (.iload_n x, 1)) (hi : (x : Nat) = i) (hv : lv[j]? = some (i, .int v)) (k : Go M d (pc + 1) lv (.int v :: st) ws Post) : Go M d pc lv st ws Post := by
  intro p l e s m args below meth c D cy ad A H locs ls C hP hD hS hl
  exact lv_iload_n C.1 C.2.1 hd hi (lv_at hl j (cL_at hv)) (k p l e s m args below meth c D cy ad A H locs ls C hP hD hS hl)
theorem g_iload {i j : Nat} {v : Int32} (hd : decode M.2.1 pc = .ok (.iload i, 2)) (hv : lv[j]? = some (i, .int v)) (k : Go M d (pc + 2) lv (.int v :: st) ws Post) : Go M d pc lv st ws Post := by
  intro p l e s m args below meth c D cy ad A H locs ls C hP hD hS hl
  exact lv_iload C.1 C.2.1 hd (lv_at hl j (cL_at hv)) (k p l e s m args below meth c D cy ad A H locs ls C hP hD hS hl)
theorem g_lload_n {x : Fin 4} {i j : Nat} {v : Int64} (hd : decode M.2.1 pc = .ok (.lload_n x, 1)) (hi : (x : Nat) = i) (hv : lv[j]? = some (i, .long v)) (k : Go M d (pc + 1) lv (.long v :: st) ws Post) : Go M d pc lv st ws Post := by
  intro p l e s m args below meth c D cy ad A H locs ls C hP hD hS hl
  exact lv_lload_n C.1 C.2.1 hd hi (lv_at hl j (cL_at hv)) (k p l e s m args below meth c D cy ad A H locs ls C hP hD hS hl)
theorem g_lload {i j : Nat} {v : Int64} (hd : decode M.2.1 pc = .ok (.lload i, 2)) (hv : lv[j]? = some (i, .long v)) (k : Go M d (pc + 2) lv (.long v :: st) ws Post) : Go M d pc lv st ws Post := by
  intro p l e s m args below meth c D cy ad A H locs ls C hP hD hS hl
  exact lv_lload C.1 C.2.1 hd (lv_at hl j (cL_at hv)) (k p l e s m args below meth c D cy ad A H locs ls C hP hD hS hl)
theorem g_aload_n {x : Fin 4} {i j q : Nat} (hd : decode M.2.1 pc = .ok (.aload_n x, 1)) (hi : (x : Nat) = i) (hv : lv[j]? = some (i, .ref q)) (k : Go M d (pc + 1) lv (.ref q :: st) ws Post) : Go M d pc lv st ws Post := by
  intro p l e s m args below meth c D cy ad A H locs ls C hP hD hS hl
  exact lv_aload_n C.1 C.2.1 hd hi (lv_at hl j (cL_at hv)) (k p l e s m args below meth c D cy ad A H locs ls C hP hD hS hl)
theorem g_aload {i j q : Nat} (hd : decode M.2.1 pc = .ok (.aload i, 2)) (hv : lv[j]? = some (i, .ref q)) (k : Go M d (pc + 2) lv (.ref q :: st) ws Post) : Go M d pc lv st ws Post := by
  intro p l e s m args below meth c D cy ad A H locs ls C hP hD hS hl
  exact lv_aload C.1 C.2.1 hd (lv_at hl j (cL_at hv)) (k p l e s m args below meth c D cy ad A H locs ls C hP hD hS hl)
theorem g_istore_n {x : Fin 4} {i : Nat} {v : Int32} {lv' : List (Nat × Value)} (hd : decode M.2.1 pc = .ok (.istore_n x, 1)) (hi : (x : Nat) = i) (hn : i < M.2.2.1) (hl' : (i, Value.int v) :: lv.filter (fun q => !(q.1 == i) && !(q.1 + 1 == i && q.2.category == 2)) = lv') (k : Go M d (pc + 1) lv' st ws Post) : Go M d pc lv (.int v :: st) ws Post := by
  intro p l e s m args below meth c D cy ad A H locs ls C hP hD hS hl
  refine lv_istore_n (lv' := cL ad lv') C.1 C.2.1 hd hi hl hn ?_ (fun ls hl => k p l e s m args below meth c D cy ad A H locs ls C hP hD hS hl)
  rw [lv_filter_map, ← hl']; rfl
theorem g_istore {i : Nat} {v : Int32} {lv' : List (Nat × Value)} (hd : decode M.2.1 pc = .ok (.istore i, 2)) (hn : i < M.2.2.1) (hl' : (i, Value.int v) :: lv.filter (fun q => !(q.1 == i) && !(q.1 + 1 == i && q.2.category == 2)) = lv') (k : Go M d (pc + 2) lv' st ws Post) : Go M d pc lv (.int v :: st) ws Post := by
  intro p l e s m args below meth c D cy ad A H locs ls C hP hD hS hl
  refine lv_istore (lv' := cL ad lv') C.1 C.2.1 hd hl hn ?_ (fun ls hl => k p l e s m args below meth c D cy ad A H locs ls C hP hD hS hl)
  rw [lv_filter_map, ← hl']; rfl
theorem g_lstore_n {x : Fin 4} {i : Nat} {v : Int64} {lv' : List (Nat × Value)} (hd : decode M.2.1 pc = .ok (.lstore_n x, 1)) (hi : (x : Nat) = i) (hn : i + 1 < M.2.2.1) (hl' : (i, Value.long v) :: lv.filter (fun q => !(q.1 == i) && (!(q.1 == i + 1) && !(q.1 + 1 == i && q.2.category == 2))) = lv') (k : Go M d (pc + 1) lv' st ws Post) : Go M d pc lv (.long v :: st) ws Post := by
  intro p l e s m args below meth c D cy ad A H locs ls C hP hD hS hl
  refine lv_lstore_n (lv' := cL ad lv') C.1 C.2.1 hd hi hl hn ?_ (fun ls hl => k p l e s m args below meth c D cy ad A H locs ls C hP hD hS hl)
  rw [lv_filter_map2, ← hl']; rfl
theorem g_lstore {i : Nat} {v : Int64} {lv' : List (Nat × Value)} (hd : decode M.2.1 pc = .ok (.lstore i, 2)) (hn : i + 1 < M.2.2.1) (hl' : (i, Value.long v) :: lv.filter (fun q => !(q.1 == i) && (!(q.1 == i + 1) && !(q.1 + 1 == i && q.2.category == 2))) = lv') (k : Go M d (pc + 2) lv' st ws Post) : Go M d pc lv (.long v :: st) ws Post := by
  intro p l e s m args below meth c D cy ad A H locs ls C hP hD hS hl
  refine lv_lstore (lv' := cL ad lv') C.1 C.2.1 hd hl hn ?_ (fun ls hl => k p l e s m args below meth c D cy ad A H locs ls C hP hD hS hl)
  rw [lv_filter_map2, ← hl']; rfl
theorem g_iinc {i j : Nat} {n : Int} {x v : Int32} {lv' : List (Nat × Value)} (hd : decode M.2.1 pc = .ok (.iinc i n, 3)) (hj : lv[j]? = some (i, .int x)) (hv : x + Int32.ofInt n = v) (hn : i < M.2.2.1) (hl' : (i, Value.int v) :: lv.filter (fun q => !(q.1 == i) && !(q.1 + 1 == i && q.2.category == 2)) = lv') (k : Go M d (pc + 3) lv' st ws Post) : Go M d pc lv st ws Post := by
  intro p l e s m args below meth c D cy ad A H locs ls C hP hD hS hl
  refine lv_iinc (lv' := cL ad lv') (k := j) C.1 C.2.1 hd hl (cL_at hj) hv hn ?_ (fun ls hl => k p l e s m args below meth c D cy ad A H locs ls C hP hD hS hl)
  rw [lv_filter_map, ← hl']; rfl
/-- fewer locals, in another order -/
theorem g_lv {lv' : List (Nat × Value)} (ks : List Nat) (h : lv_pick lv ks = lv') (k : Go M d pc lv' st ws Post) : Go M d pc lv st ws Post := by
  intro p l e s m args below meth c D cy ad A H locs ls C hP hD hS hl
  refine k p l e s m args below meth c D cy ad A H locs ls C hP hD hS (lv_sub hl ks ?_)
  subst h
  clear k
  induction ks with
  | nil => rfl
  | cons a t ih =>
    simp only [lv_pick, cL, List.filterMap_cons, List.getElem?_map] at ih ⊢
    cases hh : lv[a]? <;> simp [ih]
theorem g_ws {ws' : List va_E} (h : ws = ws') (k : Go M d pc lv st ws' Post) : Go M d pc lv st ws Post := h ▸ k
theorem g_st {st' : List Value} (h : st = st') (k : Go M d pc lv st' ws Post) : Go M d pc lv st ws Post := h ▸ k
theorem g_topi {x y : Int32} (h : x = y) (k : Go M d pc lv (.int y :: st) ws Post) : Go M d pc lv (.int x :: st) ws Post := h ▸ k
theorem g_post {P : Option Value → List va_E → Prop} (h : ∀ v u, P v u → Post v u) (k : Go M d pc lv st ws P) : Go M d pc lv st ws Post := by
  intro p l e s m args below meth c D cy ad A H locs ls C hP hD hS hl T hT X
  obtain ⟨t, a1, o, b1, b2, ⟨⟨v, u, c1, c2, c3, c4⟩, b3⟩, b4⟩ := k p l e s m args below meth c D cy ad A H locs ls C hP hD hS hl T hT X
  exact ⟨t, a1, o, b1, b2, ⟨⟨v, u, c1, h v u c2, c3, c4⟩, b3⟩, b4⟩
end GR
end
section
section GA
variable {M : gM} {d pc : Nat} {lv : List (Nat × Value)} {st : List Value} {ws : List va_E} {Post : Option Value → List va_E → Prop}
theorem g_iadd {x y : Int32} (hd : decode M.2.1 pc = .ok (.iadd, 1)) (k : Go M d (pc + 1) lv (.int (x + y) :: st) ws Post) : Go M d pc lv (.int y :: .int x :: st) ws Post := by
  intro p l e s m args below meth c D cy ad A H locs ls C hP hD hS hl
  exact lv_iadd C.1 C.2.1 hd (k p l e s m args below meth c D cy ad A H locs ls C hP hD hS hl)
theorem g_isub {x y : Int32} (hd : decode M.2.1 pc = .ok (.isub, 1)) (k : Go M d (pc + 1) lv (.int (x - y) :: st) ws Post) : Go M d pc lv (.int y :: .int x :: st) ws Post := by
  intro p l e s m args below meth c D cy ad A H locs ls C hP hD hS hl
  exact lv_isub C.1 C.2.1 hd (k p l e s m args below meth c D cy ad A H locs ls C hP hD hS hl)
theorem g_imul {x y : Int32} (hd : decode M.2.1 pc = .ok (.imul, 1)) (k : Go M d (pc + 1) lv (.int (x * y) :: st) ws Post) : Go M d pc lv (.int y :: .int x :: st) ws Post := by
  intro p l e s m args below meth c D cy ad A H locs ls C hP hD hS hl
  exact lv_imul C.1 C.2.1 hd (k p l e s m args below meth c D cy ad A H locs ls C hP hD hS hl)
theorem g_iand {x y : Int32} (hd : decode M.2.1 pc = .ok (.iand, 1)) (k : Go M d (pc + 1) lv (.int (x &&& y) :: st) ws Post) : Go M d pc lv (.int y :: .int x :: st) ws Post := by
  intro p l e s m args below meth c D cy ad A H locs ls C hP hD hS hl
  exact lv_iand C.1 C.2.1 hd (k p l e s m args below meth c D cy ad A H locs ls C hP hD hS hl)
theorem g_ior {x y : Int32} (hd : decode M.2.1 pc = .ok (.ior, 1)) (k : Go M d (pc + 1) lv (.int (x ||| y) :: st) ws Post) : Go M d pc lv (.int y :: .int x :: st) ws Post := by
  intro p l e s m args below meth c D cy ad A H locs ls C hP hD hS hl
  exact lv_ior C.1 C.2.1 hd (k p l e s m args below meth c D cy ad A H locs ls C hP hD hS hl)
theorem g_ixor {x y : Int32} (hd : decode M.2.1 pc = .ok (.ixor, 1)) (k : Go M d (pc + 1) lv (.int (x ^^^ y) :: st) ws Post) : Go M d pc lv (.int y :: .int x :: st) ws Post := by
  intro p l e s m args below meth c D cy ad A H locs ls C hP hD hS hl
  exact lv_ixor C.1 C.2.1 hd (k p l e s m args below meth c D cy ad A H locs ls C hP hD hS hl)
theorem g_ishl {x y : Int32} (hd : decode M.2.1 pc = .ok (.ishl, 1)) (k : Go M d (pc + 1) lv (.int (x <<< (y &&& 31)) :: st) ws Post) : Go M d pc lv (.int y :: .int x :: st) ws Post := by
  intro p l e s m args below meth c D cy ad A H locs ls C hP hD hS hl
  exact lv_ishl C.1 C.2.1 hd (k p l e s m args below meth c D cy ad A H locs ls C hP hD hS hl)
theorem g_ishr {x y : Int32} (hd : decode M.2.1 pc = .ok (.ishr, 1)) (k : Go M d (pc + 1) lv (.int (x >>> (y &&& 31)) :: st) ws Post) : Go M d pc lv (.int y :: .int x :: st) ws Post := by
  intro p l e s m args below meth c D cy ad A H locs ls C hP hD hS hl
  exact lv_ishr C.1 C.2.1 hd (k p l e s m args below meth c D cy ad A H locs ls C hP hD hS hl)
theorem g_idiv {x y : Int32} (hd : decode M.2.1 pc = .ok (.idiv, 1)) (hne : ¬ y = 0) (k : Go M d (pc + 1) lv (.int (x / y) :: st) ws Post) : Go M d pc lv (.int y :: .int x :: st) ws Post := by
  intro p l e s m args below meth c D cy ad A H locs ls C hP hD hS hl
  exact lv_idiv C.1 C.2.1 hd hne (k p l e s m args below meth c D cy ad A H locs ls C hP hD hS hl)
theorem g_irem {x y : Int32} (hd : decode M.2.1 pc = .ok (.irem, 1)) (hne : ¬ y = 0) (k : Go M d (pc + 1) lv (.int (x - x / y * y) :: st) ws Post) : Go M d pc lv (.int y :: .int x :: st) ws Post := by
  intro p l e s m args below meth c D cy ad A H locs ls C hP hD hS hl
  exact lv_irem C.1 C.2.1 hd hne (k p l e s m args below meth c D cy ad A H locs ls C hP hD hS hl)
theorem g_ladd {x y : Int64} (hd : decode M.2.1 pc = .ok (.ladd, 1)) (k : Go M d (pc + 1) lv (.long (x + y) :: st) ws Post) : Go M d pc lv (.long y :: .long x :: st) ws Post := by
  intro p l e s m args below meth c D cy ad A H locs ls C hP hD hS hl
  exact lv_ladd C.1 C.2.1 hd (k p l e s m args below meth c D cy ad A H locs ls C hP hD hS hl)
theorem g_lsub {x y : Int64} (hd : decode M.2.1 pc = .ok (.lsub, 1)) (k : Go M d (pc + 1) lv (.long (x - y) :: st) ws Post) : Go M d pc lv (.long y :: .long x :: st) ws Post := by
  intro p l e s m args below meth c D cy ad A H locs ls C hP hD hS hl
  exact lv_lsub C.1 C.2.1 hd (k p l e s m args below meth c D cy ad A H locs ls C hP hD hS hl)
theorem g_lmul {x y : Int64} (hd : decode M.2.1 pc = .ok (.lmul, 1)) (k : Go M d (pc + 1) lv (.long (x * y) :: st) ws Post) : Go M d pc lv (.long y :: .long x :: st) ws Post := by
  intro p l e s m args below meth c D cy ad A H locs ls C hP hD hS hl
  exact lv_lmul C.1 C.2.1 hd (k p l e s m args below meth c D cy ad A H locs ls C hP hD hS hl)
theorem g_land {x y : Int64} (hd : decode M.2.1 pc = .ok (.land, 1)) (k : Go M d (pc + 1) lv (.long (x &&& y) :: st) ws Post) : Go M d pc lv (.long y :: .long x :: st) ws Post := by
  intro p l e s m args below meth c D cy ad A H locs ls C hP hD hS hl
  exact lv_land C.1 C.2.1 hd (k p l e s m args below meth c D cy ad A H locs ls C hP hD hS hl)
theorem g_lor {x y : Int64} (hd : decode M.2.1 pc = .ok (.lor, 1)) (k : Go M d (pc + 1) lv (.long (x ||| y) :: st) ws Post) : Go M d pc lv (.long y :: .long x :: st) ws Post := by
  intro p l e s m args below meth c D cy ad A H locs ls C hP hD hS hl
  exact lv_lor C.1 C.2.1 hd (k p l e s m args below meth c D cy ad A H locs ls C hP hD hS hl)
theorem g_ldiv {x y : Int64} (hd : decode M.2.1 pc = .ok (.ldiv, 1)) (hne : ¬ y = 0) (k : Go M d (pc + 1) lv (.long (x / y) :: st) ws Post) : Go M d pc lv (.long y :: .long x :: st) ws Post := by
  intro p l e s m args below meth c D cy ad A H locs ls C hP hD hS hl
  exact lv_ldiv C.1 C.2.1 hd hne (k p l e s m args below meth c D cy ad A H locs ls C hP hD hS hl)
theorem g_lrem {x y : Int64} (hd : decode M.2.1 pc = .ok (.lrem, 1)) (hne : ¬ y = 0) (k : Go M d (pc + 1) lv (.long (x - x / y * y) :: st) ws Post) : Go M d pc lv (.long y :: .long x :: st) ws Post := by
  intro p l e s m args below meth c D cy ad A H locs ls C hP hD hS hl
  exact lv_lrem C.1 C.2.1 hd hne (k p l e s m args below meth c D cy ad A H locs ls C hP hD hS hl)
theorem g_lushr {x v : Int64} {y : Int32} (hd : decode M.2.1 pc = .ok (.lushr, 1)) (hv : (x.toUInt64 >>> (y.toInt64.toUInt64 &&& Int64.toUInt64 63)).toInt64 = v) (k : Go M d (pc + 1) lv (.long v :: st) ws Post) : Go M d pc lv (.int y :: .long x :: st) ws Post := by
  intro p l e s m args below meth c D cy ad A H locs ls C hP hD hS hl
  exact lv_lushr C.1 C.2.1 hd hv (k p l e s m args below meth c D cy ad A H locs ls C hP hD hS hl)
theorem g_lshl {x v : Int64} {y : Int32} (hd : decode M.2.1 pc = .ok (.lshl, 1)) (hv : x <<< (y.toInt64 &&& 63) = v) (k : Go M d (pc + 1) lv (.long v :: st) ws Post) : Go M d pc lv (.int y :: .long x :: st) ws Post := by
  intro p l e s m args below meth c D cy ad A H locs ls C hP hD hS hl
  exact lv_lshl C.1 C.2.1 hd hv (k p l e s m args below meth c D cy ad A H locs ls C hP hD hS hl)
theorem g_i2l {x : Int32} {v : Int64} (hd : decode M.2.1 pc = .ok (.i2l, 1)) (hv : x.toInt64 = v) (k : Go M d (pc + 1) lv (.long v :: st) ws Post) : Go M d pc lv (.int x :: st) ws Post := by
  intro p l e s m args below meth c D cy ad A H locs ls C hP hD hS hl
  exact lv_i2l C.1 C.2.1 hd hv (k p l e s m args below meth c D cy ad A H locs ls C hP hD hS hl)
theorem g_l2i {x : Int64} {v : Int32} (hd : decode M.2.1 pc = .ok (.l2i, 1)) (hv : x.toInt32 = v) (k : Go M d (pc + 1) lv (.int v :: st) ws Post) : Go M d pc lv (.long x :: st) ws Post := by
  intro p l e s m args below meth c D cy ad A H locs ls C hP hD hS hl
  exact lv_l2i C.1 C.2.1 hd hv (k p l e s m args below meth c D cy ad A H locs ls C hP hD hS hl)
theorem g_lcmp {x y : Int64} (hd : decode M.2.1 pc = .ok (.lcmp, 1)) (k : Go M d (pc + 1) lv (.int (lg_cmp x y) :: st) ws Post) : Go M d pc lv (.long y :: .long x :: st) ws Post := by
  intro p l e s m args below meth c D cy ad A H locs ls C hP hD hS hl
  exact W.lcmp C.1 C.2.1 hd (k p l e s m args below meth c D cy ad A H locs ls C hP hD hS hl)
theorem g_dup {v : Value} (hd : decode M.2.1 pc = .ok (.dup, 1)) (hv : v.category = 1) (k : Go M d (pc + 1) lv (v :: v :: st) ws Post) : Go M d pc lv (v :: st) ws Post := by
  intro p l e s m args below meth c D cy ad A H locs ls C hP hD hS hl
  exact lv_dup C.1 C.2.1 hd ((cV_cat ad v).trans hv) (k p l e s m args below meth c D cy ad A H locs ls C hP hD hS hl)
theorem g_pop {v : Value} (hd : decode M.2.1 pc = .ok (.pop, 1)) (hv : v.category = 1) (k : Go M d (pc + 1) lv st ws Post) : Go M d pc lv (v :: st) ws Post := by
  intro p l e s m args below meth c D cy ad A H locs ls C hP hD hS hl
  exact lv_pop C.1 C.2.1 hd ((cV_cat ad v).trans hv) (k p l e s m args below meth c D cy ad A H locs ls C hP hD hS hl)
theorem g_dup2 {v w : Value} (hd : decode M.2.1 pc = .ok (.dup2, 1)) (hv : v.category = 1) (hw : w.category = 1) (k : Go M d (pc + 1) lv (v :: w :: v :: w :: st) ws Post) : Go M d pc lv (v :: w :: st) ws Post := by
  intro p l e s m args below meth c D cy ad A H locs ls C hP hD hS hl
  exact lv_dup2_11 C.1 C.2.1 hd ((cV_cat ad v).trans hv) ((cV_cat ad w).trans hw) (k p l e s m args below meth c D cy ad A H locs ls C hP hD hS hl)
theorem g_goto {off : Int} {tgt : Nat} (hd : decode M.2.1 pc = .ok (.goto off, 3)) (ht : (pc : Int) + off = (tgt : Int)) (k : Go M d tgt lv st ws Post) : Go M d pc lv st ws Post := by
  intro p l e s m args below meth c D cy ad A H locs ls C hP hD hS hl
  exact lv_goto C.1 C.2.1 hd ht (k p l e s m args below meth c D cy ad A H locs ls C hP hD hS hl)
theorem g_if_eq {x : Int32} {off : Int} {tgt : Nat} (hd : decode M.2.1 pc = .ok (.ifCond .eq off, 3)) (ht : (pc : Int) + off = (tgt : Int)) (kt : (x = 0) → Go M d tgt lv st ws Post) (kf : ¬ (x = 0) → Go M d (pc + 3) lv st ws Post) : Go M d pc lv (.int x :: st) ws Post := by
  intro p l e s m args below meth c D cy ad A H locs ls C hP hD hS hl
  exact lv_if_eq C.1 C.2.1 hd ht (fun h => kt h p l e s m args below meth c D cy ad A H locs ls C hP hD hS hl) (fun h => kf h p l e s m args below meth c D cy ad A H locs ls C hP hD hS hl)
theorem g_icmp_eq {x y : Int32} {off : Int} {tgt : Nat} (hd : decode M.2.1 pc = .ok (.if_icmp .eq off, 3)) (ht : (pc : Int) + off = (tgt : Int)) (kt : (x = y) → Go M d tgt lv st ws Post) (kf : ¬ (x = y) → Go M d (pc + 3) lv st ws Post) : Go M d pc lv (.int y :: .int x :: st) ws Post := by
  intro p l e s m args below meth c D cy ad A H locs ls C hP hD hS hl
  exact lv_icmp_eq C.1 C.2.1 hd ht (fun h => kt h p l e s m args below meth c D cy ad A H locs ls C hP hD hS hl) (fun h => kf h p l e s m args below meth c D cy ad A H locs ls C hP hD hS hl)
theorem g_if_ne {x : Int32} {off : Int} {tgt : Nat} (hd : decode M.2.1 pc = .ok (.ifCond .ne off, 3)) (ht : (pc : Int) + off = (tgt : Int)) (kt : (x ≠ 0) → Go M d tgt lv st ws Post) (kf : x = 0 → Go M d (pc + 3) lv st ws Post) : Go M d pc lv (.int x :: st) ws Post := by
  intro p l e s m args below meth c D cy ad A H locs ls C hP hD hS hl
  exact lv_if_ne C.1 C.2.1 hd ht (fun h => kt h p l e s m args below meth c D cy ad A H locs ls C hP hD hS hl) (fun h => kf h p l e s m args below meth c D cy ad A H locs ls C hP hD hS hl)
theorem g_icmp_ne {x y : Int32} {off : Int} {tgt : Nat} (hd : decode M.2.1 pc = .ok (.if_icmp .ne off, 3)) (ht : (pc : Int) + off = (tgt : Int)) (kt : (x ≠ y) → Go M d tgt lv st ws Post) (kf : x = y → Go M d (pc + 3) lv st ws Post) : Go M d pc lv (.int y :: .int x :: st) ws Post := by
  intro p l e s m args below meth c D cy ad A H locs ls C hP hD hS hl
  exact lv_icmp_ne C.1 C.2.1 hd ht (fun h => kt h p l e s m args below meth c D cy ad A H locs ls C hP hD hS hl) (fun h => kf h p l e s m args below meth c D cy ad A H locs ls C hP hD hS hl)
theorem g_if_lt {x : Int32} {off : Int} {tgt : Nat} (hd : decode M.2.1 pc = .ok (.ifCond .lt off, 3)) (ht : (pc : Int) + off = (tgt : Int)) (kt : (x < 0) → Go M d tgt lv st ws Post) (kf : ¬ (x < 0) → Go M d (pc + 3) lv st ws Post) : Go M d pc lv (.int x :: st) ws Post := by
  intro p l e s m args below meth c D cy ad A H locs ls C hP hD hS hl
  exact lv_if_lt C.1 C.2.1 hd ht (fun h => kt h p l e s m args below meth c D cy ad A H locs ls C hP hD hS hl) (fun h => kf h p l e s m args below meth c D cy ad A H locs ls C hP hD hS hl)
theorem g_icmp_lt {x y : Int32} {off : Int} {tgt : Nat} (hd : decode M.2.1 pc = .ok (.if_icmp .lt off, 3)) (ht : (pc : Int) + off = (tgt : Int)) (kt : (x < y) → Go M d tgt lv st ws Post) (kf : ¬ (x < y) → Go M d (pc + 3) lv st ws Post) : Go M d pc lv (.int y :: .int x :: st) ws Post := by
  intro p l e s m args below meth c D cy ad A H locs ls C hP hD hS hl
  exact lv_icmp_lt C.1 C.2.1 hd ht (fun h => kt h p l e s m args below meth c D cy ad A H locs ls C hP hD hS hl) (fun h => kf h p l e s m args below meth c D cy ad A H locs ls C hP hD hS hl)
theorem g_if_ge {x : Int32} {off : Int} {tgt : Nat} (hd : decode M.2.1 pc = .ok (.ifCond .ge off, 3)) (ht : (pc : Int) + off = (tgt : Int)) (kt : (0 ≤ x) → Go M d tgt lv st ws Post) (kf : ¬ (0 ≤ x) → Go M d (pc + 3) lv st ws Post) : Go M d pc lv (.int x :: st) ws Post := by
  intro p l e s m args below meth c D cy ad A H locs ls C hP hD hS hl
  exact lv_if_ge C.1 C.2.1 hd ht (fun h => kt h p l e s m args below meth c D cy ad A H locs ls C hP hD hS hl) (fun h => kf h p l e s m args below meth c D cy ad A H locs ls C hP hD hS hl)
theorem g_icmp_ge {x y : Int32} {off : Int} {tgt : Nat} (hd : decode M.2.1 pc = .ok (.if_icmp .ge off, 3)) (ht : (pc : Int) + off = (tgt : Int)) (kt : (y ≤ x) → Go M d tgt lv st ws Post) (kf : ¬ (y ≤ x) → Go M d (pc + 3) lv st ws Post) : Go M d pc lv (.int y :: .int x :: st) ws Post := by
  intro p l e s m args below meth c D cy ad A H locs ls C hP hD hS hl
  exact lv_icmp_ge C.1 C.2.1 hd ht (fun h => kt h p l e s m args below meth c D cy ad A H locs ls C hP hD hS hl) (fun h => kf h p l e s m args below meth c D cy ad A H locs ls C hP hD hS hl)
theorem g_if_gt {x : Int32} {off : Int} {tgt : Nat} (hd : decode M.2.1 pc = .ok (.ifCond .gt off, 3)) (ht : (pc : Int) + off = (tgt : Int)) (kt : (0 < x) → Go M d tgt lv st ws Post) (kf : ¬ (0 < x) → Go M d (pc + 3) lv st ws Post) : Go M d pc lv (.int x :: st) ws Post := by
  intro p l e s m args below meth c D cy ad A H locs ls C hP hD hS hl
  exact lv_if_gt C.1 C.2.1 hd ht (fun h => kt h p l e s m args below meth c D cy ad A H locs ls C hP hD hS hl) (fun h => kf h p l e s m args below meth c D cy ad A H locs ls C hP hD hS hl)
theorem g_icmp_gt {x y : Int32} {off : Int} {tgt : Nat} (hd : decode M.2.1 pc = .ok (.if_icmp .gt off, 3)) (ht : (pc : Int) + off = (tgt : Int)) (kt : (y < x) → Go M d tgt lv st ws Post) (kf : ¬ (y < x) → Go M d (pc + 3) lv st ws Post) : Go M d pc lv (.int y :: .int x :: st) ws Post := by
  intro p l e s m args below meth c D cy ad A H locs ls C hP hD hS hl
  exact lv_icmp_gt C.1 C.2.1 hd ht (fun h => kt h p l e s m args below meth c D cy ad A H locs ls C hP hD hS hl) (fun h => kf h p l e s m args below meth c D cy ad A H locs ls C hP hD hS hl)
theorem g_if_le {x : Int32} {off : Int} {tgt : Nat} (hd : decode M.2.1 pc = .ok (.ifCond .le off, 3)) (ht : (pc : Int) + off = (tgt : Int)) (kt : (x ≤ 0) → Go M d tgt lv st ws Post) (kf : ¬ (x ≤ 0) → Go M d (pc + 3) lv st ws Post) : Go M d pc lv (.int x :: st) ws Post := by
  intro p l e s m args below meth c D cy ad A H locs ls C hP hD hS hl
  exact lv_if_le C.1 C.2.1 hd ht (fun h => kt h p l e s m args below meth c D cy ad A H locs ls C hP hD hS hl) (fun h => kf h p l e s m args below meth c D cy ad A H locs ls C hP hD hS hl)
theorem g_icmp_le {x y : Int32} {off : Int} {tgt : Nat} (hd : decode M.2.1 pc = .ok (.if_icmp .le off, 3)) (ht : (pc : Int) + off = (tgt : Int)) (kt : (x ≤ y) → Go M d tgt lv st ws Post) (kf : ¬ (x ≤ y) → Go M d (pc + 3) lv st ws Post) : Go M d pc lv (.int y :: .int x :: st) ws Post := by
  intro p l e s m args below meth c D cy ad A H locs ls C hP hD hS hl
  exact lv_icmp_le C.1 C.2.1 hd ht (fun h => kt h p l e s m args below meth c D cy ad A H locs ls C hP hD hS hl) (fun h => kf h p l e s m args below meth c D cy ad A H locs ls C hP hD hS hl)
theorem g_tableIn {dflt lo hi : Int} {offs : Array Int} {len : Nat} {x : Int32} {off : Int} {tgt : Nat} (hd : decode M.2.1 pc = .ok (.tableswitch dflt lo hi offs, len)) (h1 : ¬ x.toInt < lo) (h2 : ¬ hi < x.toInt) (ho : offs[(x.toInt - lo).toNat]? = some off) (ht : (pc : Int) + off = (tgt : Int)) (k : Go M d tgt lv st ws Post) : Go M d pc lv (.int x :: st) ws Post := by
  intro p l e s m args below meth c D cy ad A H locs ls C hP hD hS hl
  exact lv_tableIn C.1 C.2.1 hd h1 h2 ho ht (k p l e s m args below meth c D cy ad A H locs ls C hP hD hS hl)
theorem g_tableOut {dflt lo hi : Int} {offs : Array Int} {len : Nat} {x : Int32} {tgt : Nat} (hd : decode M.2.1 pc = .ok (.tableswitch dflt lo hi offs, len)) (h : x.toInt < lo ∨ hi < x.toInt) (ht : (pc : Int) + dflt = (tgt : Int)) (k : Go M d tgt lv st ws Post) : Go M d pc lv (.int x :: st) ws Post := by
  intro p l e s m args below meth c D cy ad A H locs ls C hP hD hS hl
  exact lv_tableOut C.1 C.2.1 hd h ht (k p l e s m args below meth c D cy ad A H locs ls C hP hD hS hl)
end GA
end
section
/-! fields, arrays, calls, ends -/
/-- the constant 'idx' of the class 'own' is the field k of the class number ci -/
def gF (own : String) (idx ci k : Nat) : Prop := ∃ (C : String) (T : u_T) (N : Nat), gcl[ci]? = some (C, T, N) ∧ k < N ∧ (∀ w ∈ u_ws C T N, w ∈ gw) ∧ (Cond.fieldLink own idx (T k).1 (T k).2.1 (T k).2.2.1 ∈ gw ∨ ∃ host, Cond.fieldLinkNest own idx (T k).1 (T k).2.1 (T k).2.2.1 host ∈ gnl)
/-- it isn't final, its type is ty; the class's fields have different names and known types -/
def gFp (ci k : Nat) (ty : FieldType) : Prop := ∃ (C : String) (T : u_T) (N : Nat) (ty0 : Nat → FieldType), gcl[ci]? = some (C, T, N) ∧ (T k).2.2.2 = false ∧ parseFieldDescriptor (T k).2.2.1 = some ty ∧ (∀ k, k < N → parseFieldDescriptor (T k).2.2.1 = some (ty0 k)) ∧ (∀ a, a < N → ∀ b, b < N → a ≠ b → (T a).2.1 ≠ (T b).2.1)
/-- the method M can be called with n arguments (the receiver apart) -/
def gMk (M : gM) (n : Nat) : Prop := Cond.code M.1 M.2.1 M.2.2.1 M.2.2.2 ∈ gw ∧ Cond.initialized M.1.cls ∈ gw ∧ (M.1.cls ≠ "java/lang/invoke/MethodHandle" ∧ M.1.cls ≠ "java/lang/invoke/VarHandle" ∧ (parseMethodDescriptor M.1.desc).map (fun d => d.parameters.length) = some n) ∧ M.2.2.1 ≤ 13
def gLv (own : String) (idx : Nat) (y : MethodName) : Prop := Cond.methodLink own idx y ∈ gw ∧ Cond.instanceMethod y ∈ gw ∧ Cond.selects y.cls y y ∈ gw
def gLs (own : String) (idx : Nat) (y : MethodName) : Prop := Cond.methodLink own idx y ∈ gw ∧ Cond.static y ∈ gw
def gLn (own : String) (idx : Nat) (y : MethodName) : Prop := (∃ host, Cond.methodLinkNest own idx y host ∈ gnl) ∧ Cond.static y ∈ gw
theorem gw_good {y : MethodName} {b : ByteArray} {n : Nat} {r : Option FieldType} (h : Cond.code y b n r ∈ gw) : GoodIn gw (Cond.code y b n r :: gw) := by
  intro w hw
  rcases List.mem_cons.mp hw with rfl | hw
  · exact ⟨h, good_of_word (List.mem_filter.mp h).2⟩
  · exact ⟨hw, good_of_word (List.mem_filter.mp hw).2⟩
theorem cE_obj (ad : Nat → Nat) (cy : Nat → ClassId) (ci : Nat) (fs : List Value) : cE ad cy (.inr (ci, fs)) = .inr (ci, fs.map (cV ad)) := rfl
section GH
variable {M : gM} {d pc : Nat} {lv : List (Nat × Value)} {st : List Value} {ws : List va_E} {Post : Option Value → List va_E → Prop}
theorem g_get {idx ci f q : Nat} {fs : List Value} {v : Value} (hf : gF M.1.cls idx ci f) (hq : ws[q]? = some (.inr (ci, fs))) (hv : fs[f]? = some v) (hd : decode M.2.1 pc = .ok (.getfield idx, 3)) (k : Go M d (pc + 3) lv (v :: st) ws Post) : Go M d pc lv (.ref q :: st) ws Post := by
  intro p l e s m args below meth c D cy ad A H locs ls C hP hD hS hl
  obtain ⟨C1, T, N, h1, h2, h3, h4⟩ := hf
  have hv' : (fs.map (cV ad))[f]? = some (cV ad v) := by simp [hv]
  have hk := k p l e s m args below meth c D cy ad A H locs ls C hP hD hS hl
  rcases h4 with h4 | ⟨host, h4⟩
  · exact va_get C.1 C.2.1 C.2.2.2.2.2.1 h3 C.2.2.2.2.2.2.1 C.2.2.2.2.2.2.2.1 hP q (gC_at hq) h1 f h2 (C.2.2.2.2.2.1 _ h4) (fun _ h9 => h9) hv' hd hk
  · exact va_getN C.1 C.2.1 C.2.2.2.2.2.1 h3 C.2.2.2.2.2.2.1 C.2.2.2.2.2.2.2.1 hP q (gC_at hq) h1 f h2 (va_Nw.use rfl (C.2.2.2.2.2.2.2.2.1 _ h4)) (fun _ h9 => h9) hv' hd hk
theorem g_put {idx ci f q : Nat} {fs : List Value} {v : Value} {ty : FieldType} {ws' : List va_E} (hf : gF M.1.cls idx ci f) (hp : gFp ci f ty) (hq : ws[q]? = some (.inr (ci, fs))) (hl0 : f < fs.length) (hn : narrow ty v = v) (hfit : fits ty v = true) (hr : ∀ a, cV a v = v) (hd : decode M.2.1 pc = .ok (.putfield idx, 3)) (hw : ws.set q (.inr (ci, fs.set f v)) = ws') (k : Go M d (pc + 3) lv st ws' Post) : Go M d pc lv (v :: .ref q :: st) ws Post := by
  intro p l e s m args below meth c D cy ad A H locs ls C hP hD hS hl
  obtain ⟨C1, T, N, h1, h2, h3, h4⟩ := hf
  obtain ⟨C2, T2, N2, ty0, g1, g2, g3, g4, g5⟩ := hp
  have e0 : (C1, T, N) = (C2, T2, N2) := Option.some.inj (h1.symm.trans g1)
  cases e0
  have he : (gC ad cy ws).set q (ad q, .inr (ci, (fs.map (cV ad)).set f v)) = gC ad cy ws' := by
    rw [← hw, ← gC_set, cE_obj, List.map_set, hr]
  have hl1 : f < (fs.map (cV ad)).length := by rw [List.length_map]; exact hl0
  have hk : ∀ (H1 : Heap) (locs1 : List Loc), va_P D gcl ((gC ad cy ws).set q (ad q, .inr (ci, (fs.map (cV ad)).set f v))) H1 → va_D A ((gC ad cy ws).set q (ad q, .inr (ci, (fs.map (cV ad)).set f v))) → va_S A s.heap H1 locs1 → W p l e (gR d) s m args below meth c H1 locs1 0 0 (MQ below (gQ D cy ad A Post) args s 0 0 A) (F0 m (pc + 3) ls (st.map (cV ad))) := by
    intro H1 locs1 hP1 hD1 hS1
    rw [he] at hP1 hD1
    exact k p l e s m args below meth c D cy ad A H1 locs1 ls C hP1 hD1 hS1 hl
  show W p l e (gR d) s m args below meth c H locs 0 0 _ (F0 m pc ls (cV ad v :: .ref (ad q) :: st.map (cV ad)))
  rw [hr]
  rcases h4 with h4 | ⟨host, h4⟩
  · exact va_put C.1 C.2.1 C.2.2.2.2.2.1 h3 ty0 g4 g5 C.2.2.2.2.2.2.1 C.2.2.2.2.2.2.2.1 hP hD hS q (gC_at hq) h1 f h2 (C.2.2.2.2.2.1 _ h4) (fun _ h9 => h9) g2 g3 hn hfit hl1 hd hk
  · exact va_putN C.1 C.2.1 C.2.2.2.2.2.1 h3 ty0 g4 g5 C.2.2.2.2.2.2.1 C.2.2.2.2.2.2.2.1 hP hD hS q (gC_at hq) h1 f h2 (va_Nw.use rfl (C.2.2.2.2.2.2.2.2.1 _ h4)) (fun _ h9 => h9) g2 g3 hn hfit hl1 hd hk
theorem g_iald {q n : Nat} {f : Nat → Int32} {i : Int32} (hq : ws[q]? = some (.inl (0, n, .inl f))) (hin : vp_in i n) (hd : decode M.2.1 pc = .ok (.iaload, 1)) (k : Go M d (pc + 1) lv (.int (f i.toNatClampNeg) :: st) ws Post) : Go M d pc lv (.int i :: .ref q :: st) ws Post := by
  intro p l e s m args below meth c D cy ad A H locs ls C hP hD hS hl
  exact va_iald C.1 C.2.1 C.2.2.2.2.2.2.2.1 hP q 0 (gC_at hq) rfl hin hd (k p l e s m args below meth c D cy ad A H locs ls C hP hD hS hl)
theorem g_zald {q n : Nat} {f : Nat → Int32} {i : Int32} (hq : ws[q]? = some (.inl (2, n, .inl f))) (hin : vp_in i n) (hd : decode M.2.1 pc = .ok (.baload, 1)) (k : Go M d (pc + 1) lv (.int (f i.toNatClampNeg) :: st) ws Post) : Go M d pc lv (.int i :: .ref q :: st) ws Post := by
  intro p l e s m args below meth c D cy ad A H locs ls C hP hD hS hl
  exact va_zald C.1 C.2.1 C.2.2.2.2.2.2.2.1 hP q 2 (gC_at hq) rfl hin hd (k p l e s m args below meth c D cy ad A H locs ls C hP hD hS hl)
theorem g_lald {q n : Nat} {f : Nat → Int64} {i : Int32} (hq : ws[q]? = some (.inl (1, n, .inr (.inl f)))) (hin : vp_in i n) (hd : decode M.2.1 pc = .ok (.laload, 1)) (k : Go M d (pc + 1) lv (.long (f i.toNatClampNeg) :: st) ws Post) : Go M d pc lv (.int i :: .ref q :: st) ws Post := by
  intro p l e s m args below meth c D cy ad A H locs ls C hP hD hS hl
  exact va_lald C.1 C.2.1 C.2.2.2.2.2.2.2.1 hP q 1 (gC_at hq) rfl hin hd (k p l e s m args below meth c D cy ad A H locs ls C hP hD hS hl)
theorem g_iast {q n : Nat} {f : Nat → Int32} {i x : Int32} {ws' : List va_E} (hq : ws[q]? = some (.inl (0, n, .inl f))) (hin : vp_in i n) (hd : decode M.2.1 pc = .ok (.iastore, 1)) (hw : ws.set q (.inl (0, n, .inl (upd f i.toNatClampNeg x))) = ws') (k : Go M d (pc + 1) lv st ws' Post) : Go M d pc lv (.int x :: .int i :: .ref q :: st) ws Post := by
  intro p l e s m args below meth c D cy ad A H locs ls C hP hD hS hl
  refine va_iast C.1 C.2.1 C.2.2.2.2.2.2.2.1 hP hD hS q 0 (gC_at hq) rfl hin hd (fun H1 locs1 hP1 hD1 hS1 => ?_)
  have he : (gC ad cy ws).set q (ad q, .inl (cy 0, n, .inl (upd f i.toNatClampNeg x))) = gC ad cy ws' := by rw [← hw, ← gC_set]; rfl
  rw [he] at hP1 hD1
  exact k p l e s m args below meth c D cy ad A H1 locs1 ls C hP1 hD1 hS1 hl
theorem g_zast {q n : Nat} {f : Nat → Int32} {i x : Int32} {ws' : List va_E} (hq : ws[q]? = some (.inl (2, n, .inl f))) (hin : vp_in i n) (hd : decode M.2.1 pc = .ok (.bastore, 1)) (hw : ws.set q (.inl (2, n, .inl (upd f i.toNatClampNeg (vp_nar .boolean x)))) = ws') (k : Go M d (pc + 1) lv st ws' Post) : Go M d pc lv (.int x :: .int i :: .ref q :: st) ws Post := by
  intro p l e s m args below meth c D cy ad A H locs ls C hP hD hS hl
  refine va_zast C.1 C.2.1 C.2.2.2.2.2.2.2.1 hP hD hS q 2 (gC_at hq) rfl hin hd (fun H1 locs1 hP1 hD1 hS1 => ?_)
  have he : (gC ad cy ws).set q (ad q, .inl (cy 2, n, .inl (upd f i.toNatClampNeg (vp_nar .boolean x)))) = gC ad cy ws' := by rw [← hw, ← gC_set]; rfl
  rw [he] at hP1 hD1
  exact k p l e s m args below meth c D cy ad A H1 locs1 ls C hP1 hD1 hS1 hl
theorem g_last {q n : Nat} {f : Nat → Int64} {i : Int32} {x : Int64} {ws' : List va_E} (hq : ws[q]? = some (.inl (1, n, .inr (.inl f)))) (hin : vp_in i n) (hd : decode M.2.1 pc = .ok (.lastore, 1)) (hw : ws.set q (.inl (1, n, .inr (.inl (vp_updL f i.toNatClampNeg x)))) = ws') (k : Go M d (pc + 1) lv st ws' Post) : Go M d pc lv (.long x :: .int i :: .ref q :: st) ws Post := by
  intro p l e s m args below meth c D cy ad A H locs ls C hP hD hS hl
  refine va_last C.1 C.2.1 C.2.2.2.2.2.2.2.1 hP hD hS q 1 (gC_at hq) rfl hin hd (fun H1 locs1 hP1 hD1 hS1 => ?_)
  have he : (gC ad cy ws).set q (ad q, .inl (cy 1, n, .inr (.inl (vp_updL f i.toNatClampNeg x)))) = gC ad cy ws' := by rw [← hw, ← gC_set]; rfl
  rw [he] at hP1 hD1
  exact k p l e s m args below meth c D cy ad A H1 locs1 ls C hP1 hD1 hS1 hl
theorem g_alen {q t : Nat} {x : vp_A} {v : Int32} (hq : ws[q]? = some (.inl (t, x))) (ht : t < 3) (hv : Int32.ofNat x.1 = v) (hd : decode M.2.1 pc = .ok (.arraylength, 1)) (k : Go M d (pc + 1) lv (.int v :: st) ws Post) : Go M d pc lv (.ref q :: st) ws Post := by
  intro p l e s m args below meth c D cy ad A H locs ls C hP hD hS hl
  have hk := k p l e s m args below meth c D cy ad A H locs ls C hP hD hS hl
  have hg := gC_at (ad := ad) (cy := cy) hq
  match t, ht, hg with
  | 0, _, hg => exact va_alen C.1 C.2.1 C.2.2.2.2.2.2.2.1 hP q 0 hg rfl hv hd hk
  | 1, _, hg => exact va_alen C.1 C.2.1 C.2.2.2.2.2.2.2.1 hP q 1 hg rfl hv hd hk
  | 2, _, hg => exact va_alen C.1 C.2.1 C.2.2.2.2.2.2.2.1 hP q 2 hg rfl hv hd hk
/-- behind a call -/
theorem g_back {p : Program} {l : Launch} {e : Env} {s : State} {m : MethodId} {args : Array Value} {below : List Frame} {meth : Method} {c : Code} {D : va_G} {cy : Nat → ClassId} {ad : Nat → Nat} {A : Nat → Prop} {H : Heap} {locs : List Loc} {ls : Array Slot} {st0 rest : List Value} {a : Array Value} {P1 : Option Value → List va_E → Prop}
    (hr : va_Run p l e (gR d) s m args below meth c H locs 0 0 0 0 (F0 m pc ls st0) (rest.map (cV ad)) (gQ D cy ad (va_A (gC ad cy ws) H.size) P1 a) (va_A (gC ad cy ws) H.size))
    (C : gCtx M D cy A p s m args meth c) (hD : va_D A (gC ad cy ws)) (hS : va_S A s.heap H locs) (hl : lv_has ls M.2.2.1 (cL ad lv))
    (k : ∀ v u, P1 v u → Go M d (pc + 3) lv (v.toList ++ rest) u Post) : W p l e (gR d) s m args below meth c H locs 0 0 (MQ below (gQ D cy ad A Post) args s 0 0 A) (F0 m pc ls st0) := by
  have hF : ∀ q, va_A (gC ad cy ws) H.size q → A q := by
    intro q h
    rcases h with ⟨k, e, h⟩ | h
    · exact hD.2 k (q, e) h
    · exact C.2.2.2.2.2.2.2.2.2 q (Nat.le_trans hS.1 h)
  intro T hT X
  obtain ⟨v, st₀, t, T', L, h0, X', hL, e1, e2, ⟨⟨v0, u, hv, hp, hP1, hD1⟩, hz, hk⟩, stp⟩ := hr T hT X
  rw [h0] at hz hk
  have hv0 : v = v0.map (cV ad) := by injection hv
  subst hv0
  have hst : (Option.map (cV ad) v0).toList ++ rest.map (cV ad) = (v0.toList ++ rest).map (cV ad) := by cases v0 <;> simp
  rw [hst] at stp
  obtain ⟨t2, a1, b1⟩ := k v0 u hp p l e s m args below meth c D cy ad A T'.heap (locs ++ L) ls C (by rw [e1]; exact hP1) (hD1.weaken (fun k q _ h => hF q.1 h))
    ⟨Nat.le_trans hS.1 (by rw [e1]; exact hz), fun q h1 h2 => by rw [e1, hk q (Nat.lt_of_lt_of_le h1 hS.1) (fun z => h2 (hF q z))]; exact hS.2.1 q h1 h2, fun q hq => by
      rcases List.mem_append.mp hq with h | h
      · exact hS.2.2 q h
      · exact hF _ (hL q h)⟩ hl T' rfl X'
  exact ⟨t2, stp t2 a1, b1⟩
theorem g_pre {s : State} {D : va_G} {cy : Nat → ClassId} {ad : Nat → Nat} {A : Nat → Prop} {H : Heap} {as : List Value} (hP : va_P D gcl (gC ad cy ws) H) (hD : va_D A (gC ad cy ws)) (hK : va_K D gcl (gT cy) s) (hN : gN s) :
    PreS s H (va_Pc (as.map (cV ad)) (fun U => U.heap.size = H.size ∧ va_P D gcl (gC ad cy ws) U.heap ∧ va_K D gcl (gT cy) U ∧ gN U ∧ va_D (fun _ => True) (gC ad cy ws))) (as.map (cV ad)) := by
  refine ⟨fun a U g mk q => ?_, fun U hU hW => ⟨rfl, by rw [hU], by rw [hU]; exact hP, va_K.moved hW.alike hK, gN_warm hW hN, hD.weaken (fun _ _ _ _ => trivial)⟩⟩
  obtain ⟨q0, q1, qP, qK, qN, qD⟩ := q
  exact ⟨q0, q1, qP, va_K.moved (u := U) (U := U.calling g mk a) (Vm.Alike.refl U.vm) qK, gN_same (s := U) (U := U.calling g mk a) rfl qN, qD⟩
theorem gR_room {d d' n : Nat} (h : d' + 1 ≤ d) (hn : n ≤ 13) : (gR d').frames + 1 ≤ (gR d).frames ∧ 8 + (n + 11) + (gR d').locals ≤ (gR d).locals := ⟨h, by show 8 + (n + 11) + 32 * d' ≤ 32 * d; omega⟩
theorem g_sum {ad : Nat → Nat} {rest : List Value} (h : (rest.map fun v => v.category).sum ≤ 8) : ((rest.map (cV ad)).map fun v => v.category).sum ≤ 8 := by
  have e : (rest.map (cV ad)).map (fun v => v.category) = rest.map (fun v => v.category) := by
    rw [List.map_map]; apply List.map_congr_left; intro v _; exact cV_cat ad v
  rw [e]; exact h
theorem g_callV {M' : gM} {d' n q ci idx : Nat} {fs as rest st0 : List Value} {x : vw_C} {P1 : Option Value → List va_E → Prop} (hc : Ct M' d' (.ref q :: as) ws P1) (hm : gMk M' n) (hL : gLv M.1.cls idx M'.1) (hd' : d' + 1 ≤ d) (hn : as.length = n) (hq : ws[q]? = some (.inr (ci, fs))) (hx : gcl[ci]? = some x) (hx1 : x.1 = M'.1.cls)
    (hW : (rest.map fun v => v.category).sum ≤ 8) (hd : decode M.2.1 pc = .ok (.invokevirtual idx, 3)) (hst : st0 = as.reverse ++ .ref q :: rest) (k : ∀ v u, P1 v u → Go M d (pc + 3) lv (v.toList ++ rest) u Post) : Go M d pc lv st0 ws Post := by
  intro p l e s m args below meth c D cy ad A H locs ls C hP hD hS hl
  obtain ⟨hm1, hm2, hm3, hm4⟩ := hm
  have hts := C.2.2.2.2.2.1
  have hpre := g_pre (as := .ref q :: as) hP hD C.2.2.2.2.2.2.2.1 C.2.2.2.2.2.2.2.2.1
  have hrecv := va_recv C.2.2.2.2.2.2.2.1 hP hx (gC_at hq)
  rw [hx1] at hrecv
  have hrun := va_runV (e := e) (below := below) (meth := meth) (locs := locs) (g := F0 m pc ls (st0.map (cV ad))) (As := as.map (cV ad)) (rest := rest.map (cV ad)) (b := ad q) (C := M'.1.cls) ⟨C.1, C.2.1, C.2.2.1, C.2.2.2.2.2.2.1, hts⟩ (hc l D cy ad H.size)
    ⟨callB_of (ws' := gw) n hts (gw_good hm1) rfl rfl rfl (hts _ hm2) (hts _ hL.1) hm3 (gR_room hd' hm4), hts _ hL.2.1, hts _ hL.2.2⟩
    ⟨hpre.1, hrecv, hpre.2⟩ rfl (by rw [List.length_map]; exact hn) hl.1 (by show st0.map (cV ad) = _; rw [hst]; simp [cV]) (lv_room (g_sum hW)) hd ⟨Nat.zero_le _, Nat.zero_le _⟩
  exact g_back hrun C hD hS hl k
theorem g_callS {M' : gM} {d' n idx : Nat} {as rest st0 : List Value} {P1 : Option Value → List va_E → Prop} (hc : Ct M' d' as ws P1) (hm : gMk M' n) (hL : gLs M.1.cls idx M'.1) (hd' : d' + 1 ≤ d) (hn : as.length = n)
    (hW : (rest.map fun v => v.category).sum ≤ 8) (hd : decode M.2.1 pc = .ok (.invokestatic idx, 3)) (hst : st0 = as.reverse ++ rest) (k : ∀ v u, P1 v u → Go M d (pc + 3) lv (v.toList ++ rest) u Post) : Go M d pc lv st0 ws Post := by
  intro p l e s m args below meth c D cy ad A H locs ls C hP hD hS hl
  obtain ⟨hm1, hm2, hm3, hm4⟩ := hm
  have hts := C.2.2.2.2.2.1
  have hpre := g_pre (as := as) hP hD C.2.2.2.2.2.2.2.1 C.2.2.2.2.2.2.2.2.1
  have hrun := va_runS (e := e) (below := below) (meth := meth) (locs := locs) (g := F0 m pc ls (st0.map (cV ad))) (As := as.map (cV ad)) (rest := rest.map (cV ad)) ⟨C.1, C.2.1, C.2.2.1, C.2.2.2.2.2.2.1, hts⟩ (hc l D cy ad H.size)
    ⟨callB_of (ws' := gw) n hts (gw_good hm1) rfl rfl rfl (hts _ hm2) (hts _ hL.1) hm3 (gR_room hd' hm4), hts _ hL.2⟩
    hpre rfl (by rw [List.length_map]; exact hn) hl.1 (by show st0.map (cV ad) = _; rw [hst]; simp) (lv_room (g_sum hW)) hd ⟨Nat.zero_le _, Nat.zero_le _⟩
  exact g_back hrun C hD hS hl k
theorem g_callN {M' : gM} {d' n idx : Nat} {as rest st0 : List Value} {P1 : Option Value → List va_E → Prop} (hc : Ct M' d' as ws P1) (hm : gMk M' n) (hL : gLn M.1.cls idx M'.1) (hd' : d' + 1 ≤ d) (hn : as.length = n)
    (hW : (rest.map fun v => v.category).sum ≤ 8) (hd : decode M.2.1 pc = .ok (.invokestatic idx, 3)) (hst : st0 = as.reverse ++ rest) (k : ∀ v u, P1 v u → Go M d (pc + 3) lv (v.toList ++ rest) u Post) : Go M d pc lv st0 ws Post := by
  intro p l e s m args below meth c D cy ad A H locs ls C hP hD hS hl
  obtain ⟨hm1, hm2, hm3, hm4⟩ := hm
  obtain ⟨⟨host, hL1⟩, hL2⟩ := hL
  have hts := C.2.2.2.2.2.1
  have hpre := g_pre (as := as) hP hD C.2.2.2.2.2.2.2.1 C.2.2.2.2.2.2.2.2.1
  have hrun := va_runSN (e := e) (below := below) (meth := meth) (locs := locs) (g := F0 m pc ls (st0.map (cV ad))) (As := as.map (cV ad)) (rest := rest.map (cV ad)) ⟨C.1, C.2.1, C.2.2.1, C.2.2.2.2.2.2.1, hts⟩ (hc l D cy ad H.size)
    ⟨va_cnB (ws' := gw) n hts (gw_good hm1) rfl rfl rfl (C.2.2.2.2.2.2.2.2.1 _ hL1) (hts _ hm2) hm3 (gR_room hd' hm4), hts _ hL2, trivial⟩
    hpre rfl (by rw [List.length_map]; exact hn) hl.1 (by show st0.map (cV ad) = _; rw [hst]; simp) (lv_room (g_sum hW)) hd ⟨Nat.zero_le _, Nat.zero_le _⟩
  exact g_back hrun C hD hS hl k
theorem g_iret {v : Int32} {ty : FieldType} (hr : M.2.2.2 = some ty) (hn : narrow ty (.int v) = .int v) (hd : decode M.2.1 pc = .ok (.ireturn, 1)) (k : Post (some (.int v)) ws) : Go M d pc lv [.int v] ws Post := by
  intro p l e s m args below meth c D cy ad A H locs ls C hP hD hS hl
  exact W.zret (ty := ty) C.1 C.2.1 (C.2.2.2.1.trans hr) hn (fun t ht hW => ⟨⟨some (.int v), ws, rfl, k, by rw [ht]; exact hP, hD⟩, hS.F ht⟩) hS.2.2 hd C.2.2.2.2.1
theorem g_lret {v : Int64} (hr : M.2.2.2 = some .long) (hd : decode M.2.1 pc = .ok (.lreturn, 1)) (k : Post (some (.long v)) ws) : Go M d pc lv [.long v] ws Post := by
  intro p l e s m args below meth c D cy ad A H locs ls C hP hD hS hl
  exact W.lret C.1 C.2.1 (C.2.2.2.1.trans hr) (fun t ht hW => ⟨⟨some (.long v), ws, rfl, k, by rw [ht]; exact hP, hD⟩, hS.F ht⟩) hS.2.2 hd C.2.2.2.2.1
theorem g_vret (hr : M.2.2.2 = none) (hd : decode M.2.1 pc = .ok (.return_, 1)) (k : Post none ws) : Go M d pc lv [] ws Post := by
  intro p l e s m args below meth c D cy ad A H locs ls C hP hD hS hl
  exact W.vret C.1 C.2.1 (C.2.2.2.1.trans hr) (fun t ht hW => ⟨⟨none, ws, rfl, k, by rw [ht]; exact hP, hD⟩, hS.F ht⟩) hS.2.2 hd C.2.2.2.2.1
theorem g_mmax {x y : Int32} {idx : Nat} (hL : Cond.methodLink M.1.cls idx Lib.Math.max.name ∈ gw) (h1 : Cond.static Lib.Math.max.name ∈ gw) (h2 : Cond.initialized "java/lang/Math" ∈ gw) (h3 : Cond.code Lib.Math.max.name Lib.Math.max.code 2 (some .int) ∈ gw) (hd' : 1 ≤ d) (hW : (st.map fun v => v.category).sum ≤ 8) (hd : decode M.2.1 pc = .ok (.invokestatic idx, 3)) (k : Go M d (pc + 3) lv (.int (if x < y then y else x) :: st) ws Post) : Go M d pc lv (.int y :: .int x :: st) ws Post := by
  intro p l e s m args below meth c D cy ad A H locs ls C hP hD hS hl
  have hts := C.2.2.2.2.2.1
  exact va_mmax C.1 C.2.1 (C.2.2.1.trans hl.1.symm) C.2.2.2.2.2.2.1 (hts _ hL) (hts _ h1) (hts _ h2) (hts _ h3) hd' (by have := g_sum (ad := ad) hW; show _ + 13 ≤ 32 * d; omega) (Nat.zero_le _) (Nat.zero_le _) hd (k p l e s m args below meth c D cy ad A H locs ls C hP hD hS hl)
theorem g_mmin {x y : Int32} {idx : Nat} (hL : Cond.methodLink M.1.cls idx Lib.Math.min.name ∈ gw) (h1 : Cond.static Lib.Math.min.name ∈ gw) (h2 : Cond.initialized "java/lang/Math" ∈ gw) (h3 : Cond.code Lib.Math.min.name Lib.Math.min.code 2 (some .int) ∈ gw) (hd' : 1 ≤ d) (hW : (st.map fun v => v.category).sum ≤ 8) (hd : decode M.2.1 pc = .ok (.invokestatic idx, 3)) (k : Go M d (pc + 3) lv (.int (if y < x then y else x) :: st) ws Post) : Go M d pc lv (.int y :: .int x :: st) ws Post := by
  intro p l e s m args below meth c D cy ad A H locs ls C hP hD hS hl
  have hts := C.2.2.2.2.2.1
  exact va_mmin C.1 C.2.1 (C.2.2.1.trans hl.1.symm) C.2.2.2.2.2.2.1 (hts _ hL) (hts _ h1) (hts _ h2) (hts _ h3) hd' (by have := g_sum (ad := ad) hW; show _ + 13 ≤ 32 * d; omega) (Nat.zero_le _) (Nat.zero_le _) hd (k p l e s m args below meth c D cy ad A H locs ls C hP hD hS hl)
theorem g_copy {q0 q1 n0 n1 idx : Nat} {f g : Nat → Int32} {sp dp n : Int32} {ws' : List va_E} (hL : Cond.methodLink M.1.cls idx arraycopyName ∈ gw) (hx1 : Cond.native arraycopyName ∈ gw) (hx2 : Cond.static arraycopyName ∈ gw) (hx3 : Cond.initialized "java/lang/System" ∈ gw) (hd' : 2 ≤ d) (hW : (st.map fun v => v.category).sum ≤ 8)
    (hq0 : ws[q0]? = some (.inl (0, n0, .inl f))) (hq1 : ws[q1]? = some (.inl (0, n1, .inl g))) (h1 : ¬ sp < 0) (h2 : ¬ dp < 0) (h3 : ¬ n < 0) (h4 : sp.toNatClampNeg + n.toNatClampNeg ≤ n0) (h5 : dp.toNatClampNeg + n.toNatClampNeg ≤ n1) (hd : decode M.2.1 pc = .ok (.invokestatic idx, 3)) (hw : ws.set q1 (.inl (0, n1, .inl (va_cpy f g sp.toNatClampNeg dp.toNatClampNeg n.toNatClampNeg))) = ws') (k : Go M d (pc + 3) lv st ws' Post) : Go M d pc lv (.int n :: .int dp :: .ref q1 :: .int sp :: .ref q0 :: st) ws Post := by
  intro p l e s m args below meth c D cy ad A H locs ls C hP hD hS hl
  have hts := C.2.2.2.2.2.1
  have e5 : nativeFrameWords "java/lang/System" "arraycopy" 5 ≤ 40 := by decide +kernel
  have e6 := g_sum (ad := ad) hW
  have r1 : 1 ≤ (gR d).frames := by show 1 ≤ d; omega
  have r2 : ((st.map (cV ad)).map fun v => v.category).sum + (nativeFrameWords "java/lang/System" "arraycopy" 5 + 11) ≤ (gR d).locals := by show _ ≤ 32 * d; omega
  refine va_copyi (R := gR d) (rest := st.map (cV ad)) C.1 C.2.1 (C.2.2.1.trans hl.1.symm) C.2.2.2.2.2.2.1 (hts _ hL) (hts _ hx1) (hts _ hx2) (hts _ hx3) C.2.2.2.2.2.2.2.1 hP hD hS q0 q1 0 0 (gC_at hq0) (gC_at hq1) rfl rfl rfl h1 h2 h3 h4 h5 (fun _ _ => rfl) r1 r2 hd (fun H1 locs1 hP1 hD1 hS1 => ?_)
  have he : (gC ad cy ws).set q1 (ad q1, .inl (cy 0, n1, .inl (va_cpy f g sp.toNatClampNeg dp.toNatClampNeg n.toNatClampNeg))) = gC ad cy ws' := by rw [← hw, ← gC_set]; rfl
  rw [he] at hP1 hD1
  exact k p l e s m args below meth c D cy ad A H1 locs1 ls C hP1 hD1 hS1 hl
end GH
end
section
theorem ini_L : Cond.initialized RL ∈ gw := gw_at 46 (by decide +kernel) (by decide +kernel)
theorem ini_X7 : Cond.initialized RX7 ∈ gw := gw_at 47 (by decide +kernel) (by decide +kernel)
theorem ini_X4 : Cond.initialized RX4 ∈ gw := gw_at 48 (by decide +kernel) (by decide +kernel)
theorem ini_X1 : Cond.initialized RX1 ∈ gw := gw_at 49 (by decide +kernel) (by decide +kernel)
theorem ini_X2 : Cond.initialized RX2 ∈ gw := gw_at 50 (by decide +kernel) (by decide +kernel)
theorem ini_X0 : Cond.initialized RX0 ∈ gw := gw_at 51 (by decide +kernel) (by decide +kernel)
theorem ini_X3 : Cond.initialized RX3 ∈ gw := gw_at 52 (by decide +kernel) (by decide +kernel)
theorem ini_J9 : Cond.initialized RJ9 ∈ gw := gw_at 53 (by decide +kernel) (by decide +kernel)
theorem ini_X5 : Cond.initialized RX5 ∈ gw := gw_at 54 (by decide +kernel) (by decide +kernel)
theorem ini_X6 : Cond.initialized RX6 ∈ gw := gw_at 55 (by decide +kernel) (by decide +kernel)
theorem ini_X8 : Cond.initialized RX8 ∈ gw := gw_at 56 (by decide +kernel) (by decide +kernel)
theorem ini_J10 : Cond.initialized RJ10 ∈ gw := gw_at 57 (by decide +kernel) (by decide +kernel)
theorem uw_X0 : ∀ w ∈ u_ws RX0 TX0 3, w ∈ gw := by
  have h : u_ws RX0 TX0 3 = ([176, 178, 180] : List Nat).filterMap (fun i => lw_tbl[i]?) := by decide +kernel
  have h2 : (u_ws RX0 TX0 3).all goodWord = true := by decide +kernel
  intro w hw
  have hg := List.all_eq_true.mp h2 w hw
  rw [h] at hw
  obtain ⟨i, -, hi⟩ := List.mem_filterMap.mp hw
  exact gw_at i hi hg
theorem fp_X0_1 : gFp 0 1 .int := ⟨RX0, TX0, 3, tyX0, rfl, rfl, by decide +kernel, tyX0_ok, nmX0⟩
theorem fp_X0_2 : gFp 0 2 .int := ⟨RX0, TX0, 3, tyX0, rfl, rfl, by decide +kernel, tyX0_ok, nmX0⟩
theorem uw_X1 : ∀ w ∈ u_ws RX1 TX1 11, w ∈ gw := by
  have h : u_ws RX1 TX1 11 = ([115, 117, 119, 121, 123, 125, 127, 129, 131, 133, 135] : List Nat).filterMap (fun i => lw_tbl[i]?) := by decide +kernel
  have h2 : (u_ws RX1 TX1 11).all goodWord = true := by decide +kernel
  intro w hw
  have hg := List.all_eq_true.mp h2 w hw
  rw [h] at hw
  obtain ⟨i, -, hi⟩ := List.mem_filterMap.mp hw
  exact gw_at i hi hg
theorem fp_X1_5 : gFp 1 5 .int := ⟨RX1, TX1, 11, tyX1, rfl, rfl, by decide +kernel, tyX1_ok, nmX1⟩
theorem fp_X1_6 : gFp 1 6 .int := ⟨RX1, TX1, 11, tyX1, rfl, rfl, by decide +kernel, tyX1_ok, nmX1⟩
theorem fp_X1_7 : gFp 1 7 .int := ⟨RX1, TX1, 11, tyX1, rfl, rfl, by decide +kernel, tyX1_ok, nmX1⟩
theorem fp_X1_8 : gFp 1 8 .int := ⟨RX1, TX1, 11, tyX1, rfl, rfl, by decide +kernel, tyX1_ok, nmX1⟩
theorem fp_X1_9 : gFp 1 9 .int := ⟨RX1, TX1, 11, tyX1, rfl, rfl, by decide +kernel, tyX1_ok, nmX1⟩
theorem fp_X1_10 : gFp 1 10 .int := ⟨RX1, TX1, 11, tyX1, rfl, rfl, by decide +kernel, tyX1_ok, nmX1⟩
theorem uw_X2 : ∀ w ∈ u_ws RX2 TX2 1, w ∈ gw := by
  have h : u_ws RX2 TX2 1 = ([147] : List Nat).filterMap (fun i => lw_tbl[i]?) := by decide +kernel
  have h2 : (u_ws RX2 TX2 1).all goodWord = true := by decide +kernel
  intro w hw
  have hg := List.all_eq_true.mp h2 w hw
  rw [h] at hw
  obtain ⟨i, -, hi⟩ := List.mem_filterMap.mp hw
  exact gw_at i hi hg
theorem uw_X3 : ∀ w ∈ u_ws RX3 TX3 2, w ∈ gw := by
  have h : u_ws RX3 TX3 2 = ([167, 169] : List Nat).filterMap (fun i => lw_tbl[i]?) := by decide +kernel
  have h2 : (u_ws RX3 TX3 2).all goodWord = true := by decide +kernel
  intro w hw
  have hg := List.all_eq_true.mp h2 w hw
  rw [h] at hw
  obtain ⟨i, -, hi⟩ := List.mem_filterMap.mp hw
  exact gw_at i hi hg
theorem uw_X4 : ∀ w ∈ u_ws RX4 TX4 4, w ∈ gw := by
  have h : u_ws RX4 TX4 4 = ([77, 79, 81, 83] : List Nat).filterMap (fun i => lw_tbl[i]?) := by decide +kernel
  have h2 : (u_ws RX4 TX4 4).all goodWord = true := by decide +kernel
  intro w hw
  have hg := List.all_eq_true.mp h2 w hw
  rw [h] at hw
  obtain ⟨i, -, hi⟩ := List.mem_filterMap.mp hw
  exact gw_at i hi hg
theorem fp_X4_1 : gFp 4 1 .int := ⟨RX4, TX4, 4, tyX4, rfl, rfl, by decide +kernel, tyX4_ok, nmX4⟩
theorem fp_X4_2 : gFp 4 2 .int := ⟨RX4, TX4, 4, tyX4, rfl, rfl, by decide +kernel, tyX4_ok, nmX4⟩
theorem fp_X4_3 : gFp 4 3 .boolean := ⟨RX4, TX4, 4, tyX4, rfl, rfl, by decide +kernel, tyX4_ok, nmX4⟩
theorem uw_X5 : ∀ w ∈ u_ws RX5 TX5 6, w ∈ gw := by
  have h : u_ws RX5 TX5 6 = ([201, 203, 205, 207, 209, 211] : List Nat).filterMap (fun i => lw_tbl[i]?) := by decide +kernel
  have h2 : (u_ws RX5 TX5 6).all goodWord = true := by decide +kernel
  intro w hw
  have hg := List.all_eq_true.mp h2 w hw
  rw [h] at hw
  obtain ⟨i, -, hi⟩ := List.mem_filterMap.mp hw
  exact gw_at i hi hg
theorem fp_X5_0 : gFp 5 0 .int := ⟨RX5, TX5, 6, tyX5, rfl, rfl, by decide +kernel, tyX5_ok, nmX5⟩
theorem fp_X5_1 : gFp 5 1 .int := ⟨RX5, TX5, 6, tyX5, rfl, rfl, by decide +kernel, tyX5_ok, nmX5⟩
theorem fp_X5_2 : gFp 5 2 .int := ⟨RX5, TX5, 6, tyX5, rfl, rfl, by decide +kernel, tyX5_ok, nmX5⟩
theorem fp_X5_3 : gFp 5 3 .int := ⟨RX5, TX5, 6, tyX5, rfl, rfl, by decide +kernel, tyX5_ok, nmX5⟩
theorem fp_X5_4 : gFp 5 4 .int := ⟨RX5, TX5, 6, tyX5, rfl, rfl, by decide +kernel, tyX5_ok, nmX5⟩
theorem fp_X5_5 : gFp 5 5 .int := ⟨RX5, TX5, 6, tyX5, rfl, rfl, by decide +kernel, tyX5_ok, nmX5⟩
theorem uw_X6 : ∀ w ∈ u_ws RX6 TX6 2, w ∈ gw := by
  have h : u_ws RX6 TX6 2 = ([222, 224] : List Nat).filterMap (fun i => lw_tbl[i]?) := by decide +kernel
  have h2 : (u_ws RX6 TX6 2).all goodWord = true := by decide +kernel
  intro w hw
  have hg := List.all_eq_true.mp h2 w hw
  rw [h] at hw
  obtain ⟨i, -, hi⟩ := List.mem_filterMap.mp hw
  exact gw_at i hi hg
theorem uw_X7 : ∀ w ∈ u_ws RX7 TX7 10, w ∈ gw := by
  have h : u_ws RX7 TX7 10 = ([237, 239, 241, 243, 245, 247, 249, 251, 253, 255] : List Nat).filterMap (fun i => lw_tbl[i]?) := by decide +kernel
  have h2 : (u_ws RX7 TX7 10).all goodWord = true := by decide +kernel
  intro w hw
  have hg := List.all_eq_true.mp h2 w hw
  rw [h] at hw
  obtain ⟨i, -, hi⟩ := List.mem_filterMap.mp hw
  exact gw_at i hi hg
theorem fp_X7_9 : gFp 7 9 .long := ⟨RX7, TX7, 10, tyX7, rfl, rfl, by decide +kernel, tyX7_ok, nmX7⟩
theorem uw_X8 : ∀ w ∈ u_ws RX8 TX8 37, w ∈ gw := by
  have h : u_ws RX8 TX8 37 = ([712, 714, 716, 718, 720, 722, 724, 726, 728, 730, 732, 734, 736, 738, 740, 742, 744, 746, 748, 750, 752, 754, 756, 758, 760, 762, 764, 766, 768, 770, 772, 774, 776, 778, 780, 782, 784] : List Nat).filterMap (fun i => lw_tbl[i]?) := by decide +kernel
  have h2 : (u_ws RX8 TX8 37).all goodWord = true := by decide +kernel
  intro w hw
  have hg := List.all_eq_true.mp h2 w hw
  rw [h] at hw
  obtain ⟨i, -, hi⟩ := List.mem_filterMap.mp hw
  exact gw_at i hi hg
theorem fp_X8_0 : gFp 8 0 .int := ⟨RX8, TX8, 37, tyX8, rfl, rfl, by decide +kernel, tyX8_ok, nmX8⟩
theorem fp_X8_2 : gFp 8 2 .int := ⟨RX8, TX8, 37, tyX8, rfl, rfl, by decide +kernel, tyX8_ok, nmX8⟩
theorem fp_X8_3 : gFp 8 3 .int := ⟨RX8, TX8, 37, tyX8, rfl, rfl, by decide +kernel, tyX8_ok, nmX8⟩
theorem fp_X8_5 : gFp 8 5 .int := ⟨RX8, TX8, 37, tyX8, rfl, rfl, by decide +kernel, tyX8_ok, nmX8⟩
theorem fp_X8_6 : gFp 8 6 .int := ⟨RX8, TX8, 37, tyX8, rfl, rfl, by decide +kernel, tyX8_ok, nmX8⟩
theorem fp_X8_7 : gFp 8 7 .int := ⟨RX8, TX8, 37, tyX8, rfl, rfl, by decide +kernel, tyX8_ok, nmX8⟩
theorem fp_X8_8 : gFp 8 8 .int := ⟨RX8, TX8, 37, tyX8, rfl, rfl, by decide +kernel, tyX8_ok, nmX8⟩
theorem fp_X8_9 : gFp 8 9 .int := ⟨RX8, TX8, 37, tyX8, rfl, rfl, by decide +kernel, tyX8_ok, nmX8⟩
theorem fp_X8_10 : gFp 8 10 .int := ⟨RX8, TX8, 37, tyX8, rfl, rfl, by decide +kernel, tyX8_ok, nmX8⟩
theorem fp_X8_16 : gFp 8 16 .int := ⟨RX8, TX8, 37, tyX8, rfl, rfl, by decide +kernel, tyX8_ok, nmX8⟩
theorem fp_X8_17 : gFp 8 17 .int := ⟨RX8, TX8, 37, tyX8, rfl, rfl, by decide +kernel, tyX8_ok, nmX8⟩
theorem fp_X8_18 : gFp 8 18 .int := ⟨RX8, TX8, 37, tyX8, rfl, rfl, by decide +kernel, tyX8_ok, nmX8⟩
theorem fp_X8_19 : gFp 8 19 .int := ⟨RX8, TX8, 37, tyX8, rfl, rfl, by decide +kernel, tyX8_ok, nmX8⟩
theorem fp_X8_20 : gFp 8 20 .int := ⟨RX8, TX8, 37, tyX8, rfl, rfl, by decide +kernel, tyX8_ok, nmX8⟩
theorem fp_X8_21 : gFp 8 21 .int := ⟨RX8, TX8, 37, tyX8, rfl, rfl, by decide +kernel, tyX8_ok, nmX8⟩
theorem fp_X8_28 : gFp 8 28 .int := ⟨RX8, TX8, 37, tyX8, rfl, rfl, by decide +kernel, tyX8_ok, nmX8⟩
theorem fp_X8_31 : gFp 8 31 .long := ⟨RX8, TX8, 37, tyX8, rfl, rfl, by decide +kernel, tyX8_ok, nmX8⟩
theorem fp_X8_32 : gFp 8 32 .int := ⟨RX8, TX8, 37, tyX8, rfl, rfl, by decide +kernel, tyX8_ok, nmX8⟩
theorem fp_X8_33 : gFp 8 33 .int := ⟨RX8, TX8, 37, tyX8, rfl, rfl, by decide +kernel, tyX8_ok, nmX8⟩
theorem fp_X8_34 : gFp 8 34 .int := ⟨RX8, TX8, 37, tyX8, rfl, rfl, by decide +kernel, tyX8_ok, nmX8⟩
theorem fX4_9 : gF RX4 9 4 0 := ⟨RX4, TX4, 4, rfl, by decide, uw_X4, Or.inl (gw_at 72 (by decide +kernel) (by decide +kernel))⟩
theorem fX4_15 : gF RX4 15 4 1 := ⟨RX4, TX4, 4, rfl, by decide, uw_X4, Or.inl (gw_at 73 (by decide +kernel) (by decide +kernel))⟩
theorem fX7_71 : gF RX7 71 4 1 := ⟨RX4, TX4, 4, rfl, by decide, uw_X4, Or.inr ⟨"OverSands", gnl_at 74 (by decide +kernel) rfl⟩⟩
theorem fX4_19 : gF RX4 19 4 2 := ⟨RX4, TX4, 4, rfl, by decide, uw_X4, Or.inl (gw_at 75 (by decide +kernel) (by decide +kernel))⟩
theorem fX4_22 : gF RX4 22 4 3 := ⟨RX4, TX4, 4, rfl, by decide, uw_X4, Or.inl (gw_at 76 (by decide +kernel) (by decide +kernel))⟩
theorem fX1_9 : gF RX1 9 1 0 := ⟨RX1, TX1, 11, rfl, by decide, uw_X1, Or.inl (gw_at 93 (by decide +kernel) (by decide +kernel))⟩
theorem fX1_15 : gF RX1 15 1 1 := ⟨RX1, TX1, 11, rfl, by decide, uw_X1, Or.inl (gw_at 94 (by decide +kernel) (by decide +kernel))⟩
theorem fX1_19 : gF RX1 19 1 2 := ⟨RX1, TX1, 11, rfl, by decide, uw_X1, Or.inl (gw_at 95 (by decide +kernel) (by decide +kernel))⟩
theorem fX1_22 : gF RX1 22 1 3 := ⟨RX1, TX1, 11, rfl, by decide, uw_X1, Or.inl (gw_at 96 (by decide +kernel) (by decide +kernel))⟩
theorem fX1_25 : gF RX1 25 1 4 := ⟨RX1, TX1, 11, rfl, by decide, uw_X1, Or.inl (gw_at 97 (by decide +kernel) (by decide +kernel))⟩
theorem fX1_32 : gF RX1 32 1 5 := ⟨RX1, TX1, 11, rfl, by decide, uw_X1, Or.inl (gw_at 98 (by decide +kernel) (by decide +kernel))⟩
theorem fX7_89 : gF RX7 89 1 5 := ⟨RX1, TX1, 11, rfl, by decide, uw_X1, Or.inr ⟨"OverSands", gnl_at 99 (by decide +kernel) rfl⟩⟩
theorem fX4_59 : gF RX4 59 1 5 := ⟨RX1, TX1, 11, rfl, by decide, uw_X1, Or.inr ⟨"OverSands", gnl_at 100 (by decide +kernel) rfl⟩⟩
theorem fX1_35 : gF RX1 35 1 6 := ⟨RX1, TX1, 11, rfl, by decide, uw_X1, Or.inl (gw_at 101 (by decide +kernel) (by decide +kernel))⟩
theorem fX7_92 : gF RX7 92 1 6 := ⟨RX1, TX1, 11, rfl, by decide, uw_X1, Or.inr ⟨"OverSands", gnl_at 102 (by decide +kernel) rfl⟩⟩
theorem fX4_65 : gF RX4 65 1 6 := ⟨RX1, TX1, 11, rfl, by decide, uw_X1, Or.inr ⟨"OverSands", gnl_at 103 (by decide +kernel) rfl⟩⟩
theorem fX1_38 : gF RX1 38 1 7 := ⟨RX1, TX1, 11, rfl, by decide, uw_X1, Or.inl (gw_at 104 (by decide +kernel) (by decide +kernel))⟩
theorem fX4_71 : gF RX4 71 1 7 := ⟨RX1, TX1, 11, rfl, by decide, uw_X1, Or.inr ⟨"OverSands", gnl_at 105 (by decide +kernel) rfl⟩⟩
theorem fX5_27 : gF RX5 27 1 8 := ⟨RX1, TX1, 11, rfl, by decide, uw_X1, Or.inr ⟨"OverSands", gnl_at 106 (by decide +kernel) rfl⟩⟩
theorem fX4_50 : gF RX4 50 1 8 := ⟨RX1, TX1, 11, rfl, by decide, uw_X1, Or.inr ⟨"OverSands", gnl_at 107 (by decide +kernel) rfl⟩⟩
theorem fX7_103 : gF RX7 103 1 8 := ⟨RX1, TX1, 11, rfl, by decide, uw_X1, Or.inr ⟨"OverSands", gnl_at 108 (by decide +kernel) rfl⟩⟩
theorem fX1_28 : gF RX1 28 1 9 := ⟨RX1, TX1, 11, rfl, by decide, uw_X1, Or.inl (gw_at 109 (by decide +kernel) (by decide +kernel))⟩
theorem fX4_53 : gF RX4 53 1 9 := ⟨RX1, TX1, 11, rfl, by decide, uw_X1, Or.inr ⟨"OverSands", gnl_at 110 (by decide +kernel) rfl⟩⟩
theorem fX7_106 : gF RX7 106 1 9 := ⟨RX1, TX1, 11, rfl, by decide, uw_X1, Or.inr ⟨"OverSands", gnl_at 111 (by decide +kernel) rfl⟩⟩
theorem fX4_56 : gF RX4 56 1 10 := ⟨RX1, TX1, 11, rfl, by decide, uw_X1, Or.inr ⟨"OverSands", gnl_at 112 (by decide +kernel) rfl⟩⟩
theorem fX7_109 : gF RX7 109 1 10 := ⟨RX1, TX1, 11, rfl, by decide, uw_X1, Or.inr ⟨"OverSands", gnl_at 113 (by decide +kernel) rfl⟩⟩
theorem fX1_45 : gF RX1 45 1 10 := ⟨RX1, TX1, 11, rfl, by decide, uw_X1, Or.inl (gw_at 114 (by decide +kernel) (by decide +kernel))⟩
theorem fX2_11 : gF RX2 11 2 0 := ⟨RX2, TX2, 1, rfl, by decide, uw_X2, Or.inl (gw_at 145 (by decide +kernel) (by decide +kernel))⟩
theorem fX3_25 : gF RX3 25 2 0 := ⟨RX2, TX2, 1, rfl, by decide, uw_X2, Or.inr ⟨"OverSands", gnl_at 146 (by decide +kernel) rfl⟩⟩
theorem fX3_13 : gF RX3 13 3 0 := ⟨RX3, TX3, 2, rfl, by decide, uw_X3, Or.inl (gw_at 165 (by decide +kernel) (by decide +kernel))⟩
theorem fX3_21 : gF RX3 21 3 1 := ⟨RX3, TX3, 2, rfl, by decide, uw_X3, Or.inl (gw_at 166 (by decide +kernel) (by decide +kernel))⟩
theorem fX0_14 : gF RX0 14 0 0 := ⟨RX0, TX0, 3, rfl, by decide, uw_X0, Or.inl (gw_at 172 (by decide +kernel) (by decide +kernel))⟩
theorem fX0_20 : gF RX0 20 0 1 := ⟨RX0, TX0, 3, rfl, by decide, uw_X0, Or.inl (gw_at 173 (by decide +kernel) (by decide +kernel))⟩
theorem fX0_24 : gF RX0 24 0 2 := ⟨RX0, TX0, 3, rfl, by decide, uw_X0, Or.inl (gw_at 174 (by decide +kernel) (by decide +kernel))⟩
theorem fX7_116 : gF RX7 116 0 2 := ⟨RX0, TX0, 3, rfl, by decide, uw_X0, Or.inr ⟨"OverSands", gnl_at 175 (by decide +kernel) rfl⟩⟩
theorem fX5_15 : gF RX5 15 5 0 := ⟨RX5, TX5, 6, rfl, by decide, uw_X5, Or.inl (gw_at 191 (by decide +kernel) (by decide +kernel))⟩
theorem fX5_24 : gF RX5 24 5 1 := ⟨RX5, TX5, 6, rfl, by decide, uw_X5, Or.inl (gw_at 192 (by decide +kernel) (by decide +kernel))⟩
theorem fX5_30 : gF RX5 30 5 2 := ⟨RX5, TX5, 6, rfl, by decide, uw_X5, Or.inl (gw_at 193 (by decide +kernel) (by decide +kernel))⟩
theorem fX7_288 : gF RX7 288 5 2 := ⟨RX5, TX5, 6, rfl, by decide, uw_X5, Or.inr ⟨"OverSands", gnl_at 194 (by decide +kernel) rfl⟩⟩
theorem fX5_31 : gF RX5 31 5 3 := ⟨RX5, TX5, 6, rfl, by decide, uw_X5, Or.inl (gw_at 195 (by decide +kernel) (by decide +kernel))⟩
theorem fX7_265 : gF RX7 265 5 3 := ⟨RX5, TX5, 6, rfl, by decide, uw_X5, Or.inr ⟨"OverSands", gnl_at 196 (by decide +kernel) rfl⟩⟩
theorem fX5_34 : gF RX5 34 5 4 := ⟨RX5, TX5, 6, rfl, by decide, uw_X5, Or.inl (gw_at 197 (by decide +kernel) (by decide +kernel))⟩
theorem fX7_216 : gF RX7 216 5 4 := ⟨RX5, TX5, 6, rfl, by decide, uw_X5, Or.inr ⟨"OverSands", gnl_at 198 (by decide +kernel) rfl⟩⟩
theorem fX5_37 : gF RX5 37 5 5 := ⟨RX5, TX5, 6, rfl, by decide, uw_X5, Or.inl (gw_at 199 (by decide +kernel) (by decide +kernel))⟩
theorem fX7_210 : gF RX7 210 5 5 := ⟨RX5, TX5, 6, rfl, by decide, uw_X5, Or.inr ⟨"OverSands", gnl_at 200 (by decide +kernel) rfl⟩⟩
theorem fX6_9 : gF RX6 9 6 0 := ⟨RX6, TX6, 2, rfl, by decide, uw_X6, Or.inl (gw_at 220 (by decide +kernel) (by decide +kernel))⟩
theorem fX6_15 : gF RX6 15 6 1 := ⟨RX6, TX6, 2, rfl, by decide, uw_X6, Or.inl (gw_at 221 (by decide +kernel) (by decide +kernel))⟩
theorem fX7_10 : gF RX7 10 7 0 := ⟨RX7, TX7, 10, rfl, by decide, uw_X7, Or.inl (gw_at 227 (by decide +kernel) (by decide +kernel))⟩
theorem fX7_19 : gF RX7 19 7 1 := ⟨RX7, TX7, 10, rfl, by decide, uw_X7, Or.inl (gw_at 228 (by decide +kernel) (by decide +kernel))⟩
theorem fX7_23 : gF RX7 23 7 2 := ⟨RX7, TX7, 10, rfl, by decide, uw_X7, Or.inl (gw_at 229 (by decide +kernel) (by decide +kernel))⟩
theorem fX7_29 : gF RX7 29 7 3 := ⟨RX7, TX7, 10, rfl, by decide, uw_X7, Or.inl (gw_at 230 (by decide +kernel) (by decide +kernel))⟩
theorem fX7_36 : gF RX7 36 7 4 := ⟨RX7, TX7, 10, rfl, by decide, uw_X7, Or.inl (gw_at 231 (by decide +kernel) (by decide +kernel))⟩
theorem fX7_45 : gF RX7 45 7 5 := ⟨RX7, TX7, 10, rfl, by decide, uw_X7, Or.inl (gw_at 232 (by decide +kernel) (by decide +kernel))⟩
theorem fX7_49 : gF RX7 49 7 6 := ⟨RX7, TX7, 10, rfl, by decide, uw_X7, Or.inl (gw_at 233 (by decide +kernel) (by decide +kernel))⟩
theorem fX7_56 : gF RX7 56 7 7 := ⟨RX7, TX7, 10, rfl, by decide, uw_X7, Or.inl (gw_at 234 (by decide +kernel) (by decide +kernel))⟩
theorem fX7_63 : gF RX7 63 7 8 := ⟨RX7, TX7, 10, rfl, by decide, uw_X7, Or.inl (gw_at 235 (by decide +kernel) (by decide +kernel))⟩
theorem fX7_67 : gF RX7 67 7 9 := ⟨RX7, TX7, 10, rfl, by decide, uw_X7, Or.inl (gw_at 236 (by decide +kernel) (by decide +kernel))⟩
theorem fX8_67 : gF RX8 67 8 0 := ⟨RX8, TX8, 37, rfl, by decide, uw_X8, Or.inl (gw_at 675 (by decide +kernel) (by decide +kernel))⟩
theorem fX8_7 : gF RX8 7 8 1 := ⟨RX8, TX8, 37, rfl, by decide, uw_X8, Or.inl (gw_at 676 (by decide +kernel) (by decide +kernel))⟩
theorem fX8_81 : gF RX8 81 8 2 := ⟨RX8, TX8, 37, rfl, by decide, uw_X8, Or.inl (gw_at 677 (by decide +kernel) (by decide +kernel))⟩
theorem fX8_84 : gF RX8 84 8 3 := ⟨RX8, TX8, 37, rfl, by decide, uw_X8, Or.inl (gw_at 678 (by decide +kernel) (by decide +kernel))⟩
theorem fX8_13 : gF RX8 13 8 4 := ⟨RX8, TX8, 37, rfl, by decide, uw_X8, Or.inl (gw_at 679 (by decide +kernel) (by decide +kernel))⟩
theorem fX8_139 : gF RX8 139 8 5 := ⟨RX8, TX8, 37, rfl, by decide, uw_X8, Or.inl (gw_at 680 (by decide +kernel) (by decide +kernel))⟩
theorem fX8_16 : gF RX8 16 8 6 := ⟨RX8, TX8, 37, rfl, by decide, uw_X8, Or.inl (gw_at 681 (by decide +kernel) (by decide +kernel))⟩
theorem fX8_142 : gF RX8 142 8 7 := ⟨RX8, TX8, 37, rfl, by decide, uw_X8, Or.inl (gw_at 682 (by decide +kernel) (by decide +kernel))⟩
theorem fX8_70 : gF RX8 70 8 8 := ⟨RX8, TX8, 37, rfl, by decide, uw_X8, Or.inl (gw_at 683 (by decide +kernel) (by decide +kernel))⟩
theorem fX8_145 : gF RX8 145 8 9 := ⟨RX8, TX8, 37, rfl, by decide, uw_X8, Or.inl (gw_at 684 (by decide +kernel) (by decide +kernel))⟩
theorem fX8_148 : gF RX8 148 8 10 := ⟨RX8, TX8, 37, rfl, by decide, uw_X8, Or.inl (gw_at 685 (by decide +kernel) (by decide +kernel))⟩
theorem fX8_20 : gF RX8 20 8 11 := ⟨RX8, TX8, 37, rfl, by decide, uw_X8, Or.inl (gw_at 686 (by decide +kernel) (by decide +kernel))⟩
theorem fX8_23 : gF RX8 23 8 12 := ⟨RX8, TX8, 37, rfl, by decide, uw_X8, Or.inl (gw_at 687 (by decide +kernel) (by decide +kernel))⟩
theorem fX8_26 : gF RX8 26 8 13 := ⟨RX8, TX8, 37, rfl, by decide, uw_X8, Or.inl (gw_at 688 (by decide +kernel) (by decide +kernel))⟩
theorem fX8_29 : gF RX8 29 8 14 := ⟨RX8, TX8, 37, rfl, by decide, uw_X8, Or.inl (gw_at 689 (by decide +kernel) (by decide +kernel))⟩
theorem fX8_32 : gF RX8 32 8 15 := ⟨RX8, TX8, 37, rfl, by decide, uw_X8, Or.inl (gw_at 690 (by decide +kernel) (by decide +kernel))⟩
theorem fX8_121 : gF RX8 121 8 16 := ⟨RX8, TX8, 37, rfl, by decide, uw_X8, Or.inl (gw_at 691 (by decide +kernel) (by decide +kernel))⟩
theorem fX8_124 : gF RX8 124 8 17 := ⟨RX8, TX8, 37, rfl, by decide, uw_X8, Or.inl (gw_at 692 (by decide +kernel) (by decide +kernel))⟩
theorem fX8_127 : gF RX8 127 8 18 := ⟨RX8, TX8, 37, rfl, by decide, uw_X8, Or.inl (gw_at 693 (by decide +kernel) (by decide +kernel))⟩
theorem fX8_100 : gF RX8 100 8 19 := ⟨RX8, TX8, 37, rfl, by decide, uw_X8, Or.inl (gw_at 694 (by decide +kernel) (by decide +kernel))⟩
theorem fX8_87 : gF RX8 87 8 20 := ⟨RX8, TX8, 37, rfl, by decide, uw_X8, Or.inl (gw_at 695 (by decide +kernel) (by decide +kernel))⟩
theorem fX8_118 : gF RX8 118 8 21 := ⟨RX8, TX8, 37, rfl, by decide, uw_X8, Or.inl (gw_at 696 (by decide +kernel) (by decide +kernel))⟩
theorem fX8_35 : gF RX8 35 8 22 := ⟨RX8, TX8, 37, rfl, by decide, uw_X8, Or.inl (gw_at 697 (by decide +kernel) (by decide +kernel))⟩
theorem fX8_38 : gF RX8 38 8 23 := ⟨RX8, TX8, 37, rfl, by decide, uw_X8, Or.inl (gw_at 698 (by decide +kernel) (by decide +kernel))⟩
theorem fX8_41 : gF RX8 41 8 24 := ⟨RX8, TX8, 37, rfl, by decide, uw_X8, Or.inl (gw_at 699 (by decide +kernel) (by decide +kernel))⟩
theorem fX8_44 : gF RX8 44 8 25 := ⟨RX8, TX8, 37, rfl, by decide, uw_X8, Or.inl (gw_at 700 (by decide +kernel) (by decide +kernel))⟩
theorem fX8_47 : gF RX8 47 8 26 := ⟨RX8, TX8, 37, rfl, by decide, uw_X8, Or.inl (gw_at 701 (by decide +kernel) (by decide +kernel))⟩
theorem fX8_50 : gF RX8 50 8 27 := ⟨RX8, TX8, 37, rfl, by decide, uw_X8, Or.inl (gw_at 702 (by decide +kernel) (by decide +kernel))⟩
theorem fX8_151 : gF RX8 151 8 28 := ⟨RX8, TX8, 37, rfl, by decide, uw_X8, Or.inl (gw_at 703 (by decide +kernel) (by decide +kernel))⟩
theorem fX8_53 : gF RX8 53 8 29 := ⟨RX8, TX8, 37, rfl, by decide, uw_X8, Or.inl (gw_at 704 (by decide +kernel) (by decide +kernel))⟩
theorem fX8_56 : gF RX8 56 8 30 := ⟨RX8, TX8, 37, rfl, by decide, uw_X8, Or.inl (gw_at 705 (by decide +kernel) (by decide +kernel))⟩
theorem fX8_240 : gF RX8 240 8 31 := ⟨RX8, TX8, 37, rfl, by decide, uw_X8, Or.inl (gw_at 706 (by decide +kernel) (by decide +kernel))⟩
theorem fX8_179 : gF RX8 179 8 32 := ⟨RX8, TX8, 37, rfl, by decide, uw_X8, Or.inl (gw_at 707 (by decide +kernel) (by decide +kernel))⟩
theorem fX8_193 : gF RX8 193 8 33 := ⟨RX8, TX8, 37, rfl, by decide, uw_X8, Or.inl (gw_at 708 (by decide +kernel) (by decide +kernel))⟩
theorem fX8_182 : gF RX8 182 8 34 := ⟨RX8, TX8, 37, rfl, by decide, uw_X8, Or.inl (gw_at 709 (by decide +kernel) (by decide +kernel))⟩
theorem fX8_60 : gF RX8 60 8 35 := ⟨RX8, TX8, 37, rfl, by decide, uw_X8, Or.inl (gw_at 710 (by decide +kernel) (by decide +kernel))⟩
theorem fX8_64 : gF RX8 64 8 36 := ⟨RX8, TX8, 37, rfl, by decide, uw_X8, Or.inl (gw_at 711 (by decide +kernel) (by decide +kernel))⟩
abbrev mX7_init : gM := (yX7_init, cX7_init, 1, none)
set_option maxRecDepth 20000 in
theorem kX7_init : gMk mX7_init 0 := ⟨gw_at 62 rfl rfl, ini_X7, ⟨by decide +kernel, by decide +kernel, by decide +kernel⟩, by decide⟩
abbrev mX4_init : gM := (yX4_init, cX4_init, 1, none)
set_option maxRecDepth 20000 in
theorem kX4_init : gMk mX4_init 0 := ⟨gw_at 70 rfl rfl, ini_X4, ⟨by decide +kernel, by decide +kernel, by decide +kernel⟩, by decide⟩
abbrev mX1_init : gM := (yX1_init, cX1_init, 1, none)
set_option maxRecDepth 20000 in
theorem kX1_init : gMk mX1_init 0 := ⟨gw_at 91 rfl rfl, ini_X1, ⟨by decide +kernel, by decide +kernel, by decide +kernel⟩, by decide⟩
abbrev mX2_init : gM := (yX2_init, cX2_init, 1, none)
set_option maxRecDepth 20000 in
theorem kX2_init : gMk mX2_init 0 := ⟨gw_at 143 rfl rfl, ini_X2, ⟨by decide +kernel, by decide +kernel, by decide +kernel⟩, by decide⟩
abbrev mX0_init : gM := (yX0_init, cX0_init, 1, none)
set_option maxRecDepth 20000 in
theorem kX0_init : gMk mX0_init 0 := ⟨gw_at 154 rfl rfl, ini_X0, ⟨by decide +kernel, by decide +kernel, by decide +kernel⟩, by decide⟩
abbrev mX3_init : gM := (yX3_init, cX3_init, 2, none)
set_option maxRecDepth 20000 in
theorem kX3_init : gMk mX3_init 1 := ⟨gw_at 160 rfl rfl, ini_X3, ⟨by decide +kernel, by decide +kernel, by decide +kernel⟩, by decide⟩
abbrev mX5_init : gM := (yX5_init, cX5_init, 1, none)
set_option maxRecDepth 20000 in
theorem kX5_init : gMk mX5_init 0 := ⟨gw_at 189 rfl rfl, ini_X5, ⟨by decide +kernel, by decide +kernel, by decide +kernel⟩, by decide⟩
abbrev mX6_init : gM := (yX6_init, cX6_init, 1, none)
set_option maxRecDepth 20000 in
theorem kX6_init : gMk mX6_init 0 := ⟨gw_at 218 rfl rfl, ini_X6, ⟨by decide +kernel, by decide +kernel, by decide +kernel⟩, by decide⟩
abbrev mX7_write : gM := (yX7_write, cX7_write, 2, (some .int))
set_option maxRecDepth 20000 in
theorem kX7_write : gMk mX7_write 1 := ⟨gw_at 261 rfl rfl, ini_X7, ⟨by decide +kernel, by decide +kernel, by decide +kernel⟩, by decide⟩
abbrev mX4_append : gM := (yX4_append, cX4_append, 2, none)
set_option maxRecDepth 20000 in
theorem kX4_append : gMk mX4_append 1 := ⟨gw_at 265 rfl rfl, ini_X4, ⟨by decide +kernel, by decide +kernel, by decide +kernel⟩, by decide⟩
abbrev mX7_wipe : gM := (yX7_wipe, cX7_wipe, 2, (some .int))
set_option maxRecDepth 20000 in
theorem kX7_wipe : gMk mX7_wipe 0 := ⟨gw_at 269 rfl rfl, ini_X7, ⟨by decide +kernel, by decide +kernel, by decide +kernel⟩, by decide⟩
abbrev mX4_empty : gM := (yX4_empty, cX4_empty, 1, none)
set_option maxRecDepth 20000 in
theorem kX4_empty : gMk mX4_empty 0 := ⟨gw_at 273 rfl rfl, ini_X4, ⟨by decide +kernel, by decide +kernel, by decide +kernel⟩, by decide⟩
abbrev mX7_fault : gM := (yX7_fault, cX7_fault, 1, (some .int))
set_option maxRecDepth 20000 in
theorem kX7_fault : gMk mX7_fault 0 := ⟨gw_at 277 rfl rfl, ini_X7, ⟨by decide +kernel, by decide +kernel, by decide +kernel⟩, by decide⟩
abbrev mX4_readInto : gM := (yX4_readInto, cX4_readInto, 3, (some .int))
set_option maxRecDepth 20000 in
theorem kX4_readInto : gMk mX4_readInto 1 := ⟨gw_at 281 rfl rfl, ini_X4, ⟨by decide +kernel, by decide +kernel, by decide +kernel⟩, by decide⟩
abbrev mX1_clear : gM := (yX1_clear, cX1_clear, 2, none)
set_option maxRecDepth 20000 in
theorem kX1_clear : gMk mX1_clear 0 := ⟨gw_at 285 rfl rfl, ini_X1, ⟨by decide +kernel, by decide +kernel, by decide +kernel⟩, by decide⟩
abbrev mX4_readHead : gM := (yX4_readHead, cX4_readHead, 3, none)
set_option maxRecDepth 20000 in
theorem kX4_readHead : gMk mX4_readHead 1 := ⟨gw_at 289 rfl rfl, ini_X4, ⟨by decide +kernel, by decide +kernel, by decide +kernel⟩, by decide⟩
abbrev mX4_letterHere : gM := (yX4_letterHere, cX4_letterHere, 1, (some .int))
set_option maxRecDepth 20000 in
theorem kX4_letterHere : gMk mX4_letterHere 0 := ⟨gw_at 293 rfl rfl, ini_X4, ⟨by decide +kernel, by decide +kernel, by decide +kernel⟩, by decide⟩
abbrev mX4_figure : gM := (yX4_figure, cX4_figure, 4, (some .int))
set_option maxRecDepth 20000 in
theorem kX4_figure : gMk mX4_figure 2 := ⟨gw_at 297 rfl rfl, ini_X4, ⟨by decide +kernel, by decide +kernel, by decide +kernel⟩, by decide⟩
abbrev mX1_setHeight : gM := (yX1_setHeight, cX1_setHeight, 3, none)
set_option maxRecDepth 20000 in
theorem kX1_setHeight : gMk mX1_setHeight 2 := ⟨gw_at 301 rfl rfl, ini_X1, ⟨by decide +kernel, by decide +kernel, by decide +kernel⟩, by decide⟩
abbrev mX7_isCell : gM := (yX7_isCell, cX7_isCell, 1, (some .boolean))
set_option maxRecDepth 20000 in
theorem kX7_isCell : gMk mX7_isCell 1 := ⟨gw_at 304 rfl rfl, ini_X7, ⟨by decide +kernel, by decide +kernel, by decide +kernel⟩, by decide⟩
abbrev mX4_readPart : gM := (yX4_readPart, cX4_readPart, 3, none)
set_option maxRecDepth 20000 in
theorem kX4_readPart : gMk mX4_readPart 1 := ⟨gw_at 308 rfl rfl, ini_X4, ⟨by decide +kernel, by decide +kernel, by decide +kernel⟩, by decide⟩
abbrev mX4_readWalker : gM := (yX4_readWalker, cX4_readWalker, 4, none)
set_option maxRecDepth 20000 in
theorem kX4_readWalker : gMk mX4_readWalker 1 := ⟨gw_at 312 rfl rfl, ini_X4, ⟨by decide +kernel, by decide +kernel, by decide +kernel⟩, by decide⟩
abbrev mX1_addWalker : gM := (yX1_addWalker, cX1_addWalker, 3, none)
set_option maxRecDepth 20000 in
theorem kX1_addWalker : gMk mX1_addWalker 2 := ⟨gw_at 316 rfl rfl, ini_X1, ⟨by decide +kernel, by decide +kernel, by decide +kernel⟩, by decide⟩
abbrev mX4_readTower : gM := (yX4_readTower, cX4_readTower, 4, none)
set_option maxRecDepth 20000 in
theorem kX4_readTower : gMk mX4_readTower 1 := ⟨gw_at 320 rfl rfl, ini_X4, ⟨by decide +kernel, by decide +kernel, by decide +kernel⟩, by decide⟩
abbrev mX1_holdOf : gM := (yX1_holdOf, cX1_holdOf, 2, (some .int))
set_option maxRecDepth 20000 in
theorem kX1_holdOf : gMk mX1_holdOf 1 := ⟨gw_at 324 rfl rfl, ini_X1, ⟨by decide +kernel, by decide +kernel, by decide +kernel⟩, by decide⟩
abbrev mX1_addTower : gM := (yX1_addTower, cX1_addTower, 3, none)
set_option maxRecDepth 20000 in
theorem kX1_addTower : gMk mX1_addTower 2 := ⟨gw_at 328 rfl rfl, ini_X1, ⟨by decide +kernel, by decide +kernel, by decide +kernel⟩, by decide⟩
abbrev mX4_readSoft : gM := (yX4_readSoft, cX4_readSoft, 3, none)
set_option maxRecDepth 20000 in
theorem kX4_readSoft : gMk mX4_readSoft 1 := ⟨gw_at 332 rfl rfl, ini_X4, ⟨by decide +kernel, by decide +kernel, by decide +kernel⟩, by decide⟩
abbrev mX1_isSoft : gM := (yX1_isSoft, cX1_isSoft, 2, (some .boolean))
set_option maxRecDepth 20000 in
theorem kX1_isSoft : gMk mX1_isSoft 1 := ⟨gw_at 336 rfl rfl, ini_X1, ⟨by decide +kernel, by decide +kernel, by decide +kernel⟩, by decide⟩
abbrev mX1_addSoft : gM := (yX1_addSoft, cX1_addSoft, 2, none)
set_option maxRecDepth 20000 in
theorem kX1_addSoft : gMk mX1_addSoft 1 := ⟨gw_at 340 rfl rfl, ini_X1, ⟨by decide +kernel, by decide +kernel, by decide +kernel⟩, by decide⟩
abbrev mX7_bay : gM := (yX7_bay, cX7_bay, 2, (some .int))
set_option maxRecDepth 20000 in
theorem kX7_bay : gMk mX7_bay 0 := ⟨gw_at 344 rfl rfl, ini_X7, ⟨by decide +kernel, by decide +kernel, by decide +kernel⟩, by decide⟩
abbrev mX2_clear : gM := (yX2_clear, cX2_clear, 2, none)
set_option maxRecDepth 20000 in
theorem kX2_clear : gMk mX2_clear 0 := ⟨gw_at 348 rfl rfl, ini_X2, ⟨by decide +kernel, by decide +kernel, by decide +kernel⟩, by decide⟩
abbrev mX0_clear : gM := (yX0_clear, cX0_clear, 1, none)
set_option maxRecDepth 20000 in
theorem kX0_clear : gMk mX0_clear 0 := ⟨gw_at 352 rfl rfl, ini_X0, ⟨by decide +kernel, by decide +kernel, by decide +kernel⟩, by decide⟩
abbrev mX7_about : gM := (yX7_about, cX7_about, 2, (some .int))
set_option maxRecDepth 20000 in
theorem kX7_about : gMk mX7_about 1 := ⟨gw_at 356 rfl rfl, ini_X7, ⟨by decide +kernel, by decide +kernel, by decide +kernel⟩, by decide⟩
abbrev mX2_time : gM := (yX2_time, cX2_time, 1, (some .int))
set_option maxRecDepth 20000 in
theorem kX2_time : gMk mX2_time 0 := ⟨gw_at 360 rfl rfl, ini_X2, ⟨by decide +kernel, by decide +kernel, by decide +kernel⟩, by decide⟩
abbrev mX7_waterAt : gM := (yX7_waterAt, cX7_waterAt, 2, (some .int))
set_option maxRecDepth 20000 in
theorem kX7_waterAt : gMk mX7_waterAt 1 := ⟨gw_at 364 rfl rfl, ini_X7, ⟨by decide +kernel, by decide +kernel, by decide +kernel⟩, by decide⟩
abbrev mX1_water : gM := (yX1_water, cX1_water, 5, (some .int))
set_option maxRecDepth 20000 in
theorem kX1_water : gMk mX1_water 2 := ⟨gw_at 368 rfl rfl, ini_X1, ⟨by decide +kernel, by decide +kernel, by decide +kernel⟩, by decide⟩
abbrev mX2_allThat : gM := (yX2_allThat, cX2_allThat, 5, (some .int))
set_option maxRecDepth 20000 in
theorem kX2_allThat : gMk mX2_allThat 2 := ⟨gw_at 372 rfl rfl, ini_X2, ⟨by decide +kernel, by decide +kernel, by decide +kernel⟩, by decide⟩
abbrev mX2_fateOf : gM := (yX2_fateOf, cX2_fateOf, 2, (some .int))
set_option maxRecDepth 20000 in
theorem kX2_fateOf : gMk mX2_fateOf 1 := ⟨gw_at 376 rfl rfl, ini_X2, ⟨by decide +kernel, by decide +kernel, by decide +kernel⟩, by decide⟩
abbrev mX2_valueOf : gM := (yX2_valueOf, cX2_valueOf, 3, (some .int))
set_option maxRecDepth 20000 in
theorem kX2_valueOf : gMk mX2_valueOf 2 := ⟨gw_at 380 rfl rfl, ini_X2, ⟨by decide +kernel, by decide +kernel, by decide +kernel⟩, by decide⟩
abbrev mX7_cell : gM := (yX7_cell, cX7_cell, 3, (some .int))
set_option maxRecDepth 20000 in
theorem kX7_cell : gMk mX7_cell 2 := ⟨gw_at 384 rfl rfl, ini_X7, ⟨by decide +kernel, by decide +kernel, by decide +kernel⟩, by decide⟩
abbrev mX1_heightOf : gM := (yX1_heightOf, cX1_heightOf, 2, (some .int))
set_option maxRecDepth 20000 in
theorem kX1_heightOf : gMk mX1_heightOf 1 := ⟨gw_at 389 rfl rfl, ini_X1, ⟨by decide +kernel, by decide +kernel, by decide +kernel⟩, by decide⟩
abbrev mX1_depth : gM := (yX1_depth, cX1_depth, 3, (some .int))
set_option maxRecDepth 20000 in
theorem kX1_depth : gMk mX1_depth 2 := ⟨gw_at 393 rfl rfl, ini_X1, ⟨by decide +kernel, by decide +kernel, by decide +kernel⟩, by decide⟩
abbrev mX7_upOn : gM := (yX7_upOn, cX7_upOn, 2, (some .int))
set_option maxRecDepth 20000 in
theorem kX7_upOn : gMk mX7_upOn 1 := ⟨gw_at 399 rfl rfl, ini_X7, ⟨by decide +kernel, by decide +kernel, by decide +kernel⟩, by decide⟩
abbrev mX2_countOn : gM := (yX2_countOn, cX2_countOn, 5, (some .int))
set_option maxRecDepth 20000 in
theorem kX2_countOn : gMk mX2_countOn 2 := ⟨gw_at 403 rfl rfl, ini_X2, ⟨by decide +kernel, by decide +kernel, by decide +kernel⟩, by decide⟩
abbrev mX2_cellOf : gM := (yX2_cellOf, cX2_cellOf, 2, (some .int))
set_option maxRecDepth 20000 in
theorem kX2_cellOf : gMk mX2_cellOf 1 := ⟨gw_at 407 rfl rfl, ini_X2, ⟨by decide +kernel, by decide +kernel, by decide +kernel⟩, by decide⟩
abbrev mX7_walker : gM := (yX7_walker, cX7_walker, 3, (some .int))
set_option maxRecDepth 20000 in
theorem kX7_walker : gMk mX7_walker 2 := ⟨gw_at 411 rfl rfl, ini_X7, ⟨by decide +kernel, by decide +kernel, by decide +kernel⟩, by decide⟩
abbrev mX7_isWalker : gM := (yX7_isWalker, cX7_isWalker, 2, (some .boolean))
set_option maxRecDepth 20000 in
theorem kX7_isWalker : gMk mX7_isWalker 1 := ⟨gw_at 415 rfl rfl, ini_X7, ⟨by decide +kernel, by decide +kernel, by decide +kernel⟩, by decide⟩
abbrev mX1_paceOf : gM := (yX1_paceOf, cX1_paceOf, 2, (some .int))
set_option maxRecDepth 20000 in
theorem kX1_paceOf : gMk mX1_paceOf 1 := ⟨gw_at 419 rfl rfl, ini_X1, ⟨by decide +kernel, by decide +kernel, by decide +kernel⟩, by decide⟩
abbrev mX1_wadeOf : gM := (yX1_wadeOf, cX1_wadeOf, 2, (some .int))
set_option maxRecDepth 20000 in
theorem kX1_wadeOf : gMk mX1_wadeOf 1 := ⟨gw_at 423 rfl rfl, ini_X1, ⟨by decide +kernel, by decide +kernel, by decide +kernel⟩, by decide⟩
abbrev mX2_wayOf : gM := (yX2_wayOf, cX2_wayOf, 2, (some .int))
set_option maxRecDepth 20000 in
theorem kX2_wayOf : gMk mX2_wayOf 1 := ⟨gw_at 428 rfl rfl, ini_X2, ⟨by decide +kernel, by decide +kernel, by decide +kernel⟩, by decide⟩
abbrev mX7_deep : gM := (yX7_deep, cX7_deep, 3, (some .int))
set_option maxRecDepth 20000 in
theorem kX7_deep : gMk mX7_deep 2 := ⟨gw_at 433 rfl rfl, ini_X7, ⟨by decide +kernel, by decide +kernel, by decide +kernel⟩, by decide⟩
abbrev mX7_isStep : gM := (yX7_isStep, cX7_isStep, 1, (some .boolean))
set_option maxRecDepth 20000 in
theorem kX7_isStep : gMk mX7_isStep 1 := ⟨gw_at 436 rfl rfl, ini_X7, ⟨by decide +kernel, by decide +kernel, by decide +kernel⟩, by decide⟩
abbrev mX7_head : gM := (yX7_head, cX7_head, 4, (some .int))
set_option maxRecDepth 20000 in
theorem kX7_head : gMk mX7_head 2 := ⟨gw_at 440 rfl rfl, ini_X7, ⟨by decide +kernel, by decide +kernel, by decide +kernel⟩, by decide⟩
abbrev mX7_isWalking : gM := (yX7_isWalking, cX7_isWalking, 2, (some .boolean))
set_option maxRecDepth 20000 in
theorem kX7_isWalking : gMk mX7_isWalking 1 := ⟨gw_at 444 rfl rfl, ini_X7, ⟨by decide +kernel, by decide +kernel, by decide +kernel⟩, by decide⟩
abbrev mX0_remember : gM := (yX0_remember, cX0_remember, 2, none)
set_option maxRecDepth 20000 in
theorem kX0_remember : gMk mX0_remember 1 := ⟨gw_at 448 rfl rfl, ini_X0, ⟨by decide +kernel, by decide +kernel, by decide +kernel⟩, by decide⟩
abbrev mX3_put : gM := (yX3_put, cX3_put, 3, none)
set_option maxRecDepth 20000 in
theorem kX3_put : gMk mX3_put 2 := ⟨gw_at 452 rfl rfl, ini_X3, ⟨by decide +kernel, by decide +kernel, by decide +kernel⟩, by decide⟩
abbrev mX2_setWay : gM := (yX2_setWay, cX2_setWay, 3, none)
set_option maxRecDepth 20000 in
theorem kX2_setWay : gMk mX2_setWay 2 := ⟨gw_at 459 rfl rfl, ini_X2, ⟨by decide +kernel, by decide +kernel, by decide +kernel⟩, by decide⟩
abbrev mX2_setValue : gM := (yX2_setValue, cX2_setValue, 4, none)
set_option maxRecDepth 20000 in
theorem kX2_setValue : gMk mX2_setValue 3 := ⟨gw_at 463 rfl rfl, ini_X2, ⟨by decide +kernel, by decide +kernel, by decide +kernel⟩, by decide⟩
abbrev mX7_step : gM := (yX7_step, cX7_step, 3, (some .int))
set_option maxRecDepth 20000 in
theorem kX7_step : gMk mX7_step 0 := ⟨gw_at 467 rfl rfl, ini_X7, ⟨by decide +kernel, by decide +kernel, by decide +kernel⟩, by decide⟩
abbrev mX7_moveOne : gM := (yX7_moveOne, cX7_moveOne, 2, (some .boolean))
set_option maxRecDepth 20000 in
theorem kX7_moveOne : gMk mX7_moveOne 1 := ⟨gw_at 471 rfl rfl, ini_X7, ⟨by decide +kernel, by decide +kernel, by decide +kernel⟩, by decide⟩
abbrev mX5_begin : gM := (yX5_begin, cX5_begin, 5, none)
set_option maxRecDepth 20000 in
theorem kX5_begin : gMk mX5_begin 4 := ⟨gw_at 475 rfl rfl, ini_X5, ⟨by decide +kernel, by decide +kernel, by decide +kernel⟩, by decide⟩
abbrev mX5_move : gM := (yX5_move, cX5_move, 5, none)
set_option maxRecDepth 20000 in
theorem kX5_move : gMk mX5_move 2 := ⟨gw_at 481 rfl rfl, ini_X5, ⟨by decide +kernel, by decide +kernel, by decide +kernel⟩, by decide⟩
abbrev mX5_goAlong : gM := (yX5_goAlong, cX5_goAlong, 7, none)
set_option maxRecDepth 20000 in
theorem kX5_goAlong : gMk mX5_goAlong 3 := ⟨gw_at 486 rfl rfl, ini_X5, ⟨by decide +kernel, by decide +kernel, by decide +kernel⟩, by decide⟩
abbrev mX2_setCell : gM := (yX2_setCell, cX2_setCell, 3, none)
set_option maxRecDepth 20000 in
theorem kX2_setCell : gMk mX2_setCell 2 := ⟨gw_at 492 rfl rfl, ini_X2, ⟨by decide +kernel, by decide +kernel, by decide +kernel⟩, by decide⟩
abbrev mX2_setFate : gM := (yX2_setFate, cX2_setFate, 3, none)
set_option maxRecDepth 20000 in
theorem kX2_setFate : gMk mX2_setFate 2 := ⟨gw_at 496 rfl rfl, ini_X2, ⟨by decide +kernel, by decide +kernel, by decide +kernel⟩, by decide⟩
abbrev mX5_isLost : gM := (yX5_isLost, cX5_isLost, 1, (some .boolean))
set_option maxRecDepth 20000 in
theorem kX5_isLost : gMk mX5_isLost 0 := ⟨gw_at 500 rfl rfl, ini_X5, ⟨by decide +kernel, by decide +kernel, by decide +kernel⟩, by decide⟩
abbrev mX2_setTime : gM := (yX2_setTime, cX2_setTime, 2, none)
set_option maxRecDepth 20000 in
theorem kX2_setTime : gMk mX2_setTime 1 := ⟨gw_at 504 rfl rfl, ini_X2, ⟨by decide +kernel, by decide +kernel, by decide +kernel⟩, by decide⟩
abbrev mX7_climb : gM := (yX7_climb, cX7_climb, 3, (some .int))
set_option maxRecDepth 20000 in
theorem kX7_climb : gMk mX7_climb 1 := ⟨gw_at 508 rfl rfl, ini_X7, ⟨by decide +kernel, by decide +kernel, by decide +kernel⟩, by decide⟩
abbrev mX7_roomOn : gM := (yX7_roomOn, cX7_roomOn, 2, (some .int))
set_option maxRecDepth 20000 in
theorem kX7_roomOn : gMk mX7_roomOn 1 := ⟨gw_at 512 rfl rfl, ini_X7, ⟨by decide +kernel, by decide +kernel, by decide +kernel⟩, by decide⟩
abbrev mX7_undo : gM := (yX7_undo, cX7_undo, 1, (some .int))
set_option maxRecDepth 20000 in
theorem kX7_undo : gMk mX7_undo 0 := ⟨gw_at 516 rfl rfl, ini_X7, ⟨by decide +kernel, by decide +kernel, by decide +kernel⟩, by decide⟩
abbrev mX0_takeBack : gM := (yX0_takeBack, cX0_takeBack, 2, none)
set_option maxRecDepth 20000 in
theorem kX0_takeBack : gMk mX0_takeBack 1 := ⟨gw_at 520 rfl rfl, ini_X0, ⟨by decide +kernel, by decide +kernel, by decide +kernel⟩, by decide⟩
abbrev mX3_take : gM := (yX3_take, cX3_take, 3, none)
set_option maxRecDepth 20000 in
theorem kX3_take : gMk mX3_take 2 := ⟨gw_at 524 rfl rfl, ini_X3, ⟨by decide +kernel, by decide +kernel, by decide +kernel⟩, by decide⟩
abbrev mX7_gone : gM := (yX7_gone, cX7_gone, 5, (some .int))
set_option maxRecDepth 20000 in
theorem kX7_gone : gMk mX7_gone 4 := ⟨gw_at 528 rfl rfl, ini_X7, ⟨by decide +kernel, by decide +kernel, by decide +kernel⟩, by decide⟩
abbrev mX7_arrival : gM := (yX7_arrival, cX7_arrival, 5, (some .int))
set_option maxRecDepth 20000 in
theorem kX7_arrival : gMk mX7_arrival 4 := ⟨gw_at 532 rfl rfl, ini_X7, ⟨by decide +kernel, by decide +kernel, by decide +kernel⟩, by decide⟩
abbrev mX5_goTillThere : gM := (yX5_goTillThere, cX5_goTillThere, 5, (some .int))
set_option maxRecDepth 20000 in
theorem kX5_goTillThere : gMk mX5_goTillThere 2 := ⟨gw_at 536 rfl rfl, ini_X5, ⟨by decide +kernel, by decide +kernel, by decide +kernel⟩, by decide⟩
abbrev mX7_latest : gM := (yX7_latest, cX7_latest, 3, (some .int))
set_option maxRecDepth 20000 in
theorem kX7_latest : gMk mX7_latest 1 := ⟨gw_at 541 rfl rfl, ini_X7, ⟨by decide +kernel, by decide +kernel, by decide +kernel⟩, by decide⟩
abbrev mX7_safest : gM := (yX7_safest, cX7_safest, 7, (some .int))
set_option maxRecDepth 20000 in
theorem kX7_safest : gMk mX7_safest 2 := ⟨gw_at 545 rfl rfl, ini_X7, ⟨by decide +kernel, by decide +kernel, by decide +kernel⟩, by decide⟩
abbrev mX7_safeBits : gM := (yX7_safeBits, cX7_safeBits, 4, (some .int))
set_option maxRecDepth 20000 in
theorem kX7_safeBits : gMk mX7_safeBits 3 := ⟨gw_at 548 rfl rfl, ini_X7, ⟨by decide +kernel, by decide +kernel, by decide +kernel⟩, by decide⟩
abbrev mX7_soonest : gM := (yX7_soonest, cX7_soonest, 5, (some .int))
set_option maxRecDepth 20000 in
theorem kX7_soonest : gMk mX7_soonest 3 := ⟨gw_at 551 rfl rfl, ini_X7, ⟨by decide +kernel, by decide +kernel, by decide +kernel⟩, by decide⟩
abbrev mX7_shells : gM := (yX7_shells, cX7_shells, 6, (some .int))
set_option maxRecDepth 20000 in
theorem kX7_shells : gMk mX7_shells 1 := ⟨gw_at 555 rfl rfl, ini_X7, ⟨by decide +kernel, by decide +kernel, by decide +kernel⟩, by decide⟩
abbrev mX7_outlastsStanding : gM := (yX7_outlastsStanding, cX7_outlastsStanding, 4, (some .boolean))
set_option maxRecDepth 20000 in
theorem kX7_outlastsStanding : gMk mX7_outlastsStanding 3 := ⟨gw_at 559 rfl rfl, ini_X7, ⟨by decide +kernel, by decide +kernel, by decide +kernel⟩, by decide⟩
abbrev mX7_isSafe : gM := (yX7_isSafe, cX7_isSafe, 4, (some .boolean))
set_option maxRecDepth 20000 in
theorem kX7_isSafe : gMk mX7_isSafe 3 := ⟨gw_at 563 rfl rfl, ini_X7, ⟨by decide +kernel, by decide +kernel, by decide +kernel⟩, by decide⟩
abbrev mX7_cut : gM := (yX7_cut, cX7_cut, 5, (some .int))
set_option maxRecDepth 20000 in
theorem kX7_cut : gMk mX7_cut 1 := ⟨gw_at 567 rfl rfl, ini_X7, ⟨by decide +kernel, by decide +kernel, by decide +kernel⟩, by decide⟩
abbrev mX7_judged : gM := (yX7_judged, cX7_judged, 6, (some .int))
set_option maxRecDepth 20000 in
theorem kX7_judged : gMk mX7_judged 3 := ⟨gw_at 571 rfl rfl, ini_X7, ⟨by decide +kernel, by decide +kernel, by decide +kernel⟩, by decide⟩
abbrev mX7_power : gM := (yX7_power, cX7_power, 4, (some .int))
set_option maxRecDepth 20000 in
theorem kX7_power : gMk mX7_power 2 := ⟨gw_at 574 rfl rfl, ini_X7, ⟨by decide +kernel, by decide +kernel, by decide +kernel⟩, by decide⟩
abbrev mX7_figureAt : gM := (yX7_figureAt, cX7_figureAt, 4, (some .int))
set_option maxRecDepth 20000 in
theorem kX7_figureAt : gMk mX7_figureAt 2 := ⟨gw_at 577 rfl rfl, ini_X7, ⟨by decide +kernel, by decide +kernel, by decide +kernel⟩, by decide⟩
abbrev mX7_ahead : gM := (yX7_ahead, cX7_ahead, 1, (some .int))
set_option maxRecDepth 20000 in
theorem kX7_ahead : gMk mX7_ahead 0 := ⟨gw_at 581 rfl rfl, ini_X7, ⟨by decide +kernel, by decide +kernel, by decide +kernel⟩, by decide⟩
abbrev mX7_meetingStep : gM := (yX7_meetingStep, cX7_meetingStep, 8, (some .int))
set_option maxRecDepth 20000 in
theorem kX7_meetingStep : gMk mX7_meetingStep 0 := ⟨gw_at 585 rfl rfl, ini_X7, ⟨by decide +kernel, by decide +kernel, by decide +kernel⟩, by decide⟩
abbrev mX7_aheadOf : gM := (yX7_aheadOf, cX7_aheadOf, 4, (some .int))
set_option maxRecDepth 20000 in
theorem kX7_aheadOf : gMk mX7_aheadOf 1 := ⟨gw_at 590 rfl rfl, ini_X7, ⟨by decide +kernel, by decide +kernel, by decide +kernel⟩, by decide⟩
abbrev mX7_saved : gM := (yX7_saved, cX7_saved, 5, (some .int))
set_option maxRecDepth 20000 in
theorem kX7_saved : gMk mX7_saved 0 := ⟨gw_at 594 rfl rfl, ini_X7, ⟨by decide +kernel, by decide +kernel, by decide +kernel⟩, by decide⟩
abbrev mX7_channel : gM := (yX7_channel, cX7_channel, 7, (some .int))
set_option maxRecDepth 20000 in
theorem kX7_channel : gMk mX7_channel 6 := ⟨gw_at 601 rfl rfl, ini_X7, ⟨by decide +kernel, by decide +kernel, by decide +kernel⟩, by decide⟩
abbrev mX7_isOnSands : gM := (yX7_isOnSands, cX7_isOnSands, 1, (some .boolean))
set_option maxRecDepth 20000 in
theorem kX7_isOnSands : gMk mX7_isOnSands 1 := ⟨gw_at 604 rfl rfl, ini_X7, ⟨by decide +kernel, by decide +kernel, by decide +kernel⟩, by decide⟩
abbrev mX7_areTenths : gM := (yX7_areTenths, cX7_areTenths, 2, (some .boolean))
set_option maxRecDepth 20000 in
theorem kX7_areTenths : gMk mX7_areTenths 2 := ⟨gw_at 607 rfl rfl, ini_X7, ⟨by decide +kernel, by decide +kernel, by decide +kernel⟩, by decide⟩
abbrev mX6_oddsAt : gM := (yX6_oddsAt, cX6_oddsAt, 7, (some .int))
set_option maxRecDepth 20000 in
theorem kX6_oddsAt : gMk mX6_oddsAt 5 := ⟨gw_at 611 rfl rfl, ini_X6, ⟨by decide +kernel, by decide +kernel, by decide +kernel⟩, by decide⟩
abbrev mX6_wanderOn : gM := (yX6_wanderOn, cX6_wanderOn, 4, none)
set_option maxRecDepth 20000 in
theorem kX6_wanderOn : gMk mX6_wanderOn 2 := ⟨gw_at 616 rfl rfl, ini_X6, ⟨by decide +kernel, by decide +kernel, by decide +kernel⟩, by decide⟩
abbrev mX7_told : gM := (yX7_told, cX7_told, 4, (some .int))
set_option maxRecDepth 20000 in
theorem kX7_told : gMk mX7_told 3 := ⟨gw_at 621 rfl rfl, ini_X7, ⟨by decide +kernel, by decide +kernel, by decide +kernel⟩, by decide⟩
abbrev mX7_commonPart : gM := (yX7_commonPart, cX7_commonPart, 6, (some .int))
set_option maxRecDepth 20000 in
theorem kX7_commonPart : gMk mX7_commonPart 2 := ⟨gw_at 624 rfl rfl, ini_X7, ⟨by decide +kernel, by decide +kernel, by decide +kernel⟩, by decide⟩
abbrev mX7_sticks : gM := (yX7_sticks, cX7_sticks, 8, (some .int))
set_option maxRecDepth 20000 in
theorem kX7_sticks : gMk mX7_sticks 4 := ⟨gw_at 628 rfl rfl, ini_X7, ⟨by decide +kernel, by decide +kernel, by decide +kernel⟩, by decide⟩
abbrev mX7_choices : gM := (yX7_choices, cX7_choices, 4, (some .int))
set_option maxRecDepth 20000 in
theorem kX7_choices : gMk mX7_choices 2 := ⟨gw_at 632 rfl rfl, ini_X7, ⟨by decide +kernel, by decide +kernel, by decide +kernel⟩, by decide⟩
abbrev mX7_wind : gM := (yX7_wind, cX7_wind, 7, (some .int))
set_option maxRecDepth 20000 in
theorem kX7_wind : gMk mX7_wind 5 := ⟨gw_at 636 rfl rfl, ini_X7, ⟨by decide +kernel, by decide +kernel, by decide +kernel⟩, by decide⟩
abbrev mX7_isOverByLow : gM := (yX7_isOverByLow, cX7_isOverByLow, 4, (some .boolean))
set_option maxRecDepth 20000 in
theorem kX7_isOverByLow : gMk mX7_isOverByLow 3 := ⟨gw_at 640 rfl rfl, ini_X7, ⟨by decide +kernel, by decide +kernel, by decide +kernel⟩, by decide⟩
abbrev mX7_seed : gM := (yX7_seed, cX7_seed, 5, (some .long))
set_option maxRecDepth 20000 in
theorem kX7_seed : gMk mX7_seed 1 := ⟨gw_at 644 rfl rfl, ini_X7, ⟨by decide +kernel, by decide +kernel, by decide +kernel⟩, by decide⟩
abbrev mX7_fog : gM := (yX7_fog, cX7_fog, 5, (some .int))
set_option maxRecDepth 20000 in
theorem kX7_fog : gMk mX7_fog 3 := ⟨gw_at 648 rfl rfl, ini_X7, ⟨by decide +kernel, by decide +kernel, by decide +kernel⟩, by decide⟩
abbrev mX7_drawnWay : gM := (yX7_drawnWay, cX7_drawnWay, 1, (some .int))
set_option maxRecDepth 20000 in
theorem kX7_drawnWay : gMk mX7_drawnWay 0 := ⟨gw_at 652 rfl rfl, ini_X7, ⟨by decide +kernel, by decide +kernel, by decide +kernel⟩, by decide⟩
abbrev mX7_keep : gM := (yX7_keep, cX7_keep, 2, (some .int))
set_option maxRecDepth 20000 in
theorem kX7_keep : gMk mX7_keep 1 := ⟨gw_at 659 rfl rfl, ini_X7, ⟨by decide +kernel, by decide +kernel, by decide +kernel⟩, by decide⟩
abbrev mX7_isSlot : gM := (yX7_isSlot, cX7_isSlot, 1, (some .boolean))
set_option maxRecDepth 20000 in
theorem kX7_isSlot : gMk mX7_isSlot 1 := ⟨gw_at 662 rfl rfl, ini_X7, ⟨by decide +kernel, by decide +kernel, by decide +kernel⟩, by decide⟩
abbrev mX7_again : gM := (yX7_again, cX7_again, 2, (some .int))
set_option maxRecDepth 20000 in
theorem kX7_again : gMk mX7_again 1 := ⟨gw_at 667 rfl rfl, ini_X7, ⟨by decide +kernel, by decide +kernel, by decide +kernel⟩, by decide⟩
abbrev mX8_init : gM := (yX8_init, cX8_init, 1, none)
set_option maxRecDepth 20000 in
theorem kX8_init : gMk mX8_init 0 := ⟨gw_at 673 rfl rfl, ini_X8, ⟨by decide +kernel, by decide +kernel, by decide +kernel⟩, by decide⟩
abbrev mX8_write : gM := (yX8_write, cX8_write, 2, (some .int))
set_option maxRecDepth 20000 in
theorem kX8_write : gMk mX8_write 1 := ⟨gw_at 791 rfl rfl, ini_X8, ⟨by decide +kernel, by decide +kernel, by decide +kernel⟩, by decide⟩
abbrev mX8_in : gM := (yX8_in, cX8_in, 6, (some .boolean))
set_option maxRecDepth 20000 in
theorem kX8_in : gMk mX8_in 3 := ⟨gw_at 795 rfl rfl, ini_X8, ⟨by decide +kernel, by decide +kernel, by decide +kernel⟩, by decide⟩
abbrev mX8_wipe : gM := (yX8_wipe, cX8_wipe, 2, (some .int))
set_option maxRecDepth 20000 in
theorem kX8_wipe : gMk mX8_wipe 0 := ⟨gw_at 799 rfl rfl, ini_X8, ⟨by decide +kernel, by decide +kernel, by decide +kernel⟩, by decide⟩
abbrev mX8_fault : gM := (yX8_fault, cX8_fault, 1, (some .int))
set_option maxRecDepth 20000 in
theorem kX8_fault : gMk mX8_fault 0 := ⟨gw_at 803 rfl rfl, ini_X8, ⟨by decide +kernel, by decide +kernel, by decide +kernel⟩, by decide⟩
abbrev mX8_readBay : gM := (yX8_readBay, cX8_readBay, 1, (some .int))
set_option maxRecDepth 20000 in
theorem kX8_readBay : gMk mX8_readBay 0 := ⟨gw_at 807 rfl rfl, ini_X8, ⟨by decide +kernel, by decide +kernel, by decide +kernel⟩, by decide⟩
abbrev mX8_readHead : gM := (yX8_readHead, cX8_readHead, 3, (some .boolean))
set_option maxRecDepth 20000 in
theorem kX8_readHead : gMk mX8_readHead 0 := ⟨gw_at 811 rfl rfl, ini_X8, ⟨by decide +kernel, by decide +kernel, by decide +kernel⟩, by decide⟩
abbrev mX8_figure : gM := (yX8_figure, cX8_figure, 3, (some .int))
set_option maxRecDepth 20000 in
theorem kX8_figure : gMk mX8_figure 2 := ⟨gw_at 815 rfl rfl, ini_X8, ⟨by decide +kernel, by decide +kernel, by decide +kernel⟩, by decide⟩
abbrev mX8_readPart : gM := (yX8_readPart, cX8_readPart, 3, (some .boolean))
set_option maxRecDepth 20000 in
theorem kX8_readPart : gMk mX8_readPart 0 := ⟨gw_at 819 rfl rfl, ini_X8, ⟨by decide +kernel, by decide +kernel, by decide +kernel⟩, by decide⟩
abbrev mX8_readWalker : gM := (yX8_readWalker, cX8_readWalker, 3, (some .boolean))
set_option maxRecDepth 20000 in
theorem kX8_readWalker : gMk mX8_readWalker 0 := ⟨gw_at 823 rfl rfl, ini_X8, ⟨by decide +kernel, by decide +kernel, by decide +kernel⟩, by decide⟩
abbrev mX8_readTower : gM := (yX8_readTower, cX8_readTower, 3, (some .boolean))
set_option maxRecDepth 20000 in
theorem kX8_readTower : gMk mX8_readTower 0 := ⟨gw_at 827 rfl rfl, ini_X8, ⟨by decide +kernel, by decide +kernel, by decide +kernel⟩, by decide⟩
abbrev mX8_freeTowers : gM := (yX8_freeTowers, cX8_freeTowers, 3, (some .int))
set_option maxRecDepth 20000 in
theorem kX8_freeTowers : gMk mX8_freeTowers 0 := ⟨gw_at 831 rfl rfl, ini_X8, ⟨by decide +kernel, by decide +kernel, by decide +kernel⟩, by decide⟩
abbrev mX8_one : gM := (yX8_one, cX8_one, 3, (some .int))
set_option maxRecDepth 20000 in
theorem kX8_one : gMk mX8_one 1 := ⟨gw_at 835 rfl rfl, ini_X8, ⟨by decide +kernel, by decide +kernel, by decide +kernel⟩, by decide⟩
abbrev mX8_has : gM := (yX8_has, cX8_has, 2, (some .boolean))
set_option maxRecDepth 20000 in
theorem kX8_has : gMk mX8_has 2 := ⟨gw_at 839 rfl rfl, ini_X8, ⟨by decide +kernel, by decide +kernel, by decide +kernel⟩, by decide⟩
abbrev mX8_bay : gM := (yX8_bay, cX8_bay, 2, (some .int))
set_option maxRecDepth 20000 in
theorem kX8_bay : gMk mX8_bay 0 := ⟨gw_at 843 rfl rfl, ini_X8, ⟨by decide +kernel, by decide +kernel, by decide +kernel⟩, by decide⟩
abbrev mX8_about : gM := (yX8_about, cX8_about, 2, (some .int))
set_option maxRecDepth 20000 in
theorem kX8_about : gMk mX8_about 1 := ⟨gw_at 847 rfl rfl, ini_X8, ⟨by decide +kernel, by decide +kernel, by decide +kernel⟩, by decide⟩
abbrev mX8_water : gM := (yX8_water, cX8_water, 4, (some .int))
set_option maxRecDepth 20000 in
theorem kX8_water : gMk mX8_water 2 := ⟨gw_at 851 rfl rfl, ini_X8, ⟨by decide +kernel, by decide +kernel, by decide +kernel⟩, by decide⟩
abbrev mX8_those : gM := (yX8_those, cX8_those, 4, (some .int))
set_option maxRecDepth 20000 in
theorem kX8_those : gMk mX8_those 1 := ⟨gw_at 855 rfl rfl, ini_X8, ⟨by decide +kernel, by decide +kernel, by decide +kernel⟩, by decide⟩
abbrev mX8_cell : gM := (yX8_cell, cX8_cell, 4, (some .int))
set_option maxRecDepth 20000 in
theorem kX8_cell : gMk mX8_cell 2 := ⟨gw_at 859 rfl rfl, ini_X8, ⟨by decide +kernel, by decide +kernel, by decide +kernel⟩, by decide⟩
abbrev mX8_noCell : gM := (yX8_noCell, cX8_noCell, 1, (some .boolean))
set_option maxRecDepth 20000 in
theorem kX8_noCell : gMk mX8_noCell 1 := ⟨gw_at 862 rfl rfl, ini_X8, ⟨by decide +kernel, by decide +kernel, by decide +kernel⟩, by decide⟩
abbrev mX8_towerOf : gM := (yX8_towerOf, cX8_towerOf, 4, (some .int))
set_option maxRecDepth 20000 in
theorem kX8_towerOf : gMk mX8_towerOf 1 := ⟨gw_at 867 rfl rfl, ini_X8, ⟨by decide +kernel, by decide +kernel, by decide +kernel⟩, by decide⟩
abbrev mX8_deepBy : gM := (yX8_deepBy, cX8_deepBy, 5, (some .int))
set_option maxRecDepth 20000 in
theorem kX8_deepBy : gMk mX8_deepBy 3 := ⟨gw_at 871 rfl rfl, ini_X8, ⟨by decide +kernel, by decide +kernel, by decide +kernel⟩, by decide⟩
abbrev mX8_upAt : gM := (yX8_upAt, cX8_upAt, 4, (some .int))
set_option maxRecDepth 20000 in
theorem kX8_upAt : gMk mX8_upAt 1 := ⟨gw_at 875 rfl rfl, ini_X8, ⟨by decide +kernel, by decide +kernel, by decide +kernel⟩, by decide⟩
abbrev mX8_walker : gM := (yX8_walker, cX8_walker, 3, (some .int))
set_option maxRecDepth 20000 in
theorem kX8_walker : gMk mX8_walker 2 := ⟨gw_at 879 rfl rfl, ini_X8, ⟨by decide +kernel, by decide +kernel, by decide +kernel⟩, by decide⟩
abbrev mX8_noOne : gM := (yX8_noOne, cX8_noOne, 2, (some .boolean))
set_option maxRecDepth 20000 in
theorem kX8_noOne : gMk mX8_noOne 1 := ⟨gw_at 883 rfl rfl, ini_X8, ⟨by decide +kernel, by decide +kernel, by decide +kernel⟩, by decide⟩
abbrev mX8_deep : gM := (yX8_deep, cX8_deep, 3, (some .int))
set_option maxRecDepth 20000 in
theorem kX8_deep : gMk mX8_deep 2 := ⟨gw_at 887 rfl rfl, ini_X8, ⟨by decide +kernel, by decide +kernel, by decide +kernel⟩, by decide⟩
abbrev mX8_head : gM := (yX8_head, cX8_head, 4, (some .int))
set_option maxRecDepth 20000 in
theorem kX8_head : gMk mX8_head 2 := ⟨gw_at 892 rfl rfl, ini_X8, ⟨by decide +kernel, by decide +kernel, by decide +kernel⟩, by decide⟩
abbrev mX8_note : gM := (yX8_note, cX8_note, 2, none)
set_option maxRecDepth 20000 in
theorem kX8_note : gMk mX8_note 0 := ⟨gw_at 897 rfl rfl, ini_X8, ⟨by decide +kernel, by decide +kernel, by decide +kernel⟩, by decide⟩
abbrev mX8_step : gM := (yX8_step, cX8_step, 5, (some .int))
set_option maxRecDepth 20000 in
theorem kX8_step : gMk mX8_step 0 := ⟨gw_at 901 rfl rfl, ini_X8, ⟨by decide +kernel, by decide +kernel, by decide +kernel⟩, by decide⟩
abbrev mX8_goes : gM := (yX8_goes, cX8_goes, 9, (some .int))
set_option maxRecDepth 20000 in
theorem kX8_goes : gMk mX8_goes 5 := ⟨gw_at 905 rfl rfl, ini_X8, ⟨by decide +kernel, by decide +kernel, by decide +kernel⟩, by decide⟩
abbrev mX8_stateOf : gM := (yX8_stateOf, cX8_stateOf, 7, (some .int))
set_option maxRecDepth 20000 in
theorem kX8_stateOf : gMk mX8_stateOf 6 := ⟨gw_at 909 rfl rfl, ini_X8, ⟨by decide +kernel, by decide +kernel, by decide +kernel⟩, by decide⟩
abbrev mX8_climb : gM := (yX8_climb, cX8_climb, 3, (some .int))
set_option maxRecDepth 20000 in
theorem kX8_climb : gMk mX8_climb 1 := ⟨gw_at 913 rfl rfl, ini_X8, ⟨by decide +kernel, by decide +kernel, by decide +kernel⟩, by decide⟩
abbrev mX8_undo : gM := (yX8_undo, cX8_undo, 2, (some .int))
set_option maxRecDepth 20000 in
theorem kX8_undo : gMk mX8_undo 0 := ⟨gw_at 917 rfl rfl, ini_X8, ⟨by decide +kernel, by decide +kernel, by decide +kernel⟩, by decide⟩
abbrev mX8_gone : gM := (yX8_gone, cX8_gone, 5, (some .int))
set_option maxRecDepth 20000 in
theorem kX8_gone : gMk mX8_gone 4 := ⟨gw_at 921 rfl rfl, ini_X8, ⟨by decide +kernel, by decide +kernel, by decide +kernel⟩, by decide⟩
abbrev mX8_goneOf : gM := (yX8_goneOf, cX8_goneOf, 8, (some .int))
set_option maxRecDepth 20000 in
theorem kX8_goneOf : gMk mX8_goneOf 5 := ⟨gw_at 925 rfl rfl, ini_X8, ⟨by decide +kernel, by decide +kernel, by decide +kernel⟩, by decide⟩
abbrev mX8_goAlone : gM := (yX8_goAlone, cX8_goAlone, 5, none)
set_option maxRecDepth 20000 in
theorem kX8_goAlone : gMk mX8_goAlone 3 := ⟨gw_at 929 rfl rfl, ini_X8, ⟨by decide +kernel, by decide +kernel, by decide +kernel⟩, by decide⟩
abbrev mX8_latest : gM := (yX8_latest, cX8_latest, 4, (some .int))
set_option maxRecDepth 20000 in
theorem kX8_latest : gMk mX8_latest 1 := ⟨gw_at 933 rfl rfl, ini_X8, ⟨by decide +kernel, by decide +kernel, by decide +kernel⟩, by decide⟩
abbrev mX8_safest : gM := (yX8_safest, cX8_safest, 10, (some .int))
set_option maxRecDepth 20000 in
theorem kX8_safest : gMk mX8_safest 2 := ⟨gw_at 937 rfl rfl, ini_X8, ⟨by decide +kernel, by decide +kernel, by decide +kernel⟩, by decide⟩
abbrev mX8_noWalk : gM := (yX8_noWalk, cX8_noWalk, 2, (some .int))
set_option maxRecDepth 20000 in
theorem kX8_noWalk : gMk mX8_noWalk 1 := ⟨gw_at 941 rfl rfl, ini_X8, ⟨by decide +kernel, by decide +kernel, by decide +kernel⟩, by decide⟩
abbrev mX8_shells : gM := (yX8_shells, cX8_shells, 9, (some .int))
set_option maxRecDepth 20000 in
theorem kX8_shells : gMk mX8_shells 1 := ⟨gw_at 945 rfl rfl, ini_X8, ⟨by decide +kernel, by decide +kernel, by decide +kernel⟩, by decide⟩
abbrev mX8_cut : gM := (yX8_cut, cX8_cut, 4, (some .int))
set_option maxRecDepth 20000 in
theorem kX8_cut : gMk mX8_cut 1 := ⟨gw_at 949 rfl rfl, ini_X8, ⟨by decide +kernel, by decide +kernel, by decide +kernel⟩, by decide⟩
abbrev mX8_judged : gM := (yX8_judged, cX8_judged, 6, (some .int))
set_option maxRecDepth 20000 in
theorem kX8_judged : gMk mX8_judged 3 := ⟨gw_at 953 rfl rfl, ini_X8, ⟨by decide +kernel, by decide +kernel, by decide +kernel⟩, by decide⟩
abbrev mX8_ten : gM := (yX8_ten, cX8_ten, 3, (some .int))
set_option maxRecDepth 20000 in
theorem kX8_ten : gMk mX8_ten 1 := ⟨gw_at 956 rfl rfl, ini_X8, ⟨by decide +kernel, by decide +kernel, by decide +kernel⟩, by decide⟩
abbrev mX8_ahead : gM := (yX8_ahead, cX8_ahead, 1, (some .int))
set_option maxRecDepth 20000 in
theorem kX8_ahead : gMk mX8_ahead 0 := ⟨gw_at 960 rfl rfl, ini_X8, ⟨by decide +kernel, by decide +kernel, by decide +kernel⟩, by decide⟩
abbrev mX8_findAhead : gM := (yX8_findAhead, cX8_findAhead, 4, (some .int))
set_option maxRecDepth 20000 in
theorem kX8_findAhead : gMk mX8_findAhead 0 := ⟨gw_at 964 rfl rfl, ini_X8, ⟨by decide +kernel, by decide +kernel, by decide +kernel⟩, by decide⟩
abbrev mX8_beginOf : gM := (yX8_beginOf, cX8_beginOf, 5, (some .int))
set_option maxRecDepth 20000 in
theorem kX8_beginOf : gMk mX8_beginOf 2 := ⟨gw_at 968 rfl rfl, ini_X8, ⟨by decide +kernel, by decide +kernel, by decide +kernel⟩, by decide⟩
abbrev mX8_aheadOf : gM := (yX8_aheadOf, cX8_aheadOf, 3, (some .int))
set_option maxRecDepth 20000 in
theorem kX8_aheadOf : gMk mX8_aheadOf 1 := ⟨gw_at 972 rfl rfl, ini_X8, ⟨by decide +kernel, by decide +kernel, by decide +kernel⟩, by decide⟩
abbrev mX8_saved : gM := (yX8_saved, cX8_saved, 6, (some .int))
set_option maxRecDepth 20000 in
theorem kX8_saved : gMk mX8_saved 0 := ⟨gw_at 976 rfl rfl, ini_X8, ⟨by decide +kernel, by decide +kernel, by decide +kernel⟩, by decide⟩
abbrev mX8_isSaved : gM := (yX8_isSaved, cX8_isSaved, 3, (some .boolean))
set_option maxRecDepth 20000 in
theorem kX8_isSaved : gMk mX8_isSaved 1 := ⟨gw_at 980 rfl rfl, ini_X8, ⟨by decide +kernel, by decide +kernel, by decide +kernel⟩, by decide⟩
abbrev mX8_channel : gM := (yX8_channel, cX8_channel, 9, (some .int))
set_option maxRecDepth 20000 in
theorem kX8_channel : gMk mX8_channel 6 := ⟨gw_at 984 rfl rfl, ini_X8, ⟨by decide +kernel, by decide +kernel, by decide +kernel⟩, by decide⟩
abbrev mX8_noTenths : gM := (yX8_noTenths, cX8_noTenths, 2, (some .boolean))
set_option maxRecDepth 20000 in
theorem kX8_noTenths : gMk mX8_noTenths 2 := ⟨gw_at 987 rfl rfl, ini_X8, ⟨by decide +kernel, by decide +kernel, by decide +kernel⟩, by decide⟩
abbrev mX8_fraction : gM := (yX8_fraction, cX8_fraction, 7, (some .int))
set_option maxRecDepth 20000 in
theorem kX8_fraction : gMk mX8_fraction 3 := ⟨gw_at 992 rfl rfl, ini_X8, ⟨by decide +kernel, by decide +kernel, by decide +kernel⟩, by decide⟩
abbrev mX8_divisor : gM := (yX8_divisor, cX8_divisor, 10, (some .long))
set_option maxRecDepth 20000 in
theorem kX8_divisor : gMk mX8_divisor 2 := ⟨gw_at 995 rfl rfl, ini_X8, ⟨by decide +kernel, by decide +kernel, by decide +kernel⟩, by decide⟩
abbrev mX8_sticks : gM := (yX8_sticks, cX8_sticks, 13, (some .int))
set_option maxRecDepth 20000 in
theorem kX8_sticks : gMk mX8_sticks 4 := ⟨gw_at 999 rfl rfl, ini_X8, ⟨by decide +kernel, by decide +kernel, by decide +kernel⟩, by decide⟩
abbrev mX8_wind : gM := (yX8_wind, cX8_wind, 9, (some .int))
set_option maxRecDepth 20000 in
theorem kX8_wind : gMk mX8_wind 5 := ⟨gw_at 1004 rfl rfl, ini_X8, ⟨by decide +kernel, by decide +kernel, by decide +kernel⟩, by decide⟩
abbrev mX8_seed : gM := (yX8_seed, cX8_seed, 5, (some .long))
set_option maxRecDepth 20000 in
theorem kX8_seed : gMk mX8_seed 1 := ⟨gw_at 1008 rfl rfl, ini_X8, ⟨by decide +kernel, by decide +kernel, by decide +kernel⟩, by decide⟩
abbrev mX8_fog : gM := (yX8_fog, cX8_fog, 5, (some .int))
set_option maxRecDepth 20000 in
theorem kX8_fog : gMk mX8_fog 3 := ⟨gw_at 1012 rfl rfl, ini_X8, ⟨by decide +kernel, by decide +kernel, by decide +kernel⟩, by decide⟩
abbrev mX8_keep : gM := (yX8_keep, cX8_keep, 3, (some .int))
set_option maxRecDepth 20000 in
theorem kX8_keep : gMk mX8_keep 1 := ⟨gw_at 1020 rfl rfl, ini_X8, ⟨by decide +kernel, by decide +kernel, by decide +kernel⟩, by decide⟩
abbrev mX8_again : gM := (yX8_again, cX8_again, 3, (some .int))
set_option maxRecDepth 20000 in
theorem kX8_again : gMk mX8_again 1 := ⟨gw_at 1024 rfl rfl, ini_X8, ⟨by decide +kernel, by decide +kernel, by decide +kernel⟩, by decide⟩
theorem lL_13 : gLv RL 13 yX7_write := ⟨gw_at 258 (by decide +kernel) (by decide +kernel), gw_at 259 (by decide +kernel) (by decide +kernel), gw_at 260 (by decide +kernel) (by decide +kernel)⟩
theorem lX7_75 : gLv RX7 75 yX4_append := ⟨gw_at 262 (by decide +kernel) (by decide +kernel), gw_at 263 (by decide +kernel) (by decide +kernel), gw_at 264 (by decide +kernel) (by decide +kernel)⟩
theorem lL_18 : gLv RL 18 yX7_wipe := ⟨gw_at 266 (by decide +kernel) (by decide +kernel), gw_at 267 (by decide +kernel) (by decide +kernel), gw_at 268 (by decide +kernel) (by decide +kernel)⟩
theorem lX7_78 : gLv RX7 78 yX4_empty := ⟨gw_at 270 (by decide +kernel) (by decide +kernel), gw_at 271 (by decide +kernel) (by decide +kernel), gw_at 272 (by decide +kernel) (by decide +kernel)⟩
theorem lL_23 : gLv RL 23 yX7_fault := ⟨gw_at 274 (by decide +kernel) (by decide +kernel), gw_at 275 (by decide +kernel) (by decide +kernel), gw_at 276 (by decide +kernel) (by decide +kernel)⟩
theorem lX7_81 : gLv RX7 81 yX4_readInto := ⟨gw_at 278 (by decide +kernel) (by decide +kernel), gw_at 279 (by decide +kernel) (by decide +kernel), gw_at 280 (by decide +kernel) (by decide +kernel)⟩
theorem lX4_26 : gLv RX4 26 yX1_clear := ⟨gw_at 282 (by decide +kernel) (by decide +kernel), gw_at 283 (by decide +kernel) (by decide +kernel), gw_at 284 (by decide +kernel) (by decide +kernel)⟩
theorem lX4_31 : gLv RX4 31 yX4_readHead := ⟨gw_at 286 (by decide +kernel) (by decide +kernel), gw_at 288 (by decide +kernel) (by decide +kernel), gw_at 0 (by decide +kernel) (by decide +kernel)⟩
theorem lX4_38 : gLv RX4 38 yX4_letterHere := ⟨gw_at 290 (by decide +kernel) (by decide +kernel), gw_at 292 (by decide +kernel) (by decide +kernel), gw_at 1 (by decide +kernel) (by decide +kernel)⟩
theorem lX4_42 : gLv RX4 42 yX4_figure := ⟨gw_at 294 (by decide +kernel) (by decide +kernel), gw_at 296 (by decide +kernel) (by decide +kernel), gw_at 2 (by decide +kernel) (by decide +kernel)⟩
theorem lX4_46 : gLv RX4 46 yX1_setHeight := ⟨gw_at 298 (by decide +kernel) (by decide +kernel), gw_at 299 (by decide +kernel) (by decide +kernel), gw_at 300 (by decide +kernel) (by decide +kernel)⟩
theorem lX1_41 : gLn RX1 41 yX7_isCell := ⟨⟨"OverSands", gnl_at 302 (by decide +kernel) rfl⟩, gw_at 303 (by decide +kernel) (by decide +kernel)⟩
theorem lX4_35 : gLv RX4 35 yX4_readPart := ⟨gw_at 305 (by decide +kernel) (by decide +kernel), gw_at 307 (by decide +kernel) (by decide +kernel), gw_at 3 (by decide +kernel) (by decide +kernel)⟩
theorem lX4_62 : gLv RX4 62 yX4_readWalker := ⟨gw_at 309 (by decide +kernel) (by decide +kernel), gw_at 311 (by decide +kernel) (by decide +kernel), gw_at 4 (by decide +kernel) (by decide +kernel)⟩
theorem lX4_77 : gLv RX4 77 yX1_addWalker := ⟨gw_at 313 (by decide +kernel) (by decide +kernel), gw_at 314 (by decide +kernel) (by decide +kernel), gw_at 315 (by decide +kernel) (by decide +kernel)⟩
theorem lX4_68 : gLv RX4 68 yX4_readTower := ⟨gw_at 317 (by decide +kernel) (by decide +kernel), gw_at 319 (by decide +kernel) (by decide +kernel), gw_at 5 (by decide +kernel) (by decide +kernel)⟩
theorem lX4_80 : gLv RX4 80 yX1_holdOf := ⟨gw_at 321 (by decide +kernel) (by decide +kernel), gw_at 322 (by decide +kernel) (by decide +kernel), gw_at 323 (by decide +kernel) (by decide +kernel)⟩
theorem lX4_84 : gLv RX4 84 yX1_addTower := ⟨gw_at 325 (by decide +kernel) (by decide +kernel), gw_at 326 (by decide +kernel) (by decide +kernel), gw_at 327 (by decide +kernel) (by decide +kernel)⟩
theorem lX4_74 : gLv RX4 74 yX4_readSoft := ⟨gw_at 329 (by decide +kernel) (by decide +kernel), gw_at 331 (by decide +kernel) (by decide +kernel), gw_at 6 (by decide +kernel) (by decide +kernel)⟩
theorem lX4_87 : gLv RX4 87 yX1_isSoft := ⟨gw_at 333 (by decide +kernel) (by decide +kernel), gw_at 334 (by decide +kernel) (by decide +kernel), gw_at 335 (by decide +kernel) (by decide +kernel)⟩
theorem lX4_91 : gLv RX4 91 yX1_addSoft := ⟨gw_at 337 (by decide +kernel) (by decide +kernel), gw_at 338 (by decide +kernel) (by decide +kernel), gw_at 339 (by decide +kernel) (by decide +kernel)⟩
theorem lL_27 : gLv RL 27 yX7_bay := ⟨gw_at 341 (by decide +kernel) (by decide +kernel), gw_at 342 (by decide +kernel) (by decide +kernel), gw_at 343 (by decide +kernel) (by decide +kernel)⟩
theorem lX7_85 : gLv RX7 85 yX2_clear := ⟨gw_at 345 (by decide +kernel) (by decide +kernel), gw_at 346 (by decide +kernel) (by decide +kernel), gw_at 347 (by decide +kernel) (by decide +kernel)⟩
theorem lX7_88 : gLv RX7 88 yX0_clear := ⟨gw_at 349 (by decide +kernel) (by decide +kernel), gw_at 350 (by decide +kernel) (by decide +kernel), gw_at 351 (by decide +kernel) (by decide +kernel)⟩
theorem lL_31 : gLv RL 31 yX7_about := ⟨gw_at 353 (by decide +kernel) (by decide +kernel), gw_at 354 (by decide +kernel) (by decide +kernel), gw_at 355 (by decide +kernel) (by decide +kernel)⟩
theorem lX7_95 : gLv RX7 95 yX2_time := ⟨gw_at 357 (by decide +kernel) (by decide +kernel), gw_at 358 (by decide +kernel) (by decide +kernel), gw_at 359 (by decide +kernel) (by decide +kernel)⟩
theorem lX7_99 : gLv RX7 99 yX7_waterAt := ⟨gw_at 361 (by decide +kernel) (by decide +kernel), gw_at 363 (by decide +kernel) (by decide +kernel), gw_at 7 (by decide +kernel) (by decide +kernel)⟩
theorem lX7_278 : gLv RX7 278 yX1_water := ⟨gw_at 365 (by decide +kernel) (by decide +kernel), gw_at 366 (by decide +kernel) (by decide +kernel), gw_at 367 (by decide +kernel) (by decide +kernel)⟩
theorem lX7_112 : gLv RX7 112 yX2_allThat := ⟨gw_at 369 (by decide +kernel) (by decide +kernel), gw_at 370 (by decide +kernel) (by decide +kernel), gw_at 371 (by decide +kernel) (by decide +kernel)⟩
theorem lX2_23 : gLv RX2 23 yX2_fateOf := ⟨gw_at 373 (by decide +kernel) (by decide +kernel), gw_at 374 (by decide +kernel) (by decide +kernel), gw_at 375 (by decide +kernel) (by decide +kernel)⟩
theorem lX2_15 : gLv RX2 15 yX2_valueOf := ⟨gw_at 377 (by decide +kernel) (by decide +kernel), gw_at 379 (by decide +kernel) (by decide +kernel), gw_at 8 (by decide +kernel) (by decide +kernel)⟩
theorem lL_35 : gLv RL 35 yX7_cell := ⟨gw_at 381 (by decide +kernel) (by decide +kernel), gw_at 382 (by decide +kernel) (by decide +kernel), gw_at 383 (by decide +kernel) (by decide +kernel)⟩
theorem lX7_119 : gLs RX7 119 yX7_isCell := ⟨gw_at 385 (by decide +kernel) (by decide +kernel), gw_at 303 (by decide +kernel) (by decide +kernel)⟩
theorem lX7_123 : gLv RX7 123 yX1_heightOf := ⟨gw_at 386 (by decide +kernel) (by decide +kernel), gw_at 387 (by decide +kernel) (by decide +kernel), gw_at 388 (by decide +kernel) (by decide +kernel)⟩
theorem lX7_126 : gLv RX7 126 yX1_depth := ⟨gw_at 390 (by decide +kernel) (by decide +kernel), gw_at 391 (by decide +kernel) (by decide +kernel), gw_at 392 (by decide +kernel) (by decide +kernel)⟩
theorem lX7_129 : gLv RX7 129 yX1_isSoft := ⟨gw_at 394 (by decide +kernel) (by decide +kernel), gw_at 334 (by decide +kernel) (by decide +kernel), gw_at 335 (by decide +kernel) (by decide +kernel)⟩
theorem lX7_132 : gLv RX7 132 yX1_holdOf := ⟨gw_at 395 (by decide +kernel) (by decide +kernel), gw_at 322 (by decide +kernel) (by decide +kernel), gw_at 323 (by decide +kernel) (by decide +kernel)⟩
theorem lX7_135 : gLv RX7 135 yX7_upOn := ⟨gw_at 396 (by decide +kernel) (by decide +kernel), gw_at 398 (by decide +kernel) (by decide +kernel), gw_at 9 (by decide +kernel) (by decide +kernel)⟩
theorem lX7_230 : gLv RX7 230 yX2_countOn := ⟨gw_at 400 (by decide +kernel) (by decide +kernel), gw_at 401 (by decide +kernel) (by decide +kernel), gw_at 402 (by decide +kernel) (by decide +kernel)⟩
theorem lX2_27 : gLv RX2 27 yX2_cellOf := ⟨gw_at 404 (by decide +kernel) (by decide +kernel), gw_at 405 (by decide +kernel) (by decide +kernel), gw_at 406 (by decide +kernel) (by decide +kernel)⟩
theorem lL_40 : gLv RL 40 yX7_walker := ⟨gw_at 408 (by decide +kernel) (by decide +kernel), gw_at 409 (by decide +kernel) (by decide +kernel), gw_at 410 (by decide +kernel) (by decide +kernel)⟩
theorem lX7_138 : gLv RX7 138 yX7_isWalker := ⟨gw_at 412 (by decide +kernel) (by decide +kernel), gw_at 414 (by decide +kernel) (by decide +kernel), gw_at 10 (by decide +kernel) (by decide +kernel)⟩
theorem lX7_141 : gLv RX7 141 yX1_paceOf := ⟨gw_at 416 (by decide +kernel) (by decide +kernel), gw_at 417 (by decide +kernel) (by decide +kernel), gw_at 418 (by decide +kernel) (by decide +kernel)⟩
theorem lX7_144 : gLv RX7 144 yX1_wadeOf := ⟨gw_at 420 (by decide +kernel) (by decide +kernel), gw_at 421 (by decide +kernel) (by decide +kernel), gw_at 422 (by decide +kernel) (by decide +kernel)⟩
theorem lX7_147 : gLv RX7 147 yX2_cellOf := ⟨gw_at 424 (by decide +kernel) (by decide +kernel), gw_at 405 (by decide +kernel) (by decide +kernel), gw_at 406 (by decide +kernel) (by decide +kernel)⟩
theorem lX7_150 : gLv RX7 150 yX2_wayOf := ⟨gw_at 425 (by decide +kernel) (by decide +kernel), gw_at 426 (by decide +kernel) (by decide +kernel), gw_at 427 (by decide +kernel) (by decide +kernel)⟩
theorem lX7_153 : gLv RX7 153 yX2_fateOf := ⟨gw_at 429 (by decide +kernel) (by decide +kernel), gw_at 374 (by decide +kernel) (by decide +kernel), gw_at 375 (by decide +kernel) (by decide +kernel)⟩
theorem lL_44 : gLv RL 44 yX7_deep := ⟨gw_at 430 (by decide +kernel) (by decide +kernel), gw_at 431 (by decide +kernel) (by decide +kernel), gw_at 432 (by decide +kernel) (by decide +kernel)⟩
theorem lX7_156 : gLs RX7 156 yX7_isStep := ⟨gw_at 434 (by decide +kernel) (by decide +kernel), gw_at 435 (by decide +kernel) (by decide +kernel)⟩
theorem lL_48 : gLv RL 48 yX7_head := ⟨gw_at 437 (by decide +kernel) (by decide +kernel), gw_at 438 (by decide +kernel) (by decide +kernel), gw_at 439 (by decide +kernel) (by decide +kernel)⟩
theorem lX7_159 : gLv RX7 159 yX7_isWalking := ⟨gw_at 441 (by decide +kernel) (by decide +kernel), gw_at 443 (by decide +kernel) (by decide +kernel), gw_at 11 (by decide +kernel) (by decide +kernel)⟩
theorem lX7_162 : gLv RX7 162 yX0_remember := ⟨gw_at 445 (by decide +kernel) (by decide +kernel), gw_at 446 (by decide +kernel) (by decide +kernel), gw_at 447 (by decide +kernel) (by decide +kernel)⟩
theorem lX0_27 : gLv RX0 27 yX3_put := ⟨gw_at 449 (by decide +kernel) (by decide +kernel), gw_at 450 (by decide +kernel) (by decide +kernel), gw_at 451 (by decide +kernel) (by decide +kernel)⟩
theorem lX7_166 : gLv RX7 166 yX2_setWay := ⟨gw_at 456 (by decide +kernel) (by decide +kernel), gw_at 457 (by decide +kernel) (by decide +kernel), gw_at 458 (by decide +kernel) (by decide +kernel)⟩
theorem lX2_19 : gLv RX2 19 yX2_setValue := ⟨gw_at 460 (by decide +kernel) (by decide +kernel), gw_at 462 (by decide +kernel) (by decide +kernel), gw_at 12 (by decide +kernel) (by decide +kernel)⟩
theorem lL_52 : gLv RL 52 yX7_step := ⟨gw_at 464 (by decide +kernel) (by decide +kernel), gw_at 465 (by decide +kernel) (by decide +kernel), gw_at 466 (by decide +kernel) (by decide +kernel)⟩
theorem lX7_170 : gLv RX7 170 yX7_moveOne := ⟨gw_at 468 (by decide +kernel) (by decide +kernel), gw_at 470 (by decide +kernel) (by decide +kernel), gw_at 13 (by decide +kernel) (by decide +kernel)⟩
theorem lX7_206 : gLv RX7 206 yX5_begin := ⟨gw_at 472 (by decide +kernel) (by decide +kernel), gw_at 473 (by decide +kernel) (by decide +kernel), gw_at 474 (by decide +kernel) (by decide +kernel)⟩
theorem lX5_9 : gLv RX5 9 yX1_paceOf := ⟨gw_at 476 (by decide +kernel) (by decide +kernel), gw_at 417 (by decide +kernel) (by decide +kernel), gw_at 418 (by decide +kernel) (by decide +kernel)⟩
theorem lX5_21 : gLv RX5 21 yX1_wadeOf := ⟨gw_at 477 (by decide +kernel) (by decide +kernel), gw_at 421 (by decide +kernel) (by decide +kernel), gw_at 422 (by decide +kernel) (by decide +kernel)⟩
theorem lX7_219 : gLv RX7 219 yX5_move := ⟨gw_at 478 (by decide +kernel) (by decide +kernel), gw_at 479 (by decide +kernel) (by decide +kernel), gw_at 480 (by decide +kernel) (by decide +kernel)⟩
theorem lX5_40 : gLv RX5 40 yX1_water := ⟨gw_at 482 (by decide +kernel) (by decide +kernel), gw_at 366 (by decide +kernel) (by decide +kernel), gw_at 367 (by decide +kernel) (by decide +kernel)⟩
theorem lX5_44 : gLv RX5 44 yX5_goAlong := ⟨gw_at 483 (by decide +kernel) (by decide +kernel), gw_at 485 (by decide +kernel) (by decide +kernel), gw_at 14 (by decide +kernel) (by decide +kernel)⟩
theorem lX5_48 : gLv RX5 48 yX1_depth := ⟨gw_at 487 (by decide +kernel) (by decide +kernel), gw_at 391 (by decide +kernel) (by decide +kernel), gw_at 392 (by decide +kernel) (by decide +kernel)⟩
theorem lX5_51 : gLv RX5 51 yX1_isSoft := ⟨gw_at 488 (by decide +kernel) (by decide +kernel), gw_at 334 (by decide +kernel) (by decide +kernel), gw_at 335 (by decide +kernel) (by decide +kernel)⟩
theorem lX7_281 : gLv RX7 281 yX2_setCell := ⟨gw_at 489 (by decide +kernel) (by decide +kernel), gw_at 490 (by decide +kernel) (by decide +kernel), gw_at 491 (by decide +kernel) (by decide +kernel)⟩
theorem lX7_179 : gLv RX7 179 yX2_setFate := ⟨gw_at 493 (by decide +kernel) (by decide +kernel), gw_at 494 (by decide +kernel) (by decide +kernel), gw_at 495 (by decide +kernel) (by decide +kernel)⟩
theorem lX7_223 : gLv RX7 223 yX5_isLost := ⟨gw_at 497 (by decide +kernel) (by decide +kernel), gw_at 498 (by decide +kernel) (by decide +kernel), gw_at 499 (by decide +kernel) (by decide +kernel)⟩
theorem lX7_173 : gLv RX7 173 yX2_setTime := ⟨gw_at 501 (by decide +kernel) (by decide +kernel), gw_at 502 (by decide +kernel) (by decide +kernel), gw_at 503 (by decide +kernel) (by decide +kernel)⟩
theorem lL_56 : gLv RL 56 yX7_climb := ⟨gw_at 505 (by decide +kernel) (by decide +kernel), gw_at 506 (by decide +kernel) (by decide +kernel), gw_at 507 (by decide +kernel) (by decide +kernel)⟩
theorem lX7_176 : gLv RX7 176 yX7_roomOn := ⟨gw_at 509 (by decide +kernel) (by decide +kernel), gw_at 511 (by decide +kernel) (by decide +kernel), gw_at 15 (by decide +kernel) (by decide +kernel)⟩
theorem lL_60 : gLv RL 60 yX7_undo := ⟨gw_at 513 (by decide +kernel) (by decide +kernel), gw_at 514 (by decide +kernel) (by decide +kernel), gw_at 515 (by decide +kernel) (by decide +kernel)⟩
theorem lX7_182 : gLv RX7 182 yX0_takeBack := ⟨gw_at 517 (by decide +kernel) (by decide +kernel), gw_at 518 (by decide +kernel) (by decide +kernel), gw_at 519 (by decide +kernel) (by decide +kernel)⟩
theorem lX0_31 : gLv RX0 31 yX3_take := ⟨gw_at 521 (by decide +kernel) (by decide +kernel), gw_at 522 (by decide +kernel) (by decide +kernel), gw_at 523 (by decide +kernel) (by decide +kernel)⟩
theorem lL_64 : gLv RL 64 yX7_gone := ⟨gw_at 525 (by decide +kernel) (by decide +kernel), gw_at 526 (by decide +kernel) (by decide +kernel), gw_at 527 (by decide +kernel) (by decide +kernel)⟩
theorem lX7_185 : gLv RX7 185 yX7_arrival := ⟨gw_at 529 (by decide +kernel) (by decide +kernel), gw_at 531 (by decide +kernel) (by decide +kernel), gw_at 16 (by decide +kernel) (by decide +kernel)⟩
theorem lX7_284 : gLv RX7 284 yX5_goTillThere := ⟨gw_at 533 (by decide +kernel) (by decide +kernel), gw_at 534 (by decide +kernel) (by decide +kernel), gw_at 535 (by decide +kernel) (by decide +kernel)⟩
theorem lX5_55 : gLv RX5 55 yX5_move := ⟨gw_at 537 (by decide +kernel) (by decide +kernel), gw_at 479 (by decide +kernel) (by decide +kernel), gw_at 480 (by decide +kernel) (by decide +kernel)⟩
theorem lL_69 : gLv RL 69 yX7_latest := ⟨gw_at 538 (by decide +kernel) (by decide +kernel), gw_at 539 (by decide +kernel) (by decide +kernel), gw_at 540 (by decide +kernel) (by decide +kernel)⟩
theorem lL_73 : gLv RL 73 yX7_safest := ⟨gw_at 542 (by decide +kernel) (by decide +kernel), gw_at 543 (by decide +kernel) (by decide +kernel), gw_at 544 (by decide +kernel) (by decide +kernel)⟩
theorem lX7_189 : gLs RX7 189 yX7_safeBits := ⟨gw_at 546 (by decide +kernel) (by decide +kernel), gw_at 547 (by decide +kernel) (by decide +kernel)⟩
theorem lX7_193 : gLs RX7 193 yX7_soonest := ⟨gw_at 549 (by decide +kernel) (by decide +kernel), gw_at 550 (by decide +kernel) (by decide +kernel)⟩
theorem lL_77 : gLv RL 77 yX7_shells := ⟨gw_at 552 (by decide +kernel) (by decide +kernel), gw_at 553 (by decide +kernel) (by decide +kernel), gw_at 554 (by decide +kernel) (by decide +kernel)⟩
theorem lX7_196 : gLv RX7 196 yX7_outlastsStanding := ⟨gw_at 556 (by decide +kernel) (by decide +kernel), gw_at 558 (by decide +kernel) (by decide +kernel), gw_at 17 (by decide +kernel) (by decide +kernel)⟩
theorem lX7_200 : gLv RX7 200 yX7_isSafe := ⟨gw_at 560 (by decide +kernel) (by decide +kernel), gw_at 562 (by decide +kernel) (by decide +kernel), gw_at 18 (by decide +kernel) (by decide +kernel)⟩
theorem lL_81 : gLv RL 81 yX7_cut := ⟨gw_at 564 (by decide +kernel) (by decide +kernel), gw_at 565 (by decide +kernel) (by decide +kernel), gw_at 566 (by decide +kernel) (by decide +kernel)⟩
theorem lL_85 : gLv RL 85 yX7_judged := ⟨gw_at 568 (by decide +kernel) (by decide +kernel), gw_at 569 (by decide +kernel) (by decide +kernel), gw_at 570 (by decide +kernel) (by decide +kernel)⟩
theorem lX7_203 : gLs RX7 203 yX7_power := ⟨gw_at 572 (by decide +kernel) (by decide +kernel), gw_at 573 (by decide +kernel) (by decide +kernel)⟩
theorem lX7_213 : gLs RX7 213 yX7_figureAt := ⟨gw_at 575 (by decide +kernel) (by decide +kernel), gw_at 576 (by decide +kernel) (by decide +kernel)⟩
theorem lL_90 : gLv RL 90 yX7_ahead := ⟨gw_at 578 (by decide +kernel) (by decide +kernel), gw_at 579 (by decide +kernel) (by decide +kernel), gw_at 580 (by decide +kernel) (by decide +kernel)⟩
theorem lX7_227 : gLv RX7 227 yX7_meetingStep := ⟨gw_at 582 (by decide +kernel) (by decide +kernel), gw_at 584 (by decide +kernel) (by decide +kernel), gw_at 19 (by decide +kernel) (by decide +kernel)⟩
theorem lL_94 : gLv RL 94 yX7_aheadOf := ⟨gw_at 587 (by decide +kernel) (by decide +kernel), gw_at 588 (by decide +kernel) (by decide +kernel), gw_at 589 (by decide +kernel) (by decide +kernel)⟩
theorem lL_98 : gLv RL 98 yX7_saved := ⟨gw_at 591 (by decide +kernel) (by decide +kernel), gw_at 592 (by decide +kernel) (by decide +kernel), gw_at 593 (by decide +kernel) (by decide +kernel)⟩
theorem lL_102 : gLv RL 102 yX7_channel := ⟨gw_at 598 (by decide +kernel) (by decide +kernel), gw_at 599 (by decide +kernel) (by decide +kernel), gw_at 600 (by decide +kernel) (by decide +kernel)⟩
theorem lX7_238 : gLs RX7 238 yX7_isOnSands := ⟨gw_at 602 (by decide +kernel) (by decide +kernel), gw_at 603 (by decide +kernel) (by decide +kernel)⟩
theorem lX7_241 : gLs RX7 241 yX7_areTenths := ⟨gw_at 605 (by decide +kernel) (by decide +kernel), gw_at 606 (by decide +kernel) (by decide +kernel)⟩
theorem lX7_245 : gLv RX7 245 yX6_oddsAt := ⟨gw_at 608 (by decide +kernel) (by decide +kernel), gw_at 609 (by decide +kernel) (by decide +kernel), gw_at 610 (by decide +kernel) (by decide +kernel)⟩
theorem lX6_18 : gLn RX6 18 yX7_isOnSands := ⟨⟨"OverSands", gnl_at 612 (by decide +kernel) rfl⟩, gw_at 603 (by decide +kernel) (by decide +kernel)⟩
theorem lX6_22 : gLv RX6 22 yX6_wanderOn := ⟨gw_at 613 (by decide +kernel) (by decide +kernel), gw_at 615 (by decide +kernel) (by decide +kernel), gw_at 20 (by decide +kernel) (by decide +kernel)⟩
theorem lX7_249 : gLs RX7 249 yX7_told := ⟨gw_at 619 (by decide +kernel) (by decide +kernel), gw_at 620 (by decide +kernel) (by decide +kernel)⟩
theorem lX7_297 : gLs RX7 297 yX7_commonPart := ⟨gw_at 622 (by decide +kernel) (by decide +kernel), gw_at 623 (by decide +kernel) (by decide +kernel)⟩
theorem lL_107 : gLv RL 107 yX7_sticks := ⟨gw_at 625 (by decide +kernel) (by decide +kernel), gw_at 626 (by decide +kernel) (by decide +kernel), gw_at 627 (by decide +kernel) (by decide +kernel)⟩
theorem lX7_256 : gLs RX7 256 yX7_choices := ⟨gw_at 630 (by decide +kernel) (by decide +kernel), gw_at 631 (by decide +kernel) (by decide +kernel)⟩
theorem lL_112 : gLv RL 112 yX7_wind := ⟨gw_at 633 (by decide +kernel) (by decide +kernel), gw_at 634 (by decide +kernel) (by decide +kernel), gw_at 635 (by decide +kernel) (by decide +kernel)⟩
theorem lX7_259 : gLv RX7 259 yX7_isOverByLow := ⟨gw_at 637 (by decide +kernel) (by decide +kernel), gw_at 639 (by decide +kernel) (by decide +kernel), gw_at 21 (by decide +kernel) (by decide +kernel)⟩
theorem lL_119 : gLv RL 119 yX7_seed := ⟨gw_at 641 (by decide +kernel) (by decide +kernel), gw_at 642 (by decide +kernel) (by decide +kernel), gw_at 643 (by decide +kernel) (by decide +kernel)⟩
theorem lL_124 : gLv RL 124 yX7_fog := ⟨gw_at 645 (by decide +kernel) (by decide +kernel), gw_at 646 (by decide +kernel) (by decide +kernel), gw_at 647 (by decide +kernel) (by decide +kernel)⟩
theorem lX7_262 : gLv RX7 262 yX7_drawnWay := ⟨gw_at 649 (by decide +kernel) (by decide +kernel), gw_at 651 (by decide +kernel) (by decide +kernel), gw_at 22 (by decide +kernel) (by decide +kernel)⟩
theorem lL_128 : gLv RL 128 yX7_keep := ⟨gw_at 656 (by decide +kernel) (by decide +kernel), gw_at 657 (by decide +kernel) (by decide +kernel), gw_at 658 (by decide +kernel) (by decide +kernel)⟩
theorem lX7_268 : gLs RX7 268 yX7_isSlot := ⟨gw_at 660 (by decide +kernel) (by decide +kernel), gw_at 661 (by decide +kernel) (by decide +kernel)⟩
theorem lX7_271 : gLv RX7 271 yX3_put := ⟨gw_at 663 (by decide +kernel) (by decide +kernel), gw_at 450 (by decide +kernel) (by decide +kernel), gw_at 451 (by decide +kernel) (by decide +kernel)⟩
theorem lL_132 : gLv RL 132 yX7_again := ⟨gw_at 664 (by decide +kernel) (by decide +kernel), gw_at 665 (by decide +kernel) (by decide +kernel), gw_at 666 (by decide +kernel) (by decide +kernel)⟩
theorem lX7_275 : gLv RX7 275 yX3_take := ⟨gw_at 668 (by decide +kernel) (by decide +kernel), gw_at 522 (by decide +kernel) (by decide +kernel), gw_at 523 (by decide +kernel) (by decide +kernel)⟩
theorem lL_17 : gLv RL 17 yX8_write := ⟨gw_at 788 (by decide +kernel) (by decide +kernel), gw_at 789 (by decide +kernel) (by decide +kernel), gw_at 790 (by decide +kernel) (by decide +kernel)⟩
theorem lX8_73 : gLs RX8 73 yX8_in := ⟨gw_at 793 (by decide +kernel) (by decide +kernel), gw_at 794 (by decide +kernel) (by decide +kernel)⟩
theorem lL_22 : gLv RL 22 yX8_wipe := ⟨gw_at 796 (by decide +kernel) (by decide +kernel), gw_at 797 (by decide +kernel) (by decide +kernel), gw_at 798 (by decide +kernel) (by decide +kernel)⟩
theorem lL_26 : gLv RL 26 yX8_fault := ⟨gw_at 800 (by decide +kernel) (by decide +kernel), gw_at 801 (by decide +kernel) (by decide +kernel), gw_at 802 (by decide +kernel) (by decide +kernel)⟩
theorem lX8_136 : gLv RX8 136 yX8_readBay := ⟨gw_at 804 (by decide +kernel) (by decide +kernel), gw_at 806 (by decide +kernel) (by decide +kernel), gw_at 23 (by decide +kernel) (by decide +kernel)⟩
theorem lX8_130 : gLv RX8 130 yX8_readHead := ⟨gw_at 808 (by decide +kernel) (by decide +kernel), gw_at 810 (by decide +kernel) (by decide +kernel), gw_at 24 (by decide +kernel) (by decide +kernel)⟩
theorem lX8_96 : gLv RX8 96 yX8_figure := ⟨gw_at 812 (by decide +kernel) (by decide +kernel), gw_at 814 (by decide +kernel) (by decide +kernel), gw_at 25 (by decide +kernel) (by decide +kernel)⟩
theorem lX8_133 : gLv RX8 133 yX8_readPart := ⟨gw_at 816 (by decide +kernel) (by decide +kernel), gw_at 818 (by decide +kernel) (by decide +kernel), gw_at 26 (by decide +kernel) (by decide +kernel)⟩
theorem lX8_111 : gLv RX8 111 yX8_readWalker := ⟨gw_at 820 (by decide +kernel) (by decide +kernel), gw_at 822 (by decide +kernel) (by decide +kernel), gw_at 27 (by decide +kernel) (by decide +kernel)⟩
theorem lX8_115 : gLv RX8 115 yX8_readTower := ⟨gw_at 824 (by decide +kernel) (by decide +kernel), gw_at 826 (by decide +kernel) (by decide +kernel), gw_at 28 (by decide +kernel) (by decide +kernel)⟩
theorem lX8_103 : gLv RX8 103 yX8_freeTowers := ⟨gw_at 828 (by decide +kernel) (by decide +kernel), gw_at 830 (by decide +kernel) (by decide +kernel), gw_at 29 (by decide +kernel) (by decide +kernel)⟩
theorem lX8_107 : gLv RX8 107 yX8_one := ⟨gw_at 832 (by decide +kernel) (by decide +kernel), gw_at 834 (by decide +kernel) (by decide +kernel), gw_at 30 (by decide +kernel) (by decide +kernel)⟩
theorem lX8_92 : gLs RX8 92 yX8_has := ⟨gw_at 837 (by decide +kernel) (by decide +kernel), gw_at 838 (by decide +kernel) (by decide +kernel)⟩
theorem lL_30 : gLv RL 30 yX8_bay := ⟨gw_at 840 (by decide +kernel) (by decide +kernel), gw_at 841 (by decide +kernel) (by decide +kernel), gw_at 842 (by decide +kernel) (by decide +kernel)⟩
theorem lL_34 : gLv RL 34 yX8_about := ⟨gw_at 844 (by decide +kernel) (by decide +kernel), gw_at 845 (by decide +kernel) (by decide +kernel), gw_at 846 (by decide +kernel) (by decide +kernel)⟩
theorem lX8_154 : gLv RX8 154 yX8_water := ⟨gw_at 848 (by decide +kernel) (by decide +kernel), gw_at 850 (by decide +kernel) (by decide +kernel), gw_at 31 (by decide +kernel) (by decide +kernel)⟩
theorem lX8_157 : gLv RX8 157 yX8_those := ⟨gw_at 852 (by decide +kernel) (by decide +kernel), gw_at 854 (by decide +kernel) (by decide +kernel), gw_at 32 (by decide +kernel) (by decide +kernel)⟩
theorem lL_39 : gLv RL 39 yX8_cell := ⟨gw_at 856 (by decide +kernel) (by decide +kernel), gw_at 857 (by decide +kernel) (by decide +kernel), gw_at 858 (by decide +kernel) (by decide +kernel)⟩
theorem lX8_160 : gLs RX8 160 yX8_noCell := ⟨gw_at 860 (by decide +kernel) (by decide +kernel), gw_at 861 (by decide +kernel) (by decide +kernel)⟩
theorem lX8_164 : gLv RX8 164 yX8_towerOf := ⟨gw_at 864 (by decide +kernel) (by decide +kernel), gw_at 866 (by decide +kernel) (by decide +kernel), gw_at 33 (by decide +kernel) (by decide +kernel)⟩
theorem lX8_167 : gLv RX8 167 yX8_deepBy := ⟨gw_at 868 (by decide +kernel) (by decide +kernel), gw_at 870 (by decide +kernel) (by decide +kernel), gw_at 34 (by decide +kernel) (by decide +kernel)⟩
theorem lX8_171 : gLv RX8 171 yX8_upAt := ⟨gw_at 872 (by decide +kernel) (by decide +kernel), gw_at 874 (by decide +kernel) (by decide +kernel), gw_at 35 (by decide +kernel) (by decide +kernel)⟩
theorem lL_43 : gLv RL 43 yX8_walker := ⟨gw_at 876 (by decide +kernel) (by decide +kernel), gw_at 877 (by decide +kernel) (by decide +kernel), gw_at 878 (by decide +kernel) (by decide +kernel)⟩
theorem lX8_174 : gLv RX8 174 yX8_noOne := ⟨gw_at 880 (by decide +kernel) (by decide +kernel), gw_at 882 (by decide +kernel) (by decide +kernel), gw_at 36 (by decide +kernel) (by decide +kernel)⟩
theorem lL_47 : gLv RL 47 yX8_deep := ⟨gw_at 884 (by decide +kernel) (by decide +kernel), gw_at 885 (by decide +kernel) (by decide +kernel), gw_at 886 (by decide +kernel) (by decide +kernel)⟩
theorem lL_51 : gLv RL 51 yX8_head := ⟨gw_at 889 (by decide +kernel) (by decide +kernel), gw_at 890 (by decide +kernel) (by decide +kernel), gw_at 891 (by decide +kernel) (by decide +kernel)⟩
theorem lX8_198 : gLv RX8 198 yX8_note := ⟨gw_at 894 (by decide +kernel) (by decide +kernel), gw_at 896 (by decide +kernel) (by decide +kernel), gw_at 37 (by decide +kernel) (by decide +kernel)⟩
theorem lL_55 : gLv RL 55 yX8_step := ⟨gw_at 898 (by decide +kernel) (by decide +kernel), gw_at 899 (by decide +kernel) (by decide +kernel), gw_at 900 (by decide +kernel) (by decide +kernel)⟩
theorem lX8_185 : gLv RX8 185 yX8_goes := ⟨gw_at 902 (by decide +kernel) (by decide +kernel), gw_at 904 (by decide +kernel) (by decide +kernel), gw_at 38 (by decide +kernel) (by decide +kernel)⟩
theorem lX8_189 : gLv RX8 189 yX8_stateOf := ⟨gw_at 906 (by decide +kernel) (by decide +kernel), gw_at 908 (by decide +kernel) (by decide +kernel), gw_at 39 (by decide +kernel) (by decide +kernel)⟩
theorem lL_59 : gLv RL 59 yX8_climb := ⟨gw_at 910 (by decide +kernel) (by decide +kernel), gw_at 911 (by decide +kernel) (by decide +kernel), gw_at 912 (by decide +kernel) (by decide +kernel)⟩
theorem lL_63 : gLv RL 63 yX8_undo := ⟨gw_at 914 (by decide +kernel) (by decide +kernel), gw_at 915 (by decide +kernel) (by decide +kernel), gw_at 916 (by decide +kernel) (by decide +kernel)⟩
theorem lL_68 : gLv RL 68 yX8_gone := ⟨gw_at 918 (by decide +kernel) (by decide +kernel), gw_at 919 (by decide +kernel) (by decide +kernel), gw_at 920 (by decide +kernel) (by decide +kernel)⟩
theorem lX8_205 : gLv RX8 205 yX8_goneOf := ⟨gw_at 922 (by decide +kernel) (by decide +kernel), gw_at 924 (by decide +kernel) (by decide +kernel), gw_at 40 (by decide +kernel) (by decide +kernel)⟩
theorem lX8_201 : gLv RX8 201 yX8_goAlone := ⟨gw_at 926 (by decide +kernel) (by decide +kernel), gw_at 928 (by decide +kernel) (by decide +kernel), gw_at 41 (by decide +kernel) (by decide +kernel)⟩
theorem lL_72 : gLv RL 72 yX8_latest := ⟨gw_at 930 (by decide +kernel) (by decide +kernel), gw_at 931 (by decide +kernel) (by decide +kernel), gw_at 932 (by decide +kernel) (by decide +kernel)⟩
theorem lL_76 : gLv RL 76 yX8_safest := ⟨gw_at 934 (by decide +kernel) (by decide +kernel), gw_at 935 (by decide +kernel) (by decide +kernel), gw_at 936 (by decide +kernel) (by decide +kernel)⟩
theorem lX8_208 : gLv RX8 208 yX8_noWalk := ⟨gw_at 938 (by decide +kernel) (by decide +kernel), gw_at 940 (by decide +kernel) (by decide +kernel), gw_at 42 (by decide +kernel) (by decide +kernel)⟩
theorem lL_80 : gLv RL 80 yX8_shells := ⟨gw_at 942 (by decide +kernel) (by decide +kernel), gw_at 943 (by decide +kernel) (by decide +kernel), gw_at 944 (by decide +kernel) (by decide +kernel)⟩
theorem lL_84 : gLv RL 84 yX8_cut := ⟨gw_at 946 (by decide +kernel) (by decide +kernel), gw_at 947 (by decide +kernel) (by decide +kernel), gw_at 948 (by decide +kernel) (by decide +kernel)⟩
theorem lL_89 : gLv RL 89 yX8_judged := ⟨gw_at 950 (by decide +kernel) (by decide +kernel), gw_at 951 (by decide +kernel) (by decide +kernel), gw_at 952 (by decide +kernel) (by decide +kernel)⟩
theorem lX8_211 : gLs RX8 211 yX8_ten := ⟨gw_at 954 (by decide +kernel) (by decide +kernel), gw_at 955 (by decide +kernel) (by decide +kernel)⟩
theorem lL_93 : gLv RL 93 yX8_ahead := ⟨gw_at 957 (by decide +kernel) (by decide +kernel), gw_at 958 (by decide +kernel) (by decide +kernel), gw_at 959 (by decide +kernel) (by decide +kernel)⟩
theorem lX8_217 : gLv RX8 217 yX8_findAhead := ⟨gw_at 961 (by decide +kernel) (by decide +kernel), gw_at 963 (by decide +kernel) (by decide +kernel), gw_at 43 (by decide +kernel) (by decide +kernel)⟩
theorem lX8_214 : gLv RX8 214 yX8_beginOf := ⟨gw_at 965 (by decide +kernel) (by decide +kernel), gw_at 967 (by decide +kernel) (by decide +kernel), gw_at 44 (by decide +kernel) (by decide +kernel)⟩
theorem lL_97 : gLv RL 97 yX8_aheadOf := ⟨gw_at 969 (by decide +kernel) (by decide +kernel), gw_at 970 (by decide +kernel) (by decide +kernel), gw_at 971 (by decide +kernel) (by decide +kernel)⟩
theorem lL_101 : gLv RL 101 yX8_saved := ⟨gw_at 973 (by decide +kernel) (by decide +kernel), gw_at 974 (by decide +kernel) (by decide +kernel), gw_at 975 (by decide +kernel) (by decide +kernel)⟩
theorem lX8_220 : gLv RX8 220 yX8_isSaved := ⟨gw_at 977 (by decide +kernel) (by decide +kernel), gw_at 979 (by decide +kernel) (by decide +kernel), gw_at 45 (by decide +kernel) (by decide +kernel)⟩
theorem lL_106 : gLv RL 106 yX8_channel := ⟨gw_at 981 (by decide +kernel) (by decide +kernel), gw_at 982 (by decide +kernel) (by decide +kernel), gw_at 983 (by decide +kernel) (by decide +kernel)⟩
theorem lX8_229 : gLs RX8 229 yX8_noTenths := ⟨gw_at 985 (by decide +kernel) (by decide +kernel), gw_at 986 (by decide +kernel) (by decide +kernel)⟩
theorem lX8_234 : gLs RX8 234 yX8_fraction := ⟨gw_at 990 (by decide +kernel) (by decide +kernel), gw_at 991 (by decide +kernel) (by decide +kernel)⟩
theorem lX8_223 : gLs RX8 223 yX8_divisor := ⟨gw_at 993 (by decide +kernel) (by decide +kernel), gw_at 994 (by decide +kernel) (by decide +kernel)⟩
theorem lL_111 : gLv RL 111 yX8_sticks := ⟨gw_at 996 (by decide +kernel) (by decide +kernel), gw_at 997 (by decide +kernel) (by decide +kernel), gw_at 998 (by decide +kernel) (by decide +kernel)⟩
theorem lL_116 : gLv RL 116 yX8_wind := ⟨gw_at 1001 (by decide +kernel) (by decide +kernel), gw_at 1002 (by decide +kernel) (by decide +kernel), gw_at 1003 (by decide +kernel) (by decide +kernel)⟩
theorem lL_123 : gLv RL 123 yX8_seed := ⟨gw_at 1005 (by decide +kernel) (by decide +kernel), gw_at 1006 (by decide +kernel) (by decide +kernel), gw_at 1007 (by decide +kernel) (by decide +kernel)⟩
theorem lL_127 : gLv RL 127 yX8_fog := ⟨gw_at 1009 (by decide +kernel) (by decide +kernel), gw_at 1010 (by decide +kernel) (by decide +kernel), gw_at 1011 (by decide +kernel) (by decide +kernel)⟩
theorem lL_131 : gLv RL 131 yX8_keep := ⟨gw_at 1017 (by decide +kernel) (by decide +kernel), gw_at 1018 (by decide +kernel) (by decide +kernel), gw_at 1019 (by decide +kernel) (by decide +kernel)⟩
theorem lL_135 : gLv RL 135 yX8_again := ⟨gw_at 1021 (by decide +kernel) (by decide +kernel), gw_at 1022 (by decide +kernel) (by decide +kernel), gw_at 1023 (by decide +kernel) (by decide +kernel)⟩
theorem clX7_295 : Cond.constantLong RX7 295 (-1) ∈ gw := gw_at 586 (by decide +kernel) (by decide +kernel)
theorem clX7_289 : Cond.constantLong RX7 289 (6364136223846793005) ∈ gw := gw_at 653 (by decide +kernel) (by decide +kernel)
theorem clX7_291 : Cond.constantLong RX7 291 (1442695040888963407) ∈ gw := gw_at 654 (by decide +kernel) (by decide +kernel)
theorem clX7_293 : Cond.constantLong RX7 293 (4) ∈ gw := gw_at 655 (by decide +kernel) (by decide +kernel)
theorem clX8_79 : Cond.constantLong RX8 79 (255) ∈ gw := gw_at 792 (by decide +kernel) (by decide +kernel)
theorem clX8_90 : Cond.constantLong RX8 90 (8) ∈ gw := gw_at 836 (by decide +kernel) (by decide +kernel)
theorem clX8_77 : Cond.constantLong RX8 77 (9) ∈ gw := gw_at 863 (by decide +kernel) (by decide +kernel)
theorem clX8_177 : Cond.constantLong RX8 177 (40) ∈ gw := gw_at 888 (by decide +kernel) (by decide +kernel)
theorem clX8_196 : Cond.constantLong RX8 196 (2) ∈ gw := gw_at 893 (by decide +kernel) (by decide +kernel)
theorem clX8_227 : Cond.constantLong RX8 227 (10) ∈ gw := gw_at 988 (by decide +kernel) (by decide +kernel)
theorem clX8_232 : Cond.constantLong RX8 232 (5) ∈ gw := gw_at 989 (by decide +kernel) (by decide +kernel)
theorem clX8_238 : Cond.constantLong RX8 238 (6) ∈ gw := gw_at 1000 (by decide +kernel) (by decide +kernel)
theorem clX8_244 : Cond.constantLong RX8 244 (20) ∈ gw := gw_at 1013 (by decide +kernel) (by decide +kernel)
theorem clX8_246 : Cond.constantLong RX8 246 (6364136223846793005) ∈ gw := gw_at 1014 (by decide +kernel) (by decide +kernel)
theorem clX8_248 : Cond.constantLong RX8 248 (1442695040888963407) ∈ gw := gw_at 1015 (by decide +kernel) (by decide +kernel)
theorem clX8_250 : Cond.constantLong RX8 250 (4) ∈ gw := gw_at 1016 (by decide +kernel) (by decide +kernel)
theorem clL_117 : Cond.constantLong RL 117 (4294967295) ∈ gw := gw_at 1025 (by decide +kernel) (by decide +kernel)
theorem lmX3_7 : Cond.methodLink RX3 7 Lib.Math.max.name ∈ gw := gw_at 162 (by decide +kernel) (by decide +kernel)
theorem lmX3_28 : Cond.methodLink RX3 28 arraycopyName ∈ gw := gw_at 453 (by decide +kernel) (by decide +kernel)
theorem lmX7_233 : Cond.methodLink RX7 233 Lib.Math.min.name ∈ gw := gw_at 595 (by decide +kernel) (by decide +kernel)
theorem lmX6_26 : Cond.methodLink RX6 26 Lib.Math.max.name ∈ gw := gw_at 617 (by decide +kernel) (by decide +kernel)
theorem lmX6_32 : Cond.methodLink RX6 32 Lib.Math.min.name ∈ gw := gw_at 618 (by decide +kernel) (by decide +kernel)
theorem lmX7_253 : Cond.methodLink RX7 253 Lib.Math.max.name ∈ gw := gw_at 629 (by decide +kernel) (by decide +kernel)
theorem jm_max_s : Cond.static Lib.Math.max.name ∈ gw := gw_at 163 (by decide +kernel) (by decide +kernel)
set_option maxRecDepth 20000 in
theorem jm_max_c : Cond.code Lib.Math.max.name Lib.Math.max.code 2 (some .int) ∈ gw := gw_at 164 rfl rfl
theorem jm_min_s : Cond.static Lib.Math.min.name ∈ gw := gw_at 596 (by decide +kernel) (by decide +kernel)
set_option maxRecDepth 20000 in
theorem jm_min_c : Cond.code Lib.Math.min.name Lib.Math.min.code 2 (some .int) ∈ gw := gw_at 597 rfl rfl
theorem jm_i : Cond.initialized "java/lang/Math" ∈ gw := gw_at 53 (by decide +kernel) (by decide +kernel)
theorem js_s : Cond.static arraycopyName ∈ gw := gw_at 454 (by decide +kernel) (by decide +kernel)
theorem js_n : Cond.native arraycopyName ∈ gw := gw_at 455 (by decide +kernel) (by decide +kernel)
theorem js_i : Cond.initialized "java/lang/System" ∈ gw := gw_at 57 (by decide +kernel) (by decide +kernel)
end
section
/-! the rows in natural numbers; the cells of this system -/
def bN (P : Prop) [Decidable P] : Nat := if P then 1 else 0
theorem bN_t {P : Prop} [Decidable P] (h : P) : bN P = 1 := if_pos h
theorem bN_f {P : Prop} [Decidable P] (h : ¬ P) : bN P = 0 := if_neg h
theorem bN_le (P : Prop) [Decidable P] : bN P ≤ 1 := by unfold bN; split <;> omega
theorem bN_iff {P Q : Prop} [Decidable P] [Decidable Q] (h : P ↔ Q) : bN P = bN Q := by unfold bN; by_cases p : P <;> simp [p, h.mp, ← h]
def nf (f : Nat → Nat) : Nat → Int32 := fun k => nI (f k)
def lf (f : Nat → Nat) : Nat → Int64 := fun k => lN (f k)
theorem nf_upd (f : Nat → Nat) (k x : Nat) : upd (nf f) k (nI x) = nf (va_up f k x) := by funext j; simp only [upd, nf, va_up]; split <;> rfl
theorem lf_upd (f : Nat → Nat) (k x : Nat) : vp_updL (lf f) k (lN x) = lf (va_up f k x) := by funext j; simp only [vp_updL, lf, va_up]; split <;> rfl
theorem nf_cpy (f g : Nat → Nat) (a b n : Nat) : va_cpy (nf f) (nf g) a b n = nf (va_cpy f g a b n) := by funext j; simp only [va_cpy, nf]; split <;> rfl
theorem nar_01 {b : Nat} (h : b ≤ 1) : vp_nar .boolean (nI b) = nI b ∧ narrow .boolean (.int (nI b)) = .int (nI b) ∧ fits .boolean (.int (nI b)) = true := by
  match b, h with
  | 0, _ => exact ⟨by decide, by decide, by decide⟩
  | 1, _ => exact ⟨by decide, by decide, by decide⟩
theorem nar_b (P : Prop) [Decidable P] : narrow .boolean (.int (nI (bN P))) = .int (nI (bN P)) := (nar_01 (bN_le P)).2.1
theorem rng_lit (n : Nat) (h : n.ble 2147483647 = true) : n < 2 ^ 31 := by have := Nat.le_of_ble_eq_true h; omega
def kI (n : Nat) (f : Nat → Nat) : va_E := .inl (0, n, .inl (nf f))
def kR (n : Nat) (f : Nat → Int32) : va_E := .inl (0, n, .inl f)
def kZ (n : Nat) (f : Nat → Nat) : va_E := .inl (2, n, .inl (nf f))
def kJ (n : Nat) (f : Nat → Nat) : va_E := .inl (1, n, .inr (.inl (lf f)))
def kO (sd : Int64) : va_E := .inr (7, [.ref 1, .ref 3, .ref 9, .ref 15, .ref 17, .ref 20, .ref 22, .ref 23, .ref 24, .long sd])
def kT (ln pl sp : Nat) : va_E := .inr (4, [.ref 2, .int (nI ln), .int (nI pl), .int (nI sp)])
def kG3 (wk tw sf lo ri la : Nat) : va_E := .inr (1, [.ref 4, .ref 5, .ref 6, .ref 7, .ref 8, .int (nI wk), .int (nI tw), .int (nI sf), .int (nI lo), .int (nI ri), .int (nI la)])
def kG9 (wk tw sf lo ri la : Nat) : va_E := .inr (1, [.ref 10, .ref 11, .ref 12, .ref 13, .ref 14, .int (nI wk), .int (nI tw), .int (nI sf), .int (nI lo), .int (nI ri), .int (nI la)])
def kA (nx ct : Nat) : va_E := .inr (0, [.ref 18, .int (nI nx), .int (nI ct)])
def kP (pa wa lo ce sp fa : Nat) : va_E := .inr (5, [.int (nI pa), .int (nI wa), .int (nI lo), .int (nI ce), .int (nI sp), .int (nI fa)])
def kMo : va_E := .inr (2, [.ref 16])
def kSa : va_E := .inr (3, [.int (nI 16), .ref 19])
def kSs : va_E := .inr (3, [.int (nI 2), .ref 21])
def kWa : va_E := .inr (6, [.ref 25, .ref 26])
/-- the world of an OverSands -/
def wC (e0 e1 e2 e3 e4 e5 e6 e7 e8 e9 e10 e11 e12 e13 e14 e16 e17 e19 e21 e22 e23 e25 e26 : va_E) : List va_E := [e0, e1, e2, e3, e4, e5, e6, e7, e8, e9, e10, e11, e12, e13, e14, kMo, e16, e17, kSa, e19, kSs, e21, e22, e23, kWa, e25, e26]
def kM (th ts pl lo ri la wk tw sf : Nat) (rl rr re : Int32) (rw rt rs ac : Nat) (sd : Int64) (ce sa ti : Nat) : va_E := .inr (8, [.int (nI th), .ref 1, .int (nI ts), .int (nI pl), .ref 2, .int (nI lo), .int (nI ri), .int (nI la), .int (nI wk), .int (nI tw), .int (nI sf), .ref 3, .ref 4, .ref 5, .ref 6, .ref 7, .int rl, .int rr, .int re, .int (nI rw), .int (nI rt), .int (nI rs), .ref 8, .ref 9, .ref 10, .ref 11, .ref 12, .ref 13, .int (nI ac), .ref 14, .ref 15, .long sd, .int (nI ce), .int (nI sa), .int (nI ti), .ref 16, .ref 17])
/-- the world of an OverSandsModel -/
def wM (e0 e1 e2 e3 e4 e5 e6 e7 e8 e9 e10 e11 e12 e13 e14 e15 e16 e17 : va_E) : List va_E := [e0, e1, e2, e3, e4, e5, e6, e7, e8, e9, e10, e11, e12, e13, e14, e15, e16, e17]
section GN
variable {M : gM} {d pc : Nat} {lv : List (Nat × Value)} {st : List Value} {ws : List va_E} {Post : Option Value → List va_E → Prop}
theorem n_iadd {a b : Nat} (hd : decode M.2.1 pc = .ok (.iadd, 1)) (k : Go M d (pc + 1) lv (.int (nI (a + b)) :: st) ws Post) : Go M d pc lv (.int (nI b) :: .int (nI a) :: st) ws Post := g_iadd hd (by rw [nI_add]; exact k)
theorem n_imul {a b : Nat} (hd : decode M.2.1 pc = .ok (.imul, 1)) (k : Go M d (pc + 1) lv (.int (nI (a * b)) :: st) ws Post) : Go M d pc lv (.int (nI b) :: .int (nI a) :: st) ws Post := g_imul hd (by rw [pk_mul]; exact k)
theorem n_isub {a b : Nat} (h : b ≤ a) (hd : decode M.2.1 pc = .ok (.isub, 1)) (k : Go M d (pc + 1) lv (.int (nI (a - b)) :: st) ws Post) : Go M d pc lv (.int (nI b) :: .int (nI a) :: st) ws Post := g_isub hd (by rw [pk_sub h]; exact k)
theorem n_idiv {a b : Nat} (ha : a < 2 ^ 31) (h0 : 0 < b) (hb : b < 2 ^ 31) (hd : decode M.2.1 pc = .ok (.idiv, 1)) (k : Go M d (pc + 1) lv (.int (nI (a / b)) :: st) ws Post) : Go M d pc lv (.int (nI b) :: .int (nI a) :: st) ws Post := g_idiv hd (nI_ne0 h0 hb) (by rw [pk_div ha h0 hb]; exact k)
theorem n_irem {a b : Nat} (ha : a < 2 ^ 31) (h0 : 0 < b) (hb : b < 2 ^ 31) (hd : decode M.2.1 pc = .ok (.irem, 1)) (k : Go M d (pc + 1) lv (.int (nI (a % b)) :: st) ws Post) : Go M d pc lv (.int (nI b) :: .int (nI a) :: st) ws Post := g_irem hd (nI_ne0 h0 hb) (by rw [pk_rem ha h0 hb]; exact k)
theorem n_inc {i j x : Nat} {lv' : List (Nat × Value)} (hd : decode M.2.1 pc = .ok (.iinc i 1, 3)) (hj : lv[j]? = some (i, .int (nI x))) (hn : i < M.2.2.1) (hl' : (i, Value.int (nI (x + 1))) :: lv.filter (fun q => !(q.1 == i) && !(q.1 + 1 == i && q.2.category == 2)) = lv') (k : Go M d (pc + 3) lv' st ws Post) : Go M d pc lv st ws Post := g_iinc hd hj (nI_1 x) hn hl' k
theorem n_dec {i j x : Nat} {lv' : List (Nat × Value)} (hx : 0 < x) (hd : decode M.2.1 pc = .ok (.iinc i (-1), 3)) (hj : lv[j]? = some (i, .int (nI x))) (hn : i < M.2.2.1) (hl' : (i, Value.int (nI (x - 1))) :: lv.filter (fun q => !(q.1 == i) && !(q.1 + 1 == i && q.2.category == 2)) = lv') (k : Go M d (pc + 3) lv' st ws Post) : Go M d pc lv st ws Post := g_iinc hd hj (sb_m1 hx) hn hl' k
theorem n_icmp_eq {a b : Nat} {off : Int} {tgt : Nat} (ha : a < 2 ^ 31) (hb : b < 2 ^ 31) (hd : decode M.2.1 pc = .ok (.if_icmp .eq off, 3)) (ht : (pc : Int) + off = (tgt : Int)) (kt : a = b → Go M d tgt lv st ws Post) (kf : a ≠ b → Go M d (pc + 3) lv st ws Post) : Go M d pc lv (.int (nI b) :: .int (nI a) :: st) ws Post := g_icmp_eq hd ht (fun h => kt ((nI_eq ha hb).mp h)) (fun h => kf (fun z => h ((nI_eq ha hb).mpr z)))
theorem n_icmp_ne {a b : Nat} {off : Int} {tgt : Nat} (ha : a < 2 ^ 31) (hb : b < 2 ^ 31) (hd : decode M.2.1 pc = .ok (.if_icmp .ne off, 3)) (ht : (pc : Int) + off = (tgt : Int)) (kt : a ≠ b → Go M d tgt lv st ws Post) (kf : a = b → Go M d (pc + 3) lv st ws Post) : Go M d pc lv (.int (nI b) :: .int (nI a) :: st) ws Post := g_icmp_ne hd ht (fun h => kt (fun z => h ((nI_eq ha hb).mpr z))) (fun h => kf ((nI_eq ha hb).mp h))
theorem n_icmp_lt {a b : Nat} {off : Int} {tgt : Nat} (ha : a < 2 ^ 31) (hb : b < 2 ^ 31) (hd : decode M.2.1 pc = .ok (.if_icmp .lt off, 3)) (ht : (pc : Int) + off = (tgt : Int)) (kt : a < b → Go M d tgt lv st ws Post) (kf : b ≤ a → Go M d (pc + 3) lv st ws Post) : Go M d pc lv (.int (nI b) :: .int (nI a) :: st) ws Post := g_icmp_lt hd ht (fun h => kt ((nI_ltI ha hb).mp h)) (fun h => kf (Nat.not_lt.mp (fun z => h ((nI_ltI ha hb).mpr z))))
theorem n_icmp_ge {a b : Nat} {off : Int} {tgt : Nat} (ha : a < 2 ^ 31) (hb : b < 2 ^ 31) (hd : decode M.2.1 pc = .ok (.if_icmp .ge off, 3)) (ht : (pc : Int) + off = (tgt : Int)) (kt : b ≤ a → Go M d tgt lv st ws Post) (kf : a < b → Go M d (pc + 3) lv st ws Post) : Go M d pc lv (.int (nI b) :: .int (nI a) :: st) ws Post := g_icmp_ge hd ht (fun h => kt ((nI_leI hb ha).mp h)) (fun h => kf (Nat.not_le.mp (fun z => h ((nI_leI hb ha).mpr z))))
theorem n_icmp_gt {a b : Nat} {off : Int} {tgt : Nat} (ha : a < 2 ^ 31) (hb : b < 2 ^ 31) (hd : decode M.2.1 pc = .ok (.if_icmp .gt off, 3)) (ht : (pc : Int) + off = (tgt : Int)) (kt : b < a → Go M d tgt lv st ws Post) (kf : a ≤ b → Go M d (pc + 3) lv st ws Post) : Go M d pc lv (.int (nI b) :: .int (nI a) :: st) ws Post := g_icmp_gt hd ht (fun h => kt ((nI_ltI hb ha).mp h)) (fun h => kf (Nat.not_lt.mp (fun z => h ((nI_ltI hb ha).mpr z))))
theorem n_icmp_le {a b : Nat} {off : Int} {tgt : Nat} (ha : a < 2 ^ 31) (hb : b < 2 ^ 31) (hd : decode M.2.1 pc = .ok (.if_icmp .le off, 3)) (ht : (pc : Int) + off = (tgt : Int)) (kt : a ≤ b → Go M d tgt lv st ws Post) (kf : b < a → Go M d (pc + 3) lv st ws Post) : Go M d pc lv (.int (nI b) :: .int (nI a) :: st) ws Post := g_icmp_le hd ht (fun h => kt ((nI_leI ha hb).mp h)) (fun h => kf (Nat.not_le.mp (fun z => h ((nI_leI ha hb).mpr z))))
theorem n_if_eq {a : Nat} {off : Int} {tgt : Nat} (ha : a < 2 ^ 31) (hd : decode M.2.1 pc = .ok (.ifCond .eq off, 3)) (ht : (pc : Int) + off = (tgt : Int)) (kt : a = 0 → Go M d tgt lv st ws Post) (kf : a ≠ 0 → Go M d (pc + 3) lv st ws Post) : Go M d pc lv (.int (nI a) :: st) ws Post := g_if_eq hd ht (fun h => by rw [← nI_0] at h; exact kt ((nI_eq ha (rng_lit 0 rfl)).mp h)) (fun h => by rw [← nI_0] at h; exact kf (fun z => h ((nI_eq ha (rng_lit 0 rfl)).mpr z)))
theorem n_if_ne {a : Nat} {off : Int} {tgt : Nat} (ha : a < 2 ^ 31) (hd : decode M.2.1 pc = .ok (.ifCond .ne off, 3)) (ht : (pc : Int) + off = (tgt : Int)) (kt : a ≠ 0 → Go M d tgt lv st ws Post) (kf : a = 0 → Go M d (pc + 3) lv st ws Post) : Go M d pc lv (.int (nI a) :: st) ws Post := g_if_ne hd ht (fun h => by rw [← nI_0] at h; exact kt (fun z => h ((nI_eq ha (rng_lit 0 rfl)).mpr z))) (fun h => by rw [← nI_0] at h; exact kf ((nI_eq ha (rng_lit 0 rfl)).mp h))
theorem n_if_gt {a : Nat} {off : Int} {tgt : Nat} (ha : a < 2 ^ 31) (hd : decode M.2.1 pc = .ok (.ifCond .gt off, 3)) (ht : (pc : Int) + off = (tgt : Int)) (kt : 0 < a → Go M d tgt lv st ws Post) (kf : a = 0 → Go M d (pc + 3) lv st ws Post) : Go M d pc lv (.int (nI a) :: st) ws Post := g_if_gt hd ht (fun h => by rw [← nI_0] at h; exact kt ((nI_ltI (rng_lit 0 rfl) ha).mp h)) (fun h => by rw [← nI_0] at h; exact kf (Nat.eq_zero_of_not_pos (fun z => h ((nI_ltI (rng_lit 0 rfl) ha).mpr z))))
theorem n_if_le {a : Nat} {off : Int} {tgt : Nat} (ha : a < 2 ^ 31) (hd : decode M.2.1 pc = .ok (.ifCond .le off, 3)) (ht : (pc : Int) + off = (tgt : Int)) (kt : a = 0 → Go M d tgt lv st ws Post) (kf : 0 < a → Go M d (pc + 3) lv st ws Post) : Go M d pc lv (.int (nI a) :: st) ws Post := g_if_le hd ht (fun h => by rw [← nI_0] at h; exact kt (Nat.le_zero.mp ((nI_leI ha (rng_lit 0 rfl)).mp h))) (fun h => by rw [← nI_0] at h; exact kf (Nat.not_le.mp (fun z => h ((nI_leI ha (rng_lit 0 rfl)).mpr z))))
theorem n_if_lt {a : Nat} {off : Int} {tgt : Nat} (ha : a < 2 ^ 31) (hd : decode M.2.1 pc = .ok (.ifCond .lt off, 3)) (ht : (pc : Int) + off = (tgt : Int)) (kf : Go M d (pc + 3) lv st ws Post) : Go M d pc lv (.int (nI a) :: st) ws Post := g_if_lt hd ht (fun h => absurd h (nI_pos ha)) (fun _ => kf)
theorem n_if_ge {a : Nat} {off : Int} {tgt : Nat} (ha : a < 2 ^ 31) (hd : decode M.2.1 pc = .ok (.ifCond .ge off, 3)) (ht : (pc : Int) + off = (tgt : Int)) (kt : Go M d tgt lv st ws Post) : Go M d pc lv (.int (nI a) :: st) ws Post := g_if_ge hd ht (fun _ => kt) (fun h => absurd (nI_pos' ha) h)
theorem b_if_eq {P : Prop} [Decidable P] {off : Int} {tgt : Nat} (hd : decode M.2.1 pc = .ok (.ifCond .eq off, 3)) (ht : (pc : Int) + off = (tgt : Int)) (kt : ¬ P → Go M d tgt lv st ws Post) (kf : P → Go M d (pc + 3) lv st ws Post) : Go M d pc lv (.int (nI (bN P)) :: st) ws Post := g_if_eq hd ht (fun h => kt (fun p => by rw [bN_t p] at h; exact absurd h (by decide))) (fun h => kf (Decidable.byContradiction (fun p => h (by rw [bN_f p]; decide))))
theorem b_if_ne {P : Prop} [Decidable P] {off : Int} {tgt : Nat} (hd : decode M.2.1 pc = .ok (.ifCond .ne off, 3)) (ht : (pc : Int) + off = (tgt : Int)) (kt : P → Go M d tgt lv st ws Post) (kf : ¬ P → Go M d (pc + 3) lv st ws Post) : Go M d pc lv (.int (nI (bN P)) :: st) ws Post := g_if_ne hd ht (fun h => kt (Decidable.byContradiction (fun p => h (by rw [bN_f p]; decide)))) (fun h => kf (fun p => by rw [bN_t p] at h; exact absurd h (by decide)))
theorem n_iald {q n x : Nat} {f : Nat → Nat} (hq : ws[q]? = some (kI n f)) (hx : x < n) (hn : n < 2 ^ 31) (hd : decode M.2.1 pc = .ok (.iaload, 1)) (k : Go M d (pc + 1) lv (.int (nI (f x)) :: st) ws Post) : Go M d pc lv (.int (nI x) :: .ref q :: st) ws Post := g_iald hq (vp_in_nI hx hn) hd (by rw [nI_clamp (Nat.lt_trans hx hn)]; exact k)
theorem r_iald {q n x : Nat} {f : Nat → Int32} (hq : ws[q]? = some (kR n f)) (hx : x < n) (hn : n < 2 ^ 31) (hd : decode M.2.1 pc = .ok (.iaload, 1)) (k : Go M d (pc + 1) lv (.int (f x) :: st) ws Post) : Go M d pc lv (.int (nI x) :: .ref q :: st) ws Post := g_iald hq (vp_in_nI hx hn) hd (by rw [nI_clamp (Nat.lt_trans hx hn)]; exact k)
theorem n_zald {q n x : Nat} {f : Nat → Nat} (hq : ws[q]? = some (kZ n f)) (hx : x < n) (hn : n < 2 ^ 31) (hd : decode M.2.1 pc = .ok (.baload, 1)) (k : Go M d (pc + 1) lv (.int (nI (f x)) :: st) ws Post) : Go M d pc lv (.int (nI x) :: .ref q :: st) ws Post := g_zald hq (vp_in_nI hx hn) hd (by rw [nI_clamp (Nat.lt_trans hx hn)]; exact k)
theorem n_lald {q n x : Nat} {f : Nat → Nat} (hq : ws[q]? = some (kJ n f)) (hx : x < n) (hn : n < 2 ^ 31) (hd : decode M.2.1 pc = .ok (.laload, 1)) (k : Go M d (pc + 1) lv (.long (lN (f x)) :: st) ws Post) : Go M d pc lv (.int (nI x) :: .ref q :: st) ws Post := g_lald hq (vp_in_nI hx hn) hd (by rw [nI_clamp (Nat.lt_trans hx hn)]; exact k)
theorem n_iast {q n x y : Nat} {f : Nat → Nat} {ws' : List va_E} (hq : ws[q]? = some (kI n f)) (hx : x < n) (hn : n < 2 ^ 31) (hd : decode M.2.1 pc = .ok (.iastore, 1)) (hw : ws.set q (kI n (va_up f x y)) = ws') (k : Go M d (pc + 1) lv st ws' Post) : Go M d pc lv (.int (nI y) :: .int (nI x) :: .ref q :: st) ws Post := g_iast hq (vp_in_nI hx hn) hd (by rw [nI_clamp (Nat.lt_trans hx hn), nf_upd]; exact hw) k
theorem r_iast {q n x : Nat} {y : Int32} {f : Nat → Int32} {ws' : List va_E} (hq : ws[q]? = some (kR n f)) (hx : x < n) (hn : n < 2 ^ 31) (hd : decode M.2.1 pc = .ok (.iastore, 1)) (hw : ws.set q (kR n (upd f x y)) = ws') (k : Go M d (pc + 1) lv st ws' Post) : Go M d pc lv (.int y :: .int (nI x) :: .ref q :: st) ws Post := g_iast hq (vp_in_nI hx hn) hd (by rw [nI_clamp (Nat.lt_trans hx hn)]; exact hw) k
theorem n_zast {q n x y : Nat} {f : Nat → Nat} {ws' : List va_E} (hq : ws[q]? = some (kZ n f)) (hx : x < n) (hn : n < 2 ^ 31) (hy : y ≤ 1) (hd : decode M.2.1 pc = .ok (.bastore, 1)) (hw : ws.set q (kZ n (va_up f x y)) = ws') (k : Go M d (pc + 1) lv st ws' Post) : Go M d pc lv (.int (nI y) :: .int (nI x) :: .ref q :: st) ws Post := g_zast hq (vp_in_nI hx hn) hd (by rw [nI_clamp (Nat.lt_trans hx hn), (nar_01 hy).1, nf_upd]; exact hw) k
theorem n_last {q n x y : Nat} {f : Nat → Nat} {ws' : List va_E} (hq : ws[q]? = some (kJ n f)) (hx : x < n) (hn : n < 2 ^ 31) (hd : decode M.2.1 pc = .ok (.lastore, 1)) (hw : ws.set q (kJ n (va_up f x y)) = ws') (k : Go M d (pc + 1) lv st ws' Post) : Go M d pc lv (.long (lN y) :: .int (nI x) :: .ref q :: st) ws Post := g_last hq (vp_in_nI hx hn) hd (by rw [nI_clamp (Nat.lt_trans hx hn), lf_upd]; exact hw) k
theorem n_copy {q0 q1 n0 n1 idx sp dp n : Nat} {f g : Nat → Nat} {ws' : List va_E} (hL : Cond.methodLink M.1.cls idx arraycopyName ∈ gw) (hd' : 2 ≤ d) (hW : (st.map fun v => v.category).sum ≤ 8) (hq0 : ws[q0]? = some (kI n0 f)) (hq1 : ws[q1]? = some (kI n1 g)) (h4 : sp + n ≤ n0) (h5 : dp + n ≤ n1) (hn0 : n0 < 2 ^ 31) (hn1 : n1 < 2 ^ 31) (hd : decode M.2.1 pc = .ok (.invokestatic idx, 3)) (hw : ws.set q1 (kI n1 (va_cpy f g sp dp n)) = ws') (k : Go M d (pc + 3) lv st ws' Post) : Go M d pc lv (.int (nI n) :: .int (nI dp) :: .ref q1 :: .int (nI sp) :: .ref q0 :: st) ws Post := g_copy hL js_n js_s js_i hd' hW hq0 hq1 (nI_pos (by omega)) (nI_pos (by omega)) (nI_pos (by omega)) (by rw [nI_clamp (by omega), nI_clamp (by omega)]; exact h4) (by rw [nI_clamp (by omega), nI_clamp (by omega)]; exact h5) hd (by rw [nI_clamp (by omega), nI_clamp (by omega), nI_clamp (by omega), nf_cpy]; exact hw) k
theorem n_putI {idx ci f q x : Nat} {fs : List Value} {ws' : List va_E} (hf : gF M.1.cls idx ci f) (hp : gFp ci f .int) (hq : ws[q]? = some (.inr (ci, fs))) (hl0 : f < fs.length) (hd : decode M.2.1 pc = .ok (.putfield idx, 3)) (hw : ws.set q (.inr (ci, fs.set f (.int (nI x)))) = ws') (k : Go M d (pc + 3) lv st ws' Post) : Go M d pc lv (.int (nI x) :: .ref q :: st) ws Post := g_put hf hp hq hl0 rfl rfl (fun _ => rfl) hd hw k
theorem r_putI {idx ci f q : Nat} {x : Int32} {fs : List Value} {ws' : List va_E} (hf : gF M.1.cls idx ci f) (hp : gFp ci f .int) (hq : ws[q]? = some (.inr (ci, fs))) (hl0 : f < fs.length) (hd : decode M.2.1 pc = .ok (.putfield idx, 3)) (hw : ws.set q (.inr (ci, fs.set f (.int x))) = ws') (k : Go M d (pc + 3) lv st ws' Post) : Go M d pc lv (.int x :: .ref q :: st) ws Post := g_put hf hp hq hl0 rfl rfl (fun _ => rfl) hd hw k
theorem n_putZ {idx ci f q x : Nat} {fs : List Value} {ws' : List va_E} (hx : x ≤ 1) (hf : gF M.1.cls idx ci f) (hp : gFp ci f .boolean) (hq : ws[q]? = some (.inr (ci, fs))) (hl0 : f < fs.length) (hd : decode M.2.1 pc = .ok (.putfield idx, 3)) (hw : ws.set q (.inr (ci, fs.set f (.int (nI x)))) = ws') (k : Go M d (pc + 3) lv st ws' Post) : Go M d pc lv (.int (nI x) :: .ref q :: st) ws Post := g_put hf hp hq hl0 (nar_01 hx).2.1 (nar_01 hx).2.2 (fun _ => rfl) hd hw k
theorem r_putJ {idx ci f q : Nat} {x : Int64} {fs : List Value} {ws' : List va_E} (hf : gF M.1.cls idx ci f) (hp : gFp ci f .long) (hq : ws[q]? = some (.inr (ci, fs))) (hl0 : f < fs.length) (hd : decode M.2.1 pc = .ok (.putfield idx, 3)) (hw : ws.set q (.inr (ci, fs.set f (.long x))) = ws') (k : Go M d (pc + 3) lv st ws' Post) : Go M d pc lv (.long x :: .ref q :: st) ws Post := g_put hf hp hq hl0 rfl rfl (fun _ => rfl) hd hw k
theorem c_V {M' : gM} {d' n q ci idx : Nat} {fs as rest st0 st1 : List Value} {x : vw_C} {v : Option Value} {ws' : List va_E} (hc : Ct M' d' (.ref q :: as) ws (gE v ws')) (hm : gMk M' n) (hL : gLv M.1.cls idx M'.1) (hd' : d' + 1 ≤ d) (hn : as.length = n) (hq : ws[q]? = some (.inr (ci, fs))) (hx : gcl[ci]? = some x) (hx1 : x.1 = M'.1.cls) (hW : (rest.map fun v => v.category).sum ≤ 8) (hd : decode M.2.1 pc = .ok (.invokevirtual idx, 3)) (hst : st0 = as.reverse ++ .ref q :: rest) (hs1 : v.toList ++ rest = st1) (k : Go M d (pc + 3) lv st1 ws' Post) : Go M d pc lv st0 ws Post := g_callV hc hm hL hd' hn hq hx hx1 hW hd hst (fun v' u h => by obtain ⟨rfl, rfl⟩ := h; rw [hs1]; exact k)
theorem c_S {M' : gM} {d' n idx : Nat} {as rest st0 st1 : List Value} {v : Option Value} {ws' : List va_E} (hc : Ct M' d' as ws (gE v ws')) (hm : gMk M' n) (hL : gLs M.1.cls idx M'.1) (hd' : d' + 1 ≤ d) (hn : as.length = n) (hW : (rest.map fun v => v.category).sum ≤ 8) (hd : decode M.2.1 pc = .ok (.invokestatic idx, 3)) (hst : st0 = as.reverse ++ rest) (hs1 : v.toList ++ rest = st1) (k : Go M d (pc + 3) lv st1 ws' Post) : Go M d pc lv st0 ws Post := g_callS hc hm hL hd' hn hW hd hst (fun v' u h => by obtain ⟨rfl, rfl⟩ := h; rw [hs1]; exact k)
theorem c_N {M' : gM} {d' n idx : Nat} {as rest st0 st1 : List Value} {v : Option Value} {ws' : List va_E} (hc : Ct M' d' as ws (gE v ws')) (hm : gMk M' n) (hL : gLn M.1.cls idx M'.1) (hd' : d' + 1 ≤ d) (hn : as.length = n) (hW : (rest.map fun v => v.category).sum ≤ 8) (hd : decode M.2.1 pc = .ok (.invokestatic idx, 3)) (hst : st0 = as.reverse ++ rest) (hs1 : v.toList ++ rest = st1) (k : Go M d (pc + 3) lv st1 ws' Post) : Go M d pc lv st0 ws Post := g_callN hc hm hL hd' hn hW hd hst (fun v' u h => by obtain ⟨rfl, rfl⟩ := h; rw [hs1]; exact k)
end GN
end
section
/-! part 10: the bay in natural numbers; Ground and Trip -/
theorem gE_i {v v' : Option Value} {w w' : List va_E} (h1 : v' = v) (h2 : w' = w) : gE v w v' w' := ⟨h1, h2⟩
theorem gE_n {a b : Nat} {w w' : List va_E} (h1 : a = b) (h2 : w' = w) : gE (some (.int (nI b))) w (some (.int (nI a))) w' := ⟨by rw [h1], h2⟩
theorem gE_r {a b : Int32} {w w' : List va_E} (h1 : a = b) (h2 : w' = w) : gE (some (.int b)) w (some (.int a)) w' := ⟨by rw [h1], h2⟩
theorem g_topl {M : gM} {d pc : Nat} {lv : List (Nat × Value)} {st : List Value} {ws : List va_E} {Post : Option Value → List va_E → Prop} {x y : Int64} (h : x = y) (k : Go M d pc lv (.long y :: st) ws Post) : Go M d pc lv (.long x :: st) ws Post := h ▸ k
theorem le_sI {x : Int32} {a b : Int} (ha : (Int32.ofInt a).toInt = a) (hb : (Int32.ofInt b).toInt = b) : (Int32.ofInt a ≤ x ∧ x ≤ Int32.ofInt b) ↔ (a ≤ x.toInt ∧ x.toInt ≤ b) := by rw [Int32.le_iff_toInt_le, Int32.le_iff_toInt_le, ha, hb]
/-- the tide: how high the water is at a step, LOW at lo -/
def sWater (la ri st lo : Nat) : Nat := if 9 < la + ri * (if st < lo then lo - st else st - lo) then 9 else la + ri * (if st < lo then lo - st else st - lo)
def sDepth (h : Nat → Nat) (c w : Nat) : Nat := if c = 0 ∨ 9 ≤ c then 0 else w - h c
theorem sWater_le (la ri st lo : Nat) : sWater la ri st lo ≤ 9 := by
  unfold sWater
  repeat' split
  all_goals omega
theorem sDepth_le (h : Nat → Nat) (c w : Nat) : sDepth h c w ≤ w := by unfold sDepth; split <;> omega
/-- n cells on, or back, as far as it is shallow enough -/
def sOn (h : Nat → Nat) (wa w : Nat) : Nat → Nat → Nat
  | 0, c => c
  | n + 1, c => if 9 ≤ c ∨ wa < sDepth h (c + 1) w then c else sOn h wa w n (c + 1)
def sBk (h : Nat → Nat) (wa w : Nat) : Nat → Nat → Nat
  | 0, c => c
  | n + 1, c => if c = 0 ∨ wa < sDepth h (c - 1) w then c else sBk h wa w n (c - 1)
theorem sOn_le (h : Nat → Nat) (wa w : Nat) : ∀ (n c : Nat), c ≤ 9 → sOn h wa w n c ≤ 9
  | 0, c, hc => hc
  | n + 1, c, hc => by
    unfold sOn
    split
    · exact hc
    · exact sOn_le h wa w n (c + 1) (by omega)
theorem sBk_le (h : Nat → Nat) (wa w : Nat) : ∀ (n c : Nat), c ≤ 9 → sBk h wa w n c ≤ 9
  | 0, c, hc => hc
  | n + 1, c, hc => by
    unfold sBk
    split
    · exact hc
    · exact sBk_le h wa w n (c - 1) (by omega)
def sPace (h : Nat → Nat) (pa c w : Nat) : Nat := if 0 < sDepth h c w then (pa + 1) / 2 else pa
/-- where one comes in a step -/
def sTo (h : Nat → Nat) (pa wa c way w : Nat) : Nat := if way = 1 then sOn h wa w (sPace h pa c w) c else if way = 2 then sBk h wa w (sPace h pa c w) c else c
theorem sTo_le (h : Nat → Nat) (pa wa c way w : Nat) (hc : c ≤ 9) : sTo h pa wa c way w ≤ 9 := by
  unfold sTo
  split
  · exact sOn_le _ _ _ _ _ hc
  · split
    · exact sBk_le _ _ _ _ _ hc
    · exact hc
/-- what becomes of it -/
def sFate (h so : Nat → Nat) (wa from_ to way w fa : Nat) : Nat := if way = 1 ∧ to = 9 then 1 else if wa < sDepth h to w then 2 else if to = from_ ∧ so to = 1 then 3 else fa
theorem sFate_le (h so : Nat → Nat) (wa from_ to way w fa : Nat) (hf : fa ≤ 4) : sFate h so wa from_ to way w fa ≤ 4 := by
  unfold sFate; repeat' split
  all_goals omega
theorem t_0 : (nI 0).toInt = 0 := by decide
theorem t_1 : (nI 1).toInt = 1 := by decide
theorem t_2 : (nI 2).toInt = 2 := by decide
theorem t_3 : (nI 3).toInt = 3 := by decide
theorem t_5 : (nI 5).toInt = 5 := by decide
theorem t_6 : (nI 6).toInt = 6 := by decide
theorem t_8 : (nI 8).toInt = 8 := by decide
theorem t_9 : (nI 9).toInt = 9 := by decide
theorem t_10 : (nI 10).toInt = 10 := by decide
theorem t_20 : (nI 20).toInt = 20 := by decide
theorem t_40 : (nI 40).toInt = 40 := by decide
theorem t_56 : (nI 56).toInt = 56 := by decide
theorem t_255 : (nI 255).toInt = 255 := by decide
theorem t_z : (0 : Int32).toInt = 0 := by decide
theorem ctX7_isCell {e0 e1 e2 e3 e4 e5 e6 e7 e8 e9 e10 e11 e12 e13 e14 e16 e17 e19 e21 e22 e23 e25 e26 : va_E} {x : Int32} : Ct mX7_isCell 0 [.int x] (wC e0 e1 e2 e3 e4 e5 e6 e7 e8 e9 e10 e11 e12 e13 e14 e16 e17 e19 e21 e22 e23 e25 e26) (gE (some (.int (nI (bN (0 ≤ x.toInt ∧ x.toInt ≤ 9))))) (wC e0 e1 e2 e3 e4 e5 e6 e7 e8 e9 e10 e11 e12 e13 e14 e16 e17 e19 e21 e22 e23 e25 e26)) := by
  refine Ct.of (by decide) (by exact Nat.le_of_ble_eq_true rfl) ?_
  show Go mX7_isCell 0 0 [(0, .int x)] [] (wC e0 e1 e2 e3 e4 e5 e6 e7 e8 e9 e10 e11 e12 e13 e14 e16 e17 e19 e21 e22 e23 e25 e26) (gE (some (.int (nI (bN (0 ≤ x.toInt ∧ x.toInt ≤ 9))))) (wC e0 e1 e2 e3 e4 e5 e6 e7 e8 e9 e10 e11 e12 e13 e14 e16 e17 e19 e21 e22 e23 e25 e26))
  refine g_iload_n (i := 0) (j := 0) dX7_isCell_0 rfl rfl ?_
  refine g_if_lt (tgt := 14) dX7_isCell_1 (by decide) (fun h1 => ?_) (fun h1 => ?_)
  · refine g_iconst (v := nI 0) dX7_isCell_14 (by decide) ?_
    refine g_iret rfl (by decide) dX7_isCell_15 ?_
    refine gE_n (bN_f ?_).symm rfl
    simp only [Int32.lt_iff_toInt_lt, Int32.le_iff_toInt_le, t_z, t_0, t_1, t_2, t_3, t_5, t_6, t_8, t_9, t_10, t_20, t_40, t_56, t_255] at *
    omega
  · refine g_iload_n (i := 0) (j := 0) dX7_isCell_4 rfl rfl ?_
    refine g_bipush (v := nI 9) dX7_isCell_5 (by decide) ?_
    refine g_icmp_gt (tgt := 14) dX7_isCell_7 (by decide) (fun h7 => ?_) (fun h7 => ?_)
    · refine g_iconst (v := nI 0) dX7_isCell_14 (by decide) ?_
      refine g_iret rfl (by decide) dX7_isCell_15 ?_
      refine gE_n (bN_f ?_).symm rfl
      simp only [Int32.lt_iff_toInt_lt, Int32.le_iff_toInt_le, t_z, t_0, t_1, t_2, t_3, t_5, t_6, t_8, t_9, t_10, t_20, t_40, t_56, t_255] at *
      omega
    · refine g_iconst (v := nI 1) dX7_isCell_10 (by decide) ?_
      refine g_goto (tgt := 15) dX7_isCell_11 (by decide) ?_
      refine g_iret rfl (by decide) dX7_isCell_15 ?_
      refine gE_n (bN_t ?_).symm rfl
      simp only [Int32.lt_iff_toInt_lt, Int32.le_iff_toInt_le, t_z, t_0, t_1, t_2, t_3, t_5, t_6, t_8, t_9, t_10, t_20, t_40, t_56, t_255] at *
      omega

theorem ctX7_isStep {e0 e1 e2 e3 e4 e5 e6 e7 e8 e9 e10 e11 e12 e13 e14 e16 e17 e19 e21 e22 e23 e25 e26 : va_E} {x : Int32} : Ct mX7_isStep 0 [.int x] (wC e0 e1 e2 e3 e4 e5 e6 e7 e8 e9 e10 e11 e12 e13 e14 e16 e17 e19 e21 e22 e23 e25 e26) (gE (some (.int (nI (bN (0 ≤ x.toInt ∧ x.toInt ≤ 40))))) (wC e0 e1 e2 e3 e4 e5 e6 e7 e8 e9 e10 e11 e12 e13 e14 e16 e17 e19 e21 e22 e23 e25 e26)) := by
  refine Ct.of (by decide) (by exact Nat.le_of_ble_eq_true rfl) ?_
  show Go mX7_isStep 0 0 [(0, .int x)] [] (wC e0 e1 e2 e3 e4 e5 e6 e7 e8 e9 e10 e11 e12 e13 e14 e16 e17 e19 e21 e22 e23 e25 e26) (gE (some (.int (nI (bN (0 ≤ x.toInt ∧ x.toInt ≤ 40))))) (wC e0 e1 e2 e3 e4 e5 e6 e7 e8 e9 e10 e11 e12 e13 e14 e16 e17 e19 e21 e22 e23 e25 e26))
  refine g_iload_n (i := 0) (j := 0) dX7_isStep_0 rfl rfl ?_
  refine g_if_lt (tgt := 14) dX7_isStep_1 (by decide) (fun h1 => ?_) (fun h1 => ?_)
  · refine g_iconst (v := nI 0) dX7_isStep_14 (by decide) ?_
    refine g_iret rfl (by decide) dX7_isStep_15 ?_
    refine gE_n (bN_f ?_).symm rfl
    simp only [Int32.lt_iff_toInt_lt, Int32.le_iff_toInt_le, t_z, t_0, t_1, t_2, t_3, t_5, t_6, t_8, t_9, t_10, t_20, t_40, t_56, t_255] at *
    omega
  · refine g_iload_n (i := 0) (j := 0) dX7_isStep_4 rfl rfl ?_
    refine g_bipush (v := nI 40) dX7_isStep_5 (by decide) ?_
    refine g_icmp_gt (tgt := 14) dX7_isStep_7 (by decide) (fun h7 => ?_) (fun h7 => ?_)
    · refine g_iconst (v := nI 0) dX7_isStep_14 (by decide) ?_
      refine g_iret rfl (by decide) dX7_isStep_15 ?_
      refine gE_n (bN_f ?_).symm rfl
      simp only [Int32.lt_iff_toInt_lt, Int32.le_iff_toInt_le, t_z, t_0, t_1, t_2, t_3, t_5, t_6, t_8, t_9, t_10, t_20, t_40, t_56, t_255] at *
      omega
    · refine g_iconst (v := nI 1) dX7_isStep_10 (by decide) ?_
      refine g_goto (tgt := 15) dX7_isStep_11 (by decide) ?_
      refine g_iret rfl (by decide) dX7_isStep_15 ?_
      refine gE_n (bN_t ?_).symm rfl
      simp only [Int32.lt_iff_toInt_lt, Int32.le_iff_toInt_le, t_z, t_0, t_1, t_2, t_3, t_5, t_6, t_8, t_9, t_10, t_20, t_40, t_56, t_255] at *
      omega

theorem ctX7_isSlot {e0 e1 e2 e3 e4 e5 e6 e7 e8 e9 e10 e11 e12 e13 e14 e16 e17 e19 e21 e22 e23 e25 e26 : va_E} {x : Int32} : Ct mX7_isSlot 0 [.int x] (wC e0 e1 e2 e3 e4 e5 e6 e7 e8 e9 e10 e11 e12 e13 e14 e16 e17 e19 e21 e22 e23 e25 e26) (gE (some (.int (nI (bN (0 ≤ x.toInt ∧ x.toInt ≤ 1))))) (wC e0 e1 e2 e3 e4 e5 e6 e7 e8 e9 e10 e11 e12 e13 e14 e16 e17 e19 e21 e22 e23 e25 e26)) := by
  refine Ct.of (by decide) (by exact Nat.le_of_ble_eq_true rfl) ?_
  show Go mX7_isSlot 0 0 [(0, .int x)] [] (wC e0 e1 e2 e3 e4 e5 e6 e7 e8 e9 e10 e11 e12 e13 e14 e16 e17 e19 e21 e22 e23 e25 e26) (gE (some (.int (nI (bN (0 ≤ x.toInt ∧ x.toInt ≤ 1))))) (wC e0 e1 e2 e3 e4 e5 e6 e7 e8 e9 e10 e11 e12 e13 e14 e16 e17 e19 e21 e22 e23 e25 e26))
  refine g_iload_n (i := 0) (j := 0) dX7_isSlot_0 rfl rfl ?_
  refine g_if_lt (tgt := 13) dX7_isSlot_1 (by decide) (fun h1 => ?_) (fun h1 => ?_)
  · refine g_iconst (v := nI 0) dX7_isSlot_13 (by decide) ?_
    refine g_iret rfl (by decide) dX7_isSlot_14 ?_
    refine gE_n (bN_f ?_).symm rfl
    simp only [Int32.lt_iff_toInt_lt, Int32.le_iff_toInt_le, t_z, t_0, t_1, t_2, t_3, t_5, t_6, t_8, t_9, t_10, t_20, t_40, t_56, t_255] at *
    omega
  · refine g_iload_n (i := 0) (j := 0) dX7_isSlot_4 rfl rfl ?_
    refine g_iconst (v := nI 2) dX7_isSlot_5 (by decide) ?_
    refine g_icmp_ge (tgt := 13) dX7_isSlot_6 (by decide) (fun h6 => ?_) (fun h6 => ?_)
    · refine g_iconst (v := nI 0) dX7_isSlot_13 (by decide) ?_
      refine g_iret rfl (by decide) dX7_isSlot_14 ?_
      refine gE_n (bN_f ?_).symm rfl
      simp only [Int32.lt_iff_toInt_lt, Int32.le_iff_toInt_le, t_z, t_0, t_1, t_2, t_3, t_5, t_6, t_8, t_9, t_10, t_20, t_40, t_56, t_255] at *
      omega
    · refine g_iconst (v := nI 1) dX7_isSlot_9 (by decide) ?_
      refine g_goto (tgt := 14) dX7_isSlot_10 (by decide) ?_
      refine g_iret rfl (by decide) dX7_isSlot_14 ?_
      refine gE_n (bN_t ?_).symm rfl
      simp only [Int32.lt_iff_toInt_lt, Int32.le_iff_toInt_le, t_z, t_0, t_1, t_2, t_3, t_5, t_6, t_8, t_9, t_10, t_20, t_40, t_56, t_255] at *
      omega

theorem ctX7_isOnSands {e0 e1 e2 e3 e4 e5 e6 e7 e8 e9 e10 e11 e12 e13 e14 e16 e17 e19 e21 e22 e23 e25 e26 : va_E} {x : Int32} : Ct mX7_isOnSands 0 [.int x] (wC e0 e1 e2 e3 e4 e5 e6 e7 e8 e9 e10 e11 e12 e13 e14 e16 e17 e19 e21 e22 e23 e25 e26) (gE (some (.int (nI (bN (0 < x.toInt ∧ x.toInt < 9))))) (wC e0 e1 e2 e3 e4 e5 e6 e7 e8 e9 e10 e11 e12 e13 e14 e16 e17 e19 e21 e22 e23 e25 e26)) := by
  refine Ct.of (by decide) (by exact Nat.le_of_ble_eq_true rfl) ?_
  show Go mX7_isOnSands 0 0 [(0, .int x)] [] (wC e0 e1 e2 e3 e4 e5 e6 e7 e8 e9 e10 e11 e12 e13 e14 e16 e17 e19 e21 e22 e23 e25 e26) (gE (some (.int (nI (bN (0 < x.toInt ∧ x.toInt < 9))))) (wC e0 e1 e2 e3 e4 e5 e6 e7 e8 e9 e10 e11 e12 e13 e14 e16 e17 e19 e21 e22 e23 e25 e26))
  refine g_iload_n (i := 0) (j := 0) dX7_isOnSands_0 rfl rfl ?_
  refine g_if_le (tgt := 14) dX7_isOnSands_1 (by decide) (fun h1 => ?_) (fun h1 => ?_)
  · refine g_iconst (v := nI 0) dX7_isOnSands_14 (by decide) ?_
    refine g_iret rfl (by decide) dX7_isOnSands_15 ?_
    refine gE_n (bN_f ?_).symm rfl
    simp only [Int32.lt_iff_toInt_lt, Int32.le_iff_toInt_le, t_z, t_0, t_1, t_2, t_3, t_5, t_6, t_8, t_9, t_10, t_20, t_40, t_56, t_255] at *
    omega
  · refine g_iload_n (i := 0) (j := 0) dX7_isOnSands_4 rfl rfl ?_
    refine g_bipush (v := nI 9) dX7_isOnSands_5 (by decide) ?_
    refine g_icmp_ge (tgt := 14) dX7_isOnSands_7 (by decide) (fun h7 => ?_) (fun h7 => ?_)
    · refine g_iconst (v := nI 0) dX7_isOnSands_14 (by decide) ?_
      refine g_iret rfl (by decide) dX7_isOnSands_15 ?_
      refine gE_n (bN_f ?_).symm rfl
      simp only [Int32.lt_iff_toInt_lt, Int32.le_iff_toInt_le, t_z, t_0, t_1, t_2, t_3, t_5, t_6, t_8, t_9, t_10, t_20, t_40, t_56, t_255] at *
      omega
    · refine g_iconst (v := nI 1) dX7_isOnSands_10 (by decide) ?_
      refine g_goto (tgt := 15) dX7_isOnSands_11 (by decide) ?_
      refine g_iret rfl (by decide) dX7_isOnSands_15 ?_
      refine gE_n (bN_t ?_).symm rfl
      simp only [Int32.lt_iff_toInt_lt, Int32.le_iff_toInt_le, t_z, t_0, t_1, t_2, t_3, t_5, t_6, t_8, t_9, t_10, t_20, t_40, t_56, t_255] at *
      omega

theorem ctX7_areTenths {e0 e1 e2 e3 e4 e5 e6 e7 e8 e9 e10 e11 e12 e13 e14 e16 e17 e19 e21 e22 e23 e25 e26 : va_E} {a b : Int32} : Ct mX7_areTenths 0 [.int a, .int b] (wC e0 e1 e2 e3 e4 e5 e6 e7 e8 e9 e10 e11 e12 e13 e14 e16 e17 e19 e21 e22 e23 e25 e26) (gE (some (.int (nI (bN (0 ≤ a.toInt ∧ a.toInt ≤ 10 ∧ 0 ≤ b.toInt ∧ b.toInt ≤ 10 ∧ a.toInt + b.toInt ≤ 10))))) (wC e0 e1 e2 e3 e4 e5 e6 e7 e8 e9 e10 e11 e12 e13 e14 e16 e17 e19 e21 e22 e23 e25 e26)) := by
  refine Ct.of (by decide) (by exact Nat.le_of_ble_eq_true rfl) ?_
  show Go mX7_areTenths 0 0 [(0, .int a), (1, .int b)] [] (wC e0 e1 e2 e3 e4 e5 e6 e7 e8 e9 e10 e11 e12 e13 e14 e16 e17 e19 e21 e22 e23 e25 e26) (gE (some (.int (nI (bN (0 ≤ a.toInt ∧ a.toInt ≤ 10 ∧ 0 ≤ b.toInt ∧ b.toInt ≤ 10 ∧ a.toInt + b.toInt ≤ 10))))) (wC e0 e1 e2 e3 e4 e5 e6 e7 e8 e9 e10 e11 e12 e13 e14 e16 e17 e19 e21 e22 e23 e25 e26))
  refine g_iload_n (i := 0) (j := 0) dX7_areTenths_0 rfl rfl ?_
  refine g_if_lt (tgt := 32) dX7_areTenths_1 (by decide) (fun h1 => ?_) (fun h1 => ?_)
  · refine g_iconst (v := nI 0) dX7_areTenths_32 (by decide) ?_
    refine g_iret rfl (by decide) dX7_areTenths_33 ?_
    refine gE_n (bN_f ?_).symm rfl
    simp only [Int32.lt_iff_toInt_lt, Int32.le_iff_toInt_le, t_z, t_0, t_1, t_2, t_3, t_5, t_6, t_8, t_9, t_10, t_20, t_40, t_56, t_255] at *
    omega
  · refine g_iload_n (i := 0) (j := 0) dX7_areTenths_4 rfl rfl ?_
    refine g_bipush (v := nI 10) dX7_areTenths_5 (by decide) ?_
    refine g_icmp_gt (tgt := 32) dX7_areTenths_7 (by decide) (fun h7 => ?_) (fun h7 => ?_)
    · refine g_iconst (v := nI 0) dX7_areTenths_32 (by decide) ?_
      refine g_iret rfl (by decide) dX7_areTenths_33 ?_
      refine gE_n (bN_f ?_).symm rfl
      simp only [Int32.lt_iff_toInt_lt, Int32.le_iff_toInt_le, t_z, t_0, t_1, t_2, t_3, t_5, t_6, t_8, t_9, t_10, t_20, t_40, t_56, t_255] at *
      omega
    · obtain ⟨ja, hja, rfl⟩ : ∃ j : Nat, j ≤ 10 ∧ a = nI j := nI_of2 (M := nI 10) (n := 10) (by decide) h1 (Int32.not_lt.mp h7)
      refine g_iload_n (i := 1) (j := 1) dX7_areTenths_10 rfl rfl ?_
      refine g_if_lt (tgt := 32) dX7_areTenths_11 (by decide) (fun h11 => ?_) (fun h11 => ?_)
      · refine g_iconst (v := nI 0) dX7_areTenths_32 (by decide) ?_
        refine g_iret rfl (by decide) dX7_areTenths_33 ?_
        refine gE_n (bN_f ?_).symm rfl
        have qa := nI_toInt (n := ja) (by omega)
        simp only [Int32.lt_iff_toInt_lt, Int32.le_iff_toInt_le, t_z, t_0, t_1, t_2, t_3, t_5, t_6, t_8, t_9, t_10, t_20, t_40, t_56, t_255] at *
        omega
      · refine g_iload_n (i := 1) (j := 1) dX7_areTenths_14 rfl rfl ?_
        refine g_bipush (v := nI 10) dX7_areTenths_15 (by decide) ?_
        refine g_icmp_gt (tgt := 32) dX7_areTenths_17 (by decide) (fun h17 => ?_) (fun h17 => ?_)
        · refine g_iconst (v := nI 0) dX7_areTenths_32 (by decide) ?_
          refine g_iret rfl (by decide) dX7_areTenths_33 ?_
          refine gE_n (bN_f ?_).symm rfl
          have qa := nI_toInt (n := ja) (by omega)
          simp only [Int32.lt_iff_toInt_lt, Int32.le_iff_toInt_le, t_z, t_0, t_1, t_2, t_3, t_5, t_6, t_8, t_9, t_10, t_20, t_40, t_56, t_255] at *
          omega
        · obtain ⟨jb, hjb, rfl⟩ : ∃ j : Nat, j ≤ 10 ∧ b = nI j := nI_of2 (M := nI 10) (n := 10) (by decide) h11 (Int32.not_lt.mp h17)
          refine g_iload_n (i := 0) (j := 0) dX7_areTenths_20 rfl rfl ?_
          refine g_iload_n (i := 1) (j := 1) dX7_areTenths_21 rfl rfl ?_
          refine n_iadd (a := ja) (b := jb) dX7_areTenths_22 ?_
          refine g_bipush (v := nI 10) dX7_areTenths_23 (by decide) ?_
          refine n_icmp_gt (tgt := 32) (by omega) (rng_lit 10 rfl) dX7_areTenths_25 (by decide) (fun h25 => ?_) (fun h25 => ?_)
          · refine g_iconst (v := nI 0) dX7_areTenths_32 (by decide) ?_
            refine g_iret rfl (by decide) dX7_areTenths_33 ?_
            refine gE_n (bN_f ?_).symm rfl
            have qa := nI_toInt (n := ja) (by omega)
            have qb := nI_toInt (n := jb) (by omega)
            simp only [Int32.lt_iff_toInt_lt, Int32.le_iff_toInt_le, t_z, t_0, t_1, t_2, t_3, t_5, t_6, t_8, t_9, t_10, t_20, t_40, t_56, t_255] at *
            omega
          · refine g_iconst (v := nI 1) dX7_areTenths_28 (by decide) ?_
            refine g_goto (tgt := 33) dX7_areTenths_29 (by decide) ?_
            refine g_iret rfl (by decide) dX7_areTenths_33 ?_
            refine gE_n (bN_t ?_).symm rfl
            have qa := nI_toInt (n := ja) (by omega)
            have qb := nI_toInt (n := jb) (by omega)
            simp only [Int32.lt_iff_toInt_lt, Int32.le_iff_toInt_le, t_z, t_0, t_1, t_2, t_3, t_5, t_6, t_8, t_9, t_10, t_20, t_40, t_56, t_255] at *
            omega

theorem ctX1_water {e0 e1 e2 e4 e5 e6 e7 e8 e9 e10 e11 e12 e13 e14 e16 e17 e19 e21 e22 e23 e25 e26 : va_E} {wk tw sf lo ri la : Nat} {st lo2 : Nat} (h1 : la ≤ 9) (h2_ : ri ≤ 3) (h3 : st ≤ 41) (h4 : lo2 ≤ 41) : Ct mX1_water 0 [.ref 3, .int (nI st), .int (nI lo2)] (wC e0 e1 e2 (kG3 wk tw sf lo ri la) e4 e5 e6 e7 e8 e9 e10 e11 e12 e13 e14 e16 e17 e19 e21 e22 e23 e25 e26) (gE (some (.int (nI (sWater la ri st lo2)))) (wC e0 e1 e2 (kG3 wk tw sf lo ri la) e4 e5 e6 e7 e8 e9 e10 e11 e12 e13 e14 e16 e17 e19 e21 e22 e23 e25 e26)) := by
  refine Ct.of (by decide) (by exact Nat.le_of_ble_eq_true rfl) ?_
  show Go mX1_water 0 0 [(0, .ref 3), (1, .int (nI st)), (2, .int (nI lo2))] [] (wC e0 e1 e2 (kG3 wk tw sf lo ri la) e4 e5 e6 e7 e8 e9 e10 e11 e12 e13 e14 e16 e17 e19 e21 e22 e23 e25 e26) (gE (some (.int (nI (sWater la ri st lo2)))) (wC e0 e1 e2 (kG3 wk tw sf lo ri la) e4 e5 e6 e7 e8 e9 e10 e11 e12 e13 e14 e16 e17 e19 e21 e22 e23 e25 e26))
  refine g_iload_n (i := 1) (j := 1) dX1_water_0 rfl rfl ?_
  refine g_iload_n (i := 2) (j := 2) dX1_water_1 rfl rfl ?_
  refine n_icmp_ge (tgt := 11) (by omega) (by omega) dX1_water_2 (by decide) (fun h2 => ?_) (fun h2 => ?_)
  · refine g_iload_n (i := 1) (j := 1) dX1_water_11 rfl rfl ?_
    refine g_iload_n (i := 2) (j := 2) dX1_water_12 rfl rfl ?_
    refine n_isub (a := st) (b := lo2) (by omega) dX1_water_13 ?_
    refine g_istore_n (i := 3) (lv' := [(3, .int (nI (st - lo2))), (0, .ref 3), (1, .int (nI st)), (2, .int (nI lo2))]) dX1_water_14 rfl (by decide) rfl ?_
    refine g_aload_n (i := 0) (j := 1) dX1_water_15 rfl rfl ?_
    refine g_get fX1_45 rfl rfl dX1_water_16 ?_
    refine g_aload_n (i := 0) (j := 1) dX1_water_19 rfl rfl ?_
    refine g_get fX1_28 rfl rfl dX1_water_20 ?_
    refine g_iload_n (i := 3) (j := 0) dX1_water_23 rfl rfl ?_
    refine n_imul (a := ri) (b := (st - lo2)) dX1_water_24 ?_
    refine n_iadd (a := la) (b := (ri * (st - lo2))) dX1_water_25 ?_
    refine g_istore (lv' := [(4, .int (nI (la + (ri * (st - lo2))))), (3, .int (nI (st - lo2))), (0, .ref 3), (1, .int (nI st)), (2, .int (nI lo2))]) dX1_water_26 (by decide) rfl ?_
    have hm : ri * (st - lo2) ≤ 3 * 41 := Nat.mul_le_mul h2_ (by omega)
    refine g_iload (j := 0) dX1_water_28 rfl ?_
    refine g_bipush (v := nI 9) dX1_water_30 (by decide) ?_
    refine n_icmp_ge (tgt := 40) (by omega) (rng_lit 9 rfl) dX1_water_32 (by decide) (fun h32 => ?_) (fun h32 => ?_)
    · refine g_bipush (v := nI 9) dX1_water_40 (by decide) ?_
      refine g_iret rfl rfl dX1_water_42 ?_
      refine gE_n ?_ rfl
      simp only [sWater, if_neg (show ¬ st < lo2 by omega)]
      split <;> omega
    · refine g_iload (j := 0) dX1_water_35 rfl ?_
      refine g_goto (tgt := 42) dX1_water_37 (by decide) ?_
      refine g_iret rfl rfl dX1_water_42 ?_
      refine gE_n ?_ rfl
      simp only [sWater, if_neg (show ¬ st < lo2 by omega)]
      split <;> omega
  · refine g_iload_n (i := 2) (j := 2) dX1_water_5 rfl rfl ?_
    refine g_iload_n (i := 1) (j := 1) dX1_water_6 rfl rfl ?_
    refine n_isub (a := lo2) (b := st) (by omega) dX1_water_7 ?_
    refine g_goto (tgt := 14) dX1_water_8 (by decide) ?_
    refine g_istore_n (i := 3) (lv' := [(3, .int (nI (lo2 - st))), (0, .ref 3), (1, .int (nI st)), (2, .int (nI lo2))]) dX1_water_14 rfl (by decide) rfl ?_
    refine g_aload_n (i := 0) (j := 1) dX1_water_15 rfl rfl ?_
    refine g_get fX1_45 rfl rfl dX1_water_16 ?_
    refine g_aload_n (i := 0) (j := 1) dX1_water_19 rfl rfl ?_
    refine g_get fX1_28 rfl rfl dX1_water_20 ?_
    refine g_iload_n (i := 3) (j := 0) dX1_water_23 rfl rfl ?_
    refine n_imul (a := ri) (b := (lo2 - st)) dX1_water_24 ?_
    refine n_iadd (a := la) (b := (ri * (lo2 - st))) dX1_water_25 ?_
    refine g_istore (lv' := [(4, .int (nI (la + (ri * (lo2 - st))))), (3, .int (nI (lo2 - st))), (0, .ref 3), (1, .int (nI st)), (2, .int (nI lo2))]) dX1_water_26 (by decide) rfl ?_
    have hm : ri * (lo2 - st) ≤ 3 * 41 := Nat.mul_le_mul h2_ (by omega)
    refine g_iload (j := 0) dX1_water_28 rfl ?_
    refine g_bipush (v := nI 9) dX1_water_30 (by decide) ?_
    refine n_icmp_ge (tgt := 40) (by omega) (rng_lit 9 rfl) dX1_water_32 (by decide) (fun h32 => ?_) (fun h32 => ?_)
    · refine g_bipush (v := nI 9) dX1_water_40 (by decide) ?_
      refine g_iret rfl rfl dX1_water_42 ?_
      refine gE_n ?_ rfl
      simp only [sWater, if_pos (show st < lo2 by omega)]
      split <;> omega
    · refine g_iload (j := 0) dX1_water_35 rfl ?_
      refine g_goto (tgt := 42) dX1_water_37 (by decide) ?_
      refine g_iret rfl rfl dX1_water_42 ?_
      refine gE_n ?_ rfl
      simp only [sWater, if_pos (show st < lo2 by omega)]
      split <;> omega

theorem ctX1_depth {e0 e1 e2 e5 e6 e7 e8 e9 e10 e11 e12 e13 e14 e16 e17 e19 e21 e22 e23 e25 e26 : va_E} {h : Nat → Nat} {wk tw sf lo ri la : Nat} {c w : Nat} (hH : ∀ k, h k ≤ 9) (h1 : c ≤ 9) (h2 : w ≤ 9) : Ct mX1_depth 0 [.ref 3, .int (nI c), .int (nI w)] (wC e0 e1 e2 (kG3 wk tw sf lo ri la) (kI 10 h) e5 e6 e7 e8 e9 e10 e11 e12 e13 e14 e16 e17 e19 e21 e22 e23 e25 e26) (gE (some (.int (nI (sDepth h c w)))) (wC e0 e1 e2 (kG3 wk tw sf lo ri la) (kI 10 h) e5 e6 e7 e8 e9 e10 e11 e12 e13 e14 e16 e17 e19 e21 e22 e23 e25 e26)) := by
  refine Ct.of (by decide) (by exact Nat.le_of_ble_eq_true rfl) ?_
  show Go mX1_depth 0 0 [(0, .ref 3), (1, .int (nI c)), (2, .int (nI w))] [] (wC e0 e1 e2 (kG3 wk tw sf lo ri la) (kI 10 h) e5 e6 e7 e8 e9 e10 e11 e12 e13 e14 e16 e17 e19 e21 e22 e23 e25 e26) (gE (some (.int (nI (sDepth h c w)))) (wC e0 e1 e2 (kG3 wk tw sf lo ri la) (kI 10 h) e5 e6 e7 e8 e9 e10 e11 e12 e13 e14 e16 e17 e19 e21 e22 e23 e25 e26))
  have q1 := hH c
  refine g_iload_n (i := 1) (j := 1) dX1_depth_0 rfl rfl ?_
  refine n_if_le (tgt := 20) (by omega) dX1_depth_1 (by decide) (fun h1 => ?_) (fun h1 => ?_)
  · refine g_iconst (v := nI 0) dX1_depth_20 (by decide) ?_
    refine g_iret rfl rfl dX1_depth_21 ?_
    refine gE_n ?_ rfl
    unfold sDepth
    split <;> omega
  · refine g_iload_n (i := 1) (j := 1) dX1_depth_4 rfl rfl ?_
    refine g_bipush (v := nI 9) dX1_depth_5 (by decide) ?_
    refine n_icmp_ge (tgt := 20) (by omega) (rng_lit 9 rfl) dX1_depth_7 (by decide) (fun h7 => ?_) (fun h7 => ?_)
    · refine g_iconst (v := nI 0) dX1_depth_20 (by decide) ?_
      refine g_iret rfl rfl dX1_depth_21 ?_
      refine gE_n ?_ rfl
      unfold sDepth
      split <;> omega
    · refine g_iload_n (i := 2) (j := 2) dX1_depth_10 rfl rfl ?_
      refine g_aload_n (i := 0) (j := 0) dX1_depth_11 rfl rfl ?_
      refine g_get fX1_9 rfl rfl dX1_depth_12 ?_
      refine g_iload_n (i := 1) (j := 1) dX1_depth_15 rfl rfl ?_
      refine n_iald (x := c) rfl (by omega) (rng_lit 10 rfl) dX1_depth_16 ?_
      refine n_icmp_gt (tgt := 22) (by omega) (by omega) dX1_depth_17 (by decide) (fun h17 => ?_) (fun h17 => ?_)
      · refine g_iload_n (i := 2) (j := 2) dX1_depth_22 rfl rfl ?_
        refine g_aload_n (i := 0) (j := 0) dX1_depth_23 rfl rfl ?_
        refine g_get fX1_9 rfl rfl dX1_depth_24 ?_
        refine g_iload_n (i := 1) (j := 1) dX1_depth_27 rfl rfl ?_
        refine n_iald (x := c) rfl (by omega) (rng_lit 10 rfl) dX1_depth_28 ?_
        refine n_isub (a := w) (b := (h c)) (by omega) dX1_depth_29 ?_
        refine g_iret rfl rfl dX1_depth_30 ?_
        refine gE_n ?_ rfl
        unfold sDepth
        split <;> omega
      · refine g_iconst (v := nI 0) dX1_depth_20 (by decide) ?_
        refine g_iret rfl rfl dX1_depth_21 ?_
        refine gE_n ?_ rfl
        unfold sDepth
        split <;> omega

theorem ctX1_isSoft {e0 e1 e2 e4 e6 e7 e8 e9 e10 e11 e12 e13 e14 e16 e17 e19 e21 e22 e23 e25 e26 : va_E} {f : Nat → Nat} {wk tw sf lo ri la : Nat} {c : Nat} (hb : ∀ k, f k ≤ 1) (h1 : c ≤ 9) : Ct mX1_isSoft 1 [.ref 3, .int (nI c)] (wC e0 e1 e2 (kG3 wk tw sf lo ri la) e4 (kZ 10 f) e6 e7 e8 e9 e10 e11 e12 e13 e14 e16 e17 e19 e21 e22 e23 e25 e26) (gE (some (.int (nI (f c)))) (wC e0 e1 e2 (kG3 wk tw sf lo ri la) e4 (kZ 10 f) e6 e7 e8 e9 e10 e11 e12 e13 e14 e16 e17 e19 e21 e22 e23 e25 e26)) := by
  refine Ct.of (by decide) (by exact Nat.le_of_ble_eq_true rfl) ?_
  show Go mX1_isSoft 1 0 [(0, .ref 3), (1, .int (nI c))] [] (wC e0 e1 e2 (kG3 wk tw sf lo ri la) e4 (kZ 10 f) e6 e7 e8 e9 e10 e11 e12 e13 e14 e16 e17 e19 e21 e22 e23 e25 e26) (gE (some (.int (nI (f c)))) (wC e0 e1 e2 (kG3 wk tw sf lo ri la) e4 (kZ 10 f) e6 e7 e8 e9 e10 e11 e12 e13 e14 e16 e17 e19 e21 e22 e23 e25 e26))
  have q1 := nI_toInt (n := c) (by omega)
  have q2 := hb c
  refine g_iload_n (i := 1) (j := 1) dX1_isSoft_0 rfl rfl ?_
  refine c_N (st1 := [.int (nI (bN (0 ≤ (nI c).toInt ∧ (nI c).toInt ≤ 9)))]) (ctX7_isCell (x := (nI c)) ) kX7_isCell lX1_41 (by decide) rfl (by exact Nat.le_of_ble_eq_true rfl) dX1_isSoft_1 rfl rfl ?_
  refine b_if_eq (tgt := 20) dX1_isSoft_4 (by decide) (fun h4 => ?_) (fun h4 => ?_)
  · exact absurd ⟨by omega, by omega⟩ h4
  · refine g_aload_n (i := 0) (j := 0) dX1_isSoft_7 rfl rfl ?_
    refine g_get fX1_15 rfl rfl dX1_isSoft_8 ?_
    refine g_iload_n (i := 1) (j := 1) dX1_isSoft_11 rfl rfl ?_
    refine n_zald (x := c) rfl (by omega) (rng_lit 10 rfl) dX1_isSoft_12 ?_
    refine n_if_eq (tgt := 20) (by omega) dX1_isSoft_13 (by decide) (fun h13 => ?_) (fun h13 => ?_)
    · refine g_iconst (v := nI 0) dX1_isSoft_20 (by decide) ?_
      refine g_iret rfl (by decide) dX1_isSoft_21 ?_
      exact gE_n (by omega) rfl
    · refine g_iconst (v := nI 1) dX1_isSoft_16 (by decide) ?_
      refine g_goto (tgt := 21) dX1_isSoft_17 (by decide) ?_
      refine g_iret rfl (by decide) dX1_isSoft_21 ?_
      exact gE_n (by omega) rfl

theorem ctX1_holdOf {e0 e1 e2 e4 e5 e7 e8 e9 e10 e11 e12 e13 e14 e16 e17 e19 e21 e22 e23 e25 e26 : va_E} {f : Nat → Nat} {wk tw sf lo ri la : Nat} {c : Nat} (h1 : c ≤ 9) : Ct mX1_holdOf 1 [.ref 3, .int (nI c)] (wC e0 e1 e2 (kG3 wk tw sf lo ri la) e4 e5 (kI 10 f) e7 e8 e9 e10 e11 e12 e13 e14 e16 e17 e19 e21 e22 e23 e25 e26) (gE (some (.int (nI (f c)))) (wC e0 e1 e2 (kG3 wk tw sf lo ri la) e4 e5 (kI 10 f) e7 e8 e9 e10 e11 e12 e13 e14 e16 e17 e19 e21 e22 e23 e25 e26)) := by
  refine Ct.of (by decide) (by exact Nat.le_of_ble_eq_true rfl) ?_
  show Go mX1_holdOf 1 0 [(0, .ref 3), (1, .int (nI c))] [] (wC e0 e1 e2 (kG3 wk tw sf lo ri la) e4 e5 (kI 10 f) e7 e8 e9 e10 e11 e12 e13 e14 e16 e17 e19 e21 e22 e23 e25 e26) (gE (some (.int (nI (f c)))) (wC e0 e1 e2 (kG3 wk tw sf lo ri la) e4 e5 (kI 10 f) e7 e8 e9 e10 e11 e12 e13 e14 e16 e17 e19 e21 e22 e23 e25 e26))
  have q1 := nI_toInt (n := c) (by omega)
  refine g_iload_n (i := 1) (j := 1) dX1_holdOf_0 rfl rfl ?_
  refine c_N (st1 := [.int (nI (bN (0 ≤ (nI c).toInt ∧ (nI c).toInt ≤ 9)))]) (ctX7_isCell (x := (nI c)) ) kX7_isCell lX1_41 (by decide) rfl (by exact Nat.le_of_ble_eq_true rfl) dX1_holdOf_1 rfl rfl ?_
  refine b_if_eq (tgt := 16) dX1_holdOf_4 (by decide) (fun h4 => ?_) (fun h4 => ?_)
  · exact absurd ⟨by omega, by omega⟩ h4
  · refine g_aload_n (i := 0) (j := 0) dX1_holdOf_7 rfl rfl ?_
    refine g_get fX1_19 rfl rfl dX1_holdOf_8 ?_
    refine g_iload_n (i := 1) (j := 1) dX1_holdOf_11 rfl rfl ?_
    refine n_iald (x := c) rfl (by omega) (rng_lit 10 rfl) dX1_holdOf_12 ?_
    refine g_goto (tgt := 17) dX1_holdOf_13 (by decide) ?_
    refine g_iret rfl rfl dX1_holdOf_17 ?_
    exact gE_i rfl rfl

theorem ctX1_isSoft_9 {e0 e1 e2 e3 e4 e5 e6 e7 e8 e10 e12 e13 e14 e16 e17 e19 e21 e22 e23 e25 e26 : va_E} {f : Nat → Nat} {wk tw sf lo ri la : Nat} {c : Nat} (hb : ∀ k, f k ≤ 1) (h1 : c ≤ 9) : Ct mX1_isSoft 1 [.ref 9, .int (nI c)] (wC e0 e1 e2 e3 e4 e5 e6 e7 e8 (kG9 wk tw sf lo ri la) e10 (kZ 10 f) e12 e13 e14 e16 e17 e19 e21 e22 e23 e25 e26) (gE (some (.int (nI (f c)))) (wC e0 e1 e2 e3 e4 e5 e6 e7 e8 (kG9 wk tw sf lo ri la) e10 (kZ 10 f) e12 e13 e14 e16 e17 e19 e21 e22 e23 e25 e26)) := by
  refine Ct.of (by decide) (by exact Nat.le_of_ble_eq_true rfl) ?_
  show Go mX1_isSoft 1 0 [(0, .ref 9), (1, .int (nI c))] [] (wC e0 e1 e2 e3 e4 e5 e6 e7 e8 (kG9 wk tw sf lo ri la) e10 (kZ 10 f) e12 e13 e14 e16 e17 e19 e21 e22 e23 e25 e26) (gE (some (.int (nI (f c)))) (wC e0 e1 e2 e3 e4 e5 e6 e7 e8 (kG9 wk tw sf lo ri la) e10 (kZ 10 f) e12 e13 e14 e16 e17 e19 e21 e22 e23 e25 e26))
  have q1 := nI_toInt (n := c) (by omega)
  have q2 := hb c
  refine g_iload_n (i := 1) (j := 1) dX1_isSoft_0 rfl rfl ?_
  refine c_N (st1 := [.int (nI (bN (0 ≤ (nI c).toInt ∧ (nI c).toInt ≤ 9)))]) (ctX7_isCell (x := (nI c)) ) kX7_isCell lX1_41 (by decide) rfl (by exact Nat.le_of_ble_eq_true rfl) dX1_isSoft_1 rfl rfl ?_
  refine b_if_eq (tgt := 20) dX1_isSoft_4 (by decide) (fun h4 => ?_) (fun h4 => ?_)
  · exact absurd ⟨by omega, by omega⟩ h4
  · refine g_aload_n (i := 0) (j := 0) dX1_isSoft_7 rfl rfl ?_
    refine g_get fX1_15 rfl rfl dX1_isSoft_8 ?_
    refine g_iload_n (i := 1) (j := 1) dX1_isSoft_11 rfl rfl ?_
    refine n_zald (x := c) rfl (by omega) (rng_lit 10 rfl) dX1_isSoft_12 ?_
    refine n_if_eq (tgt := 20) (by omega) dX1_isSoft_13 (by decide) (fun h13 => ?_) (fun h13 => ?_)
    · refine g_iconst (v := nI 0) dX1_isSoft_20 (by decide) ?_
      refine g_iret rfl (by decide) dX1_isSoft_21 ?_
      exact gE_n (by omega) rfl
    · refine g_iconst (v := nI 1) dX1_isSoft_16 (by decide) ?_
      refine g_goto (tgt := 21) dX1_isSoft_17 (by decide) ?_
      refine g_iret rfl (by decide) dX1_isSoft_21 ?_
      exact gE_n (by omega) rfl

theorem ctX1_holdOf_9 {e0 e1 e2 e3 e4 e5 e6 e7 e8 e10 e11 e13 e14 e16 e17 e19 e21 e22 e23 e25 e26 : va_E} {f : Nat → Nat} {wk tw sf lo ri la : Nat} {c : Nat} (h1 : c ≤ 9) : Ct mX1_holdOf 1 [.ref 9, .int (nI c)] (wC e0 e1 e2 e3 e4 e5 e6 e7 e8 (kG9 wk tw sf lo ri la) e10 e11 (kI 10 f) e13 e14 e16 e17 e19 e21 e22 e23 e25 e26) (gE (some (.int (nI (f c)))) (wC e0 e1 e2 e3 e4 e5 e6 e7 e8 (kG9 wk tw sf lo ri la) e10 e11 (kI 10 f) e13 e14 e16 e17 e19 e21 e22 e23 e25 e26)) := by
  refine Ct.of (by decide) (by exact Nat.le_of_ble_eq_true rfl) ?_
  show Go mX1_holdOf 1 0 [(0, .ref 9), (1, .int (nI c))] [] (wC e0 e1 e2 e3 e4 e5 e6 e7 e8 (kG9 wk tw sf lo ri la) e10 e11 (kI 10 f) e13 e14 e16 e17 e19 e21 e22 e23 e25 e26) (gE (some (.int (nI (f c)))) (wC e0 e1 e2 e3 e4 e5 e6 e7 e8 (kG9 wk tw sf lo ri la) e10 e11 (kI 10 f) e13 e14 e16 e17 e19 e21 e22 e23 e25 e26))
  have q1 := nI_toInt (n := c) (by omega)
  refine g_iload_n (i := 1) (j := 1) dX1_holdOf_0 rfl rfl ?_
  refine c_N (st1 := [.int (nI (bN (0 ≤ (nI c).toInt ∧ (nI c).toInt ≤ 9)))]) (ctX7_isCell (x := (nI c)) ) kX7_isCell lX1_41 (by decide) rfl (by exact Nat.le_of_ble_eq_true rfl) dX1_holdOf_1 rfl rfl ?_
  refine b_if_eq (tgt := 16) dX1_holdOf_4 (by decide) (fun h4 => ?_) (fun h4 => ?_)
  · exact absurd ⟨by omega, by omega⟩ h4
  · refine g_aload_n (i := 0) (j := 0) dX1_holdOf_7 rfl rfl ?_
    refine g_get fX1_19 rfl rfl dX1_holdOf_8 ?_
    refine g_iload_n (i := 1) (j := 1) dX1_holdOf_11 rfl rfl ?_
    refine n_iald (x := c) rfl (by omega) (rng_lit 10 rfl) dX1_holdOf_12 ?_
    refine g_goto (tgt := 17) dX1_holdOf_13 (by decide) ?_
    refine g_iret rfl rfl dX1_holdOf_17 ?_
    exact gE_i rfl rfl

theorem ctX1_heightOf {e0 e1 e2 e5 e6 e7 e8 e9 e10 e11 e12 e13 e14 e16 e17 e19 e21 e22 e23 e25 e26 : va_E} {f : Nat → Nat} {wk tw sf lo ri la : Nat} {c : Nat} (h1 : c ≤ 9) : Ct mX1_heightOf 1 [.ref 3, .int (nI c)] (wC e0 e1 e2 (kG3 wk tw sf lo ri la) (kI 10 f) e5 e6 e7 e8 e9 e10 e11 e12 e13 e14 e16 e17 e19 e21 e22 e23 e25 e26) (gE (some (.int (nI (f c)))) (wC e0 e1 e2 (kG3 wk tw sf lo ri la) (kI 10 f) e5 e6 e7 e8 e9 e10 e11 e12 e13 e14 e16 e17 e19 e21 e22 e23 e25 e26)) := by
  refine Ct.of (by decide) (by exact Nat.le_of_ble_eq_true rfl) ?_
  show Go mX1_heightOf 1 0 [(0, .ref 3), (1, .int (nI c))] [] (wC e0 e1 e2 (kG3 wk tw sf lo ri la) (kI 10 f) e5 e6 e7 e8 e9 e10 e11 e12 e13 e14 e16 e17 e19 e21 e22 e23 e25 e26) (gE (some (.int (nI (f c)))) (wC e0 e1 e2 (kG3 wk tw sf lo ri la) (kI 10 f) e5 e6 e7 e8 e9 e10 e11 e12 e13 e14 e16 e17 e19 e21 e22 e23 e25 e26))
  have q1 := nI_toInt (n := c) (by omega)
  refine g_iload_n (i := 1) (j := 1) dX1_heightOf_0 rfl rfl ?_
  refine c_N (st1 := [.int (nI (bN (0 ≤ (nI c).toInt ∧ (nI c).toInt ≤ 9)))]) (ctX7_isCell (x := (nI c)) ) kX7_isCell lX1_41 (by decide) rfl (by exact Nat.le_of_ble_eq_true rfl) dX1_heightOf_1 rfl rfl ?_
  refine b_if_eq (tgt := 16) dX1_heightOf_4 (by decide) (fun h4 => ?_) (fun h4 => ?_)
  · exact absurd ⟨by omega, by omega⟩ h4
  · refine g_aload_n (i := 0) (j := 0) dX1_heightOf_7 rfl rfl ?_
    refine g_get fX1_9 rfl rfl dX1_heightOf_8 ?_
    refine g_iload_n (i := 1) (j := 1) dX1_heightOf_11 rfl rfl ?_
    refine n_iald (x := c) rfl (by omega) (rng_lit 10 rfl) dX1_heightOf_12 ?_
    refine g_goto (tgt := 17) dX1_heightOf_13 (by decide) ?_
    refine g_iret rfl rfl dX1_heightOf_17 ?_
    exact gE_i rfl rfl

theorem ctX1_paceOf {e0 e1 e2 e4 e5 e6 e8 e9 e10 e11 e12 e13 e14 e16 e17 e19 e21 e22 e23 e25 e26 : va_E} {f : Nat → Nat} {wk tw sf lo ri la : Nat} {c : Nat} (h1 : c < 5) : Ct mX1_paceOf 0 [.ref 3, .int (nI c)] (wC e0 e1 e2 (kG3 wk tw sf lo ri la) e4 e5 e6 (kI 5 f) e8 e9 e10 e11 e12 e13 e14 e16 e17 e19 e21 e22 e23 e25 e26) (gE (some (.int (nI (f c)))) (wC e0 e1 e2 (kG3 wk tw sf lo ri la) e4 e5 e6 (kI 5 f) e8 e9 e10 e11 e12 e13 e14 e16 e17 e19 e21 e22 e23 e25 e26)) := by
  refine Ct.of (by decide) (by exact Nat.le_of_ble_eq_true rfl) ?_
  show Go mX1_paceOf 0 0 [(0, .ref 3), (1, .int (nI c))] [] (wC e0 e1 e2 (kG3 wk tw sf lo ri la) e4 e5 e6 (kI 5 f) e8 e9 e10 e11 e12 e13 e14 e16 e17 e19 e21 e22 e23 e25 e26) (gE (some (.int (nI (f c)))) (wC e0 e1 e2 (kG3 wk tw sf lo ri la) e4 e5 e6 (kI 5 f) e8 e9 e10 e11 e12 e13 e14 e16 e17 e19 e21 e22 e23 e25 e26))
  refine g_iload_n (i := 1) (j := 1) dX1_paceOf_0 rfl rfl ?_
  refine n_if_lt (tgt := 18) (by omega) dX1_paceOf_1 (by decide) ?_
  refine g_iload_n (i := 1) (j := 1) dX1_paceOf_4 rfl rfl ?_
  refine g_iconst (v := nI 5) dX1_paceOf_5 (by decide) ?_
  refine n_icmp_ge (tgt := 18) (by omega) (rng_lit 5 rfl) dX1_paceOf_6 (by decide) (fun h6 => ?_) (fun h6 => ?_)
  · exfalso; omega
  · refine g_aload_n (i := 0) (j := 0) dX1_paceOf_9 rfl rfl ?_
    refine g_get fX1_22 rfl rfl dX1_paceOf_10 ?_
    refine g_iload_n (i := 1) (j := 1) dX1_paceOf_13 rfl rfl ?_
    refine n_iald (x := c) rfl (by omega) (rng_lit 5 rfl) dX1_paceOf_14 ?_
    refine g_goto (tgt := 19) dX1_paceOf_15 (by decide) ?_
    refine g_iret rfl rfl dX1_paceOf_19 ?_
    exact gE_i rfl rfl

theorem ctX1_wadeOf {e0 e1 e2 e4 e5 e6 e7 e9 e10 e11 e12 e13 e14 e16 e17 e19 e21 e22 e23 e25 e26 : va_E} {f : Nat → Nat} {wk tw sf lo ri la : Nat} {c : Nat} (h1 : c < 5) : Ct mX1_wadeOf 0 [.ref 3, .int (nI c)] (wC e0 e1 e2 (kG3 wk tw sf lo ri la) e4 e5 e6 e7 (kI 5 f) e9 e10 e11 e12 e13 e14 e16 e17 e19 e21 e22 e23 e25 e26) (gE (some (.int (nI (f c)))) (wC e0 e1 e2 (kG3 wk tw sf lo ri la) e4 e5 e6 e7 (kI 5 f) e9 e10 e11 e12 e13 e14 e16 e17 e19 e21 e22 e23 e25 e26)) := by
  refine Ct.of (by decide) (by exact Nat.le_of_ble_eq_true rfl) ?_
  show Go mX1_wadeOf 0 0 [(0, .ref 3), (1, .int (nI c))] [] (wC e0 e1 e2 (kG3 wk tw sf lo ri la) e4 e5 e6 e7 (kI 5 f) e9 e10 e11 e12 e13 e14 e16 e17 e19 e21 e22 e23 e25 e26) (gE (some (.int (nI (f c)))) (wC e0 e1 e2 (kG3 wk tw sf lo ri la) e4 e5 e6 e7 (kI 5 f) e9 e10 e11 e12 e13 e14 e16 e17 e19 e21 e22 e23 e25 e26))
  refine g_iload_n (i := 1) (j := 1) dX1_wadeOf_0 rfl rfl ?_
  refine n_if_lt (tgt := 18) (by omega) dX1_wadeOf_1 (by decide) ?_
  refine g_iload_n (i := 1) (j := 1) dX1_wadeOf_4 rfl rfl ?_
  refine g_iconst (v := nI 5) dX1_wadeOf_5 (by decide) ?_
  refine n_icmp_ge (tgt := 18) (by omega) (rng_lit 5 rfl) dX1_wadeOf_6 (by decide) (fun h6 => ?_) (fun h6 => ?_)
  · exfalso; omega
  · refine g_aload_n (i := 0) (j := 0) dX1_wadeOf_9 rfl rfl ?_
    refine g_get fX1_25 rfl rfl dX1_wadeOf_10 ?_
    refine g_iload_n (i := 1) (j := 1) dX1_wadeOf_13 rfl rfl ?_
    refine n_iald (x := c) rfl (by omega) (rng_lit 5 rfl) dX1_wadeOf_14 ?_
    refine g_goto (tgt := 19) dX1_wadeOf_15 (by decide) ?_
    refine g_iret rfl rfl dX1_wadeOf_19 ?_
    exact gE_i rfl rfl

theorem ctX5_begin {e0 e1 e2 e4 e5 e6 e9 e10 e11 e12 e13 e14 e16 e17 e19 e21 e22 e25 e26 : va_E} {pa wa : Nat → Nat} {wk tw sf lo ri la : Nat} {p0 w0 l0 c0 s0 f0 : Nat} {k c s : Nat} (h1 : k < 5) : Ct mX5_begin 1 [.ref 23, .ref 3, .int (nI k), .int (nI c), .int (nI s)] (wC e0 e1 e2 (kG3 wk tw sf lo ri la) e4 e5 e6 (kI 5 pa) (kI 5 wa) e9 e10 e11 e12 e13 e14 e16 e17 e19 e21 e22 (kP p0 w0 l0 c0 s0 f0) e25 e26) (gE none (wC e0 e1 e2 (kG3 wk tw sf lo ri la) e4 e5 e6 (kI 5 pa) (kI 5 wa) e9 e10 e11 e12 e13 e14 e16 e17 e19 e21 e22 (kP (pa k) (wa k) lo c s 0) e25 e26)) := by
  refine Ct.of (by decide) (by exact Nat.le_of_ble_eq_true rfl) ?_
  show Go mX5_begin 1 0 [(0, .ref 23), (1, .ref 3), (2, .int (nI k)), (3, .int (nI c)), (4, .int (nI s))] [] (wC e0 e1 e2 (kG3 wk tw sf lo ri la) e4 e5 e6 (kI 5 pa) (kI 5 wa) e9 e10 e11 e12 e13 e14 e16 e17 e19 e21 e22 (kP p0 w0 l0 c0 s0 f0) e25 e26) (gE none (wC e0 e1 e2 (kG3 wk tw sf lo ri la) e4 e5 e6 (kI 5 pa) (kI 5 wa) e9 e10 e11 e12 e13 e14 e16 e17 e19 e21 e22 (kP (pa k) (wa k) lo c s 0) e25 e26))
  refine g_aload_n (i := 0) (j := 0) dX5_begin_0 rfl rfl ?_
  refine g_aload_n (i := 1) (j := 1) dX5_begin_1 rfl rfl ?_
  refine g_iload_n (i := 2) (j := 2) dX5_begin_2 rfl rfl ?_
  refine c_V (st1 := [.int (nI (pa k)), .ref 23]) (ctX1_paceOf (c := k) (by omega)) kX1_paceOf lX5_9 (by decide) rfl rfl rfl rfl (by exact Nat.le_of_ble_eq_true rfl) dX5_begin_3 rfl rfl ?_
  refine n_putI (ws' := wC e0 e1 e2 (kG3 wk tw sf lo ri la) e4 e5 e6 (kI 5 pa) (kI 5 wa) e9 e10 e11 e12 e13 e14 e16 e17 e19 e21 e22 (kP (pa k) w0 l0 c0 s0 f0) e25 e26) fX5_15 fp_X5_0 rfl (by exact Nat.le_of_ble_eq_true rfl) dX5_begin_6 rfl ?_
  refine g_aload_n (i := 0) (j := 0) dX5_begin_9 rfl rfl ?_
  refine g_aload_n (i := 1) (j := 1) dX5_begin_10 rfl rfl ?_
  refine g_iload_n (i := 2) (j := 2) dX5_begin_11 rfl rfl ?_
  refine c_V (st1 := [.int (nI (wa k)), .ref 23]) (ctX1_wadeOf (c := k) (by omega)) kX1_wadeOf lX5_21 (by decide) rfl rfl rfl rfl (by exact Nat.le_of_ble_eq_true rfl) dX5_begin_12 rfl rfl ?_
  refine n_putI (ws' := wC e0 e1 e2 (kG3 wk tw sf lo ri la) e4 e5 e6 (kI 5 pa) (kI 5 wa) e9 e10 e11 e12 e13 e14 e16 e17 e19 e21 e22 (kP (pa k) (wa k) l0 c0 s0 f0) e25 e26) fX5_24 fp_X5_1 rfl (by exact Nat.le_of_ble_eq_true rfl) dX5_begin_15 rfl ?_
  refine g_aload_n (i := 0) (j := 0) dX5_begin_18 rfl rfl ?_
  refine g_aload_n (i := 1) (j := 1) dX5_begin_19 rfl rfl ?_
  refine g_get fX5_27 rfl rfl dX5_begin_20 ?_
  refine n_putI (ws' := wC e0 e1 e2 (kG3 wk tw sf lo ri la) e4 e5 e6 (kI 5 pa) (kI 5 wa) e9 e10 e11 e12 e13 e14 e16 e17 e19 e21 e22 (kP (pa k) (wa k) lo c0 s0 f0) e25 e26) fX5_30 fp_X5_2 rfl (by exact Nat.le_of_ble_eq_true rfl) dX5_begin_23 rfl ?_
  refine g_aload_n (i := 0) (j := 0) dX5_begin_26 rfl rfl ?_
  refine g_iload_n (i := 3) (j := 3) dX5_begin_27 rfl rfl ?_
  refine n_putI (ws' := wC e0 e1 e2 (kG3 wk tw sf lo ri la) e4 e5 e6 (kI 5 pa) (kI 5 wa) e9 e10 e11 e12 e13 e14 e16 e17 e19 e21 e22 (kP (pa k) (wa k) lo c s0 f0) e25 e26) fX5_31 fp_X5_3 rfl (by exact Nat.le_of_ble_eq_true rfl) dX5_begin_28 rfl ?_
  refine g_aload_n (i := 0) (j := 0) dX5_begin_31 rfl rfl ?_
  refine g_iload (j := 4) dX5_begin_32 rfl ?_
  refine n_putI (ws' := wC e0 e1 e2 (kG3 wk tw sf lo ri la) e4 e5 e6 (kI 5 pa) (kI 5 wa) e9 e10 e11 e12 e13 e14 e16 e17 e19 e21 e22 (kP (pa k) (wa k) lo c s f0) e25 e26) fX5_34 fp_X5_4 rfl (by exact Nat.le_of_ble_eq_true rfl) dX5_begin_34 rfl ?_
  refine g_aload_n (i := 0) (j := 0) dX5_begin_37 rfl rfl ?_
  refine g_iconst (v := nI 0) dX5_begin_38 (by decide) ?_
  refine n_putI (ws' := wC e0 e1 e2 (kG3 wk tw sf lo ri la) e4 e5 e6 (kI 5 pa) (kI 5 wa) e9 e10 e11 e12 e13 e14 e16 e17 e19 e21 e22 (kP (pa k) (wa k) lo c s 0) e25 e26) fX5_37 fp_X5_5 rfl (by exact Nat.le_of_ble_eq_true rfl) dX5_begin_39 rfl ?_
  refine g_vret rfl dX5_begin_42 ?_
  exact gE_i rfl rfl

theorem ctX5_isLost {e0 e1 e2 e3 e4 e5 e6 e7 e8 e9 e10 e11 e12 e13 e14 e16 e17 e19 e21 e22 e25 e26 : va_E} {p0 w0 l0 c0 s0 f0 : Nat} (h1 : f0 ≤ 4) : Ct mX5_isLost 0 [.ref 23] (wC e0 e1 e2 e3 e4 e5 e6 e7 e8 e9 e10 e11 e12 e13 e14 e16 e17 e19 e21 e22 (kP p0 w0 l0 c0 s0 f0) e25 e26) (gE (some (.int (nI (bN (f0 = 2 ∨ f0 = 3))))) (wC e0 e1 e2 e3 e4 e5 e6 e7 e8 e9 e10 e11 e12 e13 e14 e16 e17 e19 e21 e22 (kP p0 w0 l0 c0 s0 f0) e25 e26)) := by
  refine Ct.of (by decide) (by exact Nat.le_of_ble_eq_true rfl) ?_
  show Go mX5_isLost 0 0 [(0, .ref 23)] [] (wC e0 e1 e2 e3 e4 e5 e6 e7 e8 e9 e10 e11 e12 e13 e14 e16 e17 e19 e21 e22 (kP p0 w0 l0 c0 s0 f0) e25 e26) (gE (some (.int (nI (bN (f0 = 2 ∨ f0 = 3))))) (wC e0 e1 e2 e3 e4 e5 e6 e7 e8 e9 e10 e11 e12 e13 e14 e16 e17 e19 e21 e22 (kP p0 w0 l0 c0 s0 f0) e25 e26))
  refine g_aload_n (i := 0) (j := 0) dX5_isLost_0 rfl rfl ?_
  refine g_get fX5_37 rfl rfl dX5_isLost_1 ?_
  refine g_iconst (v := nI 2) dX5_isLost_4 (by decide) ?_
  refine n_icmp_eq (tgt := 16) (by omega) (rng_lit 2 rfl) dX5_isLost_5 (by decide) (fun h5 => ?_) (fun h5 => ?_)
  · refine g_iconst (v := nI 1) dX5_isLost_16 (by decide) ?_
    refine g_goto (tgt := 21) dX5_isLost_17 (by decide) ?_
    refine g_iret rfl (by decide) dX5_isLost_21 ?_
    exact gE_n (bN_t (by omega)).symm rfl
  · refine g_aload_n (i := 0) (j := 0) dX5_isLost_8 rfl rfl ?_
    refine g_get fX5_37 rfl rfl dX5_isLost_9 ?_
    refine g_iconst (v := nI 3) dX5_isLost_12 (by decide) ?_
    refine n_icmp_ne (tgt := 20) (by omega) (rng_lit 3 rfl) dX5_isLost_13 (by decide) (fun h13 => ?_) (fun h13 => ?_)
    · refine g_iconst (v := nI 0) dX5_isLost_20 (by decide) ?_
      refine g_iret rfl (by decide) dX5_isLost_21 ?_
      exact gE_n (bN_f (by omega)).symm rfl
    · refine g_iconst (v := nI 1) dX5_isLost_16 (by decide) ?_
      refine g_goto (tgt := 21) dX5_isLost_17 (by decide) ?_
      refine g_iret rfl (by decide) dX5_isLost_21 ?_
      exact gE_n (bN_t (by omega)).symm rfl

theorem lp_goAlong_on {e0 e1 e2 e6 e7 e8 e9 e10 e11 e12 e13 e14 e16 e17 e19 e21 e22 e25 e26 : va_E} {h so : Nat → Nat} {wk tw sf lo ri la : Nat} {p0 w0 l0 s0 f0 : Nat} {w : Nat} (hH : ∀ k, h k ≤ 9) (hp : p0 ≤ 3) (hw0 : w0 ≤ 5) (hw : w ≤ 9) {cs : Nat} (hcs : cs ≤ 3) : ∀ (n k c : Nat), k + n = cs → c ≤ 9 → Go mX5_goAlong 1 32 [(0, .ref 23), (1, .ref 3), (2, .int (nI w)), (3, .int (nI 1)), (4, .int (nI cs)), (5, .int (nI k))] [] (wC e0 e1 e2 (kG3 wk tw sf lo ri la) (kI 10 h) (kZ 10 so) e6 e7 e8 e9 e10 e11 e12 e13 e14 e16 e17 e19 e21 e22 (kP p0 w0 l0 c s0 f0) e25 e26) (gE none (wC e0 e1 e2 (kG3 wk tw sf lo ri la) (kI 10 h) (kZ 10 so) e6 e7 e8 e9 e10 e11 e12 e13 e14 e16 e17 e19 e21 e22 (kP p0 w0 l0 (sOn h w0 w n c) s0 f0) e25 e26)) := by
  intro n
  induction n with
  | zero =>
    intro k c hk hc
    refine g_iload (j := 5) dX5_goAlong_32 rfl ?_
    refine g_iload (j := 4) dX5_goAlong_34 rfl ?_
    refine n_icmp_ge (tgt := 86) (by omega) (by omega) dX5_goAlong_36 (by decide) (fun h36 => ?_) (fun h36 => ?_)
    · refine g_vret rfl dX5_goAlong_86 ?_
      exact gE_i rfl rfl
    · exfalso; omega

  | succ n ih =>
    intro k c hk hc
    refine g_iload (j := 5) dX5_goAlong_32 rfl ?_
    refine g_iload (j := 4) dX5_goAlong_34 rfl ?_
    refine n_icmp_ge (tgt := 86) (by omega) (by omega) dX5_goAlong_36 (by decide) (fun h36 => ?_) (fun h36 => ?_)
    · exfalso; omega
    · refine g_aload_n (i := 0) (j := 0) dX5_goAlong_39 rfl rfl ?_
      refine g_get fX5_31 rfl rfl dX5_goAlong_40 ?_
      refine g_iload_n (i := 3) (j := 3) dX5_goAlong_43 rfl rfl ?_
      refine n_iadd (a := c) (b := 1) dX5_goAlong_44 ?_
      refine g_istore (lv' := [(6, .int (nI (c + 1))), (0, .ref 23), (1, .ref 3), (2, .int (nI w)), (3, .int (nI 1)), (4, .int (nI cs)), (5, .int (nI k))]) dX5_goAlong_45 (by decide) rfl ?_
      refine g_iload (j := 0) dX5_goAlong_47 rfl ?_
      refine n_if_lt (tgt := 73) (by omega) dX5_goAlong_49 (by decide) ?_
      refine g_iload (j := 0) dX5_goAlong_52 rfl ?_
      refine g_bipush (v := nI 9) dX5_goAlong_54 (by decide) ?_
      refine n_icmp_gt (tgt := 73) (by omega) (rng_lit 9 rfl) dX5_goAlong_56 (by decide) (fun h56 => ?_) (fun h56 => ?_)
      · refine g_vret rfl dX5_goAlong_73 ?_
        refine gE_i rfl ?_
        rw [show sOn h w0 w (n + 1) c = c by rw [sOn, if_pos (by omega)]]
      · refine g_aload_n (i := 1) (j := 2) dX5_goAlong_59 rfl rfl ?_
        refine g_iload (j := 0) dX5_goAlong_60 rfl ?_
        refine g_iload_n (i := 2) (j := 3) dX5_goAlong_62 rfl rfl ?_
        refine c_V (st1 := [.int (nI (sDepth h (c + 1) w))]) (ctX1_depth (c := c + 1) (w := w) hH (by omega) (by omega)) kX1_depth lX5_48 (by decide) rfl rfl rfl rfl (by exact Nat.le_of_ble_eq_true rfl) dX5_goAlong_63 rfl rfl ?_
        refine g_aload_n (i := 0) (j := 1) dX5_goAlong_66 rfl rfl ?_
        refine g_get fX5_24 rfl rfl dX5_goAlong_67 ?_
        refine n_icmp_le (tgt := 74) (by have := sDepth_le h (c + 1) w; omega) (by omega) dX5_goAlong_70 (by decide) (fun h70 => ?_) (fun h70 => ?_)
        · refine g_aload_n (i := 0) (j := 1) dX5_goAlong_74 rfl rfl ?_
          refine g_iload (j := 0) dX5_goAlong_75 rfl ?_
          refine n_putI (ws' := wC e0 e1 e2 (kG3 wk tw sf lo ri la) (kI 10 h) (kZ 10 so) e6 e7 e8 e9 e10 e11 e12 e13 e14 e16 e17 e19 e21 e22 (kP p0 w0 l0 (c + 1) s0 f0) e25 e26) fX5_31 fp_X5_3 rfl (by exact Nat.le_of_ble_eq_true rfl) dX5_goAlong_77 rfl ?_
          refine n_inc (x := k) (j := 6) (lv' := [(5, .int (nI (k + 1))), (6, .int (nI (c + 1))), (0, .ref 23), (1, .ref 3), (2, .int (nI w)), (3, .int (nI 1)), (4, .int (nI cs))]) dX5_goAlong_80 rfl (by decide) rfl ?_
          refine g_goto (tgt := 32) dX5_goAlong_83 (by decide) ?_
          refine g_lv [2, 3, 4, 5, 6, 0] rfl ?_
          refine g_post ?_ (ih (k + 1) (c + 1) (by omega) (by omega))
          intro v u hvu
          obtain ⟨rfl, rfl⟩ := hvu
          refine gE_i rfl ?_
          rw [show sOn h w0 w (n + 1) c = sOn h w0 w n (c + 1) by rw [sOn, if_neg (by omega)]]
        · refine g_vret rfl dX5_goAlong_73 ?_
          refine gE_i rfl ?_
          rw [show sOn h w0 w (n + 1) c = c by rw [sOn, if_pos (by omega)]]

theorem ctX5_goAlong_on {e0 e1 e2 e6 e7 e8 e9 e10 e11 e12 e13 e14 e16 e17 e19 e21 e22 e25 e26 : va_E} {h so : Nat → Nat} {wk tw sf lo ri la : Nat} {p0 w0 l0 c0 s0 f0 : Nat} {w : Nat} (hH : ∀ k, h k ≤ 9) (hp : p0 ≤ 3) (hw0 : w0 ≤ 5) (hw : w ≤ 9) (hc : c0 ≤ 9) : Ct mX5_goAlong 1 [.ref 23, .ref 3, .int (nI w), .int (nI 1)] (wC e0 e1 e2 (kG3 wk tw sf lo ri la) (kI 10 h) (kZ 10 so) e6 e7 e8 e9 e10 e11 e12 e13 e14 e16 e17 e19 e21 e22 (kP p0 w0 l0 c0 s0 f0) e25 e26) (gE none (wC e0 e1 e2 (kG3 wk tw sf lo ri la) (kI 10 h) (kZ 10 so) e6 e7 e8 e9 e10 e11 e12 e13 e14 e16 e17 e19 e21 e22 (kP p0 w0 l0 (sOn h w0 w (sPace h p0 c0 w) c0) s0 f0) e25 e26)) := by
  refine Ct.of (by decide) (by exact Nat.le_of_ble_eq_true rfl) ?_
  show Go mX5_goAlong 1 0 [(0, .ref 23), (1, .ref 3), (2, .int (nI w)), (3, .int (nI 1))] [] (wC e0 e1 e2 (kG3 wk tw sf lo ri la) (kI 10 h) (kZ 10 so) e6 e7 e8 e9 e10 e11 e12 e13 e14 e16 e17 e19 e21 e22 (kP p0 w0 l0 c0 s0 f0) e25 e26) (gE none (wC e0 e1 e2 (kG3 wk tw sf lo ri la) (kI 10 h) (kZ 10 so) e6 e7 e8 e9 e10 e11 e12 e13 e14 e16 e17 e19 e21 e22 (kP p0 w0 l0 (sOn h w0 w (sPace h p0 c0 w) c0) s0 f0) e25 e26))
  refine g_aload_n (i := 1) (j := 1) dX5_goAlong_0 rfl rfl ?_
  refine g_aload_n (i := 0) (j := 0) dX5_goAlong_1 rfl rfl ?_
  refine g_get fX5_31 rfl rfl dX5_goAlong_2 ?_
  refine g_iload_n (i := 2) (j := 2) dX5_goAlong_5 rfl rfl ?_
  refine c_V (st1 := [.int (nI (sDepth h c0 w))]) (ctX1_depth (c := c0) (w := w) hH (by omega) (by omega)) kX1_depth lX5_48 (by decide) rfl rfl rfl rfl (by exact Nat.le_of_ble_eq_true rfl) dX5_goAlong_6 rfl rfl ?_
  refine n_if_le (tgt := 23) (by have := sDepth_le h c0 w; omega) dX5_goAlong_9 (by decide) (fun h9 => ?_) (fun h9 => ?_)
  · refine g_aload_n (i := 0) (j := 0) dX5_goAlong_23 rfl rfl ?_
    refine g_get fX5_15 rfl rfl dX5_goAlong_24 ?_
    refine g_istore (lv' := [(4, .int (nI p0)), (0, .ref 23), (1, .ref 3), (2, .int (nI w)), (3, .int (nI 1))]) dX5_goAlong_27 (by decide) rfl ?_
    refine g_iconst (v := nI 0) dX5_goAlong_29 (by decide) ?_
    refine g_istore (lv' := [(5, .int (nI 0)), (4, .int (nI p0)), (0, .ref 23), (1, .ref 3), (2, .int (nI w)), (3, .int (nI 1))]) dX5_goAlong_30 (by decide) rfl ?_
    refine g_lv [2, 3, 4, 5, 1, 0] rfl ?_
    refine g_post ?_ (lp_goAlong_on (cs := p0) hH hp hw0 hw (by omega) (p0) 0 c0 (by omega) hc)
    intro v u hvu
    obtain ⟨rfl, rfl⟩ := hvu
    refine gE_i rfl ?_
    rw [show sPace h p0 c0 w = p0 by unfold sPace; split <;> omega]
  · refine g_aload_n (i := 0) (j := 0) dX5_goAlong_12 rfl rfl ?_
    refine g_get fX5_15 rfl rfl dX5_goAlong_13 ?_
    refine g_iconst (v := nI 1) dX5_goAlong_16 (by decide) ?_
    refine n_iadd (a := p0) (b := 1) dX5_goAlong_17 ?_
    refine g_iconst (v := nI 2) dX5_goAlong_18 (by decide) ?_
    refine n_idiv (a := (p0 + 1)) (b := 2) (by omega) (by omega) (rng_lit 2 rfl) dX5_goAlong_19 ?_
    refine g_goto (tgt := 27) dX5_goAlong_20 (by decide) ?_
    refine g_istore (lv' := [(4, .int (nI ((p0 + 1) / 2))), (0, .ref 23), (1, .ref 3), (2, .int (nI w)), (3, .int (nI 1))]) dX5_goAlong_27 (by decide) rfl ?_
    refine g_iconst (v := nI 0) dX5_goAlong_29 (by decide) ?_
    refine g_istore (lv' := [(5, .int (nI 0)), (4, .int (nI ((p0 + 1) / 2))), (0, .ref 23), (1, .ref 3), (2, .int (nI w)), (3, .int (nI 1))]) dX5_goAlong_30 (by decide) rfl ?_
    refine g_lv [2, 3, 4, 5, 1, 0] rfl ?_
    refine g_post ?_ (lp_goAlong_on (cs := ((p0 + 1) / 2)) hH hp hw0 hw (by omega) ((p0 + 1) / 2) 0 c0 (by omega) hc)
    intro v u hvu
    obtain ⟨rfl, rfl⟩ := hvu
    refine gE_i rfl ?_
    rw [show sPace h p0 c0 w = (p0 + 1) / 2 by unfold sPace; split <;> omega]

theorem lp_goAlong_bk {e0 e1 e2 e6 e7 e8 e9 e10 e11 e12 e13 e14 e16 e17 e19 e21 e22 e25 e26 : va_E} {h so : Nat → Nat} {wk tw sf lo ri la : Nat} {p0 w0 l0 s0 f0 : Nat} {w : Nat} (hH : ∀ k, h k ≤ 9) (hp : p0 ≤ 3) (hw0 : w0 ≤ 5) (hw : w ≤ 9) {cs : Nat} (hcs : cs ≤ 3) : ∀ (n k c : Nat), k + n = cs → c ≤ 9 → Go mX5_goAlong 1 32 [(0, .ref 23), (1, .ref 3), (2, .int (nI w)), (3, .int (-1)), (4, .int (nI cs)), (5, .int (nI k))] [] (wC e0 e1 e2 (kG3 wk tw sf lo ri la) (kI 10 h) (kZ 10 so) e6 e7 e8 e9 e10 e11 e12 e13 e14 e16 e17 e19 e21 e22 (kP p0 w0 l0 c s0 f0) e25 e26) (gE none (wC e0 e1 e2 (kG3 wk tw sf lo ri la) (kI 10 h) (kZ 10 so) e6 e7 e8 e9 e10 e11 e12 e13 e14 e16 e17 e19 e21 e22 (kP p0 w0 l0 (sBk h w0 w n c) s0 f0) e25 e26)) := by
  intro n
  induction n with
  | zero =>
    intro k c hk hc
    refine g_iload (j := 5) dX5_goAlong_32 rfl ?_
    refine g_iload (j := 4) dX5_goAlong_34 rfl ?_
    refine n_icmp_ge (tgt := 86) (by omega) (by omega) dX5_goAlong_36 (by decide) (fun h36 => ?_) (fun h36 => ?_)
    · refine g_vret rfl dX5_goAlong_86 ?_
      exact gE_i rfl rfl
    · exfalso; omega

  | succ n ih =>
    intro k c hk hc
    refine g_iload (j := 5) dX5_goAlong_32 rfl ?_
    refine g_iload (j := 4) dX5_goAlong_34 rfl ?_
    refine n_icmp_ge (tgt := 86) (by omega) (by omega) dX5_goAlong_36 (by decide) (fun h36 => ?_) (fun h36 => ?_)
    · exfalso; omega
    · refine g_aload_n (i := 0) (j := 0) dX5_goAlong_39 rfl rfl ?_
      refine g_get fX5_31 rfl rfl dX5_goAlong_40 ?_
      refine g_iload_n (i := 3) (j := 3) dX5_goAlong_43 rfl rfl ?_
      refine g_iadd dX5_goAlong_44 ?_
      rcases Nat.eq_zero_or_pos c with hc0 | hc0
      · refine g_topi (y := (-1)) (by rw [hc0]; decide) ?_
        refine g_istore (lv' := [(6, .int (-1)), (0, .ref 23), (1, .ref 3), (2, .int (nI w)), (3, .int (-1)), (4, .int (nI cs)), (5, .int (nI k))]) dX5_goAlong_45 (by decide) rfl ?_
        refine g_iload (j := 0) dX5_goAlong_47 rfl ?_
        refine g_if_lt (tgt := 73) dX5_goAlong_49 (by decide) (fun h49 => ?_) (fun h49 => ?_)
        · refine g_vret rfl dX5_goAlong_73 ?_
          refine gE_i rfl ?_
          rw [show sBk h w0 w (n + 1) c = c by rw [sBk, if_pos (by omega)]]
        · exact absurd (by decide) h49
      · refine g_topi (y := nI (c - 1)) (sb_m1 hc0) ?_
        refine g_istore (lv' := [(6, .int (nI (c - 1))), (0, .ref 23), (1, .ref 3), (2, .int (nI w)), (3, .int (-1)), (4, .int (nI cs)), (5, .int (nI k))]) dX5_goAlong_45 (by decide) rfl ?_
        refine g_iload (j := 0) dX5_goAlong_47 rfl ?_
        refine n_if_lt (tgt := 73) (by omega) dX5_goAlong_49 (by decide) ?_
        refine g_iload (j := 0) dX5_goAlong_52 rfl ?_
        refine g_bipush (v := nI 9) dX5_goAlong_54 (by decide) ?_
        refine n_icmp_gt (tgt := 73) (by omega) (rng_lit 9 rfl) dX5_goAlong_56 (by decide) (fun h56 => ?_) (fun h56 => ?_)
        · exfalso; omega
        · refine g_aload_n (i := 1) (j := 2) dX5_goAlong_59 rfl rfl ?_
          refine g_iload (j := 0) dX5_goAlong_60 rfl ?_
          refine g_iload_n (i := 2) (j := 3) dX5_goAlong_62 rfl rfl ?_
          refine c_V (st1 := [.int (nI (sDepth h (c - 1) w))]) (ctX1_depth (c := c - 1) (w := w) hH (by omega) (by omega)) kX1_depth lX5_48 (by decide) rfl rfl rfl rfl (by exact Nat.le_of_ble_eq_true rfl) dX5_goAlong_63 rfl rfl ?_
          refine g_aload_n (i := 0) (j := 1) dX5_goAlong_66 rfl rfl ?_
          refine g_get fX5_24 rfl rfl dX5_goAlong_67 ?_
          refine n_icmp_le (tgt := 74) (by have := sDepth_le h (c - 1) w; omega) (by omega) dX5_goAlong_70 (by decide) (fun h70 => ?_) (fun h70 => ?_)
          · refine g_aload_n (i := 0) (j := 1) dX5_goAlong_74 rfl rfl ?_
            refine g_iload (j := 0) dX5_goAlong_75 rfl ?_
            refine n_putI (ws' := wC e0 e1 e2 (kG3 wk tw sf lo ri la) (kI 10 h) (kZ 10 so) e6 e7 e8 e9 e10 e11 e12 e13 e14 e16 e17 e19 e21 e22 (kP p0 w0 l0 (c - 1) s0 f0) e25 e26) fX5_31 fp_X5_3 rfl (by exact Nat.le_of_ble_eq_true rfl) dX5_goAlong_77 rfl ?_
            refine n_inc (x := k) (j := 6) (lv' := [(5, .int (nI (k + 1))), (6, .int (nI (c - 1))), (0, .ref 23), (1, .ref 3), (2, .int (nI w)), (3, .int (-1)), (4, .int (nI cs))]) dX5_goAlong_80 rfl (by decide) rfl ?_
            refine g_goto (tgt := 32) dX5_goAlong_83 (by decide) ?_
            refine g_lv [2, 3, 4, 5, 6, 0] rfl ?_
            refine g_post ?_ (ih (k + 1) (c - 1) (by omega) (by omega))
            intro v u hvu
            obtain ⟨rfl, rfl⟩ := hvu
            refine gE_i rfl ?_
            rw [show sBk h w0 w (n + 1) c = sBk h w0 w n (c - 1) by rw [sBk, if_neg (by omega)]]
          · refine g_vret rfl dX5_goAlong_73 ?_
            refine gE_i rfl ?_
            rw [show sBk h w0 w (n + 1) c = c by rw [sBk, if_pos (by omega)]]

theorem ctX5_goAlong_bk {e0 e1 e2 e6 e7 e8 e9 e10 e11 e12 e13 e14 e16 e17 e19 e21 e22 e25 e26 : va_E} {h so : Nat → Nat} {wk tw sf lo ri la : Nat} {p0 w0 l0 c0 s0 f0 : Nat} {w : Nat} (hH : ∀ k, h k ≤ 9) (hp : p0 ≤ 3) (hw0 : w0 ≤ 5) (hw : w ≤ 9) (hc : c0 ≤ 9) : Ct mX5_goAlong 1 [.ref 23, .ref 3, .int (nI w), .int (-1)] (wC e0 e1 e2 (kG3 wk tw sf lo ri la) (kI 10 h) (kZ 10 so) e6 e7 e8 e9 e10 e11 e12 e13 e14 e16 e17 e19 e21 e22 (kP p0 w0 l0 c0 s0 f0) e25 e26) (gE none (wC e0 e1 e2 (kG3 wk tw sf lo ri la) (kI 10 h) (kZ 10 so) e6 e7 e8 e9 e10 e11 e12 e13 e14 e16 e17 e19 e21 e22 (kP p0 w0 l0 (sBk h w0 w (sPace h p0 c0 w) c0) s0 f0) e25 e26)) := by
  refine Ct.of (by decide) (by exact Nat.le_of_ble_eq_true rfl) ?_
  show Go mX5_goAlong 1 0 [(0, .ref 23), (1, .ref 3), (2, .int (nI w)), (3, .int (-1))] [] (wC e0 e1 e2 (kG3 wk tw sf lo ri la) (kI 10 h) (kZ 10 so) e6 e7 e8 e9 e10 e11 e12 e13 e14 e16 e17 e19 e21 e22 (kP p0 w0 l0 c0 s0 f0) e25 e26) (gE none (wC e0 e1 e2 (kG3 wk tw sf lo ri la) (kI 10 h) (kZ 10 so) e6 e7 e8 e9 e10 e11 e12 e13 e14 e16 e17 e19 e21 e22 (kP p0 w0 l0 (sBk h w0 w (sPace h p0 c0 w) c0) s0 f0) e25 e26))
  refine g_aload_n (i := 1) (j := 1) dX5_goAlong_0 rfl rfl ?_
  refine g_aload_n (i := 0) (j := 0) dX5_goAlong_1 rfl rfl ?_
  refine g_get fX5_31 rfl rfl dX5_goAlong_2 ?_
  refine g_iload_n (i := 2) (j := 2) dX5_goAlong_5 rfl rfl ?_
  refine c_V (st1 := [.int (nI (sDepth h c0 w))]) (ctX1_depth (c := c0) (w := w) hH (by omega) (by omega)) kX1_depth lX5_48 (by decide) rfl rfl rfl rfl (by exact Nat.le_of_ble_eq_true rfl) dX5_goAlong_6 rfl rfl ?_
  refine n_if_le (tgt := 23) (by have := sDepth_le h c0 w; omega) dX5_goAlong_9 (by decide) (fun h9 => ?_) (fun h9 => ?_)
  · refine g_aload_n (i := 0) (j := 0) dX5_goAlong_23 rfl rfl ?_
    refine g_get fX5_15 rfl rfl dX5_goAlong_24 ?_
    refine g_istore (lv' := [(4, .int (nI p0)), (0, .ref 23), (1, .ref 3), (2, .int (nI w)), (3, .int (-1))]) dX5_goAlong_27 (by decide) rfl ?_
    refine g_iconst (v := nI 0) dX5_goAlong_29 (by decide) ?_
    refine g_istore (lv' := [(5, .int (nI 0)), (4, .int (nI p0)), (0, .ref 23), (1, .ref 3), (2, .int (nI w)), (3, .int (-1))]) dX5_goAlong_30 (by decide) rfl ?_
    refine g_lv [2, 3, 4, 5, 1, 0] rfl ?_
    refine g_post ?_ (lp_goAlong_bk (cs := p0) hH hp hw0 hw (by omega) (p0) 0 c0 (by omega) hc)
    intro v u hvu
    obtain ⟨rfl, rfl⟩ := hvu
    refine gE_i rfl ?_
    rw [show sPace h p0 c0 w = p0 by unfold sPace; split <;> omega]
  · refine g_aload_n (i := 0) (j := 0) dX5_goAlong_12 rfl rfl ?_
    refine g_get fX5_15 rfl rfl dX5_goAlong_13 ?_
    refine g_iconst (v := nI 1) dX5_goAlong_16 (by decide) ?_
    refine n_iadd (a := p0) (b := 1) dX5_goAlong_17 ?_
    refine g_iconst (v := nI 2) dX5_goAlong_18 (by decide) ?_
    refine n_idiv (a := (p0 + 1)) (b := 2) (by omega) (by omega) (rng_lit 2 rfl) dX5_goAlong_19 ?_
    refine g_goto (tgt := 27) dX5_goAlong_20 (by decide) ?_
    refine g_istore (lv' := [(4, .int (nI ((p0 + 1) / 2))), (0, .ref 23), (1, .ref 3), (2, .int (nI w)), (3, .int (-1))]) dX5_goAlong_27 (by decide) rfl ?_
    refine g_iconst (v := nI 0) dX5_goAlong_29 (by decide) ?_
    refine g_istore (lv' := [(5, .int (nI 0)), (4, .int (nI ((p0 + 1) / 2))), (0, .ref 23), (1, .ref 3), (2, .int (nI w)), (3, .int (-1))]) dX5_goAlong_30 (by decide) rfl ?_
    refine g_lv [2, 3, 4, 5, 1, 0] rfl ?_
    refine g_post ?_ (lp_goAlong_bk (cs := ((p0 + 1) / 2)) hH hp hw0 hw (by omega) ((p0 + 1) / 2) 0 c0 (by omega) hc)
    intro v u hvu
    obtain ⟨rfl, rfl⟩ := hvu
    refine gE_i rfl ?_
    rw [show sPace h p0 c0 w = (p0 + 1) / 2 by unfold sPace; split <;> omega]

theorem ctX5_move {e0 e1 e2 e6 e7 e8 e9 e10 e11 e12 e13 e14 e16 e17 e19 e21 e22 e25 e26 : va_E} {h so : Nat → Nat} {wk tw sf lo ri la : Nat} {p0 w0 l0 c0 s0 f0 : Nat} {way : Nat} (hH : ∀ k, h k ≤ 9) (hso : ∀ k, so k ≤ 1) (hla : la ≤ 9) (hri : ri ≤ 3) (hp : p0 ≤ 3) (hw0 : w0 ≤ 5) (hl0 : l0 ≤ 41) (hc : c0 ≤ 9) (hs : s0 ≤ 40) (hf : f0 ≤ 4) (hway : way ≤ 2) : Ct mX5_move 2 [.ref 23, .ref 3, .int (nI way)] (wC e0 e1 e2 (kG3 wk tw sf lo ri la) (kI 10 h) (kZ 10 so) e6 e7 e8 e9 e10 e11 e12 e13 e14 e16 e17 e19 e21 e22 (kP p0 w0 l0 c0 s0 f0) e25 e26) (gE none (wC e0 e1 e2 (kG3 wk tw sf lo ri la) (kI 10 h) (kZ 10 so) e6 e7 e8 e9 e10 e11 e12 e13 e14 e16 e17 e19 e21 e22 (kP p0 w0 l0 (sTo h p0 w0 c0 way (sWater la ri s0 l0)) (s0 + 1) (sFate h so w0 c0 (sTo h p0 w0 c0 way (sWater la ri s0 l0)) way (sWater la ri (s0 + 1) l0) f0)) e25 e26)) := by
  refine Ct.of (by decide) (by exact Nat.le_of_ble_eq_true rfl) ?_
  show Go mX5_move 2 0 [(0, .ref 23), (1, .ref 3), (2, .int (nI way))] [] (wC e0 e1 e2 (kG3 wk tw sf lo ri la) (kI 10 h) (kZ 10 so) e6 e7 e8 e9 e10 e11 e12 e13 e14 e16 e17 e19 e21 e22 (kP p0 w0 l0 c0 s0 f0) e25 e26) (gE none (wC e0 e1 e2 (kG3 wk tw sf lo ri la) (kI 10 h) (kZ 10 so) e6 e7 e8 e9 e10 e11 e12 e13 e14 e16 e17 e19 e21 e22 (kP p0 w0 l0 (sTo h p0 w0 c0 way (sWater la ri s0 l0)) (s0 + 1) (sFate h so w0 c0 (sTo h p0 w0 c0 way (sWater la ri s0 l0)) way (sWater la ri (s0 + 1) l0) f0)) e25 e26))
  have hto_le := sTo_le h p0 w0 c0 way (sWater la ri s0 l0) hc
  obtain ⟨to, hto_⟩ : ∃ t, t = sTo h p0 w0 c0 way (sWater la ri s0 l0) := ⟨_, rfl⟩
  have hso2 := hso to
  have hsw := sWater_le la ri (s0 + 1) l0
  have hsd := sDepth_le h to (sWater la ri (s0 + 1) l0)
  refine g_aload_n (i := 0) (j := 0) dX5_move_0 rfl rfl ?_
  refine g_get fX5_31 rfl rfl dX5_move_1 ?_
  refine g_istore_n (i := 3) (lv' := [(3, .int (nI c0)), (0, .ref 23), (1, .ref 3), (2, .int (nI way))]) dX5_move_4 rfl (by decide) rfl ?_
  refine g_aload_n (i := 1) (j := 2) dX5_move_5 rfl rfl ?_
  refine g_aload_n (i := 0) (j := 1) dX5_move_6 rfl rfl ?_
  refine g_get fX5_34 rfl rfl dX5_move_7 ?_
  refine g_aload_n (i := 0) (j := 1) dX5_move_10 rfl rfl ?_
  refine g_get fX5_30 rfl rfl dX5_move_11 ?_
  refine c_V (st1 := [.int (nI (sWater la ri s0 l0))]) (ctX1_water (st := s0) (lo2 := l0) (by omega) (by omega) (by omega) (by omega)) kX1_water lX5_40 (by decide) rfl rfl rfl rfl (by exact Nat.le_of_ble_eq_true rfl) dX5_move_14 rfl rfl ?_
  refine g_istore (lv' := [(4, .int (nI (sWater la ri s0 l0))), (3, .int (nI c0)), (0, .ref 23), (1, .ref 3), (2, .int (nI way))]) dX5_move_17 (by decide) rfl ?_
  refine g_iload_n (i := 2) (j := 4) dX5_move_19 rfl rfl ?_
  refine g_iconst (v := nI 1) dX5_move_20 (by decide) ?_
  refine n_icmp_ne (tgt := 32) (by omega) (rng_lit 1 rfl) dX5_move_21 (by decide) (fun h21 => ?_) (fun h21 => ?_)
  · refine g_iload_n (i := 2) (j := 4) dX5_move_32 rfl rfl ?_
    refine g_iconst (v := nI 2) dX5_move_33 (by decide) ?_
    refine n_icmp_ne (tgt := 45) (by omega) (rng_lit 2 rfl) dX5_move_34 (by decide) (fun h34 => ?_) (fun h34 => ?_)
    · have hto : c0 = sTo h p0 w0 c0 way (sWater la ri s0 l0) := by first | (exfalso; omega) | (unfold sTo; rw [if_pos (by omega)]; done) | (unfold sTo; rw [if_neg (by omega), if_pos (by omega)]; done) | (unfold sTo; rw [if_neg (by omega), if_neg (by omega)]; done)
      refine g_ws (ws' := wC e0 e1 e2 (kG3 wk tw sf lo ri la) (kI 10 h) (kZ 10 so) e6 e7 e8 e9 e10 e11 e12 e13 e14 e16 e17 e19 e21 e22 (kP p0 w0 l0 to s0 f0) e25 e26) (by rw [hto, ← hto_]) ?_
      refine g_aload_n (i := 0) (j := 2) dX5_move_45 rfl rfl ?_
      refine g_dup dX5_move_46 rfl ?_
      refine g_get fX5_34 rfl rfl dX5_move_47 ?_
      refine g_iconst (v := nI 1) dX5_move_50 (by decide) ?_
      refine n_iadd (a := s0) (b := 1) dX5_move_51 ?_
      refine n_putI (ws' := wC e0 e1 e2 (kG3 wk tw sf lo ri la) (kI 10 h) (kZ 10 so) e6 e7 e8 e9 e10 e11 e12 e13 e14 e16 e17 e19 e21 e22 (kP p0 w0 l0 to (s0 + 1) f0) e25 e26) fX5_34 fp_X5_4 rfl (by exact Nat.le_of_ble_eq_true rfl) dX5_move_52 rfl ?_
      refine g_iload_n (i := 2) (j := 4) dX5_move_55 rfl rfl ?_
      refine g_iconst (v := nI 1) dX5_move_56 (by decide) ?_
      refine n_icmp_ne (tgt := 77) (by omega) (rng_lit 1 rfl) dX5_move_57 (by decide) (fun h57 => ?_) (fun h57 => ?_)
      · refine g_aload_n (i := 1) (j := 3) dX5_move_77 rfl rfl ?_
        refine g_aload_n (i := 0) (j := 2) dX5_move_78 rfl rfl ?_
        refine g_get fX5_31 rfl rfl dX5_move_79 ?_
        refine g_aload_n (i := 1) (j := 3) dX5_move_82 rfl rfl ?_
        refine g_aload_n (i := 0) (j := 2) dX5_move_83 rfl rfl ?_
        refine g_get fX5_34 rfl rfl dX5_move_84 ?_
        refine g_aload_n (i := 0) (j := 2) dX5_move_87 rfl rfl ?_
        refine g_get fX5_30 rfl rfl dX5_move_88 ?_
        refine c_V (st1 := [.int (nI (sWater la ri (s0 + 1) l0)), .int (nI to), .ref 3]) (ctX1_water (st := s0 + 1) (lo2 := l0) (by omega) (by omega) (by omega) (by omega)) kX1_water lX5_40 (by decide) rfl rfl rfl rfl (by exact Nat.le_of_ble_eq_true rfl) dX5_move_91 rfl rfl ?_
        refine c_V (st1 := [.int (nI (sDepth h to (sWater la ri (s0 + 1) l0)))]) (ctX1_depth (c := to) (w := sWater la ri (s0 + 1) l0) hH (by omega) (by omega)) kX1_depth lX5_48 (by decide) rfl rfl rfl rfl (by exact Nat.le_of_ble_eq_true rfl) dX5_move_94 rfl rfl ?_
        refine g_aload_n (i := 0) (j := 2) dX5_move_97 rfl rfl ?_
        refine g_get fX5_24 rfl rfl dX5_move_98 ?_
        refine n_icmp_le (tgt := 112) (by omega) (by omega) dX5_move_101 (by decide) (fun h101 => ?_) (fun h101 => ?_)
        · refine g_aload_n (i := 0) (j := 2) dX5_move_112 rfl rfl ?_
          refine g_get fX5_31 rfl rfl dX5_move_113 ?_
          refine g_iload_n (i := 3) (j := 1) dX5_move_116 rfl rfl ?_
          refine n_icmp_ne (tgt := 136) (by omega) (by omega) dX5_move_117 (by decide) (fun h117 => ?_) (fun h117 => ?_)
          · refine g_vret rfl dX5_move_136 ?_
            refine gE_i rfl ?_
            rw [hto_] at *
            rw [show sFate h so w0 c0 (sTo h p0 w0 c0 way (sWater la ri s0 l0)) way (sWater la ri (s0 + 1) l0) f0 = f0 by first | (exfalso; omega) | (unfold sFate; rw [if_pos (by omega)]; done) | (unfold sFate; rw [if_neg (by omega), if_pos (by omega)]; done) | (unfold sFate; rw [if_neg (by omega), if_neg (by omega), if_pos (by omega)]; done) | (unfold sFate; rw [if_neg (by omega), if_neg (by omega), if_neg (by omega)]; done)]
          · refine g_aload_n (i := 1) (j := 3) dX5_move_120 rfl rfl ?_
            refine g_aload_n (i := 0) (j := 2) dX5_move_121 rfl rfl ?_
            refine g_get fX5_31 rfl rfl dX5_move_122 ?_
            refine c_V (st1 := [.int (nI (so to))]) (ctX1_isSoft (c := to) hso (by omega)) kX1_isSoft lX5_51 (by decide) rfl rfl rfl rfl (by exact Nat.le_of_ble_eq_true rfl) dX5_move_125 rfl rfl ?_
            refine n_if_eq (tgt := 136) (by omega) dX5_move_128 (by decide) (fun h128 => ?_) (fun h128 => ?_)
            · refine g_vret rfl dX5_move_136 ?_
              refine gE_i rfl ?_
              rw [hto_] at *
              rw [show sFate h so w0 c0 (sTo h p0 w0 c0 way (sWater la ri s0 l0)) way (sWater la ri (s0 + 1) l0) f0 = f0 by first | (exfalso; omega) | (unfold sFate; rw [if_pos (by omega)]; done) | (unfold sFate; rw [if_neg (by omega), if_pos (by omega)]; done) | (unfold sFate; rw [if_neg (by omega), if_neg (by omega), if_pos (by omega)]; done) | (unfold sFate; rw [if_neg (by omega), if_neg (by omega), if_neg (by omega)]; done)]
            · refine g_aload_n (i := 0) (j := 2) dX5_move_131 rfl rfl ?_
              refine g_iconst (v := nI 3) dX5_move_132 (by decide) ?_
              refine n_putI (ws' := wC e0 e1 e2 (kG3 wk tw sf lo ri la) (kI 10 h) (kZ 10 so) e6 e7 e8 e9 e10 e11 e12 e13 e14 e16 e17 e19 e21 e22 (kP p0 w0 l0 to (s0 + 1) 3) e25 e26) fX5_37 fp_X5_5 rfl (by exact Nat.le_of_ble_eq_true rfl) dX5_move_133 rfl ?_
              refine g_vret rfl dX5_move_136 ?_
              refine gE_i rfl ?_
              rw [hto_] at *
              rw [show sFate h so w0 c0 (sTo h p0 w0 c0 way (sWater la ri s0 l0)) way (sWater la ri (s0 + 1) l0) f0 = 3 by first | (exfalso; omega) | (unfold sFate; rw [if_pos (by omega)]; done) | (unfold sFate; rw [if_neg (by omega), if_pos (by omega)]; done) | (unfold sFate; rw [if_neg (by omega), if_neg (by omega), if_pos (by omega)]; done) | (unfold sFate; rw [if_neg (by omega), if_neg (by omega), if_neg (by omega)]; done)]
        · refine g_aload_n (i := 0) (j := 2) dX5_move_104 rfl rfl ?_
          refine g_iconst (v := nI 2) dX5_move_105 (by decide) ?_
          refine n_putI (ws' := wC e0 e1 e2 (kG3 wk tw sf lo ri la) (kI 10 h) (kZ 10 so) e6 e7 e8 e9 e10 e11 e12 e13 e14 e16 e17 e19 e21 e22 (kP p0 w0 l0 to (s0 + 1) 2) e25 e26) fX5_37 fp_X5_5 rfl (by exact Nat.le_of_ble_eq_true rfl) dX5_move_106 rfl ?_
          refine g_goto (tgt := 136) dX5_move_109 (by decide) ?_
          refine g_vret rfl dX5_move_136 ?_
          refine gE_i rfl ?_
          rw [hto_] at *
          rw [show sFate h so w0 c0 (sTo h p0 w0 c0 way (sWater la ri s0 l0)) way (sWater la ri (s0 + 1) l0) f0 = 2 by first | (exfalso; omega) | (unfold sFate; rw [if_pos (by omega)]; done) | (unfold sFate; rw [if_neg (by omega), if_pos (by omega)]; done) | (unfold sFate; rw [if_neg (by omega), if_neg (by omega), if_pos (by omega)]; done) | (unfold sFate; rw [if_neg (by omega), if_neg (by omega), if_neg (by omega)]; done)]
      · refine g_aload_n (i := 0) (j := 2) dX5_move_60 rfl rfl ?_
        refine g_get fX5_31 rfl rfl dX5_move_61 ?_
        refine g_bipush (v := nI 9) dX5_move_64 (by decide) ?_
        refine n_icmp_ne (tgt := 77) (by omega) (rng_lit 9 rfl) dX5_move_66 (by decide) (fun h66 => ?_) (fun h66 => ?_)
        · refine g_aload_n (i := 1) (j := 3) dX5_move_77 rfl rfl ?_
          refine g_aload_n (i := 0) (j := 2) dX5_move_78 rfl rfl ?_
          refine g_get fX5_31 rfl rfl dX5_move_79 ?_
          refine g_aload_n (i := 1) (j := 3) dX5_move_82 rfl rfl ?_
          refine g_aload_n (i := 0) (j := 2) dX5_move_83 rfl rfl ?_
          refine g_get fX5_34 rfl rfl dX5_move_84 ?_
          refine g_aload_n (i := 0) (j := 2) dX5_move_87 rfl rfl ?_
          refine g_get fX5_30 rfl rfl dX5_move_88 ?_
          refine c_V (st1 := [.int (nI (sWater la ri (s0 + 1) l0)), .int (nI to), .ref 3]) (ctX1_water (st := s0 + 1) (lo2 := l0) (by omega) (by omega) (by omega) (by omega)) kX1_water lX5_40 (by decide) rfl rfl rfl rfl (by exact Nat.le_of_ble_eq_true rfl) dX5_move_91 rfl rfl ?_
          refine c_V (st1 := [.int (nI (sDepth h to (sWater la ri (s0 + 1) l0)))]) (ctX1_depth (c := to) (w := sWater la ri (s0 + 1) l0) hH (by omega) (by omega)) kX1_depth lX5_48 (by decide) rfl rfl rfl rfl (by exact Nat.le_of_ble_eq_true rfl) dX5_move_94 rfl rfl ?_
          refine g_aload_n (i := 0) (j := 2) dX5_move_97 rfl rfl ?_
          refine g_get fX5_24 rfl rfl dX5_move_98 ?_
          refine n_icmp_le (tgt := 112) (by omega) (by omega) dX5_move_101 (by decide) (fun h101 => ?_) (fun h101 => ?_)
          · refine g_aload_n (i := 0) (j := 2) dX5_move_112 rfl rfl ?_
            refine g_get fX5_31 rfl rfl dX5_move_113 ?_
            refine g_iload_n (i := 3) (j := 1) dX5_move_116 rfl rfl ?_
            refine n_icmp_ne (tgt := 136) (by omega) (by omega) dX5_move_117 (by decide) (fun h117 => ?_) (fun h117 => ?_)
            · refine g_vret rfl dX5_move_136 ?_
              refine gE_i rfl ?_
              rw [hto_] at *
              rw [show sFate h so w0 c0 (sTo h p0 w0 c0 way (sWater la ri s0 l0)) way (sWater la ri (s0 + 1) l0) f0 = f0 by first | (exfalso; omega) | (unfold sFate; rw [if_pos (by omega)]; done) | (unfold sFate; rw [if_neg (by omega), if_pos (by omega)]; done) | (unfold sFate; rw [if_neg (by omega), if_neg (by omega), if_pos (by omega)]; done) | (unfold sFate; rw [if_neg (by omega), if_neg (by omega), if_neg (by omega)]; done)]
            · refine g_aload_n (i := 1) (j := 3) dX5_move_120 rfl rfl ?_
              refine g_aload_n (i := 0) (j := 2) dX5_move_121 rfl rfl ?_
              refine g_get fX5_31 rfl rfl dX5_move_122 ?_
              refine c_V (st1 := [.int (nI (so to))]) (ctX1_isSoft (c := to) hso (by omega)) kX1_isSoft lX5_51 (by decide) rfl rfl rfl rfl (by exact Nat.le_of_ble_eq_true rfl) dX5_move_125 rfl rfl ?_
              refine n_if_eq (tgt := 136) (by omega) dX5_move_128 (by decide) (fun h128 => ?_) (fun h128 => ?_)
              · refine g_vret rfl dX5_move_136 ?_
                refine gE_i rfl ?_
                rw [hto_] at *
                rw [show sFate h so w0 c0 (sTo h p0 w0 c0 way (sWater la ri s0 l0)) way (sWater la ri (s0 + 1) l0) f0 = f0 by first | (exfalso; omega) | (unfold sFate; rw [if_pos (by omega)]; done) | (unfold sFate; rw [if_neg (by omega), if_pos (by omega)]; done) | (unfold sFate; rw [if_neg (by omega), if_neg (by omega), if_pos (by omega)]; done) | (unfold sFate; rw [if_neg (by omega), if_neg (by omega), if_neg (by omega)]; done)]
              · refine g_aload_n (i := 0) (j := 2) dX5_move_131 rfl rfl ?_
                refine g_iconst (v := nI 3) dX5_move_132 (by decide) ?_
                refine n_putI (ws' := wC e0 e1 e2 (kG3 wk tw sf lo ri la) (kI 10 h) (kZ 10 so) e6 e7 e8 e9 e10 e11 e12 e13 e14 e16 e17 e19 e21 e22 (kP p0 w0 l0 to (s0 + 1) 3) e25 e26) fX5_37 fp_X5_5 rfl (by exact Nat.le_of_ble_eq_true rfl) dX5_move_133 rfl ?_
                refine g_vret rfl dX5_move_136 ?_
                refine gE_i rfl ?_
                rw [hto_] at *
                rw [show sFate h so w0 c0 (sTo h p0 w0 c0 way (sWater la ri s0 l0)) way (sWater la ri (s0 + 1) l0) f0 = 3 by first | (exfalso; omega) | (unfold sFate; rw [if_pos (by omega)]; done) | (unfold sFate; rw [if_neg (by omega), if_pos (by omega)]; done) | (unfold sFate; rw [if_neg (by omega), if_neg (by omega), if_pos (by omega)]; done) | (unfold sFate; rw [if_neg (by omega), if_neg (by omega), if_neg (by omega)]; done)]
          · refine g_aload_n (i := 0) (j := 2) dX5_move_104 rfl rfl ?_
            refine g_iconst (v := nI 2) dX5_move_105 (by decide) ?_
            refine n_putI (ws' := wC e0 e1 e2 (kG3 wk tw sf lo ri la) (kI 10 h) (kZ 10 so) e6 e7 e8 e9 e10 e11 e12 e13 e14 e16 e17 e19 e21 e22 (kP p0 w0 l0 to (s0 + 1) 2) e25 e26) fX5_37 fp_X5_5 rfl (by exact Nat.le_of_ble_eq_true rfl) dX5_move_106 rfl ?_
            refine g_goto (tgt := 136) dX5_move_109 (by decide) ?_
            refine g_vret rfl dX5_move_136 ?_
            refine gE_i rfl ?_
            rw [hto_] at *
            rw [show sFate h so w0 c0 (sTo h p0 w0 c0 way (sWater la ri s0 l0)) way (sWater la ri (s0 + 1) l0) f0 = 2 by first | (exfalso; omega) | (unfold sFate; rw [if_pos (by omega)]; done) | (unfold sFate; rw [if_neg (by omega), if_pos (by omega)]; done) | (unfold sFate; rw [if_neg (by omega), if_neg (by omega), if_pos (by omega)]; done) | (unfold sFate; rw [if_neg (by omega), if_neg (by omega), if_neg (by omega)]; done)]
        · refine g_aload_n (i := 0) (j := 2) dX5_move_69 rfl rfl ?_
          refine g_iconst (v := nI 1) dX5_move_70 (by decide) ?_
          refine n_putI (ws' := wC e0 e1 e2 (kG3 wk tw sf lo ri la) (kI 10 h) (kZ 10 so) e6 e7 e8 e9 e10 e11 e12 e13 e14 e16 e17 e19 e21 e22 (kP p0 w0 l0 to (s0 + 1) 1) e25 e26) fX5_37 fp_X5_5 rfl (by exact Nat.le_of_ble_eq_true rfl) dX5_move_71 rfl ?_
          refine g_goto (tgt := 136) dX5_move_74 (by decide) ?_
          refine g_vret rfl dX5_move_136 ?_
          refine gE_i rfl ?_
          rw [hto_] at *
          rw [show sFate h so w0 c0 (sTo h p0 w0 c0 way (sWater la ri s0 l0)) way (sWater la ri (s0 + 1) l0) f0 = 1 by first | (exfalso; omega) | (unfold sFate; rw [if_pos (by omega)]; done) | (unfold sFate; rw [if_neg (by omega), if_pos (by omega)]; done) | (unfold sFate; rw [if_neg (by omega), if_neg (by omega), if_pos (by omega)]; done) | (unfold sFate; rw [if_neg (by omega), if_neg (by omega), if_neg (by omega)]; done)]
    · refine g_aload_n (i := 0) (j := 2) dX5_move_37 rfl rfl ?_
      refine g_aload_n (i := 1) (j := 3) dX5_move_38 rfl rfl ?_
      refine g_iload (j := 0) dX5_move_39 rfl ?_
      refine g_iconst (v := (-1)) dX5_move_41 (by decide) ?_
      refine c_V (st1 := []) (ctX5_goAlong_bk (w := sWater la ri s0 l0) hH (by omega) (by omega) (by first | exact sWater_le _ _ _ _ | omega) (by first | omega | exact sOn_le _ _ _ _ _ (by omega))) kX5_goAlong lX5_44 (by decide) rfl rfl rfl rfl (by exact Nat.le_of_ble_eq_true rfl) dX5_move_42 rfl rfl ?_
      have hto : sBk h w0 (sWater la ri s0 l0) (sPace h p0 c0 (sWater la ri s0 l0)) c0 = sTo h p0 w0 c0 way (sWater la ri s0 l0) := by first | (exfalso; omega) | (unfold sTo; rw [if_pos (by omega)]; done) | (unfold sTo; rw [if_neg (by omega), if_pos (by omega)]; done) | (unfold sTo; rw [if_neg (by omega), if_neg (by omega)]; done)
      refine g_ws (ws' := wC e0 e1 e2 (kG3 wk tw sf lo ri la) (kI 10 h) (kZ 10 so) e6 e7 e8 e9 e10 e11 e12 e13 e14 e16 e17 e19 e21 e22 (kP p0 w0 l0 to s0 f0) e25 e26) (by rw [hto, ← hto_]) ?_
      refine g_aload_n (i := 0) (j := 2) dX5_move_45 rfl rfl ?_
      refine g_dup dX5_move_46 rfl ?_
      refine g_get fX5_34 rfl rfl dX5_move_47 ?_
      refine g_iconst (v := nI 1) dX5_move_50 (by decide) ?_
      refine n_iadd (a := s0) (b := 1) dX5_move_51 ?_
      refine n_putI (ws' := wC e0 e1 e2 (kG3 wk tw sf lo ri la) (kI 10 h) (kZ 10 so) e6 e7 e8 e9 e10 e11 e12 e13 e14 e16 e17 e19 e21 e22 (kP p0 w0 l0 to (s0 + 1) f0) e25 e26) fX5_34 fp_X5_4 rfl (by exact Nat.le_of_ble_eq_true rfl) dX5_move_52 rfl ?_
      refine g_iload_n (i := 2) (j := 4) dX5_move_55 rfl rfl ?_
      refine g_iconst (v := nI 1) dX5_move_56 (by decide) ?_
      refine n_icmp_ne (tgt := 77) (by omega) (rng_lit 1 rfl) dX5_move_57 (by decide) (fun h57 => ?_) (fun h57 => ?_)
      · refine g_aload_n (i := 1) (j := 3) dX5_move_77 rfl rfl ?_
        refine g_aload_n (i := 0) (j := 2) dX5_move_78 rfl rfl ?_
        refine g_get fX5_31 rfl rfl dX5_move_79 ?_
        refine g_aload_n (i := 1) (j := 3) dX5_move_82 rfl rfl ?_
        refine g_aload_n (i := 0) (j := 2) dX5_move_83 rfl rfl ?_
        refine g_get fX5_34 rfl rfl dX5_move_84 ?_
        refine g_aload_n (i := 0) (j := 2) dX5_move_87 rfl rfl ?_
        refine g_get fX5_30 rfl rfl dX5_move_88 ?_
        refine c_V (st1 := [.int (nI (sWater la ri (s0 + 1) l0)), .int (nI to), .ref 3]) (ctX1_water (st := s0 + 1) (lo2 := l0) (by omega) (by omega) (by omega) (by omega)) kX1_water lX5_40 (by decide) rfl rfl rfl rfl (by exact Nat.le_of_ble_eq_true rfl) dX5_move_91 rfl rfl ?_
        refine c_V (st1 := [.int (nI (sDepth h to (sWater la ri (s0 + 1) l0)))]) (ctX1_depth (c := to) (w := sWater la ri (s0 + 1) l0) hH (by omega) (by omega)) kX1_depth lX5_48 (by decide) rfl rfl rfl rfl (by exact Nat.le_of_ble_eq_true rfl) dX5_move_94 rfl rfl ?_
        refine g_aload_n (i := 0) (j := 2) dX5_move_97 rfl rfl ?_
        refine g_get fX5_24 rfl rfl dX5_move_98 ?_
        refine n_icmp_le (tgt := 112) (by omega) (by omega) dX5_move_101 (by decide) (fun h101 => ?_) (fun h101 => ?_)
        · refine g_aload_n (i := 0) (j := 2) dX5_move_112 rfl rfl ?_
          refine g_get fX5_31 rfl rfl dX5_move_113 ?_
          refine g_iload_n (i := 3) (j := 1) dX5_move_116 rfl rfl ?_
          refine n_icmp_ne (tgt := 136) (by omega) (by omega) dX5_move_117 (by decide) (fun h117 => ?_) (fun h117 => ?_)
          · refine g_vret rfl dX5_move_136 ?_
            refine gE_i rfl ?_
            rw [hto_] at *
            rw [show sFate h so w0 c0 (sTo h p0 w0 c0 way (sWater la ri s0 l0)) way (sWater la ri (s0 + 1) l0) f0 = f0 by first | (exfalso; omega) | (unfold sFate; rw [if_pos (by omega)]; done) | (unfold sFate; rw [if_neg (by omega), if_pos (by omega)]; done) | (unfold sFate; rw [if_neg (by omega), if_neg (by omega), if_pos (by omega)]; done) | (unfold sFate; rw [if_neg (by omega), if_neg (by omega), if_neg (by omega)]; done)]
          · refine g_aload_n (i := 1) (j := 3) dX5_move_120 rfl rfl ?_
            refine g_aload_n (i := 0) (j := 2) dX5_move_121 rfl rfl ?_
            refine g_get fX5_31 rfl rfl dX5_move_122 ?_
            refine c_V (st1 := [.int (nI (so to))]) (ctX1_isSoft (c := to) hso (by omega)) kX1_isSoft lX5_51 (by decide) rfl rfl rfl rfl (by exact Nat.le_of_ble_eq_true rfl) dX5_move_125 rfl rfl ?_
            refine n_if_eq (tgt := 136) (by omega) dX5_move_128 (by decide) (fun h128 => ?_) (fun h128 => ?_)
            · refine g_vret rfl dX5_move_136 ?_
              refine gE_i rfl ?_
              rw [hto_] at *
              rw [show sFate h so w0 c0 (sTo h p0 w0 c0 way (sWater la ri s0 l0)) way (sWater la ri (s0 + 1) l0) f0 = f0 by first | (exfalso; omega) | (unfold sFate; rw [if_pos (by omega)]; done) | (unfold sFate; rw [if_neg (by omega), if_pos (by omega)]; done) | (unfold sFate; rw [if_neg (by omega), if_neg (by omega), if_pos (by omega)]; done) | (unfold sFate; rw [if_neg (by omega), if_neg (by omega), if_neg (by omega)]; done)]
            · refine g_aload_n (i := 0) (j := 2) dX5_move_131 rfl rfl ?_
              refine g_iconst (v := nI 3) dX5_move_132 (by decide) ?_
              refine n_putI (ws' := wC e0 e1 e2 (kG3 wk tw sf lo ri la) (kI 10 h) (kZ 10 so) e6 e7 e8 e9 e10 e11 e12 e13 e14 e16 e17 e19 e21 e22 (kP p0 w0 l0 to (s0 + 1) 3) e25 e26) fX5_37 fp_X5_5 rfl (by exact Nat.le_of_ble_eq_true rfl) dX5_move_133 rfl ?_
              refine g_vret rfl dX5_move_136 ?_
              refine gE_i rfl ?_
              rw [hto_] at *
              rw [show sFate h so w0 c0 (sTo h p0 w0 c0 way (sWater la ri s0 l0)) way (sWater la ri (s0 + 1) l0) f0 = 3 by first | (exfalso; omega) | (unfold sFate; rw [if_pos (by omega)]; done) | (unfold sFate; rw [if_neg (by omega), if_pos (by omega)]; done) | (unfold sFate; rw [if_neg (by omega), if_neg (by omega), if_pos (by omega)]; done) | (unfold sFate; rw [if_neg (by omega), if_neg (by omega), if_neg (by omega)]; done)]
        · refine g_aload_n (i := 0) (j := 2) dX5_move_104 rfl rfl ?_
          refine g_iconst (v := nI 2) dX5_move_105 (by decide) ?_
          refine n_putI (ws' := wC e0 e1 e2 (kG3 wk tw sf lo ri la) (kI 10 h) (kZ 10 so) e6 e7 e8 e9 e10 e11 e12 e13 e14 e16 e17 e19 e21 e22 (kP p0 w0 l0 to (s0 + 1) 2) e25 e26) fX5_37 fp_X5_5 rfl (by exact Nat.le_of_ble_eq_true rfl) dX5_move_106 rfl ?_
          refine g_goto (tgt := 136) dX5_move_109 (by decide) ?_
          refine g_vret rfl dX5_move_136 ?_
          refine gE_i rfl ?_
          rw [hto_] at *
          rw [show sFate h so w0 c0 (sTo h p0 w0 c0 way (sWater la ri s0 l0)) way (sWater la ri (s0 + 1) l0) f0 = 2 by first | (exfalso; omega) | (unfold sFate; rw [if_pos (by omega)]; done) | (unfold sFate; rw [if_neg (by omega), if_pos (by omega)]; done) | (unfold sFate; rw [if_neg (by omega), if_neg (by omega), if_pos (by omega)]; done) | (unfold sFate; rw [if_neg (by omega), if_neg (by omega), if_neg (by omega)]; done)]
      · refine g_aload_n (i := 0) (j := 2) dX5_move_60 rfl rfl ?_
        refine g_get fX5_31 rfl rfl dX5_move_61 ?_
        refine g_bipush (v := nI 9) dX5_move_64 (by decide) ?_
        refine n_icmp_ne (tgt := 77) (by omega) (rng_lit 9 rfl) dX5_move_66 (by decide) (fun h66 => ?_) (fun h66 => ?_)
        · refine g_aload_n (i := 1) (j := 3) dX5_move_77 rfl rfl ?_
          refine g_aload_n (i := 0) (j := 2) dX5_move_78 rfl rfl ?_
          refine g_get fX5_31 rfl rfl dX5_move_79 ?_
          refine g_aload_n (i := 1) (j := 3) dX5_move_82 rfl rfl ?_
          refine g_aload_n (i := 0) (j := 2) dX5_move_83 rfl rfl ?_
          refine g_get fX5_34 rfl rfl dX5_move_84 ?_
          refine g_aload_n (i := 0) (j := 2) dX5_move_87 rfl rfl ?_
          refine g_get fX5_30 rfl rfl dX5_move_88 ?_
          refine c_V (st1 := [.int (nI (sWater la ri (s0 + 1) l0)), .int (nI to), .ref 3]) (ctX1_water (st := s0 + 1) (lo2 := l0) (by omega) (by omega) (by omega) (by omega)) kX1_water lX5_40 (by decide) rfl rfl rfl rfl (by exact Nat.le_of_ble_eq_true rfl) dX5_move_91 rfl rfl ?_
          refine c_V (st1 := [.int (nI (sDepth h to (sWater la ri (s0 + 1) l0)))]) (ctX1_depth (c := to) (w := sWater la ri (s0 + 1) l0) hH (by omega) (by omega)) kX1_depth lX5_48 (by decide) rfl rfl rfl rfl (by exact Nat.le_of_ble_eq_true rfl) dX5_move_94 rfl rfl ?_
          refine g_aload_n (i := 0) (j := 2) dX5_move_97 rfl rfl ?_
          refine g_get fX5_24 rfl rfl dX5_move_98 ?_
          refine n_icmp_le (tgt := 112) (by omega) (by omega) dX5_move_101 (by decide) (fun h101 => ?_) (fun h101 => ?_)
          · refine g_aload_n (i := 0) (j := 2) dX5_move_112 rfl rfl ?_
            refine g_get fX5_31 rfl rfl dX5_move_113 ?_
            refine g_iload_n (i := 3) (j := 1) dX5_move_116 rfl rfl ?_
            refine n_icmp_ne (tgt := 136) (by omega) (by omega) dX5_move_117 (by decide) (fun h117 => ?_) (fun h117 => ?_)
            · refine g_vret rfl dX5_move_136 ?_
              refine gE_i rfl ?_
              rw [hto_] at *
              rw [show sFate h so w0 c0 (sTo h p0 w0 c0 way (sWater la ri s0 l0)) way (sWater la ri (s0 + 1) l0) f0 = f0 by first | (exfalso; omega) | (unfold sFate; rw [if_pos (by omega)]; done) | (unfold sFate; rw [if_neg (by omega), if_pos (by omega)]; done) | (unfold sFate; rw [if_neg (by omega), if_neg (by omega), if_pos (by omega)]; done) | (unfold sFate; rw [if_neg (by omega), if_neg (by omega), if_neg (by omega)]; done)]
            · refine g_aload_n (i := 1) (j := 3) dX5_move_120 rfl rfl ?_
              refine g_aload_n (i := 0) (j := 2) dX5_move_121 rfl rfl ?_
              refine g_get fX5_31 rfl rfl dX5_move_122 ?_
              refine c_V (st1 := [.int (nI (so to))]) (ctX1_isSoft (c := to) hso (by omega)) kX1_isSoft lX5_51 (by decide) rfl rfl rfl rfl (by exact Nat.le_of_ble_eq_true rfl) dX5_move_125 rfl rfl ?_
              refine n_if_eq (tgt := 136) (by omega) dX5_move_128 (by decide) (fun h128 => ?_) (fun h128 => ?_)
              · refine g_vret rfl dX5_move_136 ?_
                refine gE_i rfl ?_
                rw [hto_] at *
                rw [show sFate h so w0 c0 (sTo h p0 w0 c0 way (sWater la ri s0 l0)) way (sWater la ri (s0 + 1) l0) f0 = f0 by first | (exfalso; omega) | (unfold sFate; rw [if_pos (by omega)]; done) | (unfold sFate; rw [if_neg (by omega), if_pos (by omega)]; done) | (unfold sFate; rw [if_neg (by omega), if_neg (by omega), if_pos (by omega)]; done) | (unfold sFate; rw [if_neg (by omega), if_neg (by omega), if_neg (by omega)]; done)]
              · refine g_aload_n (i := 0) (j := 2) dX5_move_131 rfl rfl ?_
                refine g_iconst (v := nI 3) dX5_move_132 (by decide) ?_
                refine n_putI (ws' := wC e0 e1 e2 (kG3 wk tw sf lo ri la) (kI 10 h) (kZ 10 so) e6 e7 e8 e9 e10 e11 e12 e13 e14 e16 e17 e19 e21 e22 (kP p0 w0 l0 to (s0 + 1) 3) e25 e26) fX5_37 fp_X5_5 rfl (by exact Nat.le_of_ble_eq_true rfl) dX5_move_133 rfl ?_
                refine g_vret rfl dX5_move_136 ?_
                refine gE_i rfl ?_
                rw [hto_] at *
                rw [show sFate h so w0 c0 (sTo h p0 w0 c0 way (sWater la ri s0 l0)) way (sWater la ri (s0 + 1) l0) f0 = 3 by first | (exfalso; omega) | (unfold sFate; rw [if_pos (by omega)]; done) | (unfold sFate; rw [if_neg (by omega), if_pos (by omega)]; done) | (unfold sFate; rw [if_neg (by omega), if_neg (by omega), if_pos (by omega)]; done) | (unfold sFate; rw [if_neg (by omega), if_neg (by omega), if_neg (by omega)]; done)]
          · refine g_aload_n (i := 0) (j := 2) dX5_move_104 rfl rfl ?_
            refine g_iconst (v := nI 2) dX5_move_105 (by decide) ?_
            refine n_putI (ws' := wC e0 e1 e2 (kG3 wk tw sf lo ri la) (kI 10 h) (kZ 10 so) e6 e7 e8 e9 e10 e11 e12 e13 e14 e16 e17 e19 e21 e22 (kP p0 w0 l0 to (s0 + 1) 2) e25 e26) fX5_37 fp_X5_5 rfl (by exact Nat.le_of_ble_eq_true rfl) dX5_move_106 rfl ?_
            refine g_goto (tgt := 136) dX5_move_109 (by decide) ?_
            refine g_vret rfl dX5_move_136 ?_
            refine gE_i rfl ?_
            rw [hto_] at *
            rw [show sFate h so w0 c0 (sTo h p0 w0 c0 way (sWater la ri s0 l0)) way (sWater la ri (s0 + 1) l0) f0 = 2 by first | (exfalso; omega) | (unfold sFate; rw [if_pos (by omega)]; done) | (unfold sFate; rw [if_neg (by omega), if_pos (by omega)]; done) | (unfold sFate; rw [if_neg (by omega), if_neg (by omega), if_pos (by omega)]; done) | (unfold sFate; rw [if_neg (by omega), if_neg (by omega), if_neg (by omega)]; done)]
        · refine g_aload_n (i := 0) (j := 2) dX5_move_69 rfl rfl ?_
          refine g_iconst (v := nI 1) dX5_move_70 (by decide) ?_
          refine n_putI (ws' := wC e0 e1 e2 (kG3 wk tw sf lo ri la) (kI 10 h) (kZ 10 so) e6 e7 e8 e9 e10 e11 e12 e13 e14 e16 e17 e19 e21 e22 (kP p0 w0 l0 to (s0 + 1) 1) e25 e26) fX5_37 fp_X5_5 rfl (by exact Nat.le_of_ble_eq_true rfl) dX5_move_71 rfl ?_
          refine g_goto (tgt := 136) dX5_move_74 (by decide) ?_
          refine g_vret rfl dX5_move_136 ?_
          refine gE_i rfl ?_
          rw [hto_] at *
          rw [show sFate h so w0 c0 (sTo h p0 w0 c0 way (sWater la ri s0 l0)) way (sWater la ri (s0 + 1) l0) f0 = 1 by first | (exfalso; omega) | (unfold sFate; rw [if_pos (by omega)]; done) | (unfold sFate; rw [if_neg (by omega), if_pos (by omega)]; done) | (unfold sFate; rw [if_neg (by omega), if_neg (by omega), if_pos (by omega)]; done) | (unfold sFate; rw [if_neg (by omega), if_neg (by omega), if_neg (by omega)]; done)]
  · refine g_aload_n (i := 0) (j := 2) dX5_move_24 rfl rfl ?_
    refine g_aload_n (i := 1) (j := 3) dX5_move_25 rfl rfl ?_
    refine g_iload (j := 0) dX5_move_26 rfl ?_
    refine g_iconst (v := nI 1) dX5_move_28 (by decide) ?_
    refine c_V (st1 := []) (ctX5_goAlong_on (w := sWater la ri s0 l0) hH (by omega) (by omega) (by first | exact sWater_le _ _ _ _ | omega) (by first | omega | exact sOn_le _ _ _ _ _ (by omega))) kX5_goAlong lX5_44 (by decide) rfl rfl rfl rfl (by exact Nat.le_of_ble_eq_true rfl) dX5_move_29 rfl rfl ?_
    refine g_iload_n (i := 2) (j := 4) dX5_move_32 rfl rfl ?_
    refine g_iconst (v := nI 2) dX5_move_33 (by decide) ?_
    refine n_icmp_ne (tgt := 45) (by omega) (rng_lit 2 rfl) dX5_move_34 (by decide) (fun h34 => ?_) (fun h34 => ?_)
    · have hto : sOn h w0 (sWater la ri s0 l0) (sPace h p0 c0 (sWater la ri s0 l0)) c0 = sTo h p0 w0 c0 way (sWater la ri s0 l0) := by first | (exfalso; omega) | (unfold sTo; rw [if_pos (by omega)]; done) | (unfold sTo; rw [if_neg (by omega), if_pos (by omega)]; done) | (unfold sTo; rw [if_neg (by omega), if_neg (by omega)]; done)
      refine g_ws (ws' := wC e0 e1 e2 (kG3 wk tw sf lo ri la) (kI 10 h) (kZ 10 so) e6 e7 e8 e9 e10 e11 e12 e13 e14 e16 e17 e19 e21 e22 (kP p0 w0 l0 to s0 f0) e25 e26) (by rw [hto, ← hto_]) ?_
      refine g_aload_n (i := 0) (j := 2) dX5_move_45 rfl rfl ?_
      refine g_dup dX5_move_46 rfl ?_
      refine g_get fX5_34 rfl rfl dX5_move_47 ?_
      refine g_iconst (v := nI 1) dX5_move_50 (by decide) ?_
      refine n_iadd (a := s0) (b := 1) dX5_move_51 ?_
      refine n_putI (ws' := wC e0 e1 e2 (kG3 wk tw sf lo ri la) (kI 10 h) (kZ 10 so) e6 e7 e8 e9 e10 e11 e12 e13 e14 e16 e17 e19 e21 e22 (kP p0 w0 l0 to (s0 + 1) f0) e25 e26) fX5_34 fp_X5_4 rfl (by exact Nat.le_of_ble_eq_true rfl) dX5_move_52 rfl ?_
      refine g_iload_n (i := 2) (j := 4) dX5_move_55 rfl rfl ?_
      refine g_iconst (v := nI 1) dX5_move_56 (by decide) ?_
      refine n_icmp_ne (tgt := 77) (by omega) (rng_lit 1 rfl) dX5_move_57 (by decide) (fun h57 => ?_) (fun h57 => ?_)
      · refine g_aload_n (i := 1) (j := 3) dX5_move_77 rfl rfl ?_
        refine g_aload_n (i := 0) (j := 2) dX5_move_78 rfl rfl ?_
        refine g_get fX5_31 rfl rfl dX5_move_79 ?_
        refine g_aload_n (i := 1) (j := 3) dX5_move_82 rfl rfl ?_
        refine g_aload_n (i := 0) (j := 2) dX5_move_83 rfl rfl ?_
        refine g_get fX5_34 rfl rfl dX5_move_84 ?_
        refine g_aload_n (i := 0) (j := 2) dX5_move_87 rfl rfl ?_
        refine g_get fX5_30 rfl rfl dX5_move_88 ?_
        refine c_V (st1 := [.int (nI (sWater la ri (s0 + 1) l0)), .int (nI to), .ref 3]) (ctX1_water (st := s0 + 1) (lo2 := l0) (by omega) (by omega) (by omega) (by omega)) kX1_water lX5_40 (by decide) rfl rfl rfl rfl (by exact Nat.le_of_ble_eq_true rfl) dX5_move_91 rfl rfl ?_
        refine c_V (st1 := [.int (nI (sDepth h to (sWater la ri (s0 + 1) l0)))]) (ctX1_depth (c := to) (w := sWater la ri (s0 + 1) l0) hH (by omega) (by omega)) kX1_depth lX5_48 (by decide) rfl rfl rfl rfl (by exact Nat.le_of_ble_eq_true rfl) dX5_move_94 rfl rfl ?_
        refine g_aload_n (i := 0) (j := 2) dX5_move_97 rfl rfl ?_
        refine g_get fX5_24 rfl rfl dX5_move_98 ?_
        refine n_icmp_le (tgt := 112) (by omega) (by omega) dX5_move_101 (by decide) (fun h101 => ?_) (fun h101 => ?_)
        · refine g_aload_n (i := 0) (j := 2) dX5_move_112 rfl rfl ?_
          refine g_get fX5_31 rfl rfl dX5_move_113 ?_
          refine g_iload_n (i := 3) (j := 1) dX5_move_116 rfl rfl ?_
          refine n_icmp_ne (tgt := 136) (by omega) (by omega) dX5_move_117 (by decide) (fun h117 => ?_) (fun h117 => ?_)
          · refine g_vret rfl dX5_move_136 ?_
            refine gE_i rfl ?_
            rw [hto_] at *
            rw [show sFate h so w0 c0 (sTo h p0 w0 c0 way (sWater la ri s0 l0)) way (sWater la ri (s0 + 1) l0) f0 = f0 by first | (exfalso; omega) | (unfold sFate; rw [if_pos (by omega)]; done) | (unfold sFate; rw [if_neg (by omega), if_pos (by omega)]; done) | (unfold sFate; rw [if_neg (by omega), if_neg (by omega), if_pos (by omega)]; done) | (unfold sFate; rw [if_neg (by omega), if_neg (by omega), if_neg (by omega)]; done)]
          · refine g_aload_n (i := 1) (j := 3) dX5_move_120 rfl rfl ?_
            refine g_aload_n (i := 0) (j := 2) dX5_move_121 rfl rfl ?_
            refine g_get fX5_31 rfl rfl dX5_move_122 ?_
            refine c_V (st1 := [.int (nI (so to))]) (ctX1_isSoft (c := to) hso (by omega)) kX1_isSoft lX5_51 (by decide) rfl rfl rfl rfl (by exact Nat.le_of_ble_eq_true rfl) dX5_move_125 rfl rfl ?_
            refine n_if_eq (tgt := 136) (by omega) dX5_move_128 (by decide) (fun h128 => ?_) (fun h128 => ?_)
            · refine g_vret rfl dX5_move_136 ?_
              refine gE_i rfl ?_
              rw [hto_] at *
              rw [show sFate h so w0 c0 (sTo h p0 w0 c0 way (sWater la ri s0 l0)) way (sWater la ri (s0 + 1) l0) f0 = f0 by first | (exfalso; omega) | (unfold sFate; rw [if_pos (by omega)]; done) | (unfold sFate; rw [if_neg (by omega), if_pos (by omega)]; done) | (unfold sFate; rw [if_neg (by omega), if_neg (by omega), if_pos (by omega)]; done) | (unfold sFate; rw [if_neg (by omega), if_neg (by omega), if_neg (by omega)]; done)]
            · refine g_aload_n (i := 0) (j := 2) dX5_move_131 rfl rfl ?_
              refine g_iconst (v := nI 3) dX5_move_132 (by decide) ?_
              refine n_putI (ws' := wC e0 e1 e2 (kG3 wk tw sf lo ri la) (kI 10 h) (kZ 10 so) e6 e7 e8 e9 e10 e11 e12 e13 e14 e16 e17 e19 e21 e22 (kP p0 w0 l0 to (s0 + 1) 3) e25 e26) fX5_37 fp_X5_5 rfl (by exact Nat.le_of_ble_eq_true rfl) dX5_move_133 rfl ?_
              refine g_vret rfl dX5_move_136 ?_
              refine gE_i rfl ?_
              rw [hto_] at *
              rw [show sFate h so w0 c0 (sTo h p0 w0 c0 way (sWater la ri s0 l0)) way (sWater la ri (s0 + 1) l0) f0 = 3 by first | (exfalso; omega) | (unfold sFate; rw [if_pos (by omega)]; done) | (unfold sFate; rw [if_neg (by omega), if_pos (by omega)]; done) | (unfold sFate; rw [if_neg (by omega), if_neg (by omega), if_pos (by omega)]; done) | (unfold sFate; rw [if_neg (by omega), if_neg (by omega), if_neg (by omega)]; done)]
        · refine g_aload_n (i := 0) (j := 2) dX5_move_104 rfl rfl ?_
          refine g_iconst (v := nI 2) dX5_move_105 (by decide) ?_
          refine n_putI (ws' := wC e0 e1 e2 (kG3 wk tw sf lo ri la) (kI 10 h) (kZ 10 so) e6 e7 e8 e9 e10 e11 e12 e13 e14 e16 e17 e19 e21 e22 (kP p0 w0 l0 to (s0 + 1) 2) e25 e26) fX5_37 fp_X5_5 rfl (by exact Nat.le_of_ble_eq_true rfl) dX5_move_106 rfl ?_
          refine g_goto (tgt := 136) dX5_move_109 (by decide) ?_
          refine g_vret rfl dX5_move_136 ?_
          refine gE_i rfl ?_
          rw [hto_] at *
          rw [show sFate h so w0 c0 (sTo h p0 w0 c0 way (sWater la ri s0 l0)) way (sWater la ri (s0 + 1) l0) f0 = 2 by first | (exfalso; omega) | (unfold sFate; rw [if_pos (by omega)]; done) | (unfold sFate; rw [if_neg (by omega), if_pos (by omega)]; done) | (unfold sFate; rw [if_neg (by omega), if_neg (by omega), if_pos (by omega)]; done) | (unfold sFate; rw [if_neg (by omega), if_neg (by omega), if_neg (by omega)]; done)]
      · refine g_aload_n (i := 0) (j := 2) dX5_move_60 rfl rfl ?_
        refine g_get fX5_31 rfl rfl dX5_move_61 ?_
        refine g_bipush (v := nI 9) dX5_move_64 (by decide) ?_
        refine n_icmp_ne (tgt := 77) (by omega) (rng_lit 9 rfl) dX5_move_66 (by decide) (fun h66 => ?_) (fun h66 => ?_)
        · refine g_aload_n (i := 1) (j := 3) dX5_move_77 rfl rfl ?_
          refine g_aload_n (i := 0) (j := 2) dX5_move_78 rfl rfl ?_
          refine g_get fX5_31 rfl rfl dX5_move_79 ?_
          refine g_aload_n (i := 1) (j := 3) dX5_move_82 rfl rfl ?_
          refine g_aload_n (i := 0) (j := 2) dX5_move_83 rfl rfl ?_
          refine g_get fX5_34 rfl rfl dX5_move_84 ?_
          refine g_aload_n (i := 0) (j := 2) dX5_move_87 rfl rfl ?_
          refine g_get fX5_30 rfl rfl dX5_move_88 ?_
          refine c_V (st1 := [.int (nI (sWater la ri (s0 + 1) l0)), .int (nI to), .ref 3]) (ctX1_water (st := s0 + 1) (lo2 := l0) (by omega) (by omega) (by omega) (by omega)) kX1_water lX5_40 (by decide) rfl rfl rfl rfl (by exact Nat.le_of_ble_eq_true rfl) dX5_move_91 rfl rfl ?_
          refine c_V (st1 := [.int (nI (sDepth h to (sWater la ri (s0 + 1) l0)))]) (ctX1_depth (c := to) (w := sWater la ri (s0 + 1) l0) hH (by omega) (by omega)) kX1_depth lX5_48 (by decide) rfl rfl rfl rfl (by exact Nat.le_of_ble_eq_true rfl) dX5_move_94 rfl rfl ?_
          refine g_aload_n (i := 0) (j := 2) dX5_move_97 rfl rfl ?_
          refine g_get fX5_24 rfl rfl dX5_move_98 ?_
          refine n_icmp_le (tgt := 112) (by omega) (by omega) dX5_move_101 (by decide) (fun h101 => ?_) (fun h101 => ?_)
          · refine g_aload_n (i := 0) (j := 2) dX5_move_112 rfl rfl ?_
            refine g_get fX5_31 rfl rfl dX5_move_113 ?_
            refine g_iload_n (i := 3) (j := 1) dX5_move_116 rfl rfl ?_
            refine n_icmp_ne (tgt := 136) (by omega) (by omega) dX5_move_117 (by decide) (fun h117 => ?_) (fun h117 => ?_)
            · refine g_vret rfl dX5_move_136 ?_
              refine gE_i rfl ?_
              rw [hto_] at *
              rw [show sFate h so w0 c0 (sTo h p0 w0 c0 way (sWater la ri s0 l0)) way (sWater la ri (s0 + 1) l0) f0 = f0 by first | (exfalso; omega) | (unfold sFate; rw [if_pos (by omega)]; done) | (unfold sFate; rw [if_neg (by omega), if_pos (by omega)]; done) | (unfold sFate; rw [if_neg (by omega), if_neg (by omega), if_pos (by omega)]; done) | (unfold sFate; rw [if_neg (by omega), if_neg (by omega), if_neg (by omega)]; done)]
            · refine g_aload_n (i := 1) (j := 3) dX5_move_120 rfl rfl ?_
              refine g_aload_n (i := 0) (j := 2) dX5_move_121 rfl rfl ?_
              refine g_get fX5_31 rfl rfl dX5_move_122 ?_
              refine c_V (st1 := [.int (nI (so to))]) (ctX1_isSoft (c := to) hso (by omega)) kX1_isSoft lX5_51 (by decide) rfl rfl rfl rfl (by exact Nat.le_of_ble_eq_true rfl) dX5_move_125 rfl rfl ?_
              refine n_if_eq (tgt := 136) (by omega) dX5_move_128 (by decide) (fun h128 => ?_) (fun h128 => ?_)
              · refine g_vret rfl dX5_move_136 ?_
                refine gE_i rfl ?_
                rw [hto_] at *
                rw [show sFate h so w0 c0 (sTo h p0 w0 c0 way (sWater la ri s0 l0)) way (sWater la ri (s0 + 1) l0) f0 = f0 by first | (exfalso; omega) | (unfold sFate; rw [if_pos (by omega)]; done) | (unfold sFate; rw [if_neg (by omega), if_pos (by omega)]; done) | (unfold sFate; rw [if_neg (by omega), if_neg (by omega), if_pos (by omega)]; done) | (unfold sFate; rw [if_neg (by omega), if_neg (by omega), if_neg (by omega)]; done)]
              · refine g_aload_n (i := 0) (j := 2) dX5_move_131 rfl rfl ?_
                refine g_iconst (v := nI 3) dX5_move_132 (by decide) ?_
                refine n_putI (ws' := wC e0 e1 e2 (kG3 wk tw sf lo ri la) (kI 10 h) (kZ 10 so) e6 e7 e8 e9 e10 e11 e12 e13 e14 e16 e17 e19 e21 e22 (kP p0 w0 l0 to (s0 + 1) 3) e25 e26) fX5_37 fp_X5_5 rfl (by exact Nat.le_of_ble_eq_true rfl) dX5_move_133 rfl ?_
                refine g_vret rfl dX5_move_136 ?_
                refine gE_i rfl ?_
                rw [hto_] at *
                rw [show sFate h so w0 c0 (sTo h p0 w0 c0 way (sWater la ri s0 l0)) way (sWater la ri (s0 + 1) l0) f0 = 3 by first | (exfalso; omega) | (unfold sFate; rw [if_pos (by omega)]; done) | (unfold sFate; rw [if_neg (by omega), if_pos (by omega)]; done) | (unfold sFate; rw [if_neg (by omega), if_neg (by omega), if_pos (by omega)]; done) | (unfold sFate; rw [if_neg (by omega), if_neg (by omega), if_neg (by omega)]; done)]
          · refine g_aload_n (i := 0) (j := 2) dX5_move_104 rfl rfl ?_
            refine g_iconst (v := nI 2) dX5_move_105 (by decide) ?_
            refine n_putI (ws' := wC e0 e1 e2 (kG3 wk tw sf lo ri la) (kI 10 h) (kZ 10 so) e6 e7 e8 e9 e10 e11 e12 e13 e14 e16 e17 e19 e21 e22 (kP p0 w0 l0 to (s0 + 1) 2) e25 e26) fX5_37 fp_X5_5 rfl (by exact Nat.le_of_ble_eq_true rfl) dX5_move_106 rfl ?_
            refine g_goto (tgt := 136) dX5_move_109 (by decide) ?_
            refine g_vret rfl dX5_move_136 ?_
            refine gE_i rfl ?_
            rw [hto_] at *
            rw [show sFate h so w0 c0 (sTo h p0 w0 c0 way (sWater la ri s0 l0)) way (sWater la ri (s0 + 1) l0) f0 = 2 by first | (exfalso; omega) | (unfold sFate; rw [if_pos (by omega)]; done) | (unfold sFate; rw [if_neg (by omega), if_pos (by omega)]; done) | (unfold sFate; rw [if_neg (by omega), if_neg (by omega), if_pos (by omega)]; done) | (unfold sFate; rw [if_neg (by omega), if_neg (by omega), if_neg (by omega)]; done)]
        · refine g_aload_n (i := 0) (j := 2) dX5_move_69 rfl rfl ?_
          refine g_iconst (v := nI 1) dX5_move_70 (by decide) ?_
          refine n_putI (ws' := wC e0 e1 e2 (kG3 wk tw sf lo ri la) (kI 10 h) (kZ 10 so) e6 e7 e8 e9 e10 e11 e12 e13 e14 e16 e17 e19 e21 e22 (kP p0 w0 l0 to (s0 + 1) 1) e25 e26) fX5_37 fp_X5_5 rfl (by exact Nat.le_of_ble_eq_true rfl) dX5_move_71 rfl ?_
          refine g_goto (tgt := 136) dX5_move_74 (by decide) ?_
          refine g_vret rfl dX5_move_136 ?_
          refine gE_i rfl ?_
          rw [hto_] at *
          rw [show sFate h so w0 c0 (sTo h p0 w0 c0 way (sWater la ri s0 l0)) way (sWater la ri (s0 + 1) l0) f0 = 1 by first | (exfalso; omega) | (unfold sFate; rw [if_pos (by omega)]; done) | (unfold sFate; rw [if_neg (by omega), if_pos (by omega)]; done) | (unfold sFate; rw [if_neg (by omega), if_neg (by omega), if_pos (by omega)]; done) | (unfold sFate; rw [if_neg (by omega), if_neg (by omega), if_neg (by omega)]; done)]
    · refine g_aload_n (i := 0) (j := 2) dX5_move_37 rfl rfl ?_
      refine g_aload_n (i := 1) (j := 3) dX5_move_38 rfl rfl ?_
      refine g_iload (j := 0) dX5_move_39 rfl ?_
      refine g_iconst (v := (-1)) dX5_move_41 (by decide) ?_
      refine c_V (st1 := []) (ctX5_goAlong_bk (w := sWater la ri s0 l0) hH (by omega) (by omega) (by first | exact sWater_le _ _ _ _ | omega) (by first | omega | exact sOn_le _ _ _ _ _ (by omega))) kX5_goAlong lX5_44 (by decide) rfl rfl rfl rfl (by exact Nat.le_of_ble_eq_true rfl) dX5_move_42 rfl rfl ?_
      have hto : sBk h w0 (sWater la ri s0 l0) (sPace h p0 (sOn h w0 (sWater la ri s0 l0) (sPace h p0 c0 (sWater la ri s0 l0)) c0) (sWater la ri s0 l0)) (sOn h w0 (sWater la ri s0 l0) (sPace h p0 c0 (sWater la ri s0 l0)) c0) = sTo h p0 w0 c0 way (sWater la ri s0 l0) := by first | (exfalso; omega) | (unfold sTo; rw [if_pos (by omega)]; done) | (unfold sTo; rw [if_neg (by omega), if_pos (by omega)]; done) | (unfold sTo; rw [if_neg (by omega), if_neg (by omega)]; done)
      refine g_ws (ws' := wC e0 e1 e2 (kG3 wk tw sf lo ri la) (kI 10 h) (kZ 10 so) e6 e7 e8 e9 e10 e11 e12 e13 e14 e16 e17 e19 e21 e22 (kP p0 w0 l0 to s0 f0) e25 e26) (by rw [hto, ← hto_]) ?_
      refine g_aload_n (i := 0) (j := 2) dX5_move_45 rfl rfl ?_
      refine g_dup dX5_move_46 rfl ?_
      refine g_get fX5_34 rfl rfl dX5_move_47 ?_
      refine g_iconst (v := nI 1) dX5_move_50 (by decide) ?_
      refine n_iadd (a := s0) (b := 1) dX5_move_51 ?_
      refine n_putI (ws' := wC e0 e1 e2 (kG3 wk tw sf lo ri la) (kI 10 h) (kZ 10 so) e6 e7 e8 e9 e10 e11 e12 e13 e14 e16 e17 e19 e21 e22 (kP p0 w0 l0 to (s0 + 1) f0) e25 e26) fX5_34 fp_X5_4 rfl (by exact Nat.le_of_ble_eq_true rfl) dX5_move_52 rfl ?_
      refine g_iload_n (i := 2) (j := 4) dX5_move_55 rfl rfl ?_
      refine g_iconst (v := nI 1) dX5_move_56 (by decide) ?_
      refine n_icmp_ne (tgt := 77) (by omega) (rng_lit 1 rfl) dX5_move_57 (by decide) (fun h57 => ?_) (fun h57 => ?_)
      · refine g_aload_n (i := 1) (j := 3) dX5_move_77 rfl rfl ?_
        refine g_aload_n (i := 0) (j := 2) dX5_move_78 rfl rfl ?_
        refine g_get fX5_31 rfl rfl dX5_move_79 ?_
        refine g_aload_n (i := 1) (j := 3) dX5_move_82 rfl rfl ?_
        refine g_aload_n (i := 0) (j := 2) dX5_move_83 rfl rfl ?_
        refine g_get fX5_34 rfl rfl dX5_move_84 ?_
        refine g_aload_n (i := 0) (j := 2) dX5_move_87 rfl rfl ?_
        refine g_get fX5_30 rfl rfl dX5_move_88 ?_
        refine c_V (st1 := [.int (nI (sWater la ri (s0 + 1) l0)), .int (nI to), .ref 3]) (ctX1_water (st := s0 + 1) (lo2 := l0) (by omega) (by omega) (by omega) (by omega)) kX1_water lX5_40 (by decide) rfl rfl rfl rfl (by exact Nat.le_of_ble_eq_true rfl) dX5_move_91 rfl rfl ?_
        refine c_V (st1 := [.int (nI (sDepth h to (sWater la ri (s0 + 1) l0)))]) (ctX1_depth (c := to) (w := sWater la ri (s0 + 1) l0) hH (by omega) (by omega)) kX1_depth lX5_48 (by decide) rfl rfl rfl rfl (by exact Nat.le_of_ble_eq_true rfl) dX5_move_94 rfl rfl ?_
        refine g_aload_n (i := 0) (j := 2) dX5_move_97 rfl rfl ?_
        refine g_get fX5_24 rfl rfl dX5_move_98 ?_
        refine n_icmp_le (tgt := 112) (by omega) (by omega) dX5_move_101 (by decide) (fun h101 => ?_) (fun h101 => ?_)
        · refine g_aload_n (i := 0) (j := 2) dX5_move_112 rfl rfl ?_
          refine g_get fX5_31 rfl rfl dX5_move_113 ?_
          refine g_iload_n (i := 3) (j := 1) dX5_move_116 rfl rfl ?_
          refine n_icmp_ne (tgt := 136) (by omega) (by omega) dX5_move_117 (by decide) (fun h117 => ?_) (fun h117 => ?_)
          · refine g_vret rfl dX5_move_136 ?_
            refine gE_i rfl ?_
            rw [hto_] at *
            rw [show sFate h so w0 c0 (sTo h p0 w0 c0 way (sWater la ri s0 l0)) way (sWater la ri (s0 + 1) l0) f0 = f0 by first | (exfalso; omega) | (unfold sFate; rw [if_pos (by omega)]; done) | (unfold sFate; rw [if_neg (by omega), if_pos (by omega)]; done) | (unfold sFate; rw [if_neg (by omega), if_neg (by omega), if_pos (by omega)]; done) | (unfold sFate; rw [if_neg (by omega), if_neg (by omega), if_neg (by omega)]; done)]
          · refine g_aload_n (i := 1) (j := 3) dX5_move_120 rfl rfl ?_
            refine g_aload_n (i := 0) (j := 2) dX5_move_121 rfl rfl ?_
            refine g_get fX5_31 rfl rfl dX5_move_122 ?_
            refine c_V (st1 := [.int (nI (so to))]) (ctX1_isSoft (c := to) hso (by omega)) kX1_isSoft lX5_51 (by decide) rfl rfl rfl rfl (by exact Nat.le_of_ble_eq_true rfl) dX5_move_125 rfl rfl ?_
            refine n_if_eq (tgt := 136) (by omega) dX5_move_128 (by decide) (fun h128 => ?_) (fun h128 => ?_)
            · refine g_vret rfl dX5_move_136 ?_
              refine gE_i rfl ?_
              rw [hto_] at *
              rw [show sFate h so w0 c0 (sTo h p0 w0 c0 way (sWater la ri s0 l0)) way (sWater la ri (s0 + 1) l0) f0 = f0 by first | (exfalso; omega) | (unfold sFate; rw [if_pos (by omega)]; done) | (unfold sFate; rw [if_neg (by omega), if_pos (by omega)]; done) | (unfold sFate; rw [if_neg (by omega), if_neg (by omega), if_pos (by omega)]; done) | (unfold sFate; rw [if_neg (by omega), if_neg (by omega), if_neg (by omega)]; done)]
            · refine g_aload_n (i := 0) (j := 2) dX5_move_131 rfl rfl ?_
              refine g_iconst (v := nI 3) dX5_move_132 (by decide) ?_
              refine n_putI (ws' := wC e0 e1 e2 (kG3 wk tw sf lo ri la) (kI 10 h) (kZ 10 so) e6 e7 e8 e9 e10 e11 e12 e13 e14 e16 e17 e19 e21 e22 (kP p0 w0 l0 to (s0 + 1) 3) e25 e26) fX5_37 fp_X5_5 rfl (by exact Nat.le_of_ble_eq_true rfl) dX5_move_133 rfl ?_
              refine g_vret rfl dX5_move_136 ?_
              refine gE_i rfl ?_
              rw [hto_] at *
              rw [show sFate h so w0 c0 (sTo h p0 w0 c0 way (sWater la ri s0 l0)) way (sWater la ri (s0 + 1) l0) f0 = 3 by first | (exfalso; omega) | (unfold sFate; rw [if_pos (by omega)]; done) | (unfold sFate; rw [if_neg (by omega), if_pos (by omega)]; done) | (unfold sFate; rw [if_neg (by omega), if_neg (by omega), if_pos (by omega)]; done) | (unfold sFate; rw [if_neg (by omega), if_neg (by omega), if_neg (by omega)]; done)]
        · refine g_aload_n (i := 0) (j := 2) dX5_move_104 rfl rfl ?_
          refine g_iconst (v := nI 2) dX5_move_105 (by decide) ?_
          refine n_putI (ws' := wC e0 e1 e2 (kG3 wk tw sf lo ri la) (kI 10 h) (kZ 10 so) e6 e7 e8 e9 e10 e11 e12 e13 e14 e16 e17 e19 e21 e22 (kP p0 w0 l0 to (s0 + 1) 2) e25 e26) fX5_37 fp_X5_5 rfl (by exact Nat.le_of_ble_eq_true rfl) dX5_move_106 rfl ?_
          refine g_goto (tgt := 136) dX5_move_109 (by decide) ?_
          refine g_vret rfl dX5_move_136 ?_
          refine gE_i rfl ?_
          rw [hto_] at *
          rw [show sFate h so w0 c0 (sTo h p0 w0 c0 way (sWater la ri s0 l0)) way (sWater la ri (s0 + 1) l0) f0 = 2 by first | (exfalso; omega) | (unfold sFate; rw [if_pos (by omega)]; done) | (unfold sFate; rw [if_neg (by omega), if_pos (by omega)]; done) | (unfold sFate; rw [if_neg (by omega), if_neg (by omega), if_pos (by omega)]; done) | (unfold sFate; rw [if_neg (by omega), if_neg (by omega), if_neg (by omega)]; done)]
      · refine g_aload_n (i := 0) (j := 2) dX5_move_60 rfl rfl ?_
        refine g_get fX5_31 rfl rfl dX5_move_61 ?_
        refine g_bipush (v := nI 9) dX5_move_64 (by decide) ?_
        refine n_icmp_ne (tgt := 77) (by omega) (rng_lit 9 rfl) dX5_move_66 (by decide) (fun h66 => ?_) (fun h66 => ?_)
        · refine g_aload_n (i := 1) (j := 3) dX5_move_77 rfl rfl ?_
          refine g_aload_n (i := 0) (j := 2) dX5_move_78 rfl rfl ?_
          refine g_get fX5_31 rfl rfl dX5_move_79 ?_
          refine g_aload_n (i := 1) (j := 3) dX5_move_82 rfl rfl ?_
          refine g_aload_n (i := 0) (j := 2) dX5_move_83 rfl rfl ?_
          refine g_get fX5_34 rfl rfl dX5_move_84 ?_
          refine g_aload_n (i := 0) (j := 2) dX5_move_87 rfl rfl ?_
          refine g_get fX5_30 rfl rfl dX5_move_88 ?_
          refine c_V (st1 := [.int (nI (sWater la ri (s0 + 1) l0)), .int (nI to), .ref 3]) (ctX1_water (st := s0 + 1) (lo2 := l0) (by omega) (by omega) (by omega) (by omega)) kX1_water lX5_40 (by decide) rfl rfl rfl rfl (by exact Nat.le_of_ble_eq_true rfl) dX5_move_91 rfl rfl ?_
          refine c_V (st1 := [.int (nI (sDepth h to (sWater la ri (s0 + 1) l0)))]) (ctX1_depth (c := to) (w := sWater la ri (s0 + 1) l0) hH (by omega) (by omega)) kX1_depth lX5_48 (by decide) rfl rfl rfl rfl (by exact Nat.le_of_ble_eq_true rfl) dX5_move_94 rfl rfl ?_
          refine g_aload_n (i := 0) (j := 2) dX5_move_97 rfl rfl ?_
          refine g_get fX5_24 rfl rfl dX5_move_98 ?_
          refine n_icmp_le (tgt := 112) (by omega) (by omega) dX5_move_101 (by decide) (fun h101 => ?_) (fun h101 => ?_)
          · refine g_aload_n (i := 0) (j := 2) dX5_move_112 rfl rfl ?_
            refine g_get fX5_31 rfl rfl dX5_move_113 ?_
            refine g_iload_n (i := 3) (j := 1) dX5_move_116 rfl rfl ?_
            refine n_icmp_ne (tgt := 136) (by omega) (by omega) dX5_move_117 (by decide) (fun h117 => ?_) (fun h117 => ?_)
            · refine g_vret rfl dX5_move_136 ?_
              refine gE_i rfl ?_
              rw [hto_] at *
              rw [show sFate h so w0 c0 (sTo h p0 w0 c0 way (sWater la ri s0 l0)) way (sWater la ri (s0 + 1) l0) f0 = f0 by first | (exfalso; omega) | (unfold sFate; rw [if_pos (by omega)]; done) | (unfold sFate; rw [if_neg (by omega), if_pos (by omega)]; done) | (unfold sFate; rw [if_neg (by omega), if_neg (by omega), if_pos (by omega)]; done) | (unfold sFate; rw [if_neg (by omega), if_neg (by omega), if_neg (by omega)]; done)]
            · refine g_aload_n (i := 1) (j := 3) dX5_move_120 rfl rfl ?_
              refine g_aload_n (i := 0) (j := 2) dX5_move_121 rfl rfl ?_
              refine g_get fX5_31 rfl rfl dX5_move_122 ?_
              refine c_V (st1 := [.int (nI (so to))]) (ctX1_isSoft (c := to) hso (by omega)) kX1_isSoft lX5_51 (by decide) rfl rfl rfl rfl (by exact Nat.le_of_ble_eq_true rfl) dX5_move_125 rfl rfl ?_
              refine n_if_eq (tgt := 136) (by omega) dX5_move_128 (by decide) (fun h128 => ?_) (fun h128 => ?_)
              · refine g_vret rfl dX5_move_136 ?_
                refine gE_i rfl ?_
                rw [hto_] at *
                rw [show sFate h so w0 c0 (sTo h p0 w0 c0 way (sWater la ri s0 l0)) way (sWater la ri (s0 + 1) l0) f0 = f0 by first | (exfalso; omega) | (unfold sFate; rw [if_pos (by omega)]; done) | (unfold sFate; rw [if_neg (by omega), if_pos (by omega)]; done) | (unfold sFate; rw [if_neg (by omega), if_neg (by omega), if_pos (by omega)]; done) | (unfold sFate; rw [if_neg (by omega), if_neg (by omega), if_neg (by omega)]; done)]
              · refine g_aload_n (i := 0) (j := 2) dX5_move_131 rfl rfl ?_
                refine g_iconst (v := nI 3) dX5_move_132 (by decide) ?_
                refine n_putI (ws' := wC e0 e1 e2 (kG3 wk tw sf lo ri la) (kI 10 h) (kZ 10 so) e6 e7 e8 e9 e10 e11 e12 e13 e14 e16 e17 e19 e21 e22 (kP p0 w0 l0 to (s0 + 1) 3) e25 e26) fX5_37 fp_X5_5 rfl (by exact Nat.le_of_ble_eq_true rfl) dX5_move_133 rfl ?_
                refine g_vret rfl dX5_move_136 ?_
                refine gE_i rfl ?_
                rw [hto_] at *
                rw [show sFate h so w0 c0 (sTo h p0 w0 c0 way (sWater la ri s0 l0)) way (sWater la ri (s0 + 1) l0) f0 = 3 by first | (exfalso; omega) | (unfold sFate; rw [if_pos (by omega)]; done) | (unfold sFate; rw [if_neg (by omega), if_pos (by omega)]; done) | (unfold sFate; rw [if_neg (by omega), if_neg (by omega), if_pos (by omega)]; done) | (unfold sFate; rw [if_neg (by omega), if_neg (by omega), if_neg (by omega)]; done)]
          · refine g_aload_n (i := 0) (j := 2) dX5_move_104 rfl rfl ?_
            refine g_iconst (v := nI 2) dX5_move_105 (by decide) ?_
            refine n_putI (ws' := wC e0 e1 e2 (kG3 wk tw sf lo ri la) (kI 10 h) (kZ 10 so) e6 e7 e8 e9 e10 e11 e12 e13 e14 e16 e17 e19 e21 e22 (kP p0 w0 l0 to (s0 + 1) 2) e25 e26) fX5_37 fp_X5_5 rfl (by exact Nat.le_of_ble_eq_true rfl) dX5_move_106 rfl ?_
            refine g_goto (tgt := 136) dX5_move_109 (by decide) ?_
            refine g_vret rfl dX5_move_136 ?_
            refine gE_i rfl ?_
            rw [hto_] at *
            rw [show sFate h so w0 c0 (sTo h p0 w0 c0 way (sWater la ri s0 l0)) way (sWater la ri (s0 + 1) l0) f0 = 2 by first | (exfalso; omega) | (unfold sFate; rw [if_pos (by omega)]; done) | (unfold sFate; rw [if_neg (by omega), if_pos (by omega)]; done) | (unfold sFate; rw [if_neg (by omega), if_neg (by omega), if_pos (by omega)]; done) | (unfold sFate; rw [if_neg (by omega), if_neg (by omega), if_neg (by omega)]; done)]
        · refine g_aload_n (i := 0) (j := 2) dX5_move_69 rfl rfl ?_
          refine g_iconst (v := nI 1) dX5_move_70 (by decide) ?_
          refine n_putI (ws' := wC e0 e1 e2 (kG3 wk tw sf lo ri la) (kI 10 h) (kZ 10 so) e6 e7 e8 e9 e10 e11 e12 e13 e14 e16 e17 e19 e21 e22 (kP p0 w0 l0 to (s0 + 1) 1) e25 e26) fX5_37 fp_X5_5 rfl (by exact Nat.le_of_ble_eq_true rfl) dX5_move_71 rfl ?_
          refine g_goto (tgt := 136) dX5_move_74 (by decide) ?_
          refine g_vret rfl dX5_move_136 ?_
          refine gE_i rfl ?_
          rw [hto_] at *
          rw [show sFate h so w0 c0 (sTo h p0 w0 c0 way (sWater la ri s0 l0)) way (sWater la ri (s0 + 1) l0) f0 = 1 by first | (exfalso; omega) | (unfold sFate; rw [if_pos (by omega)]; done) | (unfold sFate; rw [if_neg (by omega), if_pos (by omega)]; done) | (unfold sFate; rw [if_neg (by omega), if_neg (by omega), if_pos (by omega)]; done) | (unfold sFate; rw [if_neg (by omega), if_neg (by omega), if_neg (by omega)]; done)]

def sShore (way : Nat) : Nat := if way = 1 then 9 else 0
/-- one goes alone a way till it is on the shore there: at which step -/
def sGone (h so : Nat → Nat) (la ri pa wa lo way : Nat) : Nat → Nat → Nat → Nat → Option Nat
  | 0, _, _, _ => none
  | n + 1, c, s, f => if c = sShore way then some s else if f ≠ 0 ∨ 40 ≤ s then none else
      sGone h so la ri pa wa lo way n (sTo h pa wa c way (sWater la ri s lo)) (s + 1) (sFate h so wa c (sTo h pa wa c way (sWater la ri s lo)) way (sWater la ri (s + 1) lo) f)
def rO : Option Nat → Int32
  | some s => nI s
  | none => -9
/-- the arrival: step, or none -/
def sArr (h so : Nat → Nat) (la ri pa wa lo way c s : Nat) : Option Nat := sGone h so la ri pa wa lo way 41 c s 0
theorem lp_gone {e0 e1 e2 e6 e7 e8 e9 e10 e11 e12 e13 e14 e16 e17 e19 e21 e22 e25 e26 : va_E} {h so : Nat → Nat} {wk tw sf lo ri la : Nat} {p0 w0 l0 : Nat} {way : Nat} (hH : ∀ k, h k ≤ 9) (hso : ∀ k, so k ≤ 1) (hla : la ≤ 9) (hri : ri ≤ 3) (hp : p0 ≤ 3) (hw0 : w0 ≤ 5) (hl0 : l0 ≤ 41) (hway : way ≤ 2) (hway1 : 1 ≤ way) : ∀ (n k c s f : Nat), k + n = 41 → c ≤ 9 → s ≤ 40 → f ≤ 4 → Go mX5_goTillThere 3 15 [(0, .ref 23), (1, .ref 3), (2, .int (nI way)), (3, .int (nI (sShore way))), (4, .int (nI k))] [] (wC e0 e1 e2 (kG3 wk tw sf lo ri la) (kI 10 h) (kZ 10 so) e6 e7 e8 e9 e10 e11 e12 e13 e14 e16 e17 e19 e21 e22 (kP p0 w0 l0 c s f) e25 e26) (fun v u => v = some (.int (rO (sGone h so la ri p0 w0 l0 way n c s f))) ∧ ∃ c2 s2 f2 : Nat, u = wC e0 e1 e2 (kG3 wk tw sf lo ri la) (kI 10 h) (kZ 10 so) e6 e7 e8 e9 e10 e11 e12 e13 e14 e16 e17 e19 e21 e22 (kP p0 w0 l0 c2 s2 f2) e25 e26) := by
  intro n
  have hsh : sShore way ≤ 9 := by unfold sShore; split <;> omega
  induction n with
  | zero =>
    intro k c s f hk hc hs hf
    refine g_iload (j := 4) dX5_goTillThere_15 rfl ?_
    refine g_bipush (v := nI 40) dX5_goTillThere_17 (by decide) ?_
    refine n_icmp_gt (tgt := 66) (by omega) (rng_lit 40 rfl) dX5_goTillThere_19 (by decide) (fun h19 => ?_) (fun h19 => ?_)
    · refine g_bipush (v := (-9)) dX5_goTillThere_66 (by decide) ?_
      refine g_iret rfl rfl dX5_goTillThere_68 ?_
      exact ⟨rfl, _, _, _, rfl⟩
    · exfalso; omega

  | succ n ih =>
    intro k c s f hk hc hs hf
    refine g_iload (j := 4) dX5_goTillThere_15 rfl ?_
    refine g_bipush (v := nI 40) dX5_goTillThere_17 (by decide) ?_
    refine n_icmp_gt (tgt := 66) (by omega) (rng_lit 40 rfl) dX5_goTillThere_19 (by decide) (fun h19 => ?_) (fun h19 => ?_)
    · exfalso; omega
    · refine g_aload_n (i := 0) (j := 0) dX5_goTillThere_22 rfl rfl ?_
      refine g_get fX5_31 rfl rfl dX5_goTillThere_23 ?_
      refine g_iload_n (i := 3) (j := 3) dX5_goTillThere_26 rfl rfl ?_
      refine n_icmp_ne (tgt := 35) (by omega) (by omega) dX5_goTillThere_27 (by decide) (fun h27 => ?_) (fun h27 => ?_)
      · refine g_aload_n (i := 0) (j := 0) dX5_goTillThere_35 rfl rfl ?_
        refine g_get fX5_37 rfl rfl dX5_goTillThere_36 ?_
        refine n_if_ne (tgt := 51) (by omega) dX5_goTillThere_39 (by decide) (fun h39 => ?_) (fun h39 => ?_)
        · refine g_bipush (v := (-9)) dX5_goTillThere_51 (by decide) ?_
          refine g_iret rfl rfl dX5_goTillThere_53 ?_
          refine ⟨?_, _, _, _, rfl⟩
          rw [show sGone h so la ri p0 w0 l0 way (n + 1) c s f = none by rw [sGone, if_neg h27, if_pos (by omega)]]
          rfl
        · refine g_aload_n (i := 0) (j := 0) dX5_goTillThere_42 rfl rfl ?_
          refine g_get fX5_34 rfl rfl dX5_goTillThere_43 ?_
          refine g_bipush (v := nI 40) dX5_goTillThere_46 (by decide) ?_
          refine n_icmp_lt (tgt := 54) (by omega) (rng_lit 40 rfl) dX5_goTillThere_48 (by decide) (fun h48 => ?_) (fun h48 => ?_)
          · refine g_aload_n (i := 0) (j := 0) dX5_goTillThere_54 rfl rfl ?_
            refine g_aload_n (i := 1) (j := 1) dX5_goTillThere_55 rfl rfl ?_
            refine g_iload_n (i := 2) (j := 2) dX5_goTillThere_56 rfl rfl ?_
            refine c_V (st1 := []) (ctX5_move (way := way) hH hso (by omega) (by omega) (by omega) (by omega) (by omega) (by omega) (by omega) (by omega) (by omega)) kX5_move lX5_55 (by decide) rfl rfl rfl rfl (by exact Nat.le_of_ble_eq_true rfl) dX5_goTillThere_57 rfl rfl ?_
            refine n_inc (x := k) (j := 4) (lv' := [(4, .int (nI (k + 1))), (0, .ref 23), (1, .ref 3), (2, .int (nI way)), (3, .int (nI (sShore way)))]) dX5_goTillThere_60 rfl (by decide) rfl ?_
            refine g_goto (tgt := 15) dX5_goTillThere_63 (by decide) ?_
            refine g_lv [1, 2, 3, 4, 0] rfl ?_
            refine g_post ?_ (ih (k + 1) _ _ _ (by omega) (sTo_le _ _ _ _ _ _ hc) (by omega) (sFate_le _ _ _ _ _ _ _ _ hf))
            intro v u hvu
            rw [show sGone h so la ri p0 w0 l0 way (n + 1) c s f = sGone h so la ri p0 w0 l0 way n (sTo h p0 w0 c way (sWater la ri s l0)) (s + 1) (sFate h so w0 c (sTo h p0 w0 c way (sWater la ri s l0)) way (sWater la ri (s + 1) l0) f) by rw [sGone, if_neg h27, if_neg (by omega)]]
            exact hvu
          · refine g_bipush (v := (-9)) dX5_goTillThere_51 (by decide) ?_
            refine g_iret rfl rfl dX5_goTillThere_53 ?_
            refine ⟨?_, _, _, _, rfl⟩
            rw [show sGone h so la ri p0 w0 l0 way (n + 1) c s f = none by rw [sGone, if_neg h27, if_pos (by omega)]]
            rfl
      · refine g_aload_n (i := 0) (j := 0) dX5_goTillThere_30 rfl rfl ?_
        refine g_get fX5_34 rfl rfl dX5_goTillThere_31 ?_
        refine g_iret rfl rfl dX5_goTillThere_34 ?_
        refine ⟨?_, _, _, _, rfl⟩
        rw [show sGone h so la ri p0 w0 l0 way (n + 1) c s f = some s by rw [sGone, if_pos h27]]
        rfl

theorem ctX5_goTillThere {e0 e1 e2 e6 e7 e8 e9 e10 e11 e12 e13 e14 e16 e17 e19 e21 e22 e25 e26 : va_E} {h so : Nat → Nat} {wk tw sf lo ri la : Nat} {p0 w0 l0 c0 s0 f0 : Nat} {way : Nat} (hH : ∀ k, h k ≤ 9) (hso : ∀ k, so k ≤ 1) (hla : la ≤ 9) (hri : ri ≤ 3) (hp : p0 ≤ 3) (hw0 : w0 ≤ 5) (hl0 : l0 ≤ 41) (hway : way ≤ 2) (hway1 : 1 ≤ way) (hc : c0 ≤ 9) (hs : s0 ≤ 40) (hf : f0 ≤ 4) : Ct mX5_goTillThere 3 [.ref 23, .ref 3, .int (nI way)] (wC e0 e1 e2 (kG3 wk tw sf lo ri la) (kI 10 h) (kZ 10 so) e6 e7 e8 e9 e10 e11 e12 e13 e14 e16 e17 e19 e21 e22 (kP p0 w0 l0 c0 s0 f0) e25 e26) (fun v u => v = some (.int (rO (sGone h so la ri p0 w0 l0 way 41 c0 s0 f0))) ∧ ∃ c2 s2 f2 : Nat, u = wC e0 e1 e2 (kG3 wk tw sf lo ri la) (kI 10 h) (kZ 10 so) e6 e7 e8 e9 e10 e11 e12 e13 e14 e16 e17 e19 e21 e22 (kP p0 w0 l0 c2 s2 f2) e25 e26) := by
  refine Ct.of (by decide) (by exact Nat.le_of_ble_eq_true rfl) ?_
  show Go mX5_goTillThere 3 0 [(0, .ref 23), (1, .ref 3), (2, .int (nI way))] [] (wC e0 e1 e2 (kG3 wk tw sf lo ri la) (kI 10 h) (kZ 10 so) e6 e7 e8 e9 e10 e11 e12 e13 e14 e16 e17 e19 e21 e22 (kP p0 w0 l0 c0 s0 f0) e25 e26) (fun v u => v = some (.int (rO (sGone h so la ri p0 w0 l0 way 41 c0 s0 f0))) ∧ ∃ c2 s2 f2 : Nat, u = wC e0 e1 e2 (kG3 wk tw sf lo ri la) (kI 10 h) (kZ 10 so) e6 e7 e8 e9 e10 e11 e12 e13 e14 e16 e17 e19 e21 e22 (kP p0 w0 l0 c2 s2 f2) e25 e26)
  refine g_iload_n (i := 2) (j := 2) dX5_goTillThere_0 rfl rfl ?_
  refine g_iconst (v := nI 1) dX5_goTillThere_1 (by decide) ?_
  refine n_icmp_ne (tgt := 10) (by omega) (rng_lit 1 rfl) dX5_goTillThere_2 (by decide) (fun h2 => ?_) (fun h2 => ?_)
  · refine g_iconst (v := nI 0) dX5_goTillThere_10 (by decide) ?_
    refine g_topi (y := nI (sShore way)) (by unfold sShore; rw [if_neg (by omega)]) ?_
    refine g_istore_n (i := 3) (lv' := [(3, .int (nI (sShore way))), (0, .ref 23), (1, .ref 3), (2, .int (nI way))]) dX5_goTillThere_11 rfl (by decide) rfl ?_
    refine g_iconst (v := nI 0) dX5_goTillThere_12 (by decide) ?_
    refine g_istore (lv' := [(4, .int (nI 0)), (3, .int (nI (sShore way))), (0, .ref 23), (1, .ref 3), (2, .int (nI way))]) dX5_goTillThere_13 (by decide) rfl ?_
    refine g_lv [2, 3, 4, 1, 0] rfl ?_
    exact lp_gone hH hso hla hri hp hw0 hl0 hway hway1 41 0 c0 s0 f0 (by omega) hc hs hf
  · refine g_bipush (v := nI 9) dX5_goTillThere_5 (by decide) ?_
    refine g_goto (tgt := 11) dX5_goTillThere_7 (by decide) ?_
    refine g_topi (y := nI (sShore way)) (by unfold sShore; rw [if_pos (by omega)]) ?_
    refine g_istore_n (i := 3) (lv' := [(3, .int (nI (sShore way))), (0, .ref 23), (1, .ref 3), (2, .int (nI way))]) dX5_goTillThere_11 rfl (by decide) rfl ?_
    refine g_iconst (v := nI 0) dX5_goTillThere_12 (by decide) ?_
    refine g_istore (lv' := [(4, .int (nI 0)), (3, .int (nI (sShore way))), (0, .ref 23), (1, .ref 3), (2, .int (nI way))]) dX5_goTillThere_13 (by decide) rfl ?_
    refine g_lv [2, 3, 4, 1, 0] rfl ?_
    exact lp_gone hH hso hla hri hp hw0 hl0 hway hway1 41 0 c0 s0 f0 (by omega) hc hs hf
end
section
/-! part 11: Moment, Shelf, Acts -/
theorem g_lvE {M : gM} {d pc : Nat} {lv lv' : List (Nat × Value)} {st : List Value} {ws : List va_E} {Post : Option Value → List va_E → Prop} (h : lv = lv') (k : Go M d pc lv' st ws Post) : Go M d pc lv st ws Post := h ▸ k
def zf (n : Nat) (f : Nat → Nat) : Nat → Nat := fun j => if j < n then 0 else f j
theorem zf_0 (f : Nat → Nat) : zf 0 f = f := by funext j; simp [zf]
theorem zf_s (n : Nat) (f : Nat → Nat) : va_up (zf n f) n 0 = zf (n + 1) f := by
  funext j
  simp only [va_up, zf]
  by_cases h : j = n
  · subst h; simp
  · by_cases h2 : j < n
    · rw [if_neg h, if_pos h2, if_pos (by omega)]
    · rw [if_neg h, if_neg h2, if_neg (by omega)]
/-- a set of walkers as bits; how many of them there are -/
def sSet (p : Nat → Bool) : Nat → Nat
  | 0 => 0
  | n + 1 => sSet p n + if p n then 2 ^ n else 0
def sCnt (p : Nat → Bool) : Nat → Nat
  | 0 => 0
  | n + 1 => sCnt p n + if p n then 1 else 0
theorem sSet_lt (p : Nat → Bool) : ∀ n, sSet p n < 2 ^ n
  | 0 => by simp [sSet]
  | n + 1 => by
    have ih := sSet_lt p n
    rw [sSet, Nat.pow_succ]
    split <;> omega
theorem sCnt_le (p : Nat → Bool) : ∀ n, sCnt p n ≤ n
  | 0 => Nat.le_refl _
  | n + 1 => by
    have ih := sCnt_le p n
    rw [sCnt]
    split <;> omega
theorem sSet_32 (p : Nat → Bool) {n : Nat} (h : n ≤ 5) : sSet p n < 32 := Nat.lt_of_lt_of_le (sSet_lt p n) (Nat.pow_le_pow_right (by omega) h)
theorem sSet_congr {p q : Nat → Bool} : ∀ {n : Nat}, (∀ k, k < n → p k = q k) → sSet p n = sSet q n
  | 0, _ => rfl
  | n + 1, h => by rw [sSet, sSet, sSet_congr (fun k hk => h k (by omega)), h n (by omega)]
theorem sCnt_congr {p q : Nat → Bool} : ∀ {n : Nat}, (∀ k, k < n → p k = q k) → sCnt p n = sCnt q n
  | 0, _ => rfl
  | n + 1, h => by rw [sCnt, sCnt, sCnt_congr (fun k hk => h k (by omega)), h n (by omega)]
theorem or_bit : ∀ w, w < 5 → ∀ a, a < 2 ^ w → nI a ||| (nI 1 <<< (nI w &&& 31)) = nI (a + 2 ^ w) := by decide +kernel
theorem shr_bit : ∀ w, w < 5 → ∀ a, a < 32 → (nI a >>> (nI w &&& 31)) &&& nI 1 = nI (a / 2 ^ w % 2) := by decide +kernel
theorem sSet_bit5 : ∀ b0 b1 b2 b3 b4 : Bool, ∀ n, n ≤ 5 → ∀ w, w < 5 → sSet (fun k => [b0, b1, b2, b3, b4].getD k false) n / 2 ^ w % 2 = if decide (w < n) && [b0, b1, b2, b3, b4].getD w false then 1 else 0 := by decide +kernel
theorem sSet_bit (p : Nat → Bool) {n w : Nat} (hn : n ≤ 5) (hw : w < 5) : sSet p n / 2 ^ w % 2 = if decide (w < n) && p w then 1 else 0 := by
  have h := sSet_bit5 (p 0) (p 1) (p 2) (p 3) (p 4) n hn w hw
  have e : ∀ k, k < 5 → ([p 0, p 1, p 2, p 3, p 4] : List Bool).getD k false = p k := by
    intro k hk
    match k, hk with
    | 0, _ => rfl
    | 1, _ => rfl
    | 2, _ => rfl
    | 3, _ => rfl
    | 4, _ => rfl
  rw [e w hw] at h
  rw [← h, sSet_congr (fun k hk => (e k (by omega)).symm)]
theorem lp_mclear {e0 e1 e2 e3 e4 e5 e6 e7 e8 e9 e10 e11 e12 e13 e14 e17 e19 e21 e22 e23 e25 e26 : va_E} {r : Nat → Nat} : ∀ (n i : Nat), i + n = 16 → Go mX2_clear 0 2 [(0, .ref 15), (1, .int (nI i))] [] (wC e0 e1 e2 e3 e4 e5 e6 e7 e8 e9 e10 e11 e12 e13 e14 (kI 16 (zf i r)) e17 e19 e21 e22 e23 e25 e26) (gE none (wC e0 e1 e2 e3 e4 e5 e6 e7 e8 e9 e10 e11 e12 e13 e14 (kI 16 (zf 16 r)) e17 e19 e21 e22 e23 e25 e26)) := by
  intro n
  induction n with
  | zero =>
    intro i hi
    obtain rfl : i = 16 := by omega
    refine g_iload_n (i := 1) (j := 1) dX2_clear_2 rfl rfl ?_
    refine g_bipush (v := nI 16) dX2_clear_3 (by decide) ?_
    refine n_icmp_ge (tgt := 21) (rng_lit 16 rfl) (rng_lit 16 rfl) dX2_clear_5 (by decide) (fun h5 => ?_) (fun h5 => ?_)
    · refine g_vret rfl dX2_clear_21 ?_
      exact gE_i rfl rfl
    · exact absurd h5 (by decide)

  | succ n ih =>
    intro i hi
    refine g_iload_n (i := 1) (j := 1) dX2_clear_2 rfl rfl ?_
    refine g_bipush (v := nI 16) dX2_clear_3 (by decide) ?_
    refine n_icmp_ge (tgt := 21) (by omega) (rng_lit 16 rfl) dX2_clear_5 (by decide) (fun h5 => ?_) (fun h5 => ?_)
    · exfalso; omega
    · refine g_aload_n (i := 0) (j := 0) dX2_clear_8 rfl rfl ?_
      refine g_get fX2_11 rfl rfl dX2_clear_9 ?_
      refine g_iload_n (i := 1) (j := 1) dX2_clear_12 rfl rfl ?_
      refine g_iconst (v := nI 0) dX2_clear_13 (by decide) ?_
      refine n_iast (x := i) (ws' := wC e0 e1 e2 e3 e4 e5 e6 e7 e8 e9 e10 e11 e12 e13 e14 (kI 16 (va_up (zf i r) i 0)) e17 e19 e21 e22 e23 e25 e26) rfl (by omega) (rng_lit 16 rfl) dX2_clear_14 rfl ?_
      refine n_inc (x := i) (j := 1) (lv' := [(1, .int (nI (i + 1))), (0, .ref 15)]) dX2_clear_15 rfl (by decide) rfl ?_
      refine g_goto (tgt := 2) dX2_clear_18 (by decide) ?_
      refine g_lv [1, 0] rfl ?_
      refine g_ws (ws' := wC e0 e1 e2 e3 e4 e5 e6 e7 e8 e9 e10 e11 e12 e13 e14 (kI 16 (zf (i + 1) r)) e17 e19 e21 e22 e23 e25 e26) (by rw [zf_s]) ?_
      exact ih (i + 1) (by omega)

theorem ctX2_clear {e0 e1 e2 e3 e4 e5 e6 e7 e8 e9 e10 e11 e12 e13 e14 e17 e19 e21 e22 e23 e25 e26 : va_E} {r : Nat → Nat} : Ct mX2_clear 0 [.ref 15] (wC e0 e1 e2 e3 e4 e5 e6 e7 e8 e9 e10 e11 e12 e13 e14 (kI 16 r) e17 e19 e21 e22 e23 e25 e26) (gE none (wC e0 e1 e2 e3 e4 e5 e6 e7 e8 e9 e10 e11 e12 e13 e14 (kI 16 (zf 16 r)) e17 e19 e21 e22 e23 e25 e26)) := by
  refine Ct.of (by decide) (by exact Nat.le_of_ble_eq_true rfl) ?_
  show Go mX2_clear 0 0 [(0, .ref 15)] [] (wC e0 e1 e2 e3 e4 e5 e6 e7 e8 e9 e10 e11 e12 e13 e14 (kI 16 r) e17 e19 e21 e22 e23 e25 e26) (gE none (wC e0 e1 e2 e3 e4 e5 e6 e7 e8 e9 e10 e11 e12 e13 e14 (kI 16 (zf 16 r)) e17 e19 e21 e22 e23 e25 e26))
  refine g_iconst (v := nI 0) dX2_clear_0 (by decide) ?_
  refine g_istore_n (i := 1) (lv' := [(1, .int (nI 0)), (0, .ref 15)]) dX2_clear_1 rfl (by decide) rfl ?_
  refine g_lv [1, 0] rfl ?_
  refine g_ws (ws' := wC e0 e1 e2 e3 e4 e5 e6 e7 e8 e9 e10 e11 e12 e13 e14 (kI 16 (zf 0 r)) e17 e19 e21 e22 e23 e25 e26) (by rw [zf_0]) ?_
  exact lp_mclear 16 0 (by omega)

theorem ctX2_time {e0 e1 e2 e3 e4 e5 e6 e7 e8 e9 e10 e11 e12 e13 e14 e17 e19 e21 e22 e23 e25 e26 : va_E} {r : Nat → Nat} : Ct mX2_time 0 [.ref 15] (wC e0 e1 e2 e3 e4 e5 e6 e7 e8 e9 e10 e11 e12 e13 e14 (kI 16 r) e17 e19 e21 e22 e23 e25 e26) (gE (some (.int (nI (r 0)))) (wC e0 e1 e2 e3 e4 e5 e6 e7 e8 e9 e10 e11 e12 e13 e14 (kI 16 r) e17 e19 e21 e22 e23 e25 e26)) := by
  refine Ct.of (by decide) (by exact Nat.le_of_ble_eq_true rfl) ?_
  show Go mX2_time 0 0 [(0, .ref 15)] [] (wC e0 e1 e2 e3 e4 e5 e6 e7 e8 e9 e10 e11 e12 e13 e14 (kI 16 r) e17 e19 e21 e22 e23 e25 e26) (gE (some (.int (nI (r 0)))) (wC e0 e1 e2 e3 e4 e5 e6 e7 e8 e9 e10 e11 e12 e13 e14 (kI 16 r) e17 e19 e21 e22 e23 e25 e26))
  refine g_aload_n (i := 0) (j := 0) dX2_time_0 rfl rfl ?_
  refine g_get fX2_11 rfl rfl dX2_time_1 ?_
  refine g_iconst (v := nI 0) dX2_time_4 (by decide) ?_
  refine n_iald (x := 0) rfl (by omega) (rng_lit 16 rfl) dX2_time_5 ?_
  refine g_iret rfl rfl dX2_time_6 ?_
  exact gE_i rfl rfl

theorem ctX2_setTime {e0 e1 e2 e3 e4 e5 e6 e7 e8 e9 e10 e11 e12 e13 e14 e17 e19 e21 e22 e23 e25 e26 : va_E} {r : Nat → Nat} {x : Nat} : Ct mX2_setTime 0 [.ref 15, .int (nI x)] (wC e0 e1 e2 e3 e4 e5 e6 e7 e8 e9 e10 e11 e12 e13 e14 (kI 16 r) e17 e19 e21 e22 e23 e25 e26) (gE none (wC e0 e1 e2 e3 e4 e5 e6 e7 e8 e9 e10 e11 e12 e13 e14 (kI 16 (va_up r 0 x)) e17 e19 e21 e22 e23 e25 e26)) := by
  refine Ct.of (by decide) (by exact Nat.le_of_ble_eq_true rfl) ?_
  show Go mX2_setTime 0 0 [(0, .ref 15), (1, .int (nI x))] [] (wC e0 e1 e2 e3 e4 e5 e6 e7 e8 e9 e10 e11 e12 e13 e14 (kI 16 r) e17 e19 e21 e22 e23 e25 e26) (gE none (wC e0 e1 e2 e3 e4 e5 e6 e7 e8 e9 e10 e11 e12 e13 e14 (kI 16 (va_up r 0 x)) e17 e19 e21 e22 e23 e25 e26))
  refine g_aload_n (i := 0) (j := 0) dX2_setTime_0 rfl rfl ?_
  refine g_get fX2_11 rfl rfl dX2_setTime_1 ?_
  refine g_iconst (v := nI 0) dX2_setTime_4 (by decide) ?_
  refine g_iload_n (i := 1) (j := 1) dX2_setTime_5 rfl rfl ?_
  refine n_iast (x := 0) (ws' := wC e0 e1 e2 e3 e4 e5 e6 e7 e8 e9 e10 e11 e12 e13 e14 (kI 16 (va_up r 0 x)) e17 e19 e21 e22 e23 e25 e26) rfl (by omega) (rng_lit 16 rfl) dX2_setTime_6 rfl ?_
  refine g_vret rfl dX2_setTime_7 ?_
  exact gE_i rfl rfl

theorem ctX2_valueOf {e0 e1 e2 e3 e4 e5 e6 e7 e8 e9 e10 e11 e12 e13 e14 e17 e19 e21 e22 e23 e25 e26 : va_E} {r : Nat → Nat} {p k : Nat} (h1 : k < 5) (h2 : p ≤ 11) : Ct mX2_valueOf 0 [.ref 15, .int (nI p), .int (nI k)] (wC e0 e1 e2 e3 e4 e5 e6 e7 e8 e9 e10 e11 e12 e13 e14 (kI 16 r) e17 e19 e21 e22 e23 e25 e26) (gE (some (.int (nI (r (p + k))))) (wC e0 e1 e2 e3 e4 e5 e6 e7 e8 e9 e10 e11 e12 e13 e14 (kI 16 r) e17 e19 e21 e22 e23 e25 e26)) := by
  refine Ct.of (by decide) (by exact Nat.le_of_ble_eq_true rfl) ?_
  show Go mX2_valueOf 0 0 [(0, .ref 15), (1, .int (nI p)), (2, .int (nI k))] [] (wC e0 e1 e2 e3 e4 e5 e6 e7 e8 e9 e10 e11 e12 e13 e14 (kI 16 r) e17 e19 e21 e22 e23 e25 e26) (gE (some (.int (nI (r (p + k))))) (wC e0 e1 e2 e3 e4 e5 e6 e7 e8 e9 e10 e11 e12 e13 e14 (kI 16 r) e17 e19 e21 e22 e23 e25 e26))
  refine g_iload_n (i := 2) (j := 2) dX2_valueOf_0 rfl rfl ?_
  refine n_if_lt (tgt := 20) (by omega) dX2_valueOf_1 (by decide) ?_
  refine g_iload_n (i := 2) (j := 2) dX2_valueOf_4 rfl rfl ?_
  refine g_iconst (v := nI 5) dX2_valueOf_5 (by decide) ?_
  refine n_icmp_ge (tgt := 20) (by omega) (rng_lit 5 rfl) dX2_valueOf_6 (by decide) (fun h6 => ?_) (fun h6 => ?_)
  · exfalso; omega
  · refine g_aload_n (i := 0) (j := 0) dX2_valueOf_9 rfl rfl ?_
    refine g_get fX2_11 rfl rfl dX2_valueOf_10 ?_
    refine g_iload_n (i := 1) (j := 1) dX2_valueOf_13 rfl rfl ?_
    refine g_iload_n (i := 2) (j := 2) dX2_valueOf_14 rfl rfl ?_
    refine n_iadd (a := p) (b := k) dX2_valueOf_15 ?_
    refine n_iald (x := (p + k)) rfl (by omega) (rng_lit 16 rfl) dX2_valueOf_16 ?_
    refine g_goto (tgt := 21) dX2_valueOf_17 (by decide) ?_
    refine g_iret rfl rfl dX2_valueOf_21 ?_
    exact gE_i rfl rfl

theorem ctX2_setValue {e0 e1 e2 e3 e4 e5 e6 e7 e8 e9 e10 e11 e12 e13 e14 e17 e19 e21 e22 e23 e25 e26 : va_E} {r : Nat → Nat} {p k x : Nat} (h1 : k < 5) (h2 : p ≤ 11) : Ct mX2_setValue 0 [.ref 15, .int (nI p), .int (nI k), .int (nI x)] (wC e0 e1 e2 e3 e4 e5 e6 e7 e8 e9 e10 e11 e12 e13 e14 (kI 16 r) e17 e19 e21 e22 e23 e25 e26) (gE none (wC e0 e1 e2 e3 e4 e5 e6 e7 e8 e9 e10 e11 e12 e13 e14 (kI 16 (va_up r (p + k) x)) e17 e19 e21 e22 e23 e25 e26)) := by
  refine Ct.of (by decide) (by exact Nat.le_of_ble_eq_true rfl) ?_
  show Go mX2_setValue 0 0 [(0, .ref 15), (1, .int (nI p)), (2, .int (nI k)), (3, .int (nI x))] [] (wC e0 e1 e2 e3 e4 e5 e6 e7 e8 e9 e10 e11 e12 e13 e14 (kI 16 r) e17 e19 e21 e22 e23 e25 e26) (gE none (wC e0 e1 e2 e3 e4 e5 e6 e7 e8 e9 e10 e11 e12 e13 e14 (kI 16 (va_up r (p + k) x)) e17 e19 e21 e22 e23 e25 e26))
  refine g_iload_n (i := 2) (j := 2) dX2_setValue_0 rfl rfl ?_
  refine n_if_lt (tgt := 18) (by omega) dX2_setValue_1 (by decide) ?_
  refine g_iload_n (i := 2) (j := 2) dX2_setValue_4 rfl rfl ?_
  refine g_iconst (v := nI 5) dX2_setValue_5 (by decide) ?_
  refine n_icmp_ge (tgt := 18) (by omega) (rng_lit 5 rfl) dX2_setValue_6 (by decide) (fun h6 => ?_) (fun h6 => ?_)
  · exfalso; omega
  · refine g_aload_n (i := 0) (j := 0) dX2_setValue_9 rfl rfl ?_
    refine g_get fX2_11 rfl rfl dX2_setValue_10 ?_
    refine g_iload_n (i := 1) (j := 1) dX2_setValue_13 rfl rfl ?_
    refine g_iload_n (i := 2) (j := 2) dX2_setValue_14 rfl rfl ?_
    refine n_iadd (a := p) (b := k) dX2_setValue_15 ?_
    refine g_iload_n (i := 3) (j := 3) dX2_setValue_16 rfl rfl ?_
    refine n_iast (x := (p + k)) (ws' := wC e0 e1 e2 e3 e4 e5 e6 e7 e8 e9 e10 e11 e12 e13 e14 (kI 16 (va_up r (p + k) x)) e17 e19 e21 e22 e23 e25 e26) rfl (by omega) (rng_lit 16 rfl) dX2_setValue_17 rfl ?_
    refine g_vret rfl dX2_setValue_18 ?_
    exact gE_i rfl rfl

theorem ctX2_cellOf {e0 e1 e2 e3 e4 e5 e6 e7 e8 e9 e10 e11 e12 e13 e14 e17 e19 e21 e22 e23 e25 e26 : va_E} {r : Nat → Nat} {k : Nat} (h1 : k < 5) : Ct mX2_cellOf 1 [.ref 15, .int (nI k)] (wC e0 e1 e2 e3 e4 e5 e6 e7 e8 e9 e10 e11 e12 e13 e14 (kI 16 r) e17 e19 e21 e22 e23 e25 e26) (gE (some (.int (nI (r (1 + k))))) (wC e0 e1 e2 e3 e4 e5 e6 e7 e8 e9 e10 e11 e12 e13 e14 (kI 16 r) e17 e19 e21 e22 e23 e25 e26)) := by
  refine Ct.of (by decide) (by exact Nat.le_of_ble_eq_true rfl) ?_
  show Go mX2_cellOf 1 0 [(0, .ref 15), (1, .int (nI k))] [] (wC e0 e1 e2 e3 e4 e5 e6 e7 e8 e9 e10 e11 e12 e13 e14 (kI 16 r) e17 e19 e21 e22 e23 e25 e26) (gE (some (.int (nI (r (1 + k))))) (wC e0 e1 e2 e3 e4 e5 e6 e7 e8 e9 e10 e11 e12 e13 e14 (kI 16 r) e17 e19 e21 e22 e23 e25 e26))
  refine g_aload_n (i := 0) (j := 0) dX2_cellOf_0 rfl rfl ?_
  refine g_iconst (v := nI 1) dX2_cellOf_1 (by decide) ?_
  refine g_iload_n (i := 1) (j := 1) dX2_cellOf_2 rfl rfl ?_
  refine c_V (st1 := [.int (nI (r (1 + k)))]) (ctX2_valueOf (p := 1) (k := k) (by omega) (by omega)) kX2_valueOf lX2_15 (by decide) rfl rfl rfl rfl (by exact Nat.le_of_ble_eq_true rfl) dX2_cellOf_3 rfl rfl ?_
  refine g_iret rfl rfl dX2_cellOf_6 ?_
  exact gE_i rfl rfl

theorem ctX2_setCell {e0 e1 e2 e3 e4 e5 e6 e7 e8 e9 e10 e11 e12 e13 e14 e17 e19 e21 e22 e23 e25 e26 : va_E} {r : Nat → Nat} {k x : Nat} (h1 : k < 5) : Ct mX2_setCell 1 [.ref 15, .int (nI k), .int (nI x)] (wC e0 e1 e2 e3 e4 e5 e6 e7 e8 e9 e10 e11 e12 e13 e14 (kI 16 r) e17 e19 e21 e22 e23 e25 e26) (gE none (wC e0 e1 e2 e3 e4 e5 e6 e7 e8 e9 e10 e11 e12 e13 e14 (kI 16 (va_up r (1 + k) x)) e17 e19 e21 e22 e23 e25 e26)) := by
  refine Ct.of (by decide) (by exact Nat.le_of_ble_eq_true rfl) ?_
  show Go mX2_setCell 1 0 [(0, .ref 15), (1, .int (nI k)), (2, .int (nI x))] [] (wC e0 e1 e2 e3 e4 e5 e6 e7 e8 e9 e10 e11 e12 e13 e14 (kI 16 r) e17 e19 e21 e22 e23 e25 e26) (gE none (wC e0 e1 e2 e3 e4 e5 e6 e7 e8 e9 e10 e11 e12 e13 e14 (kI 16 (va_up r (1 + k) x)) e17 e19 e21 e22 e23 e25 e26))
  refine g_aload_n (i := 0) (j := 0) dX2_setCell_0 rfl rfl ?_
  refine g_iconst (v := nI 1) dX2_setCell_1 (by decide) ?_
  refine g_iload_n (i := 1) (j := 1) dX2_setCell_2 rfl rfl ?_
  refine g_iload_n (i := 2) (j := 2) dX2_setCell_3 rfl rfl ?_
  refine c_V (st1 := []) (ctX2_setValue (p := 1) (k := k) (x := x) (by omega) (by omega)) kX2_setValue lX2_19 (by decide) rfl rfl rfl rfl (by exact Nat.le_of_ble_eq_true rfl) dX2_setCell_4 rfl rfl ?_
  refine g_vret rfl dX2_setCell_7 ?_
  exact gE_i rfl rfl

theorem ctX2_wayOf {e0 e1 e2 e3 e4 e5 e6 e7 e8 e9 e10 e11 e12 e13 e14 e17 e19 e21 e22 e23 e25 e26 : va_E} {r : Nat → Nat} {k : Nat} (h1 : k < 5) : Ct mX2_wayOf 1 [.ref 15, .int (nI k)] (wC e0 e1 e2 e3 e4 e5 e6 e7 e8 e9 e10 e11 e12 e13 e14 (kI 16 r) e17 e19 e21 e22 e23 e25 e26) (gE (some (.int (nI (r (6 + k))))) (wC e0 e1 e2 e3 e4 e5 e6 e7 e8 e9 e10 e11 e12 e13 e14 (kI 16 r) e17 e19 e21 e22 e23 e25 e26)) := by
  refine Ct.of (by decide) (by exact Nat.le_of_ble_eq_true rfl) ?_
  show Go mX2_wayOf 1 0 [(0, .ref 15), (1, .int (nI k))] [] (wC e0 e1 e2 e3 e4 e5 e6 e7 e8 e9 e10 e11 e12 e13 e14 (kI 16 r) e17 e19 e21 e22 e23 e25 e26) (gE (some (.int (nI (r (6 + k))))) (wC e0 e1 e2 e3 e4 e5 e6 e7 e8 e9 e10 e11 e12 e13 e14 (kI 16 r) e17 e19 e21 e22 e23 e25 e26))
  refine g_aload_n (i := 0) (j := 0) dX2_wayOf_0 rfl rfl ?_
  refine g_bipush (v := nI 6) dX2_wayOf_1 (by decide) ?_
  refine g_iload_n (i := 1) (j := 1) dX2_wayOf_3 rfl rfl ?_
  refine c_V (st1 := [.int (nI (r (6 + k)))]) (ctX2_valueOf (p := 6) (k := k) (by omega) (by omega)) kX2_valueOf lX2_15 (by decide) rfl rfl rfl rfl (by exact Nat.le_of_ble_eq_true rfl) dX2_wayOf_4 rfl rfl ?_
  refine g_iret rfl rfl dX2_wayOf_7 ?_
  exact gE_i rfl rfl

theorem ctX2_setWay {e0 e1 e2 e3 e4 e5 e6 e7 e8 e9 e10 e11 e12 e13 e14 e17 e19 e21 e22 e23 e25 e26 : va_E} {r : Nat → Nat} {k x : Nat} (h1 : k < 5) : Ct mX2_setWay 1 [.ref 15, .int (nI k), .int (nI x)] (wC e0 e1 e2 e3 e4 e5 e6 e7 e8 e9 e10 e11 e12 e13 e14 (kI 16 r) e17 e19 e21 e22 e23 e25 e26) (gE none (wC e0 e1 e2 e3 e4 e5 e6 e7 e8 e9 e10 e11 e12 e13 e14 (kI 16 (va_up r (6 + k) x)) e17 e19 e21 e22 e23 e25 e26)) := by
  refine Ct.of (by decide) (by exact Nat.le_of_ble_eq_true rfl) ?_
  show Go mX2_setWay 1 0 [(0, .ref 15), (1, .int (nI k)), (2, .int (nI x))] [] (wC e0 e1 e2 e3 e4 e5 e6 e7 e8 e9 e10 e11 e12 e13 e14 (kI 16 r) e17 e19 e21 e22 e23 e25 e26) (gE none (wC e0 e1 e2 e3 e4 e5 e6 e7 e8 e9 e10 e11 e12 e13 e14 (kI 16 (va_up r (6 + k) x)) e17 e19 e21 e22 e23 e25 e26))
  refine g_aload_n (i := 0) (j := 0) dX2_setWay_0 rfl rfl ?_
  refine g_bipush (v := nI 6) dX2_setWay_1 (by decide) ?_
  refine g_iload_n (i := 1) (j := 1) dX2_setWay_3 rfl rfl ?_
  refine g_iload_n (i := 2) (j := 2) dX2_setWay_4 rfl rfl ?_
  refine c_V (st1 := []) (ctX2_setValue (p := 6) (k := k) (x := x) (by omega) (by omega)) kX2_setValue lX2_19 (by decide) rfl rfl rfl rfl (by exact Nat.le_of_ble_eq_true rfl) dX2_setWay_5 rfl rfl ?_
  refine g_vret rfl dX2_setWay_8 ?_
  exact gE_i rfl rfl

theorem ctX2_fateOf {e0 e1 e2 e3 e4 e5 e6 e7 e8 e9 e10 e11 e12 e13 e14 e17 e19 e21 e22 e23 e25 e26 : va_E} {r : Nat → Nat} {k : Nat} (h1 : k < 5) : Ct mX2_fateOf 1 [.ref 15, .int (nI k)] (wC e0 e1 e2 e3 e4 e5 e6 e7 e8 e9 e10 e11 e12 e13 e14 (kI 16 r) e17 e19 e21 e22 e23 e25 e26) (gE (some (.int (nI (r (11 + k))))) (wC e0 e1 e2 e3 e4 e5 e6 e7 e8 e9 e10 e11 e12 e13 e14 (kI 16 r) e17 e19 e21 e22 e23 e25 e26)) := by
  refine Ct.of (by decide) (by exact Nat.le_of_ble_eq_true rfl) ?_
  show Go mX2_fateOf 1 0 [(0, .ref 15), (1, .int (nI k))] [] (wC e0 e1 e2 e3 e4 e5 e6 e7 e8 e9 e10 e11 e12 e13 e14 (kI 16 r) e17 e19 e21 e22 e23 e25 e26) (gE (some (.int (nI (r (11 + k))))) (wC e0 e1 e2 e3 e4 e5 e6 e7 e8 e9 e10 e11 e12 e13 e14 (kI 16 r) e17 e19 e21 e22 e23 e25 e26))
  refine g_aload_n (i := 0) (j := 0) dX2_fateOf_0 rfl rfl ?_
  refine g_bipush (v := nI 11) dX2_fateOf_1 (by decide) ?_
  refine g_iload_n (i := 1) (j := 1) dX2_fateOf_3 rfl rfl ?_
  refine c_V (st1 := [.int (nI (r (11 + k)))]) (ctX2_valueOf (p := 11) (k := k) (by omega) (by omega)) kX2_valueOf lX2_15 (by decide) rfl rfl rfl rfl (by exact Nat.le_of_ble_eq_true rfl) dX2_fateOf_4 rfl rfl ?_
  refine g_iret rfl rfl dX2_fateOf_7 ?_
  exact gE_i rfl rfl

theorem ctX2_setFate {e0 e1 e2 e3 e4 e5 e6 e7 e8 e9 e10 e11 e12 e13 e14 e17 e19 e21 e22 e23 e25 e26 : va_E} {r : Nat → Nat} {k x : Nat} (h1 : k < 5) : Ct mX2_setFate 1 [.ref 15, .int (nI k), .int (nI x)] (wC e0 e1 e2 e3 e4 e5 e6 e7 e8 e9 e10 e11 e12 e13 e14 (kI 16 r) e17 e19 e21 e22 e23 e25 e26) (gE none (wC e0 e1 e2 e3 e4 e5 e6 e7 e8 e9 e10 e11 e12 e13 e14 (kI 16 (va_up r (11 + k) x)) e17 e19 e21 e22 e23 e25 e26)) := by
  refine Ct.of (by decide) (by exact Nat.le_of_ble_eq_true rfl) ?_
  show Go mX2_setFate 1 0 [(0, .ref 15), (1, .int (nI k)), (2, .int (nI x))] [] (wC e0 e1 e2 e3 e4 e5 e6 e7 e8 e9 e10 e11 e12 e13 e14 (kI 16 r) e17 e19 e21 e22 e23 e25 e26) (gE none (wC e0 e1 e2 e3 e4 e5 e6 e7 e8 e9 e10 e11 e12 e13 e14 (kI 16 (va_up r (11 + k) x)) e17 e19 e21 e22 e23 e25 e26))
  refine g_aload_n (i := 0) (j := 0) dX2_setFate_0 rfl rfl ?_
  refine g_bipush (v := nI 11) dX2_setFate_1 (by decide) ?_
  refine g_iload_n (i := 1) (j := 1) dX2_setFate_3 rfl rfl ?_
  refine g_iload_n (i := 2) (j := 2) dX2_setFate_4 rfl rfl ?_
  refine c_V (st1 := []) (ctX2_setValue (p := 11) (k := k) (x := x) (by omega) (by omega)) kX2_setValue lX2_19 (by decide) rfl rfl rfl rfl (by exact Nat.le_of_ble_eq_true rfl) dX2_setFate_5 rfl rfl ?_
  refine g_vret rfl dX2_setFate_8 ?_
  exact gE_i rfl rfl

theorem lp_allThat {e0 e1 e2 e3 e4 e5 e6 e7 e8 e9 e10 e11 e12 e13 e14 e17 e19 e21 e22 e23 e25 e26 : va_E} {r : Nat → Nat} {x wk : Nat} (hr : ∀ k, r k ≤ 40) (hx : x ≤ 4) (hwk : wk ≤ 5) : ∀ (n i : Nat), i + n = wk → Go mX2_allThat 2 5 [(0, .ref 15), (1, .int (nI x)), (2, .int (nI wk)), (3, .int (nI (sSet (fun w => decide (r (11 + w) = x)) i))), (4, .int (nI i))] [] (wC e0 e1 e2 e3 e4 e5 e6 e7 e8 e9 e10 e11 e12 e13 e14 (kI 16 r) e17 e19 e21 e22 e23 e25 e26) (gE (some (.int (nI (sSet (fun w => decide (r (11 + w) = x)) wk)))) (wC e0 e1 e2 e3 e4 e5 e6 e7 e8 e9 e10 e11 e12 e13 e14 (kI 16 r) e17 e19 e21 e22 e23 e25 e26)) := by
  intro n
  induction n with
  | zero =>
    intro i hi
    obtain rfl : i = wk := by omega
    refine g_iload (j := 4) dX2_allThat_5 rfl ?_
    refine g_iload_n (i := 2) (j := 2) dX2_allThat_7 rfl rfl ?_
    refine n_icmp_ge (tgt := 40) (by omega) (by omega) dX2_allThat_8 (by decide) (fun h8 => ?_) (fun h8 => ?_)
    · refine g_iload_n (i := 3) (j := 3) dX2_allThat_40 rfl rfl ?_
      refine g_iret rfl rfl dX2_allThat_41 ?_
      exact gE_i rfl rfl
    · exfalso; omega

  | succ n ih =>
    intro i hi
    have q1 := hr (11 + i)
    refine g_iload (j := 4) dX2_allThat_5 rfl ?_
    refine g_iload_n (i := 2) (j := 2) dX2_allThat_7 rfl rfl ?_
    refine n_icmp_ge (tgt := 40) (by omega) (by omega) dX2_allThat_8 (by decide) (fun h8 => ?_) (fun h8 => ?_)
    · exfalso; omega
    · refine g_iload (j := 4) dX2_allThat_11 rfl ?_
      refine g_iconst (v := nI 5) dX2_allThat_13 (by decide) ?_
      refine n_icmp_ge (tgt := 40) (by omega) (rng_lit 5 rfl) dX2_allThat_14 (by decide) (fun h14 => ?_) (fun h14 => ?_)
      · exfalso; omega
      · refine g_aload_n (i := 0) (j := 0) dX2_allThat_17 rfl rfl ?_
        refine g_iload (j := 4) dX2_allThat_18 rfl ?_
        refine c_V (st1 := [.int (nI (r (11 + i)))]) (ctX2_fateOf (k := i) (by omega)) kX2_fateOf lX2_23 (by decide) rfl rfl rfl rfl (by exact Nat.le_of_ble_eq_true rfl) dX2_allThat_20 rfl rfl ?_
        refine g_iload_n (i := 1) (j := 1) dX2_allThat_23 rfl rfl ?_
        refine n_icmp_ne (tgt := 34) (by omega) (by omega) dX2_allThat_24 (by decide) (fun h24 => ?_) (fun h24 => ?_)
        · refine n_inc (x := i) (j := 4) (lv' := [(4, .int (nI (i + 1))), (0, .ref 15), (1, .int (nI x)), (2, .int (nI wk)), (3, .int (nI (sSet (fun w => decide (r (11 + w) = x)) i)))]) dX2_allThat_34 rfl (by decide) rfl ?_
          refine g_goto (tgt := 5) dX2_allThat_37 (by decide) ?_
          refine g_lv [1, 2, 3, 4, 0] rfl ?_
          refine Eq.mp (congrArg (fun z => Go mX2_allThat 2 5 [(0, .ref 15), (1, .int (nI x)), (2, .int (nI wk)), (3, .int (nI z)), (4, .int (nI (i + 1)))] [] (wC e0 e1 e2 e3 e4 e5 e6 e7 e8 e9 e10 e11 e12 e13 e14 (kI 16 r) e17 e19 e21 e22 e23 e25 e26) (gE (some (.int (nI (sSet (fun w => decide (r (11 + w) = x)) wk)))) (wC e0 e1 e2 e3 e4 e5 e6 e7 e8 e9 e10 e11 e12 e13 e14 (kI 16 r) e17 e19 e21 e22 e23 e25 e26))) (show sSet (fun w => decide (r (11 + w) = x)) (i + 1) = sSet (fun w => decide (r (11 + w) = x)) i by rw [sSet]; simp [h24])) (ih (i + 1) (by omega))
        · refine g_iload_n (i := 3) (j := 3) dX2_allThat_27 rfl rfl ?_
          refine g_iconst (v := nI 1) dX2_allThat_28 (by decide) ?_
          refine g_iload (j := 4) dX2_allThat_29 rfl ?_
          refine g_ishl dX2_allThat_31 ?_
          refine g_topi (y := (nI 1 <<< (nI i &&& 31))) rfl ?_
          refine g_ior dX2_allThat_32 ?_
          refine g_topi (y := (nI (sSet (fun w => decide (r (11 + w) = x)) i + 2 ^ i))) (or_bit i (by omega) _ (sSet_lt _ i)) ?_
          refine g_istore_n (i := 3) (lv' := [(3, .int (nI (sSet (fun w => decide (r (11 + w) = x)) i + 2 ^ i))), (0, .ref 15), (1, .int (nI x)), (2, .int (nI wk)), (4, .int (nI i))]) dX2_allThat_33 rfl (by decide) rfl ?_
          refine n_inc (x := i) (j := 4) (lv' := [(4, .int (nI (i + 1))), (3, .int (nI (sSet (fun w => decide (r (11 + w) = x)) i + 2 ^ i))), (0, .ref 15), (1, .int (nI x)), (2, .int (nI wk))]) dX2_allThat_34 rfl (by decide) rfl ?_
          refine g_goto (tgt := 5) dX2_allThat_37 (by decide) ?_
          refine g_lv [2, 3, 4, 1, 0] rfl ?_
          refine Eq.mp (congrArg (fun z => Go mX2_allThat 2 5 [(0, .ref 15), (1, .int (nI x)), (2, .int (nI wk)), (3, .int (nI z)), (4, .int (nI (i + 1)))] [] (wC e0 e1 e2 e3 e4 e5 e6 e7 e8 e9 e10 e11 e12 e13 e14 (kI 16 r) e17 e19 e21 e22 e23 e25 e26) (gE (some (.int (nI (sSet (fun w => decide (r (11 + w) = x)) wk)))) (wC e0 e1 e2 e3 e4 e5 e6 e7 e8 e9 e10 e11 e12 e13 e14 (kI 16 r) e17 e19 e21 e22 e23 e25 e26))) (show sSet (fun w => decide (r (11 + w) = x)) (i + 1) = sSet (fun w => decide (r (11 + w) = x)) i + 2 ^ i by rw [sSet]; simp [h24])) (ih (i + 1) (by omega))

theorem ctX2_allThat {e0 e1 e2 e3 e4 e5 e6 e7 e8 e9 e10 e11 e12 e13 e14 e17 e19 e21 e22 e23 e25 e26 : va_E} {r : Nat → Nat} {x wk : Nat} (hr : ∀ k, r k ≤ 40) (hx : x ≤ 4) (hwk : wk ≤ 5) : Ct mX2_allThat 2 [.ref 15, .int (nI x), .int (nI wk)] (wC e0 e1 e2 e3 e4 e5 e6 e7 e8 e9 e10 e11 e12 e13 e14 (kI 16 r) e17 e19 e21 e22 e23 e25 e26) (gE (some (.int (nI (sSet (fun w => decide (r (11 + w) = x)) wk)))) (wC e0 e1 e2 e3 e4 e5 e6 e7 e8 e9 e10 e11 e12 e13 e14 (kI 16 r) e17 e19 e21 e22 e23 e25 e26)) := by
  refine Ct.of (by decide) (by exact Nat.le_of_ble_eq_true rfl) ?_
  show Go mX2_allThat 2 0 [(0, .ref 15), (1, .int (nI x)), (2, .int (nI wk))] [] (wC e0 e1 e2 e3 e4 e5 e6 e7 e8 e9 e10 e11 e12 e13 e14 (kI 16 r) e17 e19 e21 e22 e23 e25 e26) (gE (some (.int (nI (sSet (fun w => decide (r (11 + w) = x)) wk)))) (wC e0 e1 e2 e3 e4 e5 e6 e7 e8 e9 e10 e11 e12 e13 e14 (kI 16 r) e17 e19 e21 e22 e23 e25 e26))
  refine g_iconst (v := nI 0) dX2_allThat_0 (by decide) ?_
  refine g_istore_n (i := 3) (lv' := [(3, .int (nI 0)), (0, .ref 15), (1, .int (nI x)), (2, .int (nI wk))]) dX2_allThat_1 rfl (by decide) rfl ?_
  refine g_iconst (v := nI 0) dX2_allThat_2 (by decide) ?_
  refine g_istore (lv' := [(4, .int (nI 0)), (3, .int (nI 0)), (0, .ref 15), (1, .int (nI x)), (2, .int (nI wk))]) dX2_allThat_3 (by decide) rfl ?_
  refine g_lv [2, 3, 4, 1, 0] rfl ?_
  exact lp_allThat hr hx hwk wk 0 (by omega)

theorem lp_countOn {e0 e1 e2 e3 e4 e5 e6 e7 e8 e9 e10 e11 e12 e13 e14 e17 e19 e21 e22 e23 e25 e26 : va_E} {r : Nat → Nat} {c b : Nat} (hr : ∀ k, r k ≤ 40) (hc : c ≤ 9) (hb : b < 32) : ∀ (n i : Nat), i + n = 5 → Go mX2_countOn 2 5 [(0, .ref 15), (1, .int (nI c)), (2, .int (nI b)), (3, .int (nI (sCnt (fun w => decide (b / 2 ^ w % 2 = 1) && decide (r (1 + w) = c)) i))), (4, .int (nI i))] [] (wC e0 e1 e2 e3 e4 e5 e6 e7 e8 e9 e10 e11 e12 e13 e14 (kI 16 r) e17 e19 e21 e22 e23 e25 e26) (gE (some (.int (nI (sCnt (fun w => decide (b / 2 ^ w % 2 = 1) && decide (r (1 + w) = c)) 5)))) (wC e0 e1 e2 e3 e4 e5 e6 e7 e8 e9 e10 e11 e12 e13 e14 (kI 16 r) e17 e19 e21 e22 e23 e25 e26)) := by
  intro n
  induction n with
  | zero =>
    intro i hi
    obtain rfl : i = 5 := by omega
    refine g_iload (j := 4) dX2_countOn_5 rfl ?_
    refine g_iconst (v := nI 5) dX2_countOn_7 (by decide) ?_
    refine n_icmp_ge (tgt := 39) (rng_lit 5 rfl) (rng_lit 5 rfl) dX2_countOn_8 (by decide) (fun h8 => ?_) (fun h8 => ?_)
    · refine g_iload_n (i := 3) (j := 3) dX2_countOn_39 rfl rfl ?_
      refine g_iret rfl rfl dX2_countOn_40 ?_
      exact gE_i rfl rfl
    · exact absurd h8 (by decide)

  | succ n ih =>
    intro i hi
    have q1 := hr (1 + i)
    refine g_iload (j := 4) dX2_countOn_5 rfl ?_
    refine g_iconst (v := nI 5) dX2_countOn_7 (by decide) ?_
    refine n_icmp_ge (tgt := 39) (by omega) (rng_lit 5 rfl) dX2_countOn_8 (by decide) (fun h8 => ?_) (fun h8 => ?_)
    · exfalso; omega
    · refine g_iload_n (i := 2) (j := 2) dX2_countOn_11 rfl rfl ?_
      refine g_iload (j := 4) dX2_countOn_12 rfl ?_
      refine g_ishr dX2_countOn_14 ?_
      refine g_topi (y := (nI b >>> (nI i &&& 31))) rfl ?_
      refine g_iconst (v := nI 1) dX2_countOn_15 (by decide) ?_
      refine g_iand dX2_countOn_16 ?_
      refine g_topi (y := (nI (b / 2 ^ i % 2))) (shr_bit i (by omega) b hb) ?_
      refine n_if_eq (tgt := 33) (by omega) dX2_countOn_17 (by decide) (fun h17 => ?_) (fun h17 => ?_)
      · refine n_inc (x := i) (j := 4) (lv' := [(4, .int (nI (i + 1))), (0, .ref 15), (1, .int (nI c)), (2, .int (nI b)), (3, .int (nI (sCnt (fun w => decide (b / 2 ^ w % 2 = 1) && decide (r (1 + w) = c)) i)))]) dX2_countOn_33 rfl (by decide) rfl ?_
        refine g_goto (tgt := 5) dX2_countOn_36 (by decide) ?_
        have e : sCnt (fun w => decide (b / 2 ^ w % 2 = 1) && decide (r (1 + w) = c)) (i + 1) = sCnt (fun w => decide (b / 2 ^ w % 2 = 1) && decide (r (1 + w) = c)) i := by rw [sCnt]; first | (simp [h17]; done) | (simp [h27]; done) | simp [h17', h27]
        refine g_lv [1, 2, 3, 4, 0] rfl ?_
        refine g_lvE (lv' := [(0, .ref 15), (1, .int (nI c)), (2, .int (nI b)), (3, .int (nI (sCnt (fun w => decide (b / 2 ^ w % 2 = 1) && decide (r (1 + w) = c)) (i + 1)))), (4, .int (nI (i + 1)))]) (by rw [e]; rfl) (ih (i + 1) (by omega))
      · refine g_aload_n (i := 0) (j := 0) dX2_countOn_20 rfl rfl ?_
        refine g_iload (j := 4) dX2_countOn_21 rfl ?_
        refine c_V (st1 := [.int (nI (r (1 + i)))]) (ctX2_cellOf (k := i) (by omega)) kX2_cellOf lX2_27 (by decide) rfl rfl rfl rfl (by exact Nat.le_of_ble_eq_true rfl) dX2_countOn_23 rfl rfl ?_
        refine g_iload_n (i := 1) (j := 1) dX2_countOn_26 rfl rfl ?_
        refine n_icmp_ne (tgt := 33) (by omega) (by omega) dX2_countOn_27 (by decide) (fun h27 => ?_) (fun h27 => ?_)
        · refine n_inc (x := i) (j := 4) (lv' := [(4, .int (nI (i + 1))), (0, .ref 15), (1, .int (nI c)), (2, .int (nI b)), (3, .int (nI (sCnt (fun w => decide (b / 2 ^ w % 2 = 1) && decide (r (1 + w) = c)) i)))]) dX2_countOn_33 rfl (by decide) rfl ?_
          refine g_goto (tgt := 5) dX2_countOn_36 (by decide) ?_
          have e : sCnt (fun w => decide (b / 2 ^ w % 2 = 1) && decide (r (1 + w) = c)) (i + 1) = sCnt (fun w => decide (b / 2 ^ w % 2 = 1) && decide (r (1 + w) = c)) i := by rw [sCnt]; first | (simp [h17]; done) | (simp [h27]; done) | simp [h17', h27]
          refine g_lv [1, 2, 3, 4, 0] rfl ?_
          refine g_lvE (lv' := [(0, .ref 15), (1, .int (nI c)), (2, .int (nI b)), (3, .int (nI (sCnt (fun w => decide (b / 2 ^ w % 2 = 1) && decide (r (1 + w) = c)) (i + 1)))), (4, .int (nI (i + 1)))]) (by rw [e]; rfl) (ih (i + 1) (by omega))
        · refine n_inc (x := (sCnt (fun w => decide (b / 2 ^ w % 2 = 1) && decide (r (1 + w) = c)) i)) (j := 3) (lv' := [(3, .int (nI ((sCnt (fun w => decide (b / 2 ^ w % 2 = 1) && decide (r (1 + w) = c)) i) + 1))), (0, .ref 15), (1, .int (nI c)), (2, .int (nI b)), (4, .int (nI i))]) dX2_countOn_30 rfl (by decide) rfl ?_
          refine n_inc (x := i) (j := 4) (lv' := [(4, .int (nI (i + 1))), (3, .int (nI ((sCnt (fun w => decide (b / 2 ^ w % 2 = 1) && decide (r (1 + w) = c)) i) + 1))), (0, .ref 15), (1, .int (nI c)), (2, .int (nI b))]) dX2_countOn_33 rfl (by decide) rfl ?_
          refine g_goto (tgt := 5) dX2_countOn_36 (by decide) ?_
          have h17' : b / 2 ^ i % 2 = 1 := by omega
          have e : sCnt (fun w => decide (b / 2 ^ w % 2 = 1) && decide (r (1 + w) = c)) (i + 1) = (sCnt (fun w => decide (b / 2 ^ w % 2 = 1) && decide (r (1 + w) = c)) i) + 1 := by rw [sCnt]; first | (simp [h17]; done) | (simp [h27]; done) | simp [h17', h27]
          refine g_lv [2, 3, 4, 1, 0] rfl ?_
          refine g_lvE (lv' := [(0, .ref 15), (1, .int (nI c)), (2, .int (nI b)), (3, .int (nI (sCnt (fun w => decide (b / 2 ^ w % 2 = 1) && decide (r (1 + w) = c)) (i + 1)))), (4, .int (nI (i + 1)))]) (by rw [e]; rfl) (ih (i + 1) (by omega))

theorem ctX2_countOn {e0 e1 e2 e3 e4 e5 e6 e7 e8 e9 e10 e11 e12 e13 e14 e17 e19 e21 e22 e23 e25 e26 : va_E} {r : Nat → Nat} {c b : Nat} (hr : ∀ k, r k ≤ 40) (hc : c ≤ 9) (hb : b < 32) : Ct mX2_countOn 2 [.ref 15, .int (nI c), .int (nI b)] (wC e0 e1 e2 e3 e4 e5 e6 e7 e8 e9 e10 e11 e12 e13 e14 (kI 16 r) e17 e19 e21 e22 e23 e25 e26) (gE (some (.int (nI (sCnt (fun w => decide (b / 2 ^ w % 2 = 1) && decide (r (1 + w) = c)) 5)))) (wC e0 e1 e2 e3 e4 e5 e6 e7 e8 e9 e10 e11 e12 e13 e14 (kI 16 r) e17 e19 e21 e22 e23 e25 e26)) := by
  refine Ct.of (by decide) (by exact Nat.le_of_ble_eq_true rfl) ?_
  show Go mX2_countOn 2 0 [(0, .ref 15), (1, .int (nI c)), (2, .int (nI b))] [] (wC e0 e1 e2 e3 e4 e5 e6 e7 e8 e9 e10 e11 e12 e13 e14 (kI 16 r) e17 e19 e21 e22 e23 e25 e26) (gE (some (.int (nI (sCnt (fun w => decide (b / 2 ^ w % 2 = 1) && decide (r (1 + w) = c)) 5)))) (wC e0 e1 e2 e3 e4 e5 e6 e7 e8 e9 e10 e11 e12 e13 e14 (kI 16 r) e17 e19 e21 e22 e23 e25 e26))
  refine g_iconst (v := nI 0) dX2_countOn_0 (by decide) ?_
  refine g_istore_n (i := 3) (lv' := [(3, .int (nI 0)), (0, .ref 15), (1, .int (nI c)), (2, .int (nI b))]) dX2_countOn_1 rfl (by decide) rfl ?_
  refine g_iconst (v := nI 0) dX2_countOn_2 (by decide) ?_
  refine g_istore (lv' := [(4, .int (nI 0)), (3, .int (nI 0)), (0, .ref 15), (1, .int (nI c)), (2, .int (nI b))]) dX2_countOn_3 (by decide) rfl ?_
  refine g_lv [2, 3, 4, 1, 0] rfl ?_
  exact lp_countOn hr hc hb 5 0 (by omega)

theorem ctX3_put_a {e0 e1 e2 e3 e4 e5 e6 e7 e8 e9 e10 e11 e12 e13 e14 e17 e21 e22 e23 e25 e26 : va_E} {r q : Nat → Nat} {k : Nat} (h1 : k < 16) : Ct mX3_put 2 [.ref 18, .int (nI k), .ref 15] (wC e0 e1 e2 e3 e4 e5 e6 e7 e8 e9 e10 e11 e12 e13 e14 (kI 16 r) e17 (kI 256 q) e21 e22 e23 e25 e26) (gE none (wC e0 e1 e2 e3 e4 e5 e6 e7 e8 e9 e10 e11 e12 e13 e14 (kI 16 r) e17 (kI 256 (va_cpy r q 0 (k * 16) 16)) e21 e22 e23 e25 e26)) := by
  refine Ct.of (by decide) (by exact Nat.le_of_ble_eq_true rfl) ?_
  show Go mX3_put 2 0 [(0, .ref 18), (1, .int (nI k)), (2, .ref 15)] [] (wC e0 e1 e2 e3 e4 e5 e6 e7 e8 e9 e10 e11 e12 e13 e14 (kI 16 r) e17 (kI 256 q) e21 e22 e23 e25 e26) (gE none (wC e0 e1 e2 e3 e4 e5 e6 e7 e8 e9 e10 e11 e12 e13 e14 (kI 16 r) e17 (kI 256 (va_cpy r q 0 (k * 16) 16)) e21 e22 e23 e25 e26))
  refine g_iload_n (i := 1) (j := 1) dX3_put_0 rfl rfl ?_
  refine n_if_lt (tgt := 12) (by omega) dX3_put_1 (by decide) ?_
  refine g_iload_n (i := 1) (j := 1) dX3_put_4 rfl rfl ?_
  refine g_aload_n (i := 0) (j := 0) dX3_put_5 rfl rfl ?_
  refine g_get fX3_13 rfl rfl dX3_put_6 ?_
  refine n_icmp_lt (tgt := 13) (by omega) (rng_lit 16 rfl) dX3_put_9 (by decide) (fun h9 => ?_) (fun h9 => ?_)
  · refine g_aload_n (i := 2) (j := 2) dX3_put_13 rfl rfl ?_
    refine g_get fX3_25 rfl rfl dX3_put_14 ?_
    refine g_iconst (v := nI 0) dX3_put_17 (by decide) ?_
    refine g_aload_n (i := 0) (j := 0) dX3_put_18 rfl rfl ?_
    refine g_get fX3_21 rfl rfl dX3_put_19 ?_
    refine g_iload_n (i := 1) (j := 1) dX3_put_22 rfl rfl ?_
    refine g_bipush (v := nI 16) dX3_put_23 (by decide) ?_
    refine n_imul (a := k) (b := 16) dX3_put_25 ?_
    refine g_bipush (v := nI 16) dX3_put_26 (by decide) ?_
    refine n_copy (ws' := wC e0 e1 e2 e3 e4 e5 e6 e7 e8 e9 e10 e11 e12 e13 e14 (kI 16 r) e17 (kI 256 (va_cpy r q 0 (k * 16) 16)) e21 e22 e23 e25 e26) lmX3_28 (by decide) (by exact Nat.le_of_ble_eq_true rfl) rfl rfl (by omega) (by omega) (rng_lit 16 rfl) (rng_lit 256 rfl) dX3_put_28 rfl ?_
    refine g_vret rfl dX3_put_31 ?_
    exact gE_i rfl rfl
  · exfalso; omega

theorem ctX3_take_a {e0 e1 e2 e3 e4 e5 e6 e7 e8 e9 e10 e11 e12 e13 e14 e17 e21 e22 e23 e25 e26 : va_E} {r q : Nat → Nat} {k : Nat} (h1 : k < 16) : Ct mX3_take 2 [.ref 18, .int (nI k), .ref 15] (wC e0 e1 e2 e3 e4 e5 e6 e7 e8 e9 e10 e11 e12 e13 e14 (kI 16 r) e17 (kI 256 q) e21 e22 e23 e25 e26) (gE none (wC e0 e1 e2 e3 e4 e5 e6 e7 e8 e9 e10 e11 e12 e13 e14 (kI 16 (va_cpy q r (k * 16) 0 16)) e17 (kI 256 q) e21 e22 e23 e25 e26)) := by
  refine Ct.of (by decide) (by exact Nat.le_of_ble_eq_true rfl) ?_
  show Go mX3_take 2 0 [(0, .ref 18), (1, .int (nI k)), (2, .ref 15)] [] (wC e0 e1 e2 e3 e4 e5 e6 e7 e8 e9 e10 e11 e12 e13 e14 (kI 16 r) e17 (kI 256 q) e21 e22 e23 e25 e26) (gE none (wC e0 e1 e2 e3 e4 e5 e6 e7 e8 e9 e10 e11 e12 e13 e14 (kI 16 (va_cpy q r (k * 16) 0 16)) e17 (kI 256 q) e21 e22 e23 e25 e26))
  refine g_iload_n (i := 1) (j := 1) dX3_take_0 rfl rfl ?_
  refine n_if_lt (tgt := 12) (by omega) dX3_take_1 (by decide) ?_
  refine g_iload_n (i := 1) (j := 1) dX3_take_4 rfl rfl ?_
  refine g_aload_n (i := 0) (j := 0) dX3_take_5 rfl rfl ?_
  refine g_get fX3_13 rfl rfl dX3_take_6 ?_
  refine n_icmp_lt (tgt := 13) (by omega) (rng_lit 16 rfl) dX3_take_9 (by decide) (fun h9 => ?_) (fun h9 => ?_)
  · refine g_aload_n (i := 0) (j := 0) dX3_take_13 rfl rfl ?_
    refine g_get fX3_21 rfl rfl dX3_take_14 ?_
    refine g_iload_n (i := 1) (j := 1) dX3_take_17 rfl rfl ?_
    refine g_bipush (v := nI 16) dX3_take_18 (by decide) ?_
    refine n_imul (a := k) (b := 16) dX3_take_20 ?_
    refine g_aload_n (i := 2) (j := 2) dX3_take_21 rfl rfl ?_
    refine g_get fX3_25 rfl rfl dX3_take_22 ?_
    refine g_iconst (v := nI 0) dX3_take_25 (by decide) ?_
    refine g_bipush (v := nI 16) dX3_take_26 (by decide) ?_
    refine n_copy (ws' := wC e0 e1 e2 e3 e4 e5 e6 e7 e8 e9 e10 e11 e12 e13 e14 (kI 16 (va_cpy q r (k * 16) 0 16)) e17 (kI 256 q) e21 e22 e23 e25 e26) lmX3_28 (by decide) (by exact Nat.le_of_ble_eq_true rfl) rfl rfl (by omega) (by omega) (rng_lit 256 rfl) (rng_lit 16 rfl) dX3_take_28 rfl ?_
    refine g_vret rfl dX3_take_31 ?_
    exact gE_i rfl rfl
  · exfalso; omega

theorem ctX3_put_s {e0 e1 e2 e3 e4 e5 e6 e7 e8 e9 e10 e11 e12 e13 e14 e17 e19 e22 e23 e25 e26 : va_E} {r q : Nat → Nat} {k : Nat} (h1 : k < 2) : Ct mX3_put 2 [.ref 20, .int (nI k), .ref 15] (wC e0 e1 e2 e3 e4 e5 e6 e7 e8 e9 e10 e11 e12 e13 e14 (kI 16 r) e17 e19 (kI 32 q) e22 e23 e25 e26) (gE none (wC e0 e1 e2 e3 e4 e5 e6 e7 e8 e9 e10 e11 e12 e13 e14 (kI 16 r) e17 e19 (kI 32 (va_cpy r q 0 (k * 16) 16)) e22 e23 e25 e26)) := by
  refine Ct.of (by decide) (by exact Nat.le_of_ble_eq_true rfl) ?_
  show Go mX3_put 2 0 [(0, .ref 20), (1, .int (nI k)), (2, .ref 15)] [] (wC e0 e1 e2 e3 e4 e5 e6 e7 e8 e9 e10 e11 e12 e13 e14 (kI 16 r) e17 e19 (kI 32 q) e22 e23 e25 e26) (gE none (wC e0 e1 e2 e3 e4 e5 e6 e7 e8 e9 e10 e11 e12 e13 e14 (kI 16 r) e17 e19 (kI 32 (va_cpy r q 0 (k * 16) 16)) e22 e23 e25 e26))
  refine g_iload_n (i := 1) (j := 1) dX3_put_0 rfl rfl ?_
  refine n_if_lt (tgt := 12) (by omega) dX3_put_1 (by decide) ?_
  refine g_iload_n (i := 1) (j := 1) dX3_put_4 rfl rfl ?_
  refine g_aload_n (i := 0) (j := 0) dX3_put_5 rfl rfl ?_
  refine g_get fX3_13 rfl rfl dX3_put_6 ?_
  refine n_icmp_lt (tgt := 13) (by omega) (rng_lit 2 rfl) dX3_put_9 (by decide) (fun h9 => ?_) (fun h9 => ?_)
  · refine g_aload_n (i := 2) (j := 2) dX3_put_13 rfl rfl ?_
    refine g_get fX3_25 rfl rfl dX3_put_14 ?_
    refine g_iconst (v := nI 0) dX3_put_17 (by decide) ?_
    refine g_aload_n (i := 0) (j := 0) dX3_put_18 rfl rfl ?_
    refine g_get fX3_21 rfl rfl dX3_put_19 ?_
    refine g_iload_n (i := 1) (j := 1) dX3_put_22 rfl rfl ?_
    refine g_bipush (v := nI 16) dX3_put_23 (by decide) ?_
    refine n_imul (a := k) (b := 16) dX3_put_25 ?_
    refine g_bipush (v := nI 16) dX3_put_26 (by decide) ?_
    refine n_copy (ws' := wC e0 e1 e2 e3 e4 e5 e6 e7 e8 e9 e10 e11 e12 e13 e14 (kI 16 r) e17 e19 (kI 32 (va_cpy r q 0 (k * 16) 16)) e22 e23 e25 e26) lmX3_28 (by decide) (by exact Nat.le_of_ble_eq_true rfl) rfl rfl (by omega) (by omega) (rng_lit 16 rfl) (rng_lit 32 rfl) dX3_put_28 rfl ?_
    refine g_vret rfl dX3_put_31 ?_
    exact gE_i rfl rfl
  · exfalso; omega

theorem ctX3_take_s {e0 e1 e2 e3 e4 e5 e6 e7 e8 e9 e10 e11 e12 e13 e14 e17 e19 e22 e23 e25 e26 : va_E} {r q : Nat → Nat} {k : Nat} (h1 : k < 2) : Ct mX3_take 2 [.ref 20, .int (nI k), .ref 15] (wC e0 e1 e2 e3 e4 e5 e6 e7 e8 e9 e10 e11 e12 e13 e14 (kI 16 r) e17 e19 (kI 32 q) e22 e23 e25 e26) (gE none (wC e0 e1 e2 e3 e4 e5 e6 e7 e8 e9 e10 e11 e12 e13 e14 (kI 16 (va_cpy q r (k * 16) 0 16)) e17 e19 (kI 32 q) e22 e23 e25 e26)) := by
  refine Ct.of (by decide) (by exact Nat.le_of_ble_eq_true rfl) ?_
  show Go mX3_take 2 0 [(0, .ref 20), (1, .int (nI k)), (2, .ref 15)] [] (wC e0 e1 e2 e3 e4 e5 e6 e7 e8 e9 e10 e11 e12 e13 e14 (kI 16 r) e17 e19 (kI 32 q) e22 e23 e25 e26) (gE none (wC e0 e1 e2 e3 e4 e5 e6 e7 e8 e9 e10 e11 e12 e13 e14 (kI 16 (va_cpy q r (k * 16) 0 16)) e17 e19 (kI 32 q) e22 e23 e25 e26))
  refine g_iload_n (i := 1) (j := 1) dX3_take_0 rfl rfl ?_
  refine n_if_lt (tgt := 12) (by omega) dX3_take_1 (by decide) ?_
  refine g_iload_n (i := 1) (j := 1) dX3_take_4 rfl rfl ?_
  refine g_aload_n (i := 0) (j := 0) dX3_take_5 rfl rfl ?_
  refine g_get fX3_13 rfl rfl dX3_take_6 ?_
  refine n_icmp_lt (tgt := 13) (by omega) (rng_lit 2 rfl) dX3_take_9 (by decide) (fun h9 => ?_) (fun h9 => ?_)
  · refine g_aload_n (i := 0) (j := 0) dX3_take_13 rfl rfl ?_
    refine g_get fX3_21 rfl rfl dX3_take_14 ?_
    refine g_iload_n (i := 1) (j := 1) dX3_take_17 rfl rfl ?_
    refine g_bipush (v := nI 16) dX3_take_18 (by decide) ?_
    refine n_imul (a := k) (b := 16) dX3_take_20 ?_
    refine g_aload_n (i := 2) (j := 2) dX3_take_21 rfl rfl ?_
    refine g_get fX3_25 rfl rfl dX3_take_22 ?_
    refine g_iconst (v := nI 0) dX3_take_25 (by decide) ?_
    refine g_bipush (v := nI 16) dX3_take_26 (by decide) ?_
    refine n_copy (ws' := wC e0 e1 e2 e3 e4 e5 e6 e7 e8 e9 e10 e11 e12 e13 e14 (kI 16 (va_cpy q r (k * 16) 0 16)) e17 e19 (kI 32 q) e22 e23 e25 e26) lmX3_28 (by decide) (by exact Nat.le_of_ble_eq_true rfl) rfl rfl (by omega) (by omega) (rng_lit 32 rfl) (rng_lit 16 rfl) dX3_take_28 rfl ?_
    refine g_vret rfl dX3_take_31 ?_
    exact gE_i rfl rfl
  · exfalso; omega

theorem ctX0_clear {e0 e1 e2 e3 e4 e5 e6 e7 e8 e9 e10 e11 e12 e13 e14 e16 e19 e21 e22 e23 e25 e26 : va_E} {nx ct : Nat} : Ct mX0_clear 0 [.ref 17] (wC e0 e1 e2 e3 e4 e5 e6 e7 e8 e9 e10 e11 e12 e13 e14 e16 (kA nx ct) e19 e21 e22 e23 e25 e26) (gE none (wC e0 e1 e2 e3 e4 e5 e6 e7 e8 e9 e10 e11 e12 e13 e14 e16 (kA 0 0) e19 e21 e22 e23 e25 e26)) := by
  refine Ct.of (by decide) (by exact Nat.le_of_ble_eq_true rfl) ?_
  show Go mX0_clear 0 0 [(0, .ref 17)] [] (wC e0 e1 e2 e3 e4 e5 e6 e7 e8 e9 e10 e11 e12 e13 e14 e16 (kA nx ct) e19 e21 e22 e23 e25 e26) (gE none (wC e0 e1 e2 e3 e4 e5 e6 e7 e8 e9 e10 e11 e12 e13 e14 e16 (kA 0 0) e19 e21 e22 e23 e25 e26))
  refine g_aload_n (i := 0) (j := 0) dX0_clear_0 rfl rfl ?_
  refine g_iconst (v := nI 0) dX0_clear_1 (by decide) ?_
  refine n_putI (ws' := wC e0 e1 e2 e3 e4 e5 e6 e7 e8 e9 e10 e11 e12 e13 e14 e16 (kA 0 ct) e19 e21 e22 e23 e25 e26) fX0_20 fp_X0_1 rfl (by exact Nat.le_of_ble_eq_true rfl) dX0_clear_2 rfl ?_
  refine g_aload_n (i := 0) (j := 0) dX0_clear_5 rfl rfl ?_
  refine g_iconst (v := nI 0) dX0_clear_6 (by decide) ?_
  refine n_putI (ws' := wC e0 e1 e2 e3 e4 e5 e6 e7 e8 e9 e10 e11 e12 e13 e14 e16 (kA 0 0) e19 e21 e22 e23 e25 e26) fX0_24 fp_X0_2 rfl (by exact Nat.le_of_ble_eq_true rfl) dX0_clear_7 rfl ?_
  refine g_vret rfl dX0_clear_10 ?_
  exact gE_i rfl rfl

theorem ctX0_remember {e0 e1 e2 e3 e4 e5 e6 e7 e8 e9 e10 e11 e12 e13 e14 e21 e22 e23 e25 e26 : va_E} {r q : Nat → Nat} {nx ct : Nat} (h1 : nx < 16) (h2 : ct ≤ 16) : Ct mX0_remember 3 [.ref 17, .ref 15] (wC e0 e1 e2 e3 e4 e5 e6 e7 e8 e9 e10 e11 e12 e13 e14 (kI 16 r) (kA nx ct) (kI 256 q) e21 e22 e23 e25 e26) (gE none (wC e0 e1 e2 e3 e4 e5 e6 e7 e8 e9 e10 e11 e12 e13 e14 (kI 16 r) (kA (if nx + 1 < 16 then nx + 1 else 0) (if ct < 16 then ct + 1 else ct)) (kI 256 (va_cpy r q 0 (nx * 16) 16)) e21 e22 e23 e25 e26)) := by
  refine Ct.of (by decide) (by exact Nat.le_of_ble_eq_true rfl) ?_
  show Go mX0_remember 3 0 [(0, .ref 17), (1, .ref 15)] [] (wC e0 e1 e2 e3 e4 e5 e6 e7 e8 e9 e10 e11 e12 e13 e14 (kI 16 r) (kA nx ct) (kI 256 q) e21 e22 e23 e25 e26) (gE none (wC e0 e1 e2 e3 e4 e5 e6 e7 e8 e9 e10 e11 e12 e13 e14 (kI 16 r) (kA (if nx + 1 < 16 then nx + 1 else 0) (if ct < 16 then ct + 1 else ct)) (kI 256 (va_cpy r q 0 (nx * 16) 16)) e21 e22 e23 e25 e26))
  refine g_aload_n (i := 0) (j := 0) dX0_remember_0 rfl rfl ?_
  refine g_get fX0_14 rfl rfl dX0_remember_1 ?_
  refine g_aload_n (i := 0) (j := 0) dX0_remember_4 rfl rfl ?_
  refine g_get fX0_20 rfl rfl dX0_remember_5 ?_
  refine g_aload_n (i := 1) (j := 1) dX0_remember_8 rfl rfl ?_
  refine c_V (st1 := []) (ctX3_put_a (k := nx) (by omega)) kX3_put lX0_27 (by decide) rfl rfl rfl rfl (by exact Nat.le_of_ble_eq_true rfl) dX0_remember_9 rfl rfl ?_
  refine g_aload_n (i := 0) (j := 0) dX0_remember_12 rfl rfl ?_
  refine g_aload_n (i := 0) (j := 0) dX0_remember_13 rfl rfl ?_
  refine g_get fX0_20 rfl rfl dX0_remember_14 ?_
  refine g_iconst (v := nI 1) dX0_remember_17 (by decide) ?_
  refine n_iadd (a := nx) (b := 1) dX0_remember_18 ?_
  refine g_bipush (v := nI 16) dX0_remember_19 (by decide) ?_
  refine n_icmp_ge (tgt := 33) (by omega) (rng_lit 16 rfl) dX0_remember_21 (by decide) (fun h21 => ?_) (fun h21 => ?_)
  · refine g_iconst (v := nI 0) dX0_remember_33 (by decide) ?_
    refine n_putI (ws' := wC e0 e1 e2 e3 e4 e5 e6 e7 e8 e9 e10 e11 e12 e13 e14 (kI 16 r) (kA 0 ct) (kI 256 (va_cpy r q 0 (nx * 16) 16)) e21 e22 e23 e25 e26) fX0_20 fp_X0_1 rfl (by exact Nat.le_of_ble_eq_true rfl) dX0_remember_34 rfl ?_
    refine g_aload_n (i := 0) (j := 0) dX0_remember_37 rfl rfl ?_
    refine g_get fX0_24 rfl rfl dX0_remember_38 ?_
    refine g_bipush (v := nI 16) dX0_remember_41 (by decide) ?_
    refine n_icmp_ge (tgt := 56) (by omega) (rng_lit 16 rfl) dX0_remember_43 (by decide) (fun h43 => ?_) (fun h43 => ?_)
    · refine g_vret rfl dX0_remember_56 ?_
      refine gE_i rfl ?_
      rw [show (if nx + 1 < 16 then nx + 1 else 0) = 0 by first | rw [if_pos (by omega)] | rw [if_neg (by omega)], show (if ct < 16 then ct + 1 else ct) = ct by first | rw [if_pos (by omega)] | rw [if_neg (by omega)]]
    · refine g_aload_n (i := 0) (j := 0) dX0_remember_46 rfl rfl ?_
      refine g_dup dX0_remember_47 rfl ?_
      refine g_get fX0_24 rfl rfl dX0_remember_48 ?_
      refine g_iconst (v := nI 1) dX0_remember_51 (by decide) ?_
      refine n_iadd (a := ct) (b := 1) dX0_remember_52 ?_
      refine n_putI (ws' := wC e0 e1 e2 e3 e4 e5 e6 e7 e8 e9 e10 e11 e12 e13 e14 (kI 16 r) (kA 0 (ct + 1)) (kI 256 (va_cpy r q 0 (nx * 16) 16)) e21 e22 e23 e25 e26) fX0_24 fp_X0_2 rfl (by exact Nat.le_of_ble_eq_true rfl) dX0_remember_53 rfl ?_
      refine g_vret rfl dX0_remember_56 ?_
      refine gE_i rfl ?_
      rw [show (if nx + 1 < 16 then nx + 1 else 0) = 0 by first | rw [if_pos (by omega)] | rw [if_neg (by omega)], show (if ct < 16 then ct + 1 else ct) = ct + 1 by first | rw [if_pos (by omega)] | rw [if_neg (by omega)]]
  · refine g_aload_n (i := 0) (j := 0) dX0_remember_24 rfl rfl ?_
    refine g_get fX0_20 rfl rfl dX0_remember_25 ?_
    refine g_iconst (v := nI 1) dX0_remember_28 (by decide) ?_
    refine n_iadd (a := nx) (b := 1) dX0_remember_29 ?_
    refine g_goto (tgt := 34) dX0_remember_30 (by decide) ?_
    refine n_putI (ws' := wC e0 e1 e2 e3 e4 e5 e6 e7 e8 e9 e10 e11 e12 e13 e14 (kI 16 r) (kA (nx + 1) ct) (kI 256 (va_cpy r q 0 (nx * 16) 16)) e21 e22 e23 e25 e26) fX0_20 fp_X0_1 rfl (by exact Nat.le_of_ble_eq_true rfl) dX0_remember_34 rfl ?_
    refine g_aload_n (i := 0) (j := 0) dX0_remember_37 rfl rfl ?_
    refine g_get fX0_24 rfl rfl dX0_remember_38 ?_
    refine g_bipush (v := nI 16) dX0_remember_41 (by decide) ?_
    refine n_icmp_ge (tgt := 56) (by omega) (rng_lit 16 rfl) dX0_remember_43 (by decide) (fun h43 => ?_) (fun h43 => ?_)
    · refine g_vret rfl dX0_remember_56 ?_
      refine gE_i rfl ?_
      rw [show (if nx + 1 < 16 then nx + 1 else 0) = nx + 1 by first | rw [if_pos (by omega)] | rw [if_neg (by omega)], show (if ct < 16 then ct + 1 else ct) = ct by first | rw [if_pos (by omega)] | rw [if_neg (by omega)]]
    · refine g_aload_n (i := 0) (j := 0) dX0_remember_46 rfl rfl ?_
      refine g_dup dX0_remember_47 rfl ?_
      refine g_get fX0_24 rfl rfl dX0_remember_48 ?_
      refine g_iconst (v := nI 1) dX0_remember_51 (by decide) ?_
      refine n_iadd (a := ct) (b := 1) dX0_remember_52 ?_
      refine n_putI (ws' := wC e0 e1 e2 e3 e4 e5 e6 e7 e8 e9 e10 e11 e12 e13 e14 (kI 16 r) (kA (nx + 1) (ct + 1)) (kI 256 (va_cpy r q 0 (nx * 16) 16)) e21 e22 e23 e25 e26) fX0_24 fp_X0_2 rfl (by exact Nat.le_of_ble_eq_true rfl) dX0_remember_53 rfl ?_
      refine g_vret rfl dX0_remember_56 ?_
      refine gE_i rfl ?_
      rw [show (if nx + 1 < 16 then nx + 1 else 0) = nx + 1 by first | rw [if_pos (by omega)] | rw [if_neg (by omega)], show (if ct < 16 then ct + 1 else ct) = ct + 1 by first | rw [if_pos (by omega)] | rw [if_neg (by omega)]]

theorem ctX0_takeBack {e0 e1 e2 e3 e4 e5 e6 e7 e8 e9 e10 e11 e12 e13 e14 e21 e22 e23 e25 e26 : va_E} {r q : Nat → Nat} {nx ct : Nat} (h1 : nx < 16) (h2 : ct ≤ 16) (h3 : 0 < ct) : Ct mX0_takeBack 3 [.ref 17, .ref 15] (wC e0 e1 e2 e3 e4 e5 e6 e7 e8 e9 e10 e11 e12 e13 e14 (kI 16 r) (kA nx ct) (kI 256 q) e21 e22 e23 e25 e26) (gE none (wC e0 e1 e2 e3 e4 e5 e6 e7 e8 e9 e10 e11 e12 e13 e14 (kI 16 (va_cpy q r ((if 0 < nx then nx - 1 else 15) * 16) 0 16)) (kA (if 0 < nx then nx - 1 else 15) (ct - 1)) (kI 256 q) e21 e22 e23 e25 e26)) := by
  refine Ct.of (by decide) (by exact Nat.le_of_ble_eq_true rfl) ?_
  show Go mX0_takeBack 3 0 [(0, .ref 17), (1, .ref 15)] [] (wC e0 e1 e2 e3 e4 e5 e6 e7 e8 e9 e10 e11 e12 e13 e14 (kI 16 r) (kA nx ct) (kI 256 q) e21 e22 e23 e25 e26) (gE none (wC e0 e1 e2 e3 e4 e5 e6 e7 e8 e9 e10 e11 e12 e13 e14 (kI 16 (va_cpy q r ((if 0 < nx then nx - 1 else 15) * 16) 0 16)) (kA (if 0 < nx then nx - 1 else 15) (ct - 1)) (kI 256 q) e21 e22 e23 e25 e26))
  refine g_aload_n (i := 0) (j := 0) dX0_takeBack_0 rfl rfl ?_
  refine g_get fX0_24 rfl rfl dX0_takeBack_1 ?_
  refine n_if_gt (tgt := 8) (by omega) dX0_takeBack_4 (by decide) (fun h4 => ?_) (fun h4 => ?_)
  · refine g_aload_n (i := 0) (j := 0) dX0_takeBack_8 rfl rfl ?_
    refine g_aload_n (i := 0) (j := 0) dX0_takeBack_9 rfl rfl ?_
    refine g_get fX0_20 rfl rfl dX0_takeBack_10 ?_
    refine n_if_le (tgt := 25) (by omega) dX0_takeBack_13 (by decide) (fun h13 => ?_) (fun h13 => ?_)
    · refine g_bipush (v := nI 15) dX0_takeBack_25 (by decide) ?_
      refine n_putI (ws' := wC e0 e1 e2 e3 e4 e5 e6 e7 e8 e9 e10 e11 e12 e13 e14 (kI 16 r) (kA 15 ct) (kI 256 q) e21 e22 e23 e25 e26) fX0_20 fp_X0_1 rfl (by exact Nat.le_of_ble_eq_true rfl) dX0_takeBack_27 rfl ?_
      refine g_aload_n (i := 0) (j := 0) dX0_takeBack_30 rfl rfl ?_
      refine g_dup dX0_takeBack_31 rfl ?_
      refine g_get fX0_24 rfl rfl dX0_takeBack_32 ?_
      refine g_iconst (v := nI 1) dX0_takeBack_35 (by decide) ?_
      refine n_isub (a := ct) (b := 1) (by omega) dX0_takeBack_36 ?_
      refine n_putI (ws' := wC e0 e1 e2 e3 e4 e5 e6 e7 e8 e9 e10 e11 e12 e13 e14 (kI 16 r) (kA 15 (ct - 1)) (kI 256 q) e21 e22 e23 e25 e26) fX0_24 fp_X0_2 rfl (by exact Nat.le_of_ble_eq_true rfl) dX0_takeBack_37 rfl ?_
      refine g_aload_n (i := 0) (j := 0) dX0_takeBack_40 rfl rfl ?_
      refine g_get fX0_14 rfl rfl dX0_takeBack_41 ?_
      refine g_aload_n (i := 0) (j := 0) dX0_takeBack_44 rfl rfl ?_
      refine g_get fX0_20 rfl rfl dX0_takeBack_45 ?_
      refine g_aload_n (i := 1) (j := 1) dX0_takeBack_48 rfl rfl ?_
      refine c_V (st1 := []) (ctX3_take_a (k := 15) (by omega)) kX3_take lX0_31 (by decide) rfl rfl rfl rfl (by exact Nat.le_of_ble_eq_true rfl) dX0_takeBack_49 rfl rfl ?_
      refine g_vret rfl dX0_takeBack_52 ?_
      refine gE_i rfl ?_
      rw [show (if 0 < nx then nx - 1 else 15) = 15 by first | rw [if_pos (by omega)] | rw [if_neg (by omega)]]
    · refine g_aload_n (i := 0) (j := 0) dX0_takeBack_16 rfl rfl ?_
      refine g_get fX0_20 rfl rfl dX0_takeBack_17 ?_
      refine g_iconst (v := nI 1) dX0_takeBack_20 (by decide) ?_
      refine n_isub (a := nx) (b := 1) (by omega) dX0_takeBack_21 ?_
      refine g_goto (tgt := 27) dX0_takeBack_22 (by decide) ?_
      refine n_putI (ws' := wC e0 e1 e2 e3 e4 e5 e6 e7 e8 e9 e10 e11 e12 e13 e14 (kI 16 r) (kA (nx - 1) ct) (kI 256 q) e21 e22 e23 e25 e26) fX0_20 fp_X0_1 rfl (by exact Nat.le_of_ble_eq_true rfl) dX0_takeBack_27 rfl ?_
      refine g_aload_n (i := 0) (j := 0) dX0_takeBack_30 rfl rfl ?_
      refine g_dup dX0_takeBack_31 rfl ?_
      refine g_get fX0_24 rfl rfl dX0_takeBack_32 ?_
      refine g_iconst (v := nI 1) dX0_takeBack_35 (by decide) ?_
      refine n_isub (a := ct) (b := 1) (by omega) dX0_takeBack_36 ?_
      refine n_putI (ws' := wC e0 e1 e2 e3 e4 e5 e6 e7 e8 e9 e10 e11 e12 e13 e14 (kI 16 r) (kA (nx - 1) (ct - 1)) (kI 256 q) e21 e22 e23 e25 e26) fX0_24 fp_X0_2 rfl (by exact Nat.le_of_ble_eq_true rfl) dX0_takeBack_37 rfl ?_
      refine g_aload_n (i := 0) (j := 0) dX0_takeBack_40 rfl rfl ?_
      refine g_get fX0_14 rfl rfl dX0_takeBack_41 ?_
      refine g_aload_n (i := 0) (j := 0) dX0_takeBack_44 rfl rfl ?_
      refine g_get fX0_20 rfl rfl dX0_takeBack_45 ?_
      refine g_aload_n (i := 1) (j := 1) dX0_takeBack_48 rfl rfl ?_
      refine c_V (st1 := []) (ctX3_take_a (k := nx - 1) (by omega)) kX3_take lX0_31 (by decide) rfl rfl rfl rfl (by exact Nat.le_of_ble_eq_true rfl) dX0_takeBack_49 rfl rfl ?_
      refine g_vret rfl dX0_takeBack_52 ?_
      refine gE_i rfl ?_
      rw [show (if 0 < nx then nx - 1 else 15) = nx - 1 by first | rw [if_pos (by omega)] | rw [if_neg (by omega)]]
  · exfalso; omega
end
section
/-! part 12: the helpers of OverSands -/
abbrev t6 : Type := Nat × Nat × Nat × Nat × Nat × Nat
def kPt (t : t6) : va_E := kP t.1 t.2.1 t.2.2.1 t.2.2.2.1 t.2.2.2.2.1 t.2.2.2.2.2
/-- what a bay holds, in its bounds -/
def gOK (h so ho pa wa : Nat → Nat) (wk tw lo ri la : Nat) : Prop := (∀ k, h k ≤ 9) ∧ (∀ k, so k ≤ 1) ∧ (∀ k, ho k ≤ 4) ∧ (∀ k, pa k ≤ 3) ∧ (∀ k, wa k ≤ 5) ∧ wk ≤ 5 ∧ tw ≤ 2 ∧ lo ≤ 40 ∧ ri ≤ 3 ∧ la ≤ 9
/-- a moment, in its bounds -/
def rOK (r : Nat → Nat) : Prop := (∀ k, r k ≤ 40) ∧ (∀ k, k < 5 → r (1 + k) ≤ 9) ∧ (∀ k, k < 5 → r (6 + k) ≤ 2) ∧ (∀ k, k < 5 → r (11 + k) ≤ 4)
theorem raw_lt {x : Int32} {n : Nat} (h : 0 ≤ x.toInt ∧ x.toInt < n) : ∃ k : Nat, k < n ∧ x = nI k := by
  obtain ⟨j, hj, rfl⟩ := nI_of (x := x) (by rw [Int32.lt_iff_toInt_lt, t_z]; omega)
  rw [nI_toInt hj] at h
  exact ⟨j, by omega, rfl⟩
theorem raw_le {x : Int32} {n : Nat} (h : 0 ≤ x.toInt ∧ x.toInt ≤ n) : ∃ k : Nat, k ≤ n ∧ x = nI k := by
  obtain ⟨k, h1, h2⟩ := raw_lt (x := x) (n := n + 1) ⟨h.1, by omega⟩
  exact ⟨k, by omega, h2⟩
/-- how many are up on a cell -/
def sUp (r : Nat → Nat) (wk c : Nat) : Nat := sCnt (fun w => decide (r (11 + w) = 4) && decide (r (1 + w) = c)) wk
theorem sUp_le (r : Nat → Nat) (wk c : Nat) : sUp r wk c ≤ wk := sCnt_le _ _
theorem sCnt_add {p : Nat → Bool} {n : Nat} : ∀ {m : Nat}, (∀ k, n ≤ k → k < n + m → p k = false) → sCnt p (n + m) = sCnt p n
  | 0, _ => rfl
  | m + 1, h => by
    rw [show n + (m + 1) = (n + m) + 1 by omega, sCnt, sCnt_add (fun k h1 h2 => h k h1 (by omega)), h (n + m) (by omega) (by omega)]
    simp
theorem sCnt_set (p q : Nat → Bool) {n : Nat} (hn : n ≤ 5) : sCnt (fun w => decide (sSet p n / 2 ^ w % 2 = 1) && q w) 5 = sCnt (fun w => p w && q w) n := by
  obtain ⟨m, hm⟩ : ∃ m, 5 = n + m := ⟨5 - n, by omega⟩
  have e : ∀ w, w < 5 → (decide (sSet p n / 2 ^ w % 2 = 1) && q w) = (decide (w < n) && p w && q w) := by
    intro w hw
    rw [sSet_bit p hn hw]
    cases hd : (decide (w < n) && p w) <;> simp [hd]
  rw [sCnt_congr e, hm, sCnt_add (fun k h1 h2 => by rw [decide_eq_false (by omega)]; rfl)]
  exact sCnt_congr (fun k hk => by rw [decide_eq_true hk]; rfl)
theorem sUp_eq (r : Nat → Nat) {wk : Nat} (c : Nat) (h : wk ≤ 5) : sCnt (fun w => decide (sSet (fun w => decide (r (11 + w) = 4)) wk / 2 ^ w % 2 = 1) && decide (r (1 + w) = c)) 5 = sUp r wk c := sCnt_set _ _ h
theorem ctX7_isWalker {e1 e2 e4 e5 e6 e7 e8 e9 e10 e11 e12 e13 e14 e16 e17 e19 e21 e22 e23 e25 e26 : va_E} {sd : Int64} {wk tw sf lo ri la : Nat} {x : Int32} (hwk : wk ≤ 5) : Ct mX7_isWalker 0 [.ref 0, .int x] (wC (kO sd) e1 e2 (kG3 wk tw sf lo ri la) e4 e5 e6 e7 e8 e9 e10 e11 e12 e13 e14 e16 e17 e19 e21 e22 e23 e25 e26) (gE (some (.int (nI (bN (0 ≤ x.toInt ∧ x.toInt < wk))))) (wC (kO sd) e1 e2 (kG3 wk tw sf lo ri la) e4 e5 e6 e7 e8 e9 e10 e11 e12 e13 e14 e16 e17 e19 e21 e22 e23 e25 e26)) := by
  refine Ct.of (by decide) (by exact Nat.le_of_ble_eq_true rfl) ?_
  show Go mX7_isWalker 0 0 [(0, .ref 0), (1, .int x)] [] (wC (kO sd) e1 e2 (kG3 wk tw sf lo ri la) e4 e5 e6 e7 e8 e9 e10 e11 e12 e13 e14 e16 e17 e19 e21 e22 e23 e25 e26) (gE (some (.int (nI (bN (0 ≤ x.toInt ∧ x.toInt < wk))))) (wC (kO sd) e1 e2 (kG3 wk tw sf lo ri la) e4 e5 e6 e7 e8 e9 e10 e11 e12 e13 e14 e16 e17 e19 e21 e22 e23 e25 e26))
  refine g_iload_n (i := 1) (j := 1) dX7_isWalker_0 rfl rfl ?_
  refine g_if_lt (tgt := 19) dX7_isWalker_1 (by decide) (fun h1 => ?_) (fun h1 => ?_)
  · refine g_iconst (v := nI 0) dX7_isWalker_19 (by decide) ?_
    refine g_iret rfl (by decide) dX7_isWalker_20 ?_
    refine gE_n (bN_f ?_).symm rfl
    have q1 := nI_toInt (n := wk) (by omega)
    simp only [Int32.lt_iff_toInt_lt, Int32.le_iff_toInt_le, t_z] at *
    omega
  · refine g_iload_n (i := 1) (j := 1) dX7_isWalker_4 rfl rfl ?_
    refine g_aload_n (i := 0) (j := 0) dX7_isWalker_5 rfl rfl ?_
    refine g_get fX7_19 rfl rfl dX7_isWalker_6 ?_
    refine g_get fX7_89 rfl rfl dX7_isWalker_9 ?_
    refine g_icmp_ge (tgt := 19) dX7_isWalker_12 (by decide) (fun h12 => ?_) (fun h12 => ?_)
    · refine g_iconst (v := nI 0) dX7_isWalker_19 (by decide) ?_
      refine g_iret rfl (by decide) dX7_isWalker_20 ?_
      refine gE_n (bN_f ?_).symm rfl
      have q1 := nI_toInt (n := wk) (by omega)
      simp only [Int32.lt_iff_toInt_lt, Int32.le_iff_toInt_le, t_z] at *
      omega
    · refine g_iconst (v := nI 1) dX7_isWalker_15 (by decide) ?_
      refine g_goto (tgt := 20) dX7_isWalker_16 (by decide) ?_
      refine g_iret rfl (by decide) dX7_isWalker_20 ?_
      refine gE_n (bN_t ?_).symm rfl
      have q1 := nI_toInt (n := wk) (by omega)
      simp only [Int32.lt_iff_toInt_lt, Int32.le_iff_toInt_le, t_z] at *
      omega

theorem ctX7_isWalking {e1 e2 e3 e4 e5 e6 e7 e8 e9 e10 e11 e12 e13 e14 e17 e19 e21 e22 e23 e25 e26 : va_E} {sd : Int64} {r : Nat → Nat} {k : Nat} (hr : ∀ k, r k ≤ 40) (h1 : k < 5) : Ct mX7_isWalking 2 [.ref 0, .int (nI k)] (wC (kO sd) e1 e2 e3 e4 e5 e6 e7 e8 e9 e10 e11 e12 e13 e14 (kI 16 r) e17 e19 e21 e22 e23 e25 e26) (gE (some (.int (nI (bN (r (11 + k) = 0))))) (wC (kO sd) e1 e2 e3 e4 e5 e6 e7 e8 e9 e10 e11 e12 e13 e14 (kI 16 r) e17 e19 e21 e22 e23 e25 e26)) := by
  refine Ct.of (by decide) (by exact Nat.le_of_ble_eq_true rfl) ?_
  show Go mX7_isWalking 2 0 [(0, .ref 0), (1, .int (nI k))] [] (wC (kO sd) e1 e2 e3 e4 e5 e6 e7 e8 e9 e10 e11 e12 e13 e14 (kI 16 r) e17 e19 e21 e22 e23 e25 e26) (gE (some (.int (nI (bN (r (11 + k) = 0))))) (wC (kO sd) e1 e2 e3 e4 e5 e6 e7 e8 e9 e10 e11 e12 e13 e14 (kI 16 r) e17 e19 e21 e22 e23 e25 e26))
  have q1 := hr (11 + k)
  refine g_aload_n (i := 0) (j := 0) dX7_isWalking_0 rfl rfl ?_
  refine g_get fX7_29 rfl rfl dX7_isWalking_1 ?_
  refine g_iload_n (i := 1) (j := 1) dX7_isWalking_4 rfl rfl ?_
  refine c_V (st1 := [.int (nI (r (11 + k)))]) (ctX2_fateOf (k := k) (by omega)) kX2_fateOf lX7_153 (by decide) rfl rfl rfl rfl (by exact Nat.le_of_ble_eq_true rfl) dX7_isWalking_5 rfl rfl ?_
  refine n_if_ne (tgt := 15) (by omega) dX7_isWalking_8 (by decide) (fun h8 => ?_) (fun h8 => ?_)
  · refine g_iconst (v := nI 0) dX7_isWalking_15 (by decide) ?_
    refine g_iret rfl (by decide) dX7_isWalking_16 ?_
    exact gE_n (bN_f (by omega)).symm rfl
  · refine g_iconst (v := nI 1) dX7_isWalking_11 (by decide) ?_
    refine g_goto (tgt := 16) dX7_isWalking_12 (by decide) ?_
    refine g_iret rfl (by decide) dX7_isWalking_16 ?_
    exact gE_n (bN_t (by omega)).symm rfl

theorem ctX7_waterAt {e1 e2 e4 e5 e6 e7 e8 e9 e10 e11 e12 e13 e14 e16 e17 e19 e21 e22 e23 e25 e26 : va_E} {sd : Int64} {wk tw sf lo ri la : Nat} {st : Nat} (h1 : la ≤ 9) (h2 : ri ≤ 3) (h3 : st ≤ 41) (h4 : lo ≤ 41) : Ct mX7_waterAt 1 [.ref 0, .int (nI st)] (wC (kO sd) e1 e2 (kG3 wk tw sf lo ri la) e4 e5 e6 e7 e8 e9 e10 e11 e12 e13 e14 e16 e17 e19 e21 e22 e23 e25 e26) (gE (some (.int (nI (sWater la ri st lo)))) (wC (kO sd) e1 e2 (kG3 wk tw sf lo ri la) e4 e5 e6 e7 e8 e9 e10 e11 e12 e13 e14 e16 e17 e19 e21 e22 e23 e25 e26)) := by
  refine Ct.of (by decide) (by exact Nat.le_of_ble_eq_true rfl) ?_
  show Go mX7_waterAt 1 0 [(0, .ref 0), (1, .int (nI st))] [] (wC (kO sd) e1 e2 (kG3 wk tw sf lo ri la) e4 e5 e6 e7 e8 e9 e10 e11 e12 e13 e14 e16 e17 e19 e21 e22 e23 e25 e26) (gE (some (.int (nI (sWater la ri st lo)))) (wC (kO sd) e1 e2 (kG3 wk tw sf lo ri la) e4 e5 e6 e7 e8 e9 e10 e11 e12 e13 e14 e16 e17 e19 e21 e22 e23 e25 e26))
  refine g_aload_n (i := 0) (j := 0) dX7_waterAt_0 rfl rfl ?_
  refine g_get fX7_19 rfl rfl dX7_waterAt_1 ?_
  refine g_iload_n (i := 1) (j := 1) dX7_waterAt_4 rfl rfl ?_
  refine g_aload_n (i := 0) (j := 0) dX7_waterAt_5 rfl rfl ?_
  refine g_get fX7_19 rfl rfl dX7_waterAt_6 ?_
  refine g_get fX7_103 rfl rfl dX7_waterAt_9 ?_
  refine c_V (st1 := [.int (nI (sWater la ri st lo))]) (ctX1_water (st := st) (lo2 := lo) (by omega) (by omega) (by omega) (by omega)) kX1_water lX7_278 (by decide) rfl rfl rfl rfl (by exact Nat.le_of_ble_eq_true rfl) dX7_waterAt_12 rfl rfl ?_
  refine g_iret rfl rfl dX7_waterAt_15 ?_
  exact gE_i rfl rfl

theorem ctX7_upOn {e1 e2 e4 e5 e6 e7 e8 e9 e10 e11 e12 e13 e14 e17 e19 e21 e22 e23 e25 e26 : va_E} {sd : Int64} {wk tw sf lo ri la : Nat} {r : Nat → Nat} {c : Nat} (hr : ∀ k, r k ≤ 40) (hwk : wk ≤ 5) (hc : c ≤ 9) : Ct mX7_upOn 3 [.ref 0, .int (nI c)] (wC (kO sd) e1 e2 (kG3 wk tw sf lo ri la) e4 e5 e6 e7 e8 e9 e10 e11 e12 e13 e14 (kI 16 r) e17 e19 e21 e22 e23 e25 e26) (gE (some (.int (nI (sUp r wk c)))) (wC (kO sd) e1 e2 (kG3 wk tw sf lo ri la) e4 e5 e6 e7 e8 e9 e10 e11 e12 e13 e14 (kI 16 r) e17 e19 e21 e22 e23 e25 e26)) := by
  refine Ct.of (by decide) (by exact Nat.le_of_ble_eq_true rfl) ?_
  show Go mX7_upOn 3 0 [(0, .ref 0), (1, .int (nI c))] [] (wC (kO sd) e1 e2 (kG3 wk tw sf lo ri la) e4 e5 e6 e7 e8 e9 e10 e11 e12 e13 e14 (kI 16 r) e17 e19 e21 e22 e23 e25 e26) (gE (some (.int (nI (sUp r wk c)))) (wC (kO sd) e1 e2 (kG3 wk tw sf lo ri la) e4 e5 e6 e7 e8 e9 e10 e11 e12 e13 e14 (kI 16 r) e17 e19 e21 e22 e23 e25 e26))
  refine g_aload_n (i := 0) (j := 0) dX7_upOn_0 rfl rfl ?_
  refine g_get fX7_29 rfl rfl dX7_upOn_1 ?_
  refine g_iload_n (i := 1) (j := 1) dX7_upOn_4 rfl rfl ?_
  refine g_aload_n (i := 0) (j := 0) dX7_upOn_5 rfl rfl ?_
  refine g_get fX7_29 rfl rfl dX7_upOn_6 ?_
  refine g_iconst (v := nI 4) dX7_upOn_9 (by decide) ?_
  refine g_aload_n (i := 0) (j := 0) dX7_upOn_10 rfl rfl ?_
  refine g_get fX7_19 rfl rfl dX7_upOn_11 ?_
  refine g_get fX7_89 rfl rfl dX7_upOn_14 ?_
  refine c_V (st1 := [.int (nI (sSet (fun w => decide (r (11 + w) = 4)) wk)), .int (nI c), .ref 15]) (ctX2_allThat (x := 4) (wk := wk) hr (by omega) (by omega)) kX2_allThat lX7_112 (by decide) rfl rfl rfl rfl (by exact Nat.le_of_ble_eq_true rfl) dX7_upOn_17 rfl rfl ?_
  refine c_V (st1 := [.int (nI (sCnt (fun w => decide ((sSet (fun w => decide (r (11 + w) = 4)) wk) / 2 ^ w % 2 = 1) && decide (r (1 + w) = c)) 5))]) (ctX2_countOn (c := c) (b := sSet (fun w => decide (r (11 + w) = 4)) wk) hr (by omega) (by first | omega | exact sSet_32 _ (by omega))) kX2_countOn lX7_230 (by decide) rfl rfl rfl rfl (by exact Nat.le_of_ble_eq_true rfl) dX7_upOn_20 rfl rfl ?_
  refine g_iret rfl rfl dX7_upOn_23 ?_
  exact gE_n (sUp_eq r c hwk) rfl

theorem ctX7_roomOn {e1 e2 e4 e5 e7 e8 e9 e10 e11 e12 e13 e14 e17 e19 e21 e22 e23 e25 e26 : va_E} {sd : Int64} {wk tw sf lo ri la : Nat} {r ho : Nat → Nat} {c : Nat} (hr : ∀ k, r k ≤ 40) (hwk : wk ≤ 5) (hc : c ≤ 9) : Ct mX7_roomOn 4 [.ref 0, .int (nI c)] (wC (kO sd) e1 e2 (kG3 wk tw sf lo ri la) e4 e5 (kI 10 ho) e7 e8 e9 e10 e11 e12 e13 e14 (kI 16 r) e17 e19 e21 e22 e23 e25 e26) (gE (some (.int (nI (ho c) - nI (sUp r wk c)))) (wC (kO sd) e1 e2 (kG3 wk tw sf lo ri la) e4 e5 (kI 10 ho) e7 e8 e9 e10 e11 e12 e13 e14 (kI 16 r) e17 e19 e21 e22 e23 e25 e26)) := by
  refine Ct.of (by decide) (by exact Nat.le_of_ble_eq_true rfl) ?_
  show Go mX7_roomOn 4 0 [(0, .ref 0), (1, .int (nI c))] [] (wC (kO sd) e1 e2 (kG3 wk tw sf lo ri la) e4 e5 (kI 10 ho) e7 e8 e9 e10 e11 e12 e13 e14 (kI 16 r) e17 e19 e21 e22 e23 e25 e26) (gE (some (.int (nI (ho c) - nI (sUp r wk c)))) (wC (kO sd) e1 e2 (kG3 wk tw sf lo ri la) e4 e5 (kI 10 ho) e7 e8 e9 e10 e11 e12 e13 e14 (kI 16 r) e17 e19 e21 e22 e23 e25 e26))
  refine g_aload_n (i := 0) (j := 0) dX7_roomOn_0 rfl rfl ?_
  refine g_get fX7_19 rfl rfl dX7_roomOn_1 ?_
  refine g_iload_n (i := 1) (j := 1) dX7_roomOn_4 rfl rfl ?_
  refine c_V (st1 := [.int (nI (ho c))]) (ctX1_holdOf (c := c) (by first | omega | exact hpa _ | exact hwa _ | exact hr1 _ (by omega) | exact hr6 _ (by omega) | exact hr11 _ (by omega) | exact hr _)) kX1_holdOf lX7_132 (by decide) rfl rfl rfl rfl (by exact Nat.le_of_ble_eq_true rfl) dX7_roomOn_5 rfl rfl ?_
  refine g_aload_n (i := 0) (j := 0) dX7_roomOn_8 rfl rfl ?_
  refine g_iload_n (i := 1) (j := 1) dX7_roomOn_9 rfl rfl ?_
  refine c_V (st1 := [.int (nI (sUp r wk c)), .int (nI (ho c))]) (ctX7_upOn (c := c) hr (by omega) (by first | omega | exact hpa _ | exact hwa _ | exact hr1 _ (by omega) | exact hr6 _ (by omega) | exact hr11 _ (by omega) | exact hr _)) kX7_upOn lX7_135 (by decide) rfl rfl rfl rfl (by exact Nat.le_of_ble_eq_true rfl) dX7_roomOn_10 rfl rfl ?_
  refine g_isub dX7_roomOn_13 ?_
  refine g_iret rfl rfl dX7_roomOn_14 ?_
  exact gE_i rfl rfl

theorem ctX7_arrival {e1 e2 e9 e10 e11 e12 e13 e14 e17 e19 e21 e22 e25 e26 : va_E} {sd : Int64} {h so ho pa wa : Nat → Nat} {wk tw sf lo ri la : Nat} {r : Nat → Nat} {t : t6} (hg : gOK h so ho pa wa wk tw lo ri la) {k c s way : Nat} (hk : k < 5) (hc : c ≤ 9) (hs : s ≤ 40) (hway : way ≤ 2) (hway1 : 1 ≤ way) : Ct mX7_arrival 4 [.ref 0, .int (nI k), .int (nI c), .int (nI s), .int (nI way)] (wC (kO sd) e1 e2 (kG3 wk tw sf lo ri la) (kI 10 h) (kZ 10 so) (kI 10 ho) (kI 5 pa) (kI 5 wa) e9 e10 e11 e12 e13 e14 (kI 16 r) e17 e19 e21 e22 (kPt t) e25 e26) (fun v u => v = some (.int (rO (sArr h so la ri (pa k) (wa k) lo way c s))) ∧ ∃ t2 : t6, u = wC (kO sd) e1 e2 (kG3 wk tw sf lo ri la) (kI 10 h) (kZ 10 so) (kI 10 ho) (kI 5 pa) (kI 5 wa) e9 e10 e11 e12 e13 e14 (kI 16 r) e17 e19 e21 e22 (kPt t2) e25 e26) := by
  refine Ct.of (by decide) (by exact Nat.le_of_ble_eq_true rfl) ?_
  show Go mX7_arrival 4 0 [(0, .ref 0), (1, .int (nI k)), (2, .int (nI c)), (3, .int (nI s)), (4, .int (nI way))] [] (wC (kO sd) e1 e2 (kG3 wk tw sf lo ri la) (kI 10 h) (kZ 10 so) (kI 10 ho) (kI 5 pa) (kI 5 wa) e9 e10 e11 e12 e13 e14 (kI 16 r) e17 e19 e21 e22 (kPt t) e25 e26) (fun v u => v = some (.int (rO (sArr h so la ri (pa k) (wa k) lo way c s))) ∧ ∃ t2 : t6, u = wC (kO sd) e1 e2 (kG3 wk tw sf lo ri la) (kI 10 h) (kZ 10 so) (kI 10 ho) (kI 5 pa) (kI 5 wa) e9 e10 e11 e12 e13 e14 (kI 16 r) e17 e19 e21 e22 (kPt t2) e25 e26)
  obtain ⟨hH, hso, hho, hpa, hwa, hwk, htw, hlo, hri, hla⟩ := hg
  refine g_aload_n (i := 0) (j := 0) dX7_arrival_0 rfl rfl ?_
  refine g_get fX7_56 rfl rfl dX7_arrival_1 ?_
  refine g_aload_n (i := 0) (j := 0) dX7_arrival_4 rfl rfl ?_
  refine g_get fX7_19 rfl rfl dX7_arrival_5 ?_
  refine g_iload_n (i := 1) (j := 1) dX7_arrival_8 rfl rfl ?_
  refine g_iload_n (i := 2) (j := 2) dX7_arrival_9 rfl rfl ?_
  refine g_iload_n (i := 3) (j := 3) dX7_arrival_10 rfl rfl ?_
  refine c_V (st1 := []) (ctX5_begin (k := k) (c := c) (s := s) (by omega)) kX5_begin lX7_206 (by decide) rfl rfl rfl rfl (by exact Nat.le_of_ble_eq_true rfl) dX7_arrival_11 rfl rfl ?_
  refine g_aload_n (i := 0) (j := 0) dX7_arrival_14 rfl rfl ?_
  refine g_get fX7_56 rfl rfl dX7_arrival_15 ?_
  refine g_aload_n (i := 0) (j := 0) dX7_arrival_18 rfl rfl ?_
  refine g_get fX7_19 rfl rfl dX7_arrival_19 ?_
  refine g_iload (j := 4) dX7_arrival_22 rfl ?_
  refine g_callV (rest := []) (ctX5_goTillThere (way := way) hH hso hla hri (by first | omega | exact hpa _ | exact hwa _ | exact hr1 _ (by omega) | exact hr6 _ (by omega) | exact hr11 _ (by omega) | exact hr _) (by first | omega | exact hpa _ | exact hwa _ | exact hr1 _ (by omega) | exact hr6 _ (by omega) | exact hr11 _ (by omega) | exact hr _) (by first | omega | exact hpa _ | exact hwa _ | exact hr1 _ (by omega) | exact hr6 _ (by omega) | exact hr11 _ (by omega) | exact hr _) (by first | omega | exact hpa _ | exact hwa _ | exact hr1 _ (by omega) | exact hr6 _ (by omega) | exact hr11 _ (by omega) | exact hr _) (by first | omega | exact hpa _ | exact hwa _ | exact hr1 _ (by omega) | exact hr6 _ (by omega) | exact hr11 _ (by omega) | exact hr _) (by first | omega | exact hpa _ | exact hwa _ | exact hr1 _ (by omega) | exact hr6 _ (by omega) | exact hr11 _ (by omega) | exact hr _) (by first | omega | exact hpa _ | exact hwa _ | exact hr1 _ (by omega) | exact hr6 _ (by omega) | exact hr11 _ (by omega) | exact hr _) (by first | omega | exact hpa _ | exact hwa _ | exact hr1 _ (by omega) | exact hr6 _ (by omega) | exact hr11 _ (by omega) | exact hr _)) kX5_goTillThere lX7_284 (by decide) rfl rfl rfl rfl (by exact Nat.le_of_ble_eq_true rfl) dX7_arrival_24 rfl (fun v u hvu => ?_)
  obtain ⟨rfl, c24, s24, f24, rfl⟩ := hvu
  refine g_st (st' := [.int (rO (sGone h so la ri (pa k) (wa k) lo way 41 c s 0))]) rfl ?_
  refine g_iret rfl rfl dX7_arrival_27 ?_
  exact ⟨rfl, (pa k, wa k, lo, c24, s24, f24), rfl⟩

theorem rO_ne (o : Option Nat) (h : ∀ s, o = some s → s < 2 ^ 31) : rO o = -9 ↔ o = none := by
  cases o with
  | none => simp [rO]
  | some s =>
    have h1 : (nI s).toInt = s := nI_toInt (h s rfl)
    have h2 : ((-9 : Int32)).toInt = -9 := by decide
    constructor
    · intro e
      have e2 : (nI s).toInt = (-9 : Int32).toInt := by rw [show nI s = -9 from e]
      omega
    · intro e; cases e
theorem sGone_lt (h so : Nat → Nat) (la ri pa wa lo way : Nat) : ∀ (n c s f t : Nat), s ≤ 40 → sGone h so la ri pa wa lo way n c s f = some t → t ≤ 40
  | 0, c, s, f, t, hs, e => by cases e
  | n + 1, c, s, f, t, hs, e => by
    rw [sGone] at e
    split at e
    · cases e; exact hs
    · split at e
      · cases e
      · exact sGone_lt h so la ri pa wa lo way n _ _ _ t (by omega) e
theorem sArr_ne {h so : Nat → Nat} {la ri pa wa lo way c s : Nat} (hs : s ≤ 40) : rO (sArr h so la ri pa wa lo way c s) = -9 ↔ sArr h so la ri pa wa lo way c s = none :=
  rO_ne _ (fun t e => by have := sGone_lt h so la ri pa wa lo way _ _ _ _ t hs e; omega)
/-- on or back is safe -/
def sSafe (h so : Nat → Nat) (la ri pa wa lo c s : Nat) : Prop := sArr h so la ri pa wa lo 1 c s ≠ none ∨ sArr h so la ri pa wa lo 2 c s ≠ none
noncomputable def sSafe_dec (h so : Nat → Nat) (la ri pa wa lo c s : Nat) : Decidable (sSafe h so la ri pa wa lo c s) := Classical.propDecidable _
/-- the same as a truth value -/
def sSafeB (h so : Nat → Nat) (la ri pa wa lo c s : Nat) : Bool := (sArr h so la ri pa wa lo 1 c s).isSome || (sArr h so la ri pa wa lo 2 c s).isSome
theorem isSome_t {α : Type} {o : Option α} (h : ¬ o = none) : o.isSome = true := by cases o <;> simp_all
theorem isSome_f {α : Type} {o : Option α} (h : o = none) : o.isSome = false := by cases o <;> simp_all
theorem ctX7_isSafe {e1 e2 e9 e10 e11 e12 e13 e14 e17 e19 e21 e22 e25 e26 : va_E} {sd : Int64} {h so ho pa wa : Nat → Nat} {wk tw sf lo ri la : Nat} {r : Nat → Nat} {t : t6} (hg : gOK h so ho pa wa wk tw lo ri la) {k c s : Nat} (hk : k < 5) (hc : c ≤ 9) (hs : s ≤ 40) : Ct mX7_isSafe 5 [.ref 0, .int (nI k), .int (nI c), .int (nI s)] (wC (kO sd) e1 e2 (kG3 wk tw sf lo ri la) (kI 10 h) (kZ 10 so) (kI 10 ho) (kI 5 pa) (kI 5 wa) e9 e10 e11 e12 e13 e14 (kI 16 r) e17 e19 e21 e22 (kPt t) e25 e26) (fun v u => v = some (.int (nI (bN (sSafeB h so la ri (pa k) (wa k) lo c s = true)))) ∧ ∃ t2 : t6, u = wC (kO sd) e1 e2 (kG3 wk tw sf lo ri la) (kI 10 h) (kZ 10 so) (kI 10 ho) (kI 5 pa) (kI 5 wa) e9 e10 e11 e12 e13 e14 (kI 16 r) e17 e19 e21 e22 (kPt t2) e25 e26) := by
  refine Ct.of (by decide) (by exact Nat.le_of_ble_eq_true rfl) ?_
  show Go mX7_isSafe 5 0 [(0, .ref 0), (1, .int (nI k)), (2, .int (nI c)), (3, .int (nI s))] [] (wC (kO sd) e1 e2 (kG3 wk tw sf lo ri la) (kI 10 h) (kZ 10 so) (kI 10 ho) (kI 5 pa) (kI 5 wa) e9 e10 e11 e12 e13 e14 (kI 16 r) e17 e19 e21 e22 (kPt t) e25 e26) (fun v u => v = some (.int (nI (bN (sSafeB h so la ri (pa k) (wa k) lo c s = true)))) ∧ ∃ t2 : t6, u = wC (kO sd) e1 e2 (kG3 wk tw sf lo ri la) (kI 10 h) (kZ 10 so) (kI 10 ho) (kI 5 pa) (kI 5 wa) e9 e10 e11 e12 e13 e14 (kI 16 r) e17 e19 e21 e22 (kPt t2) e25 e26)
  obtain ⟨hH, hso, hho, hpa, hwa, hwk, htw, hlo, hri, hla⟩ := hg
  refine g_aload_n (i := 0) (j := 0) dX7_isSafe_0 rfl rfl ?_
  refine g_iload_n (i := 1) (j := 1) dX7_isSafe_1 rfl rfl ?_
  refine g_iload_n (i := 2) (j := 2) dX7_isSafe_2 rfl rfl ?_
  refine g_iload_n (i := 3) (j := 3) dX7_isSafe_3 rfl rfl ?_
  refine g_iconst (v := nI 1) dX7_isSafe_4 (by decide) ?_
  refine g_callV (rest := []) (ctX7_arrival (k := k) (c := c) (s := s) (way := 1) ⟨hH, hso, hho, hpa, hwa, hwk, htw, hlo, hri, hla⟩ (by first | omega | exact hpa _ | exact hwa _ | exact hr1 _ (by omega) | exact hr6 _ (by omega) | exact hr11 _ (by omega) | exact hr _) (by first | omega | exact hpa _ | exact hwa _ | exact hr1 _ (by omega) | exact hr6 _ (by omega) | exact hr11 _ (by omega) | exact hr _) (by first | omega | exact hpa _ | exact hwa _ | exact hr1 _ (by omega) | exact hr6 _ (by omega) | exact hr11 _ (by omega) | exact hr _) (by first | omega | exact hpa _ | exact hwa _ | exact hr1 _ (by omega) | exact hr6 _ (by omega) | exact hr11 _ (by omega) | exact hr _) (by first | omega | exact hpa _ | exact hwa _ | exact hr1 _ (by omega) | exact hr6 _ (by omega) | exact hr11 _ (by omega) | exact hr _)) kX7_arrival lX7_185 (by decide) rfl rfl rfl rfl (by exact Nat.le_of_ble_eq_true rfl) dX7_isSafe_5 rfl (fun v u hvu => ?_)
  obtain ⟨rfl, t5, rfl⟩ := hvu
  refine g_st (st' := [.int (rO (sArr h so la ri (pa k) (wa k) lo 1 c s))]) rfl ?_
  refine g_bipush (v := (-9)) dX7_isSafe_8 (by decide) ?_
  refine g_icmp_ne (tgt := 26) dX7_isSafe_10 (by decide) (fun h10 => ?_) (fun h10 => ?_)
  · replace h10 := fun z => h10 ((sArr_ne hs).mpr z)
    refine g_iconst (v := nI 1) dX7_isSafe_26 (by decide) ?_
    refine g_goto (tgt := 31) dX7_isSafe_27 (by decide) ?_
    refine g_iret rfl (by decide) dX7_isSafe_31 ?_
    refine ⟨?_, _, rfl⟩
    rw [bN_t (by unfold sSafeB; first | simp [isSome_t h10] | simp [isSome_t h23] | simp [isSome_f h10, isSome_f h23])]
  · replace h10 := (sArr_ne hs).mp h10
    refine g_aload_n (i := 0) (j := 0) dX7_isSafe_13 rfl rfl ?_
    refine g_iload_n (i := 1) (j := 1) dX7_isSafe_14 rfl rfl ?_
    refine g_iload_n (i := 2) (j := 2) dX7_isSafe_15 rfl rfl ?_
    refine g_iload_n (i := 3) (j := 3) dX7_isSafe_16 rfl rfl ?_
    refine g_iconst (v := nI 2) dX7_isSafe_17 (by decide) ?_
    refine g_callV (rest := []) (ctX7_arrival (k := k) (c := c) (s := s) (way := 2) ⟨hH, hso, hho, hpa, hwa, hwk, htw, hlo, hri, hla⟩ (by first | omega | exact hpa _ | exact hwa _ | exact hr1 _ (by omega) | exact hr6 _ (by omega) | exact hr11 _ (by omega) | exact hr _) (by first | omega | exact hpa _ | exact hwa _ | exact hr1 _ (by omega) | exact hr6 _ (by omega) | exact hr11 _ (by omega) | exact hr _) (by first | omega | exact hpa _ | exact hwa _ | exact hr1 _ (by omega) | exact hr6 _ (by omega) | exact hr11 _ (by omega) | exact hr _) (by first | omega | exact hpa _ | exact hwa _ | exact hr1 _ (by omega) | exact hr6 _ (by omega) | exact hr11 _ (by omega) | exact hr _) (by first | omega | exact hpa _ | exact hwa _ | exact hr1 _ (by omega) | exact hr6 _ (by omega) | exact hr11 _ (by omega) | exact hr _)) kX7_arrival lX7_185 (by decide) rfl rfl rfl rfl (by exact Nat.le_of_ble_eq_true rfl) dX7_isSafe_18 rfl (fun v u hvu => ?_)
    obtain ⟨rfl, t18, rfl⟩ := hvu
    refine g_st (st' := [.int (rO (sArr h so la ri (pa k) (wa k) lo 2 c s))]) rfl ?_
    refine g_bipush (v := (-9)) dX7_isSafe_21 (by decide) ?_
    refine g_icmp_eq (tgt := 30) dX7_isSafe_23 (by decide) (fun h23 => ?_) (fun h23 => ?_)
    · replace h23 := (sArr_ne hs).mp h23
      refine g_iconst (v := nI 0) dX7_isSafe_30 (by decide) ?_
      refine g_iret rfl (by decide) dX7_isSafe_31 ?_
      refine ⟨?_, _, rfl⟩
      rw [bN_f (by unfold sSafeB; first | simp [isSome_t h10] | simp [isSome_t h23] | simp [isSome_f h10, isSome_f h23])]
    · replace h23 := fun z => h23 ((sArr_ne hs).mpr z)
      refine g_iconst (v := nI 1) dX7_isSafe_26 (by decide) ?_
      refine g_goto (tgt := 31) dX7_isSafe_27 (by decide) ?_
      refine g_iret rfl (by decide) dX7_isSafe_31 ?_
      refine ⟨?_, _, rfl⟩
      rw [bN_t (by unfold sSafeB; first | simp [isSome_t h10] | simp [isSome_t h23] | simp [isSome_f h10, isSome_f h23])]

theorem ctX7_outlastsStanding {e1 e2 e9 e10 e11 e12 e13 e14 e17 e19 e21 e22 e25 e26 : va_E} {sd : Int64} {h so ho pa wa : Nat → Nat} {wk tw sf lo ri la : Nat} {r : Nat → Nat} {t : t6} (hg : gOK h so ho pa wa wk tw lo ri la) {k c s : Nat} (hk : k < 5) (hc : c ≤ 9) (hs : s ≤ 40) : Ct mX7_outlastsStanding 3 [.ref 0, .int (nI k), .int (nI c), .int (nI s)] (wC (kO sd) e1 e2 (kG3 wk tw sf lo ri la) (kI 10 h) (kZ 10 so) (kI 10 ho) (kI 5 pa) (kI 5 wa) e9 e10 e11 e12 e13 e14 (kI 16 r) e17 e19 e21 e22 (kPt t) e25 e26) (fun v u => v = some (.int (nI (bN (sFate h so (wa k) c (sTo h (pa k) (wa k) c 0 (sWater la ri s lo)) 0 (sWater la ri (s + 1) lo) 0 = 0)))) ∧ ∃ t2 : t6, u = wC (kO sd) e1 e2 (kG3 wk tw sf lo ri la) (kI 10 h) (kZ 10 so) (kI 10 ho) (kI 5 pa) (kI 5 wa) e9 e10 e11 e12 e13 e14 (kI 16 r) e17 e19 e21 e22 (kPt t2) e25 e26) := by
  refine Ct.of (by decide) (by exact Nat.le_of_ble_eq_true rfl) ?_
  show Go mX7_outlastsStanding 3 0 [(0, .ref 0), (1, .int (nI k)), (2, .int (nI c)), (3, .int (nI s))] [] (wC (kO sd) e1 e2 (kG3 wk tw sf lo ri la) (kI 10 h) (kZ 10 so) (kI 10 ho) (kI 5 pa) (kI 5 wa) e9 e10 e11 e12 e13 e14 (kI 16 r) e17 e19 e21 e22 (kPt t) e25 e26) (fun v u => v = some (.int (nI (bN (sFate h so (wa k) c (sTo h (pa k) (wa k) c 0 (sWater la ri s lo)) 0 (sWater la ri (s + 1) lo) 0 = 0)))) ∧ ∃ t2 : t6, u = wC (kO sd) e1 e2 (kG3 wk tw sf lo ri la) (kI 10 h) (kZ 10 so) (kI 10 ho) (kI 5 pa) (kI 5 wa) e9 e10 e11 e12 e13 e14 (kI 16 r) e17 e19 e21 e22 (kPt t2) e25 e26)
  obtain ⟨hH, hso, hho, hpa, hwa, hwk, htw, hlo, hri, hla⟩ := hg
  have hfl : sFate h so (wa k) c (sTo h (pa k) (wa k) c 0 (sWater la ri s lo)) 0 (sWater la ri (s + 1) lo) 0 ≤ 3 := by unfold sFate; (repeat' split) <;> omega
  have hf1 : sFate h so (wa k) c (sTo h (pa k) (wa k) c 0 (sWater la ri s lo)) 0 (sWater la ri (s + 1) lo) 0 ≠ 1 := by unfold sFate; rw [if_neg (by omega)]; (repeat' split) <;> omega
  refine g_aload_n (i := 0) (j := 0) dX7_outlastsStanding_0 rfl rfl ?_
  refine g_get fX7_56 rfl rfl dX7_outlastsStanding_1 ?_
  refine g_aload_n (i := 0) (j := 0) dX7_outlastsStanding_4 rfl rfl ?_
  refine g_get fX7_19 rfl rfl dX7_outlastsStanding_5 ?_
  refine g_iload_n (i := 1) (j := 1) dX7_outlastsStanding_8 rfl rfl ?_
  refine g_iload_n (i := 2) (j := 2) dX7_outlastsStanding_9 rfl rfl ?_
  refine g_iload_n (i := 3) (j := 3) dX7_outlastsStanding_10 rfl rfl ?_
  refine c_V (st1 := []) (ctX5_begin (k := k) (c := c) (s := s) (by omega)) kX5_begin lX7_206 (by decide) rfl rfl rfl rfl (by exact Nat.le_of_ble_eq_true rfl) dX7_outlastsStanding_11 rfl rfl ?_
  refine g_aload_n (i := 0) (j := 0) dX7_outlastsStanding_14 rfl rfl ?_
  refine g_get fX7_56 rfl rfl dX7_outlastsStanding_15 ?_
  refine g_aload_n (i := 0) (j := 0) dX7_outlastsStanding_18 rfl rfl ?_
  refine g_get fX7_19 rfl rfl dX7_outlastsStanding_19 ?_
  refine g_iconst (v := nI 0) dX7_outlastsStanding_22 (by decide) ?_
  refine c_V (st1 := []) (ctX5_move (way := 0) hH hso hla hri (by first | omega | exact hpa _ | exact hwa _ | exact hr1 _ (by omega) | exact hr6 _ (by omega) | exact hr11 _ (by omega) | exact hr _) (by first | omega | exact hpa _ | exact hwa _ | exact hr1 _ (by omega) | exact hr6 _ (by omega) | exact hr11 _ (by omega) | exact hr _) (by first | omega | exact hpa _ | exact hwa _ | exact hr1 _ (by omega) | exact hr6 _ (by omega) | exact hr11 _ (by omega) | exact hr _) (by first | omega | exact hpa _ | exact hwa _ | exact hr1 _ (by omega) | exact hr6 _ (by omega) | exact hr11 _ (by omega) | exact hr _) (by first | omega | exact hpa _ | exact hwa _ | exact hr1 _ (by omega) | exact hr6 _ (by omega) | exact hr11 _ (by omega) | exact hr _) (by first | omega | exact hpa _ | exact hwa _ | exact hr1 _ (by omega) | exact hr6 _ (by omega) | exact hr11 _ (by omega) | exact hr _) (by first | omega | exact hpa _ | exact hwa _ | exact hr1 _ (by omega) | exact hr6 _ (by omega) | exact hr11 _ (by omega) | exact hr _)) kX5_move lX7_219 (by decide) rfl rfl rfl rfl (by exact Nat.le_of_ble_eq_true rfl) dX7_outlastsStanding_23 rfl rfl ?_
  refine g_aload_n (i := 0) (j := 0) dX7_outlastsStanding_26 rfl rfl ?_
  refine g_get fX7_56 rfl rfl dX7_outlastsStanding_27 ?_
  refine c_V (st1 := [.int (nI (bN ((sFate h so (wa k) c (sTo h (pa k) (wa k) c 0 (sWater la ri s lo)) 0 (sWater la ri (s + 1) lo) 0) = 2 ∨ (sFate h so (wa k) c (sTo h (pa k) (wa k) c 0 (sWater la ri s lo)) 0 (sWater la ri (s + 1) lo) 0) = 3)))]) (ctX5_isLost  (by omega)) kX5_isLost lX7_223 (by decide) rfl rfl rfl rfl (by exact Nat.le_of_ble_eq_true rfl) dX7_outlastsStanding_30 rfl rfl ?_
  refine b_if_ne (tgt := 40) dX7_outlastsStanding_33 (by decide) (fun h33 => ?_) (fun h33 => ?_)
  · refine g_iconst (v := nI 0) dX7_outlastsStanding_40 (by decide) ?_
    refine g_iret rfl (by decide) dX7_outlastsStanding_41 ?_
    refine ⟨?_, (pa k, wa k, lo, sTo h (pa k) (wa k) c 0 (sWater la ri s lo), s + 1, sFate h so (wa k) c (sTo h (pa k) (wa k) c 0 (sWater la ri s lo)) 0 (sWater la ri (s + 1) lo) 0), rfl⟩
    rw [bN_f (by omega)]
  · refine g_iconst (v := nI 1) dX7_outlastsStanding_36 (by decide) ?_
    refine g_goto (tgt := 41) dX7_outlastsStanding_37 (by decide) ?_
    refine g_iret rfl (by decide) dX7_outlastsStanding_41 ?_
    refine ⟨?_, (pa k, wa k, lo, sTo h (pa k) (wa k) c 0 (sWater la ri s lo), s + 1, sFate h so (wa k) c (sTo h (pa k) (wa k) c 0 (sWater la ri s lo)) 0 (sWater la ri (s + 1) lo) 0), rfl⟩
    rw [bN_t (by omega)]

theorem ctX7_isOverByLow {e1 e2 e9 e10 e11 e12 e13 e14 e17 e19 e21 e22 e25 e26 : va_E} {sd : Int64} {h so ho pa wa : Nat → Nat} {wk tw sf lo ri la : Nat} {r : Nat → Nat} {t : t6} (hg : gOK h so ho pa wa wk tw lo ri la) {k s lw : Nat} (hk : k < 5) (hs : s ≤ 40) (hlw : lw ≤ 41) : Ct mX7_isOverByLow 4 [.ref 0, .int (nI k), .int (nI s), .int (nI lw)] (wC (kO sd) e1 e2 (kG3 wk tw sf lo ri la) (kI 10 h) (kZ 10 so) (kI 10 ho) (kI 5 pa) (kI 5 wa) e9 e10 e11 e12 e13 e14 (kI 16 r) e17 e19 e21 e22 (kPt t) e25 e26) (fun v u => v = some (.int (nI (bN ((sArr h so la ri (pa k) (wa k) lw 1 0 s).isSome = true)))) ∧ ∃ t2 : t6, u = wC (kO sd) e1 e2 (kG3 wk tw sf lo ri la) (kI 10 h) (kZ 10 so) (kI 10 ho) (kI 5 pa) (kI 5 wa) e9 e10 e11 e12 e13 e14 (kI 16 r) e17 e19 e21 e22 (kPt t2) e25 e26) := by
  refine Ct.of (by decide) (by exact Nat.le_of_ble_eq_true rfl) ?_
  show Go mX7_isOverByLow 4 0 [(0, .ref 0), (1, .int (nI k)), (2, .int (nI s)), (3, .int (nI lw))] [] (wC (kO sd) e1 e2 (kG3 wk tw sf lo ri la) (kI 10 h) (kZ 10 so) (kI 10 ho) (kI 5 pa) (kI 5 wa) e9 e10 e11 e12 e13 e14 (kI 16 r) e17 e19 e21 e22 (kPt t) e25 e26) (fun v u => v = some (.int (nI (bN ((sArr h so la ri (pa k) (wa k) lw 1 0 s).isSome = true)))) ∧ ∃ t2 : t6, u = wC (kO sd) e1 e2 (kG3 wk tw sf lo ri la) (kI 10 h) (kZ 10 so) (kI 10 ho) (kI 5 pa) (kI 5 wa) e9 e10 e11 e12 e13 e14 (kI 16 r) e17 e19 e21 e22 (kPt t2) e25 e26)
  obtain ⟨hH, hso, hho, hpa, hwa, hwk, htw, hlo, hri, hla⟩ := hg
  refine g_aload_n (i := 0) (j := 0) dX7_isOverByLow_0 rfl rfl ?_
  refine g_get fX7_56 rfl rfl dX7_isOverByLow_1 ?_
  refine g_aload_n (i := 0) (j := 0) dX7_isOverByLow_4 rfl rfl ?_
  refine g_get fX7_19 rfl rfl dX7_isOverByLow_5 ?_
  refine g_iload_n (i := 1) (j := 1) dX7_isOverByLow_8 rfl rfl ?_
  refine g_iconst (v := nI 0) dX7_isOverByLow_9 (by decide) ?_
  refine g_iload_n (i := 2) (j := 2) dX7_isOverByLow_10 rfl rfl ?_
  refine c_V (st1 := []) (ctX5_begin (k := k) (c := 0) (s := s) (by omega)) kX5_begin lX7_206 (by decide) rfl rfl rfl rfl (by exact Nat.le_of_ble_eq_true rfl) dX7_isOverByLow_11 rfl rfl ?_
  refine g_aload_n (i := 0) (j := 0) dX7_isOverByLow_14 rfl rfl ?_
  refine g_get fX7_56 rfl rfl dX7_isOverByLow_15 ?_
  refine g_iload_n (i := 3) (j := 3) dX7_isOverByLow_18 rfl rfl ?_
  refine n_putI (ws' := wC (kO sd) e1 e2 (kG3 wk tw sf lo ri la) (kI 10 h) (kZ 10 so) (kI 10 ho) (kI 5 pa) (kI 5 wa) e9 e10 e11 e12 e13 e14 (kI 16 r) e17 e19 e21 e22 (kP (pa k) (wa k) lw 0 s 0) e25 e26) fX7_288 fp_X5_2 rfl (by exact Nat.le_of_ble_eq_true rfl) dX7_isOverByLow_19 rfl ?_
  refine g_aload_n (i := 0) (j := 0) dX7_isOverByLow_22 rfl rfl ?_
  refine g_get fX7_56 rfl rfl dX7_isOverByLow_23 ?_
  refine g_aload_n (i := 0) (j := 0) dX7_isOverByLow_26 rfl rfl ?_
  refine g_get fX7_19 rfl rfl dX7_isOverByLow_27 ?_
  refine g_iconst (v := nI 1) dX7_isOverByLow_30 (by decide) ?_
  refine g_callV (rest := []) (ctX5_goTillThere (way := 1) hH hso hla hri (by first | omega | exact hpa _ | exact hwa _ | exact hr1 _ (by omega) | exact hr6 _ (by omega) | exact hr11 _ (by omega) | exact hr _) (by first | omega | exact hpa _ | exact hwa _ | exact hr1 _ (by omega) | exact hr6 _ (by omega) | exact hr11 _ (by omega) | exact hr _) (by first | omega | exact hpa _ | exact hwa _ | exact hr1 _ (by omega) | exact hr6 _ (by omega) | exact hr11 _ (by omega) | exact hr _) (by first | omega | exact hpa _ | exact hwa _ | exact hr1 _ (by omega) | exact hr6 _ (by omega) | exact hr11 _ (by omega) | exact hr _) (by first | omega | exact hpa _ | exact hwa _ | exact hr1 _ (by omega) | exact hr6 _ (by omega) | exact hr11 _ (by omega) | exact hr _) (by first | omega | exact hpa _ | exact hwa _ | exact hr1 _ (by omega) | exact hr6 _ (by omega) | exact hr11 _ (by omega) | exact hr _) (by first | omega | exact hpa _ | exact hwa _ | exact hr1 _ (by omega) | exact hr6 _ (by omega) | exact hr11 _ (by omega) | exact hr _) (by first | omega | exact hpa _ | exact hwa _ | exact hr1 _ (by omega) | exact hr6 _ (by omega) | exact hr11 _ (by omega) | exact hr _)) kX5_goTillThere lX7_284 (by decide) rfl rfl rfl rfl (by exact Nat.le_of_ble_eq_true rfl) dX7_isOverByLow_31 rfl (fun v u hvu => ?_)
  obtain ⟨rfl, c31, s31, f31, rfl⟩ := hvu
  refine g_st (st' := [.int (rO (sGone h so la ri (pa k) (wa k) lw 1 41 0 s 0))]) rfl ?_
  refine g_bipush (v := (-9)) dX7_isOverByLow_34 (by decide) ?_
  refine g_icmp_eq (tgt := 43) dX7_isOverByLow_36 (by decide) (fun h36 => ?_) (fun h36 => ?_)
  · replace h36 := (sArr_ne hs).mp h36
    refine g_iconst (v := nI 0) dX7_isOverByLow_43 (by decide) ?_
    refine g_iret rfl (by decide) dX7_isOverByLow_44 ?_
    refine ⟨?_, (pa k, wa k, lw, c31, s31, f31), rfl⟩
    rw [bN_f (by first | simp [isSome_t h36] | simp [isSome_f h36])]
  · replace h36 := fun z => h36 ((sArr_ne hs).mpr z)
    refine g_iconst (v := nI 1) dX7_isOverByLow_39 (by decide) ?_
    refine g_goto (tgt := 44) dX7_isOverByLow_40 (by decide) ?_
    refine g_iret rfl (by decide) dX7_isOverByLow_44 ?_
    refine ⟨?_, (pa k, wa k, lw, c31, s31, f31), rfl⟩
    rw [bN_t (by first | simp [isSome_t h36] | simp [isSome_f h36])]

/-- a step of one: where it comes, what becomes of it -/
def sMc (h : Nat → Nat) (pa wa : Nat → Nat) (la ri lo : Nat) (r : Nat → Nat) (k : Nat) : Nat := sTo h (pa k) (wa k) (r (1 + k)) (r (6 + k)) (sWater la ri (r 0) lo)
def sMf (h so : Nat → Nat) (pa wa : Nat → Nat) (la ri lo : Nat) (r : Nat → Nat) (k : Nat) : Nat := sFate h so (wa k) (r (1 + k)) (sMc h pa wa la ri lo r k) (r (6 + k)) (sWater la ri (r 0 + 1) lo) 0
theorem sMc_le (h : Nat → Nat) (pa wa : Nat → Nat) (la ri lo : Nat) (r : Nat → Nat) (k : Nat) (hc : r (1 + k) ≤ 9) : sMc h pa wa la ri lo r k ≤ 9 := sTo_le _ _ _ _ _ _ hc
theorem sMf_le (h so : Nat → Nat) (pa wa : Nat → Nat) (la ri lo : Nat) (r : Nat → Nat) (k : Nat) : sMf h so pa wa la ri lo r k ≤ 4 := sFate_le _ _ _ _ _ _ _ _ (by omega)
theorem sMf_3 (h so : Nat → Nat) (pa wa : Nat → Nat) (la ri lo : Nat) (r : Nat → Nat) (k : Nat) : sMf h so pa wa la ri lo r k ≤ 3 := by unfold sMf sFate; (repeat' split) <;> omega
theorem ctX7_moveOne {e1 e2 e9 e10 e11 e12 e13 e14 e17 e19 e21 e22 e25 e26 : va_E} {sd : Int64} {h so ho pa wa : Nat → Nat} {wk tw sf lo ri la : Nat} {r : Nat → Nat} {t : t6} (hg : gOK h so ho pa wa wk tw lo ri la) (hrk : rOK r) {k : Nat} (hk : k < 5) (hst : r 0 ≤ 40) : Ct mX7_moveOne 3 [.ref 0, .int (nI k)] (wC (kO sd) e1 e2 (kG3 wk tw sf lo ri la) (kI 10 h) (kZ 10 so) (kI 10 ho) (kI 5 pa) (kI 5 wa) e9 e10 e11 e12 e13 e14 (kI 16 r) e17 e19 e21 e22 (kPt t) e25 e26) (fun v u => v = some (.int (nI (bN (sMf h so pa wa la ri lo r k = 2 ∨ sMf h so pa wa la ri lo r k = 3)))) ∧ ∃ t2 : t6, u = wC (kO sd) e1 e2 (kG3 wk tw sf lo ri la) (kI 10 h) (kZ 10 so) (kI 10 ho) (kI 5 pa) (kI 5 wa) e9 e10 e11 e12 e13 e14 (kI 16 (va_up (va_up r (1 + k) (sMc h pa wa la ri lo r k)) (11 + k) (sMf h so pa wa la ri lo r k))) e17 e19 e21 e22 (kPt t2) e25 e26) := by
  refine Ct.of (by decide) (by exact Nat.le_of_ble_eq_true rfl) ?_
  show Go mX7_moveOne 3 0 [(0, .ref 0), (1, .int (nI k))] [] (wC (kO sd) e1 e2 (kG3 wk tw sf lo ri la) (kI 10 h) (kZ 10 so) (kI 10 ho) (kI 5 pa) (kI 5 wa) e9 e10 e11 e12 e13 e14 (kI 16 r) e17 e19 e21 e22 (kPt t) e25 e26) (fun v u => v = some (.int (nI (bN (sMf h so pa wa la ri lo r k = 2 ∨ sMf h so pa wa la ri lo r k = 3)))) ∧ ∃ t2 : t6, u = wC (kO sd) e1 e2 (kG3 wk tw sf lo ri la) (kI 10 h) (kZ 10 so) (kI 10 ho) (kI 5 pa) (kI 5 wa) e9 e10 e11 e12 e13 e14 (kI 16 (va_up (va_up r (1 + k) (sMc h pa wa la ri lo r k)) (11 + k) (sMf h so pa wa la ri lo r k))) e17 e19 e21 e22 (kPt t2) e25 e26)
  obtain ⟨hH, hso, hho, hpa, hwa, hwk, htw, hlo, hri, hla⟩ := hg
  obtain ⟨hr, hr1, hr6, hr11⟩ := hrk
  have hfl := sMf_le h so pa wa la ri lo r k
  refine g_aload_n (i := 0) (j := 0) dX7_moveOne_0 rfl rfl ?_
  refine g_get fX7_56 rfl rfl dX7_moveOne_1 ?_
  refine g_aload_n (i := 0) (j := 0) dX7_moveOne_4 rfl rfl ?_
  refine g_get fX7_19 rfl rfl dX7_moveOne_5 ?_
  refine g_iload_n (i := 1) (j := 1) dX7_moveOne_8 rfl rfl ?_
  refine g_aload_n (i := 0) (j := 0) dX7_moveOne_9 rfl rfl ?_
  refine g_get fX7_29 rfl rfl dX7_moveOne_10 ?_
  refine g_iload_n (i := 1) (j := 1) dX7_moveOne_13 rfl rfl ?_
  refine c_V (st1 := [.int (nI (r (1 + k))), .int (nI k), .ref 3, .ref 23]) (ctX2_cellOf (k := k) (by omega)) kX2_cellOf lX7_147 (by decide) rfl rfl rfl rfl (by exact Nat.le_of_ble_eq_true rfl) dX7_moveOne_14 rfl rfl ?_
  refine g_aload_n (i := 0) (j := 0) dX7_moveOne_17 rfl rfl ?_
  refine g_get fX7_29 rfl rfl dX7_moveOne_18 ?_
  refine c_V (st1 := [.int (nI (r 0)), .int (nI (r (1 + k))), .int (nI k), .ref 3, .ref 23]) (ctX2_time  ) kX2_time lX7_95 (by decide) rfl rfl rfl rfl (by exact Nat.le_of_ble_eq_true rfl) dX7_moveOne_21 rfl rfl ?_
  refine c_V (st1 := []) (ctX5_begin (k := k) (c := r (1 + k)) (s := r 0) (by omega)) kX5_begin lX7_206 (by decide) rfl rfl rfl rfl (by exact Nat.le_of_ble_eq_true rfl) dX7_moveOne_24 rfl rfl ?_
  refine g_aload_n (i := 0) (j := 0) dX7_moveOne_27 rfl rfl ?_
  refine g_get fX7_56 rfl rfl dX7_moveOne_28 ?_
  refine g_aload_n (i := 0) (j := 0) dX7_moveOne_31 rfl rfl ?_
  refine g_get fX7_19 rfl rfl dX7_moveOne_32 ?_
  refine g_aload_n (i := 0) (j := 0) dX7_moveOne_35 rfl rfl ?_
  refine g_get fX7_29 rfl rfl dX7_moveOne_36 ?_
  refine g_iload_n (i := 1) (j := 1) dX7_moveOne_39 rfl rfl ?_
  refine c_V (st1 := [.int (nI (r (6 + k))), .ref 3, .ref 23]) (ctX2_wayOf (k := k) (by omega)) kX2_wayOf lX7_150 (by decide) rfl rfl rfl rfl (by exact Nat.le_of_ble_eq_true rfl) dX7_moveOne_40 rfl rfl ?_
  refine c_V (st1 := []) (ctX5_move (way := r (6 + k)) hH hso hla hri (by first | omega | exact hpa _ | exact hwa _ | exact hr1 _ (by omega) | exact hr6 _ (by omega) | exact hr11 _ (by omega) | exact hr _) (by first | omega | exact hpa _ | exact hwa _ | exact hr1 _ (by omega) | exact hr6 _ (by omega) | exact hr11 _ (by omega) | exact hr _) (by first | omega | exact hpa _ | exact hwa _ | exact hr1 _ (by omega) | exact hr6 _ (by omega) | exact hr11 _ (by omega) | exact hr _) (by first | omega | exact hpa _ | exact hwa _ | exact hr1 _ (by omega) | exact hr6 _ (by omega) | exact hr11 _ (by omega) | exact hr _) (by first | omega | exact hpa _ | exact hwa _ | exact hr1 _ (by omega) | exact hr6 _ (by omega) | exact hr11 _ (by omega) | exact hr _) (by first | omega | exact hpa _ | exact hwa _ | exact hr1 _ (by omega) | exact hr6 _ (by omega) | exact hr11 _ (by omega) | exact hr _) (by first | omega | exact hpa _ | exact hwa _ | exact hr1 _ (by omega) | exact hr6 _ (by omega) | exact hr11 _ (by omega) | exact hr _)) kX5_move lX7_219 (by decide) rfl rfl rfl rfl (by exact Nat.le_of_ble_eq_true rfl) dX7_moveOne_43 rfl rfl ?_
  refine g_ws (ws' := wC (kO sd) e1 e2 (kG3 wk tw sf lo ri la) (kI 10 h) (kZ 10 so) (kI 10 ho) (kI 5 pa) (kI 5 wa) e9 e10 e11 e12 e13 e14 (kI 16 r) e17 e19 e21 e22 (kP (pa k) (wa k) lo (sMc h pa wa la ri lo r k) ((r 0) + 1) (sMf h so pa wa la ri lo r k)) e25 e26) rfl ?_
  refine g_aload_n (i := 0) (j := 0) dX7_moveOne_46 rfl rfl ?_
  refine g_get fX7_29 rfl rfl dX7_moveOne_47 ?_
  refine g_iload_n (i := 1) (j := 1) dX7_moveOne_50 rfl rfl ?_
  refine g_aload_n (i := 0) (j := 0) dX7_moveOne_51 rfl rfl ?_
  refine g_get fX7_56 rfl rfl dX7_moveOne_52 ?_
  refine g_get fX7_265 rfl rfl dX7_moveOne_55 ?_
  refine c_V (st1 := []) (ctX2_setCell (k := k) (x := sMc h pa wa la ri lo r k) (by omega)) kX2_setCell lX7_281 (by decide) rfl rfl rfl rfl (by exact Nat.le_of_ble_eq_true rfl) dX7_moveOne_58 rfl rfl ?_
  refine g_aload_n (i := 0) (j := 0) dX7_moveOne_61 rfl rfl ?_
  refine g_get fX7_29 rfl rfl dX7_moveOne_62 ?_
  refine g_iload_n (i := 1) (j := 1) dX7_moveOne_65 rfl rfl ?_
  refine g_aload_n (i := 0) (j := 0) dX7_moveOne_66 rfl rfl ?_
  refine g_get fX7_56 rfl rfl dX7_moveOne_67 ?_
  refine g_get fX7_210 rfl rfl dX7_moveOne_70 ?_
  refine c_V (st1 := []) (ctX2_setFate (k := k) (x := sMf h so pa wa la ri lo r k) (by omega)) kX2_setFate lX7_179 (by decide) rfl rfl rfl rfl (by exact Nat.le_of_ble_eq_true rfl) dX7_moveOne_73 rfl rfl ?_
  refine g_aload_n (i := 0) (j := 0) dX7_moveOne_76 rfl rfl ?_
  refine g_get fX7_56 rfl rfl dX7_moveOne_77 ?_
  refine c_V (st1 := [.int (nI (bN ((sMf h so pa wa la ri lo r k) = 2 ∨ (sMf h so pa wa la ri lo r k) = 3)))]) (ctX5_isLost  (by omega)) kX5_isLost lX7_223 (by decide) rfl rfl rfl rfl (by exact Nat.le_of_ble_eq_true rfl) dX7_moveOne_80 rfl rfl ?_
  refine g_iret rfl (nar_b _) dX7_moveOne_83 ?_
  exact ⟨rfl, (pa k, wa k, lo, sMc h pa wa la ri lo r k, (r 0) + 1, sMf h so pa wa la ri lo r k), rfl⟩
end
section
theorem zz_t : 1 = 1 := rfl
theorem i_vc : Claimed_1_1 ∧ Claimed_1_2 := sorry
end
