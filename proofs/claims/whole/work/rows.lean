section
-- ===== PART A: goes FIRST, ahead of the names: the tables' words, and 'selects' of the private methods out of them =====
/-- a private method of a class that the tables say can be made, by its rows of tables_1 -/
def lw_okq (q : MethodName × Nat) : Prop := (q.1.cls ≠ "java/lang/invoke/MethodHandle" ∧ q.1.cls ≠ "java/lang/invoke/VarHandle") ∧ Cond.instantiable q.1.cls q.2 ∈ tables_1 ∧ Cond.privateMethod q.1 ∈ tables_1 ∧ Cond.instanceMethod q.1 ∈ tables_1
theorem lw_p0 : lw_okq (⟨"HourAgo$House", "clear", "()V"⟩, 8) := ⟨⟨by decide +kernel, by decide +kernel⟩, List.mem_of_getElem? (i := 35) (by decide +kernel), List.mem_of_getElem? (i := 280) (by decide +kernel), List.mem_of_getElem? (i := 281) (by decide +kernel)⟩
theorem lw_p1 : lw_okq (⟨"HourAgo$House", "takes", "(I)Z"⟩, 8) := ⟨⟨by decide +kernel, by decide +kernel⟩, List.mem_of_getElem? (i := 35) (by decide +kernel), List.mem_of_getElem? (i := 289) (by decide +kernel), List.mem_of_getElem? (i := 290) (by decide +kernel)⟩
theorem lw_p2 : lw_okq (⟨"HourAgo$House", "goesOn", "(ZI)Z"⟩, 8) := ⟨⟨by decide +kernel, by decide +kernel⟩, List.mem_of_getElem? (i := 35) (by decide +kernel), List.mem_of_getElem? (i := 299) (by decide +kernel), List.mem_of_getElem? (i := 300) (by decide +kernel)⟩
theorem lw_p3 : lw_okq (⟨"HourAgo$House", "addsDoor", "(II)Z"⟩, 8) := ⟨⟨by decide +kernel, by decide +kernel⟩, List.mem_of_getElem? (i := 35) (by decide +kernel), List.mem_of_getElem? (i := 303) (by decide +kernel), List.mem_of_getElem? (i := 304) (by decide +kernel)⟩
theorem lw_p4 : lw_okq (⟨"HourAgo$House", "addsSight", "(II)Z"⟩, 8) := ⟨⟨by decide +kernel, by decide +kernel⟩, List.mem_of_getElem? (i := 35) (by decide +kernel), List.mem_of_getElem? (i := 315) (by decide +kernel), List.mem_of_getElem? (i := 316) (by decide +kernel)⟩
theorem lw_p5 : lw_okq (⟨"HourAgo", "hasHouse", "()Z"⟩, 13) := ⟨⟨by decide +kernel, by decide +kernel⟩, List.mem_of_getElem? (i := 13) (by decide +kernel), List.mem_of_getElem? (i := 365) (by decide +kernel), List.mem_of_getElem? (i := 366) (by decide +kernel)⟩
theorem lw_p6 : lw_okq (⟨"HourAgo", "personAt", "(I)LHourAgo$Person;"⟩, 13) := ⟨⟨by decide +kernel, by decide +kernel⟩, List.mem_of_getElem? (i := 13) (by decide +kernel), List.mem_of_getElem? (i := 378) (by decide +kernel), List.mem_of_getElem? (i := 379) (by decide +kernel)⟩
theorem lw_p7 : lw_okq (⟨"HourAgo$Life", "add", "(I)V"⟩, 4) := ⟨⟨by decide +kernel, by decide +kernel⟩, List.mem_of_getElem? (i := 66) (by decide +kernel), List.mem_of_getElem? (i := 414) (by decide +kernel), List.mem_of_getElem? (i := 415) (by decide +kernel)⟩
theorem lw_p8 : lw_okq (⟨"HourAgo$Life", "takes", "(ILHourAgo$House;I)Z"⟩, 4) := ⟨⟨by decide +kernel, by decide +kernel⟩, List.mem_of_getElem? (i := 66) (by decide +kernel), List.mem_of_getElem? (i := 418) (by decide +kernel), List.mem_of_getElem? (i := 419) (by decide +kernel)⟩
theorem lw_p9 : lw_okq (⟨"HourAgo$Person", "isMetBySelf", "(LHourAgo$House;I)Z"⟩, 2) := ⟨⟨by decide +kernel, by decide +kernel⟩, List.mem_of_getElem? (i := 129) (by decide +kernel), List.mem_of_getElem? (i := 500) (by decide +kernel), List.mem_of_getElem? (i := 501) (by decide +kernel)⟩
theorem lw_p10 : lw_okq (⟨"HourAgo", "usersOf", "(I)I"⟩, 13) := ⟨⟨by decide +kernel, by decide +kernel⟩, List.mem_of_getElem? (i := 13) (by decide +kernel), List.mem_of_getElem? (i := 536) (by decide +kernel), List.mem_of_getElem? (i := 537) (by decide +kernel)⟩
theorem lw_p11 : lw_okq (⟨"HourAgo$Search", "covers", "(I)Z"⟩, 7) := ⟨⟨by decide +kernel, by decide +kernel⟩, List.mem_of_getElem? (i := 160) (by decide +kernel), List.mem_of_getElem? (i := 589) (by decide +kernel), List.mem_of_getElem? (i := 590) (by decide +kernel)⟩
theorem lw_p12 : lw_okq (⟨"HourAgo$Search", "isMetAt", "(LHourAgo$House;I)Z"⟩, 7) := ⟨⟨by decide +kernel, by decide +kernel⟩, List.mem_of_getElem? (i := 160) (by decide +kernel), List.mem_of_getElem? (i := 596) (by decide +kernel), List.mem_of_getElem? (i := 597) (by decide +kernel)⟩
theorem lw_p13 : lw_okq (⟨"HourAgo$Search", "enter", "(I)V"⟩, 7) := ⟨⟨by decide +kernel, by decide +kernel⟩, List.mem_of_getElem? (i := 160) (by decide +kernel), List.mem_of_getElem? (i := 603) (by decide +kernel), List.mem_of_getElem? (i := 604) (by decide +kernel)⟩
theorem lw_p14 : lw_okq (⟨"HourAgo$Search", "leave", "(I)V"⟩, 7) := ⟨⟨by decide +kernel, by decide +kernel⟩, List.mem_of_getElem? (i := 160) (by decide +kernel), List.mem_of_getElem? (i := 607) (by decide +kernel), List.mem_of_getElem? (i := 608) (by decide +kernel)⟩
theorem lw_p15 : lw_okq (⟨"HourAgo$Walk", "waysOn", "(LHourAgo$House;I)I"⟩, 3) := ⟨⟨by decide +kernel, by decide +kernel⟩, List.mem_of_getElem? (i := 188) (by decide +kernel), List.mem_of_getElem? (i := 664) (by decide +kernel), List.mem_of_getElem? (i := 665) (by decide +kernel)⟩
def lw_privs_1 : List (MethodName × Nat) := [(⟨"HourAgo$House", "clear", "()V"⟩, 8), (⟨"HourAgo$House", "takes", "(I)Z"⟩, 8), (⟨"HourAgo$House", "goesOn", "(ZI)Z"⟩, 8), (⟨"HourAgo$House", "addsDoor", "(II)Z"⟩, 8), (⟨"HourAgo$House", "addsSight", "(II)Z"⟩, 8), (⟨"HourAgo", "hasHouse", "()Z"⟩, 13), (⟨"HourAgo", "personAt", "(I)LHourAgo$Person;"⟩, 13), (⟨"HourAgo$Life", "add", "(I)V"⟩, 4), (⟨"HourAgo$Life", "takes", "(ILHourAgo$House;I)Z"⟩, 4), (⟨"HourAgo$Person", "isMetBySelf", "(LHourAgo$House;I)Z"⟩, 2), (⟨"HourAgo", "usersOf", "(I)I"⟩, 13), (⟨"HourAgo$Search", "covers", "(I)Z"⟩, 7), (⟨"HourAgo$Search", "isMetAt", "(LHourAgo$House;I)Z"⟩, 7), (⟨"HourAgo$Search", "enter", "(I)V"⟩, 7), (⟨"HourAgo$Search", "leave", "(I)V"⟩, 7), (⟨"HourAgo$Walk", "waysOn", "(LHourAgo$House;I)I"⟩, 3)]
theorem lw_r1 : ∀ q ∈ lw_privs_1, lw_okq q := List.forall_mem_cons.mpr ⟨lw_p0, List.forall_mem_cons.mpr ⟨lw_p1, List.forall_mem_cons.mpr ⟨lw_p2, List.forall_mem_cons.mpr ⟨lw_p3, List.forall_mem_cons.mpr ⟨lw_p4, List.forall_mem_cons.mpr ⟨lw_p5, List.forall_mem_cons.mpr ⟨lw_p6, List.forall_mem_cons.mpr ⟨lw_p7, List.forall_mem_cons.mpr ⟨lw_p8, List.forall_mem_cons.mpr ⟨lw_p9, List.forall_mem_cons.mpr ⟨lw_p10, List.forall_mem_cons.mpr ⟨lw_p11, List.forall_mem_cons.mpr ⟨lw_p12, List.forall_mem_cons.mpr ⟨lw_p13, List.forall_mem_cons.mpr ⟨lw_p14, List.forall_mem_cons.mpr ⟨lw_p15, fun _ h => absurd h List.not_mem_nil⟩⟩⟩⟩⟩⟩⟩⟩⟩⟩⟩⟩⟩⟩⟩⟩
theorem lw_p16 : lw_okq (⟨"HourAgo$Walk", "draw", "(I)I"⟩, 3) := ⟨⟨by decide +kernel, by decide +kernel⟩, List.mem_of_getElem? (i := 188) (by decide +kernel), List.mem_of_getElem? (i := 669) (by decide +kernel), List.mem_of_getElem? (i := 670) (by decide +kernel)⟩
theorem lw_p17 : lw_okq (⟨"HourAgo$Walk", "take", "(LHourAgo$House;II)V"⟩, 3) := ⟨⟨by decide +kernel, by decide +kernel⟩, List.mem_of_getElem? (i := 188) (by decide +kernel), List.mem_of_getElem? (i := 677) (by decide +kernel), List.mem_of_getElem? (i := 678) (by decide +kernel)⟩
theorem lw_p18 : lw_okq (⟨"HourAgo", "digestOfHouse", "(J)J"⟩, 13) := ⟨⟨by decide +kernel, by decide +kernel⟩, List.mem_of_getElem? (i := 13) (by decide +kernel), List.mem_of_getElem? (i := 747) (by decide +kernel), List.mem_of_getElem? (i := 748) (by decide +kernel)⟩
theorem lw_p19 : lw_okq (⟨"HourAgo", "digestOfPerson", "(JI)J"⟩, 13) := ⟨⟨by decide +kernel, by decide +kernel⟩, List.mem_of_getElem? (i := 13) (by decide +kernel), List.mem_of_getElem? (i := 757) (by decide +kernel), List.mem_of_getElem? (i := 758) (by decide +kernel)⟩
theorem lw_p20 : lw_okq (⟨"HourAgo", "digestOfPairs", "(J)J"⟩, 13) := ⟨⟨by decide +kernel, by decide +kernel⟩, List.mem_of_getElem? (i := 13) (by decide +kernel), List.mem_of_getElem? (i := 765) (by decide +kernel), List.mem_of_getElem? (i := 766) (by decide +kernel)⟩
theorem lw_p21 : lw_okq (⟨"HourAgoModel", "houseFault", "()I"⟩, 48) := ⟨⟨by decide +kernel, by decide +kernel⟩, List.mem_of_getElem? (i := 774) (by decide +kernel), List.mem_of_getElem? (i := 938) (by decide +kernel), List.mem_of_getElem? (i := 939) (by decide +kernel)⟩
theorem lw_p22 : lw_okq (⟨"HourAgoModel", "goHouse", "(I)Z"⟩, 48) := ⟨⟨by decide +kernel, by decide +kernel⟩, List.mem_of_getElem? (i := 774) (by decide +kernel), List.mem_of_getElem? (i := 942) (by decide +kernel), List.mem_of_getElem? (i := 943) (by decide +kernel)⟩
theorem lw_p23 : lw_okq (⟨"HourAgoModel", "goDoor", "(I)Z"⟩, 48) := ⟨⟨by decide +kernel, by decide +kernel⟩, List.mem_of_getElem? (i := 774) (by decide +kernel), List.mem_of_getElem? (i := 950) (by decide +kernel), List.mem_of_getElem? (i := 951) (by decide +kernel)⟩
theorem lw_p24 : lw_okq (⟨"HourAgoModel", "goSight", "(I)Z"⟩, 48) := ⟨⟨by decide +kernel, by decide +kernel⟩, List.mem_of_getElem? (i := 774) (by decide +kernel), List.mem_of_getElem? (i := 955) (by decide +kernel), List.mem_of_getElem? (i := 956) (by decide +kernel)⟩
theorem lw_p25 : lw_okq (⟨"HourAgoModel", "lifeFault", "()I"⟩, 48) := ⟨⟨by decide +kernel, by decide +kernel⟩, List.mem_of_getElem? (i := 774) (by decide +kernel), List.mem_of_getElem? (i := 959) (by decide +kernel), List.mem_of_getElem? (i := 960) (by decide +kernel)⟩
theorem lw_p26 : lw_okq (⟨"HourAgoModel", "lacks", "()Z"⟩, 48) := ⟨⟨by decide +kernel, by decide +kernel⟩, List.mem_of_getElem? (i := 774) (by decide +kernel), List.mem_of_getElem? (i := 980) (by decide +kernel), List.mem_of_getElem? (i := 981) (by decide +kernel)⟩
theorem lw_p27 : lw_okq (⟨"HourAgoModel", "betweenOf", "(II)I"⟩, 48) := ⟨⟨by decide +kernel, by decide +kernel⟩, List.mem_of_getElem? (i := 774) (by decide +kernel), List.mem_of_getElem? (i := 984) (by decide +kernel), List.mem_of_getElem? (i := 985) (by decide +kernel)⟩
theorem lw_p28 : lw_okq (⟨"HourAgoModel", "isPerson", "(I)Z"⟩, 48) := ⟨⟨by decide +kernel, by decide +kernel⟩, List.mem_of_getElem? (i := 774) (by decide +kernel), List.mem_of_getElem? (i := 997) (by decide +kernel), List.mem_of_getElem? (i := 998) (by decide +kernel)⟩
theorem lw_p29 : lw_okq (⟨"HourAgoModel", "beginLife", "(II)V"⟩, 48) := ⟨⟨by decide +kernel, by decide +kernel⟩, List.mem_of_getElem? (i := 774) (by decide +kernel), List.mem_of_getElem? (i := 1001) (by decide +kernel), List.mem_of_getElem? (i := 1002) (by decide +kernel)⟩
theorem lw_p30 : lw_okq (⟨"HourAgoModel", "step", "(II)Z"⟩, 48) := ⟨⟨by decide +kernel, by decide +kernel⟩, List.mem_of_getElem? (i := 774) (by decide +kernel), List.mem_of_getElem? (i := 1005) (by decide +kernel), List.mem_of_getElem? (i := 1006) (by decide +kernel)⟩
theorem lw_p31 : lw_okq (⟨"HourAgoModel", "backOf", "(I)I"⟩, 48) := ⟨⟨by decide +kernel, by decide +kernel⟩, List.mem_of_getElem? (i := 774) (by decide +kernel), List.mem_of_getElem? (i := 1009) (by decide +kernel), List.mem_of_getElem? (i := 1010) (by decide +kernel)⟩
def lw_privs_2 : List (MethodName × Nat) := [(⟨"HourAgo$Walk", "draw", "(I)I"⟩, 3), (⟨"HourAgo$Walk", "take", "(LHourAgo$House;II)V"⟩, 3), (⟨"HourAgo", "digestOfHouse", "(J)J"⟩, 13), (⟨"HourAgo", "digestOfPerson", "(JI)J"⟩, 13), (⟨"HourAgo", "digestOfPairs", "(J)J"⟩, 13), (⟨"HourAgoModel", "houseFault", "()I"⟩, 48), (⟨"HourAgoModel", "goHouse", "(I)Z"⟩, 48), (⟨"HourAgoModel", "goDoor", "(I)Z"⟩, 48), (⟨"HourAgoModel", "goSight", "(I)Z"⟩, 48), (⟨"HourAgoModel", "lifeFault", "()I"⟩, 48), (⟨"HourAgoModel", "lacks", "()Z"⟩, 48), (⟨"HourAgoModel", "betweenOf", "(II)I"⟩, 48), (⟨"HourAgoModel", "isPerson", "(I)Z"⟩, 48), (⟨"HourAgoModel", "beginLife", "(II)V"⟩, 48), (⟨"HourAgoModel", "step", "(II)Z"⟩, 48), (⟨"HourAgoModel", "backOf", "(I)I"⟩, 48)]
theorem lw_r2 : ∀ q ∈ lw_privs_2, lw_okq q := List.forall_mem_cons.mpr ⟨lw_p16, List.forall_mem_cons.mpr ⟨lw_p17, List.forall_mem_cons.mpr ⟨lw_p18, List.forall_mem_cons.mpr ⟨lw_p19, List.forall_mem_cons.mpr ⟨lw_p20, List.forall_mem_cons.mpr ⟨lw_p21, List.forall_mem_cons.mpr ⟨lw_p22, List.forall_mem_cons.mpr ⟨lw_p23, List.forall_mem_cons.mpr ⟨lw_p24, List.forall_mem_cons.mpr ⟨lw_p25, List.forall_mem_cons.mpr ⟨lw_p26, List.forall_mem_cons.mpr ⟨lw_p27, List.forall_mem_cons.mpr ⟨lw_p28, List.forall_mem_cons.mpr ⟨lw_p29, List.forall_mem_cons.mpr ⟨lw_p30, List.forall_mem_cons.mpr ⟨lw_p31, fun _ h => absurd h List.not_mem_nil⟩⟩⟩⟩⟩⟩⟩⟩⟩⟩⟩⟩⟩⟩⟩⟩
theorem lw_p32 : lw_okq (⟨"HourAgoModel", "tell", "(II)I"⟩, 48) := ⟨⟨by decide +kernel, by decide +kernel⟩, List.mem_of_getElem? (i := 774) (by decide +kernel), List.mem_of_getElem? (i := 1018) (by decide +kernel), List.mem_of_getElem? (i := 1019) (by decide +kernel)⟩
theorem lw_p33 : lw_okq (⟨"HourAgoModel", "thereOf", "(III)I"⟩, 48) := ⟨⟨by decide +kernel, by decide +kernel⟩, List.mem_of_getElem? (i := 774) (by decide +kernel), List.mem_of_getElem? (i := 1034) (by decide +kernel), List.mem_of_getElem? (i := 1035) (by decide +kernel)⟩
theorem lw_p34 : lw_okq (⟨"HourAgoModel", "metNow", "(I)I"⟩, 48) := ⟨⟨by decide +kernel, by decide +kernel⟩, List.mem_of_getElem? (i := 774) (by decide +kernel), List.mem_of_getElem? (i := 1042) (by decide +kernel), List.mem_of_getElem? (i := 1043) (by decide +kernel)⟩
theorem lw_p35 : lw_okq (⟨"HourAgoModel", "metOf", "(I[I[III)I"⟩, 48) := ⟨⟨by decide +kernel, by decide +kernel⟩, List.mem_of_getElem? (i := 774) (by decide +kernel), List.mem_of_getElem? (i := 1046) (by decide +kernel), List.mem_of_getElem? (i := 1047) (by decide +kernel)⟩
theorem lw_p36 : lw_okq (⟨"HourAgoModel", "mostOf", "(II)I"⟩, 48) := ⟨⟨by decide +kernel, by decide +kernel⟩, List.mem_of_getElem? (i := 774) (by decide +kernel), List.mem_of_getElem? (i := 1054) (by decide +kernel), List.mem_of_getElem? (i := 1055) (by decide +kernel)⟩
theorem lw_p37 : lw_okq (⟨"HourAgoModel", "arePair", "(II)Z"⟩, 48) := ⟨⟨by decide +kernel, by decide +kernel⟩, List.mem_of_getElem? (i := 774) (by decide +kernel), List.mem_of_getElem? (i := 1062) (by decide +kernel), List.mem_of_getElem? (i := 1063) (by decide +kernel)⟩
theorem lw_p38 : lw_okq (⟨"HourAgoModel", "meetOf", "(II)I"⟩, 48) := ⟨⟨by decide +kernel, by decide +kernel⟩, List.mem_of_getElem? (i := 774) (by decide +kernel), List.mem_of_getElem? (i := 1066) (by decide +kernel), List.mem_of_getElem? (i := 1067) (by decide +kernel)⟩
theorem lw_p39 : lw_okq (⟨"HourAgoModel", "lockedOf", "()I"⟩, 48) := ⟨⟨by decide +kernel, by decide +kernel⟩, List.mem_of_getElem? (i := 774) (by decide +kernel), List.mem_of_getElem? (i := 1074) (by decide +kernel), List.mem_of_getElem? (i := 1075) (by decide +kernel)⟩
theorem lw_p40 : lw_okq (⟨"HourAgoModel", "goesThrough", "(II)Z"⟩, 48) := ⟨⟨by decide +kernel, by decide +kernel⟩, List.mem_of_getElem? (i := 774) (by decide +kernel), List.mem_of_getElem? (i := 1078) (by decide +kernel), List.mem_of_getElem? (i := 1079) (by decide +kernel)⟩
theorem lw_p41 : lw_okq (⟨"HourAgoModel", "doneNow", "(I)I"⟩, 48) := ⟨⟨by decide +kernel, by decide +kernel⟩, List.mem_of_getElem? (i := 774) (by decide +kernel), List.mem_of_getElem? (i := 1090) (by decide +kernel), List.mem_of_getElem? (i := 1091) (by decide +kernel)⟩
theorem lw_p42 : lw_okq (⟨"HourAgoModel", "doneBy", "([I[III)I"⟩, 48) := ⟨⟨by decide +kernel, by decide +kernel⟩, List.mem_of_getElem? (i := 774) (by decide +kernel), List.mem_of_getElem? (i := 1094) (by decide +kernel), List.mem_of_getElem? (i := 1095) (by decide +kernel)⟩
theorem lw_p43 : lw_okq (⟨"HourAgoModel", "does", "(IIIIII)Z"⟩, 48) := ⟨⟨by decide +kernel, by decide +kernel⟩, List.mem_of_getElem? (i := 774) (by decide +kernel), List.mem_of_getElem? (i := 1102) (by decide +kernel), List.mem_of_getElem? (i := 1103) (by decide +kernel)⟩
theorem lw_p44 : lw_okq (⟨"HourAgoModel", "whoseOf", "()I"⟩, 48) := ⟨⟨by decide +kernel, by decide +kernel⟩, List.mem_of_getElem? (i := 774) (by decide +kernel), List.mem_of_getElem? (i := 1118) (by decide +kernel), List.mem_of_getElem? (i := 1119) (by decide +kernel)⟩
theorem lw_p45 : lw_okq (⟨"HourAgoModel", "isThere", "(II)Z"⟩, 48) := ⟨⟨by decide +kernel, by decide +kernel⟩, List.mem_of_getElem? (i := 774) (by decide +kernel), List.mem_of_getElem? (i := 1122) (by decide +kernel), List.mem_of_getElem? (i := 1123) (by decide +kernel)⟩
theorem lw_p46 : lw_okq (⟨"HourAgoModel", "pairOf", "(II)I"⟩, 48) := ⟨⟨by decide +kernel, by decide +kernel⟩, List.mem_of_getElem? (i := 774) (by decide +kernel), List.mem_of_getElem? (i := 1130) (by decide +kernel), List.mem_of_getElem? (i := 1131) (by decide +kernel)⟩
theorem lw_p47 : lw_okq (⟨"HourAgoModel", "mayStep", "(II)Z"⟩, 48) := ⟨⟨by decide +kernel, by decide +kernel⟩, List.mem_of_getElem? (i := 774) (by decide +kernel), List.mem_of_getElem? (i := 1140) (by decide +kernel), List.mem_of_getElem? (i := 1141) (by decide +kernel)⟩
def lw_privs_3 : List (MethodName × Nat) := [(⟨"HourAgoModel", "tell", "(II)I"⟩, 48), (⟨"HourAgoModel", "thereOf", "(III)I"⟩, 48), (⟨"HourAgoModel", "metNow", "(I)I"⟩, 48), (⟨"HourAgoModel", "metOf", "(I[I[III)I"⟩, 48), (⟨"HourAgoModel", "mostOf", "(II)I"⟩, 48), (⟨"HourAgoModel", "arePair", "(II)Z"⟩, 48), (⟨"HourAgoModel", "meetOf", "(II)I"⟩, 48), (⟨"HourAgoModel", "lockedOf", "()I"⟩, 48), (⟨"HourAgoModel", "goesThrough", "(II)Z"⟩, 48), (⟨"HourAgoModel", "doneNow", "(I)I"⟩, 48), (⟨"HourAgoModel", "doneBy", "([I[III)I"⟩, 48), (⟨"HourAgoModel", "does", "(IIIIII)Z"⟩, 48), (⟨"HourAgoModel", "whoseOf", "()I"⟩, 48), (⟨"HourAgoModel", "isThere", "(II)Z"⟩, 48), (⟨"HourAgoModel", "pairOf", "(II)I"⟩, 48), (⟨"HourAgoModel", "mayStep", "(II)Z"⟩, 48)]
theorem lw_r3 : ∀ q ∈ lw_privs_3, lw_okq q := List.forall_mem_cons.mpr ⟨lw_p32, List.forall_mem_cons.mpr ⟨lw_p33, List.forall_mem_cons.mpr ⟨lw_p34, List.forall_mem_cons.mpr ⟨lw_p35, List.forall_mem_cons.mpr ⟨lw_p36, List.forall_mem_cons.mpr ⟨lw_p37, List.forall_mem_cons.mpr ⟨lw_p38, List.forall_mem_cons.mpr ⟨lw_p39, List.forall_mem_cons.mpr ⟨lw_p40, List.forall_mem_cons.mpr ⟨lw_p41, List.forall_mem_cons.mpr ⟨lw_p42, List.forall_mem_cons.mpr ⟨lw_p43, List.forall_mem_cons.mpr ⟨lw_p44, List.forall_mem_cons.mpr ⟨lw_p45, List.forall_mem_cons.mpr ⟨lw_p46, List.forall_mem_cons.mpr ⟨lw_p47, fun _ h => absurd h List.not_mem_nil⟩⟩⟩⟩⟩⟩⟩⟩⟩⟩⟩⟩⟩⟩⟩⟩
theorem lw_p48 : lw_okq (⟨"HourAgoModel", "draw", "(I)I"⟩, 48) := ⟨⟨by decide +kernel, by decide +kernel⟩, List.mem_of_getElem? (i := 774) (by decide +kernel), List.mem_of_getElem? (i := 1144) (by decide +kernel), List.mem_of_getElem? (i := 1145) (by decide +kernel)⟩
theorem lw_p49 : lw_okq (⟨"HourAgoModel", "countOf", "(I)I"⟩, 48) := ⟨⟨by decide +kernel, by decide +kernel⟩, List.mem_of_getElem? (i := 774) (by decide +kernel), List.mem_of_getElem? (i := 1167) (by decide +kernel), List.mem_of_getElem? (i := 1168) (by decide +kernel)⟩
theorem lw_p50 : lw_okq (⟨"HourAgoModel", "say", "(J)V"⟩, 48) := ⟨⟨by decide +kernel, by decide +kernel⟩, List.mem_of_getElem? (i := 774) (by decide +kernel), List.mem_of_getElem? (i := 1176) (by decide +kernel), List.mem_of_getElem? (i := 1177) (by decide +kernel)⟩
theorem lw_p51 : lw_okq (⟨"HourAgoModel", "sayPerson", "(I)V"⟩, 48) := ⟨⟨by decide +kernel, by decide +kernel⟩, List.mem_of_getElem? (i := 774) (by decide +kernel), List.mem_of_getElem? (i := 1181) (by decide +kernel), List.mem_of_getElem? (i := 1182) (by decide +kernel)⟩
def lw_privs_4 : List (MethodName × Nat) := [(⟨"HourAgoModel", "draw", "(I)I"⟩, 48), (⟨"HourAgoModel", "countOf", "(I)I"⟩, 48), (⟨"HourAgoModel", "say", "(J)V"⟩, 48), (⟨"HourAgoModel", "sayPerson", "(I)V"⟩, 48)]
theorem lw_r4 : ∀ q ∈ lw_privs_4, lw_okq q := List.forall_mem_cons.mpr ⟨lw_p48, List.forall_mem_cons.mpr ⟨lw_p49, List.forall_mem_cons.mpr ⟨lw_p50, List.forall_mem_cons.mpr ⟨lw_p51, fun _ h => absurd h List.not_mem_nil⟩⟩⟩⟩
def lw_privs : List (MethodName × Nat) := lw_privs_1 ++ (lw_privs_2 ++ (lw_privs_3 ++ (lw_privs_4)))
def lw_tbl : List Cond := k2_sels lw_privs ++ tables_1
theorem lw_privs_ok : ∀ q ∈ lw_privs, lw_okq q := by
  show ∀ q ∈ lw_privs_1 ++ (lw_privs_2 ++ (lw_privs_3 ++ (lw_privs_4))), lw_okq q
  exact List.forall_mem_append.mpr ⟨lw_r1, List.forall_mem_append.mpr ⟨lw_r2, List.forall_mem_append.mpr ⟨lw_r3, lw_r4⟩⟩⟩
end
section
def RX0 : String := "HourAgo$Glimpses"
def TX0 : u_T := fun k => match k with
  | 0 => ("HourAgo$Glimpses", "spots", "[I", true)
  | _ => ("HourAgo$Glimpses", "size", "I", false)
def tyX0 : Nat → FieldType := fun k => match k with
  | 0 => .array .int
  | _ => .int
abbrev wsX00 : List Cond := u_ws RX0 TX0 2
theorem nmX0 : ∀ a, a < 2 → ∀ b, b < 2 → a ≠ b → (TX0 a).2.1 ≠ (TX0 b).2.1 := by decide +kernel
theorem tyX0_ok : ∀ k, k < 2 → parseFieldDescriptor (TX0 k).2.2.1 = some (tyX0 k) := by decide +kernel
abbrev cX0_init : ByteArray := prog_2_method_1_code
def yX0_init : MethodName := ⟨RX0, "<init>", "()V"⟩
abbrev cX0_size : ByteArray := prog_2_method_2_code
def yX0_size : MethodName := ⟨RX0, "size", "()I"⟩
abbrev cX0_clear : ByteArray := prog_2_method_3_code
def yX0_clear : MethodName := ⟨RX0, "clear", "()V"⟩
abbrev cX0_add : ByteArray := prog_2_method_4_code
def yX0_add : MethodName := ⟨RX0, "add", "(I)I"⟩
abbrev cX0_copyFrom : ByteArray := prog_2_method_5_code
def yX0_copyFrom : MethodName := ⟨RX0, "copyFrom", "(LHourAgo$Glimpses;)V"⟩
abbrev cX0_areAllOf : ByteArray := prog_2_method_6_code
def yX0_areAllOf : MethodName := ⟨RX0, "areAllOf", "(LHourAgo$Life;)Z"⟩
abbrev cX0_waysBetween : ByteArray := prog_2_method_7_code
def yX0_waysBetween : MethodName := ⟨RX0, "waysBetween", "(LHourAgo$Life;LHourAgo$Life;)I"⟩
def RX1 : String := "HourAgo$House"
def TX1 : u_T := fun k => match k with
  | 0 => ("HourAgo$House", "doorNumbers", "[I", true)
  | 1 => ("HourAgo$House", "seenRooms", "[I", true)
  | 2 => ("HourAgo$House", "doors", "I", false)
  | 3 => ("HourAgo$House", "sights", "I", false)
  | 4 => ("HourAgo$House", "lowRoom", "I", false)
  | 5 => ("HourAgo$House", "back", "I", false)
  | 6 => ("HourAgo$House", "stage", "I", false)
  | _ => ("HourAgo$House", "firstRoom", "I", false)
def tyX1 : Nat → FieldType := fun k => match k with
  | 0 => .array .int
  | 1 => .array .int
  | 2 => .int
  | 3 => .int
  | 4 => .int
  | 5 => .int
  | 6 => .int
  | _ => .int
abbrev wsX10 : List Cond := u_ws RX1 TX1 8
theorem nmX1 : ∀ a, a < 8 → ∀ b, b < 8 → a ≠ b → (TX1 a).2.1 ≠ (TX1 b).2.1 := by decide +kernel
theorem tyX1_ok : ∀ k, k < 8 → parseFieldDescriptor (TX1 k).2.2.1 = some (tyX1 k) := by decide +kernel
abbrev cX1_init : ByteArray := prog_3_method_1_code
def yX1_init : MethodName := ⟨RX1, "<init>", "()V"⟩
abbrev cX1_read : ByteArray := prog_3_method_2_code
def yX1_read : MethodName := ⟨RX1, "read", "(LHourAgo$Page;)I"⟩
abbrev cX1_isWhole : ByteArray := prog_3_method_3_code
def yX1_isWhole : MethodName := ⟨RX1, "isWhole", "()Z"⟩
abbrev cX1_clear : ByteArray := prog_3_method_4_code
def yX1_clear : MethodName := ⟨RX1, "clear", "()V"⟩
abbrev cX1_takes : ByteArray := prog_3_method_5_code
def yX1_takes : MethodName := ⟨RX1, "takes", "(I)Z"⟩
abbrev cX1_goesOn : ByteArray := prog_3_method_6_code
def yX1_goesOn : MethodName := ⟨RX1, "goesOn", "(ZI)Z"⟩
abbrev cX1_addsDoor : ByteArray := prog_3_method_7_code
def yX1_addsDoor : MethodName := ⟨RX1, "addsDoor", "(II)Z"⟩
abbrev cX1_addsSight : ByteArray := prog_3_method_8_code
def yX1_addsSight : MethodName := ⟨RX1, "addsSight", "(II)Z"⟩
abbrev cX1_doors : ByteArray := prog_3_method_9_code
def yX1_doors : MethodName := ⟨RX1, "doors", "()I"⟩
abbrev cX1_sights : ByteArray := prog_3_method_10_code
def yX1_sights : MethodName := ⟨RX1, "sights", "()I"⟩
abbrev cX1_lowRoom : ByteArray := prog_3_method_11_code
def yX1_lowRoom : MethodName := ⟨RX1, "lowRoom", "()I"⟩
abbrev cX1_back : ByteArray := prog_3_method_12_code
def yX1_back : MethodName := ⟨RX1, "back", "()I"⟩
abbrev cX1_leapOf : ByteArray := prog_3_method_13_code
def yX1_leapOf : MethodName := ⟨RX1, "leapOf", "(I)I"⟩
abbrev cX1_doorBetween : ByteArray := prog_3_method_14_code
def yX1_doorBetween : MethodName := ⟨RX1, "doorBetween", "(II)I"⟩
abbrev cX1_isSeenFrom : ByteArray := prog_3_method_15_code
def yX1_isSeenFrom : MethodName := ⟨RX1, "isSeenFrom", "(II)Z"⟩
abbrev cX1_meetingRooms : ByteArray := prog_3_method_16_code
def yX1_meetingRooms : MethodName := ⟨RX1, "meetingRooms", "(II)I"⟩
abbrev cX1_spotAfter : ByteArray := prog_3_method_17_code
def yX1_spotAfter : MethodName := ⟨RX1, "spotAfter", "(III)I"⟩
def RX2 : String := "HourAgo$Image"
def TX2 : u_T := fun k => match k with
  | 0 => ("HourAgo$Image", "people", "[LHourAgo$Person;", true)
  | 1 => ("HourAgo$Image", "tasks", "LHourAgo$Tasks;", true)
  | 2 => ("HourAgo$Image", "glimpses", "LHourAgo$Glimpses;", true)
  | 3 => ("HourAgo$Image", "kept", "Z", false)
  | _ => ("HourAgo$Image", "peopleCount", "I", false)
def tyX2 : Nat → FieldType := fun k => match k with
  | 0 => .array (.object "HourAgo$Person")
  | 1 => .object "HourAgo$Tasks"
  | 2 => .object "HourAgo$Glimpses"
  | 3 => .boolean
  | _ => .int
abbrev wsX20 : List Cond := u_ws RX2 TX2 5
theorem nmX2 : ∀ a, a < 5 → ∀ b, b < 5 → a ≠ b → (TX2 a).2.1 ≠ (TX2 b).2.1 := by decide +kernel
theorem tyX2_ok : ∀ k, k < 5 → parseFieldDescriptor (TX2 k).2.2.1 = some (tyX2 k) := by decide +kernel
abbrev cX2_init : ByteArray := prog_4_method_1_code
def yX2_init : MethodName := ⟨RX2, "<init>", "()V"⟩
abbrev cX2_keep : ByteArray := prog_4_method_2_code
def yX2_keep : MethodName := ⟨RX2, "keep", "(ILHourAgo$Tasks;LHourAgo$Glimpses;)V"⟩
abbrev cX2_giveBack : ByteArray := prog_4_method_3_code
def yX2_giveBack : MethodName := ⟨RX2, "giveBack", "(LHourAgo$Tasks;LHourAgo$Glimpses;)V"⟩
abbrev cX2_isOf : ByteArray := prog_4_method_4_code
def yX2_isOf : MethodName := ⟨RX2, "isOf", "(I)Z"⟩
abbrev cX2_drop : ByteArray := prog_4_method_5_code
def yX2_drop : MethodName := ⟨RX2, "drop", "()V"⟩
abbrev cX2_personAt : ByteArray := prog_4_method_6_code
def yX2_personAt : MethodName := ⟨RX2, "personAt", "(I)LHourAgo$Person;"⟩
def RX3 : String := "HourAgo$Life"
def TX3 : u_T := fun k => match k with
  | 0 => ("HourAgo$Life", "spots", "[I", true)
  | 1 => ("HourAgo$Life", "selves", "I", false)
  | 2 => ("HourAgo$Life", "throughs", "I", false)
  | _ => ("HourAgo$Life", "doorBits", "I", false)
def tyX3 : Nat → FieldType := fun k => match k with
  | 0 => .array .int
  | 1 => .int
  | 2 => .int
  | _ => .int
abbrev wsX30 : List Cond := u_ws RX3 TX3 4
theorem nmX3 : ∀ a, a < 4 → ∀ b, b < 4 → a ≠ b → (TX3 a).2.1 ≠ (TX3 b).2.1 := by decide +kernel
theorem tyX3_ok : ∀ k, k < 4 → parseFieldDescriptor (TX3 k).2.2.1 = some (tyX3 k) := by decide +kernel
abbrev cX3_init : ByteArray := prog_5_method_1_code
def yX3_init : MethodName := ⟨RX3, "<init>", "()V"⟩
abbrev cX3_faultIn : ByteArray := prog_5_method_2_code
def yX3_faultIn : MethodName := ⟨RX3, "faultIn", "(LHourAgo$Page;)I"⟩
abbrev cX3_mayStand : ByteArray := prog_5_method_3_code
def yX3_mayStand : MethodName := ⟨RX3, "mayStand", "(II)Z"⟩
abbrev cX3_stepOf : ByteArray := prog_5_method_4_code
def yX3_stepOf : MethodName := ⟨RX3, "stepOf", "(I)I"⟩
abbrev cX3_read : ByteArray := prog_5_method_5_code
def yX3_read : MethodName := ⟨RX3, "read", "(LHourAgo$Page;LHourAgo$House;I)Z"⟩
abbrev cX3_takes : ByteArray := prog_5_method_6_code
def yX3_takes : MethodName := ⟨RX3, "takes", "(ILHourAgo$House;I)Z"⟩
abbrev cX3_add : ByteArray := prog_5_method_7_code
def yX3_add : MethodName := ⟨RX3, "add", "(I)V"⟩
abbrev cX3_clear : ByteArray := prog_5_method_8_code
def yX3_clear : MethodName := ⟨RX3, "clear", "()V"⟩
abbrev cX3_copyFrom : ByteArray := prog_5_method_9_code
def yX3_copyFrom : MethodName := ⟨RX3, "copyFrom", "(LHourAgo$Life;)V"⟩
abbrev cX3_selves : ByteArray := prog_5_method_10_code
def yX3_selves : MethodName := ⟨RX3, "selves", "()I"⟩
abbrev cX3_throughs : ByteArray := prog_5_method_11_code
def yX3_throughs : MethodName := ⟨RX3, "throughs", "()I"⟩
abbrev cX3_usesDoor : ByteArray := prog_5_method_12_code
def yX3_usesDoor : MethodName := ⟨RX3, "usesDoor", "(I)Z"⟩
abbrev cX3_spotAt : ByteArray := prog_5_method_13_code
def yX3_spotAt : MethodName := ⟨RX3, "spotAt", "(I)I"⟩
abbrev cX3_lastSpot : ByteArray := prog_5_method_14_code
def yX3_lastSpot : MethodName := ⟨RX3, "lastSpot", "()I"⟩
abbrev cX3_selvesAt : ByteArray := prog_5_method_15_code
def yX3_selvesAt : MethodName := ⟨RX3, "selvesAt", "(I)I"⟩
abbrev cX3_selvesIn : ByteArray := prog_5_method_16_code
def yX3_selvesIn : MethodName := ⟨RX3, "selvesIn", "(I)I"⟩
abbrev cX3_fullestMinute : ByteArray := prog_5_method_17_code
def yX3_fullestMinute : MethodName := ⟨RX3, "fullestMinute", "()I"⟩
abbrev cX3_firstMinuteWith : ByteArray := prog_5_method_18_code
def yX3_firstMinuteWith : MethodName := ⟨RX3, "firstMinuteWith", "(LHourAgo$Life;)I"⟩
def RX4 : String := "HourAgo$Page"
def TX4 : u_T := fun k => match k with
  | 0 => ("HourAgo$Page", "codes", "[I", true)
  | _ => ("HourAgo$Page", "length", "I", false)
def tyX4 : Nat → FieldType := fun k => match k with
  | 0 => .array .int
  | _ => .int
abbrev wsX40 : List Cond := u_ws RX4 TX4 2
theorem nmX4 : ∀ a, a < 2 → ∀ b, b < 2 → a ≠ b → (TX4 a).2.1 ≠ (TX4 b).2.1 := by decide +kernel
theorem tyX4_ok : ∀ k, k < 2 → parseFieldDescriptor (TX4 k).2.2.1 = some (tyX4 k) := by decide +kernel
abbrev cX4_init : ByteArray := prog_6_method_1_code
def yX4_init : MethodName := ⟨RX4, "<init>", "()V"⟩
abbrev cX4_lettersIn : ByteArray := prog_6_method_2_code
def yX4_lettersIn : MethodName := ⟨RX4, "lettersIn", "(J)I"⟩
abbrev cX4_byteOf : ByteArray := prog_6_method_3_code
def yX4_byteOf : MethodName := ⟨RX4, "byteOf", "(JI)I"⟩
abbrev cX4_addAll : ByteArray := prog_6_method_4_code
def yX4_addAll : MethodName := ⟨RX4, "addAll", "(J)V"⟩
abbrev cX4_length : ByteArray := prog_6_method_5_code
def yX4_length : MethodName := ⟨RX4, "length", "()I"⟩
abbrev cX4_at : ByteArray := prog_6_method_6_code
def yX4_at : MethodName := ⟨RX4, "at", "(I)I"⟩
abbrev cX4_clear : ByteArray := prog_6_method_7_code
def yX4_clear : MethodName := ⟨RX4, "clear", "()V"⟩
def RX5 : String := "HourAgo$Person"
def TX5 : u_T := fun k => match k with
  | 0 => ("HourAgo$Person", "life", "LHourAgo$Life;", true)
  | _ => ("HourAgo$Person", "kind", "I", false)
def tyX5 : Nat → FieldType := fun k => match k with
  | 0 => .object "HourAgo$Life"
  | _ => .int
abbrev wsX50 : List Cond := u_ws RX5 TX5 2
theorem nmX5 : ∀ a, a < 2 → ∀ b, b < 2 → a ≠ b → (TX5 a).2.1 ≠ (TX5 b).2.1 := by decide +kernel
theorem tyX5_ok : ∀ k, k < 2 → parseFieldDescriptor (TX5 k).2.2.1 = some (tyX5 k) := by decide +kernel
abbrev cX5_init : ByteArray := prog_7_method_1_code
def yX5_init : MethodName := ⟨RX5, "<init>", "()V"⟩
abbrev cX5_begin : ByteArray := prog_7_method_2_code
def yX5_begin : MethodName := ⟨RX5, "begin", "(I)V"⟩
abbrev cX5_kind : ByteArray := prog_7_method_3_code
def yX5_kind : MethodName := ⟨RX5, "kind", "()I"⟩
abbrev cX5_lived : ByteArray := prog_7_method_4_code
def yX5_lived : MethodName := ⟨RX5, "lived", "()LHourAgo$Life;"⟩
abbrev cX5_firstMeeting : ByteArray := prog_7_method_5_code
def yX5_firstMeeting : MethodName := ⟨RX5, "firstMeeting", "(LHourAgo$House;)I"⟩
abbrev cX5_isMetBySelf : ByteArray := prog_7_method_6_code
def yX5_isMetBySelf : MethodName := ⟨RX5, "isMetBySelf", "(LHourAgo$House;I)Z"⟩
def RX6 : String := "HourAgo$Search"
def TX6 : u_T := fun k => match k with
  | 0 => ("HourAgo$Search", "reach", "[I", true)
  | 1 => ("HourAgo$Search", "roomsTaken", "[I", true)
  | 2 => ("HourAgo$Search", "kind", "I", false)
  | 3 => ("HourAgo$Search", "leap", "I", false)
  | 4 => ("HourAgo$Search", "set", "I", false)
  | 5 => ("HourAgo$Search", "steps", "I", false)
  | _ => ("HourAgo$Search", "firstStep", "I", false)
def tyX6 : Nat → FieldType := fun k => match k with
  | 0 => .array .int
  | 1 => .array .int
  | 2 => .int
  | 3 => .int
  | 4 => .int
  | 5 => .int
  | _ => .int
abbrev wsX60 : List Cond := u_ws RX6 TX6 7
theorem nmX6 : ∀ a, a < 7 → ∀ b, b < 7 → a ≠ b → (TX6 a).2.1 ≠ (TX6 b).2.1 := by decide +kernel
theorem tyX6_ok : ∀ k, k < 7 → parseFieldDescriptor (TX6 k).2.2.1 = some (tyX6 k) := by decide +kernel
abbrev cX6_init : ByteArray := prog_8_method_1_code
def yX6_init : MethodName := ⟨RX6, "<init>", "()V"⟩
abbrev cX6_begin : ByteArray := prog_8_method_2_code
def yX6_begin : MethodName := ⟨RX6, "begin", "(IILHourAgo$Tasks;I)V"⟩
abbrev cX6_look : ByteArray := prog_8_method_3_code
def yX6_look : MethodName := ⟨RX6, "look", "(LHourAgo$House;I)V"⟩
abbrev cX6_steps : ByteArray := prog_8_method_4_code
def yX6_steps : MethodName := ⟨RX6, "steps", "()I"⟩
abbrev cX6_firstStep : ByteArray := prog_8_method_5_code
def yX6_firstStep : MethodName := ⟨RX6, "firstStep", "()I"⟩
abbrev cX6_reachFrom : ByteArray := prog_8_method_6_code
def yX6_reachFrom : MethodName := ⟨RX6, "reachFrom", "(LHourAgo$Search;LHourAgo$House;II)I"⟩
abbrev cX6_finishes : ByteArray := prog_8_method_7_code
def yX6_finishes : MethodName := ⟨RX6, "finishes", "(LHourAgo$Search;LHourAgo$House;III)Z"⟩
abbrev cX6_covers : ByteArray := prog_8_method_8_code
def yX6_covers : MethodName := ⟨RX6, "covers", "(I)Z"⟩
abbrev cX6_isMetAt : ByteArray := prog_8_method_9_code
def yX6_isMetAt : MethodName := ⟨RX6, "isMetAt", "(LHourAgo$House;I)Z"⟩
abbrev cX6_enter : ByteArray := prog_8_method_10_code
def yX6_enter : MethodName := ⟨RX6, "enter", "(I)V"⟩
abbrev cX6_leave : ByteArray := prog_8_method_11_code
def yX6_leave : MethodName := ⟨RX6, "leave", "(I)V"⟩
def RX7 : String := "HourAgo$Tasks"
def TX7 : u_T := fun k => match k with
  | 0 => ("HourAgo$Tasks", "rooms", "[I", true)
  | 1 => ("HourAgo$Tasks", "froms", "[I", true)
  | 2 => ("HourAgo$Tasks", "tos", "[I", true)
  | _ => ("HourAgo$Tasks", "size", "I", false)
def tyX7 : Nat → FieldType := fun k => match k with
  | 0 => .array .int
  | 1 => .array .int
  | 2 => .array .int
  | _ => .int
abbrev wsX70 : List Cond := u_ws RX7 TX7 4
theorem nmX7 : ∀ a, a < 4 → ∀ b, b < 4 → a ≠ b → (TX7 a).2.1 ≠ (TX7 b).2.1 := by decide +kernel
theorem tyX7_ok : ∀ k, k < 4 → parseFieldDescriptor (TX7 k).2.2.1 = some (tyX7 k) := by decide +kernel
abbrev cX7_init : ByteArray := prog_9_method_1_code
def yX7_init : MethodName := ⟨RX7, "<init>", "()V"⟩
abbrev cX7_size : ByteArray := prog_9_method_2_code
def yX7_size : MethodName := ⟨RX7, "size", "()I"⟩
abbrev cX7_clear : ByteArray := prog_9_method_3_code
def yX7_clear : MethodName := ⟨RX7, "clear", "()V"⟩
abbrev cX7_add : ByteArray := prog_9_method_4_code
def yX7_add : MethodName := ⟨RX7, "add", "(III)I"⟩
abbrev cX7_copyFrom : ByteArray := prog_9_method_5_code
def yX7_copyFrom : MethodName := ⟨RX7, "copyFrom", "(LHourAgo$Tasks;)V"⟩
abbrev cX7_doneAt : ByteArray := prog_9_method_6_code
def yX7_doneAt : MethodName := ⟨RX7, "doneAt", "(I)I"⟩
abbrev cX7_doneBy : ByteArray := prog_9_method_7_code
def yX7_doneBy : MethodName := ⟨RX7, "doneBy", "(LHourAgo$Life;)I"⟩
def RX8 : String := "HourAgo$Walk"
def TX8 : u_T := fun k => match k with
  | 0 => ("HourAgo$Walk", "spot", "I", false)
  | 1 => ("HourAgo$Walk", "throughs", "I", false)
  | _ => ("HourAgo$Walk", "seed", "I", false)
def tyX8 : Nat → FieldType := fun k => match k with
  | 0 => .int
  | 1 => .int
  | _ => .int
abbrev wsX80 : List Cond := u_ws RX8 TX8 3
theorem nmX8 : ∀ a, a < 3 → ∀ b, b < 3 → a ≠ b → (TX8 a).2.1 ≠ (TX8 b).2.1 := by decide +kernel
theorem tyX8_ok : ∀ k, k < 3 → parseFieldDescriptor (TX8 k).2.2.1 = some (tyX8 k) := by decide +kernel
abbrev cX8_init : ByteArray := prog_10_method_1_code
def yX8_init : MethodName := ⟨RX8, "<init>", "()V"⟩
abbrev cX8_begin : ByteArray := prog_10_method_2_code
def yX8_begin : MethodName := ⟨RX8, "begin", "(II)V"⟩
abbrev cX8_go : ByteArray := prog_10_method_3_code
def yX8_go : MethodName := ⟨RX8, "go", "(LHourAgo$House;II)V"⟩
abbrev cX8_tell : ByteArray := prog_10_method_4_code
def yX8_tell : MethodName := ⟨RX8, "tell", "(I)I"⟩
abbrev cX8_waysOn : ByteArray := prog_10_method_5_code
def yX8_waysOn : MethodName := ⟨RX8, "waysOn", "(LHourAgo$House;I)I"⟩
abbrev cX8_take : ByteArray := prog_10_method_6_code
def yX8_take : MethodName := ⟨RX8, "take", "(LHourAgo$House;II)V"⟩
abbrev cX8_draw : ByteArray := prog_10_method_7_code
def yX8_draw : MethodName := ⟨RX8, "draw", "(I)I"⟩
def RX9 : String := "HourAgo"
def TX9 : u_T := fun k => match k with
  | 0 => ("HourAgo", "page", "LHourAgo$Page;", true)
  | 1 => ("HourAgo", "house", "LHourAgo$House;", true)
  | 2 => ("HourAgo", "draftHouse", "LHourAgo$House;", true)
  | 3 => ("HourAgo", "draftLife", "LHourAgo$Life;", true)
  | 4 => ("HourAgo", "people", "[LHourAgo$Person;", true)
  | 5 => ("HourAgo", "tasks", "LHourAgo$Tasks;", true)
  | 6 => ("HourAgo", "glimpses", "LHourAgo$Glimpses;", true)
  | 7 => ("HourAgo", "image", "LHourAgo$Image;", true)
  | 8 => ("HourAgo", "search", "LHourAgo$Search;", true)
  | 9 => ("HourAgo", "walk", "LHourAgo$Walk;", true)
  | 10 => ("HourAgo", "peopleCount", "I", false)
  | 11 => ("HourAgo", "housesRead", "I", false)
  | _ => ("HourAgo", "searchesDone", "I", false)
def tyX9 : Nat → FieldType := fun k => match k with
  | 0 => .object "HourAgo$Page"
  | 1 => .object "HourAgo$House"
  | 2 => .object "HourAgo$House"
  | 3 => .object "HourAgo$Life"
  | 4 => .array (.object "HourAgo$Person")
  | 5 => .object "HourAgo$Tasks"
  | 6 => .object "HourAgo$Glimpses"
  | 7 => .object "HourAgo$Image"
  | 8 => .object "HourAgo$Search"
  | 9 => .object "HourAgo$Walk"
  | 10 => .int
  | 11 => .int
  | _ => .int
abbrev wsX90 : List Cond := u_ws RX9 TX9 13
theorem nmX9 : ∀ a, a < 13 → ∀ b, b < 13 → a ≠ b → (TX9 a).2.1 ≠ (TX9 b).2.1 := by decide +kernel
theorem tyX9_ok : ∀ k, k < 13 → parseFieldDescriptor (TX9 k).2.2.1 = some (tyX9 k) := by decide +kernel
abbrev cX9_init : ByteArray := prog_1_method_1_code
def yX9_init : MethodName := ⟨RX9, "<init>", "()V"⟩
abbrev cX9_letters : ByteArray := prog_1_method_2_code
def yX9_letters : MethodName := ⟨RX9, "letters", "(J)I"⟩
abbrev cX9_blank : ByteArray := prog_1_method_3_code
def yX9_blank : MethodName := ⟨RX9, "blank", "()I"⟩
abbrev cX9_fault : ByteArray := prog_1_method_4_code
def yX9_fault : MethodName := ⟨RX9, "fault", "(I)I"⟩
abbrev cX9_house : ByteArray := prog_1_method_5_code
def yX9_house : MethodName := ⟨RX9, "house", "()I"⟩
abbrev cX9_between : ByteArray := prog_1_method_6_code
def yX9_between : MethodName := ⟨RX9, "between", "(II)I"⟩
abbrev cX9_person : ByteArray := prog_1_method_7_code
def yX9_person : MethodName := ⟨RX9, "person", "(I)I"⟩
abbrev cX9_life : ByteArray := prog_1_method_8_code
def yX9_life : MethodName := ⟨RX9, "life", "(I)I"⟩
abbrev cX9_about : ByteArray := prog_1_method_9_code
def yX9_about : MethodName := ⟨RX9, "about", "(II)I"⟩
abbrev cX9_as : ByteArray := prog_1_method_10_code
def yX9_as : MethodName := ⟨RX9, "as", "(II)I"⟩
abbrev cX9_self : ByteArray := prog_1_method_11_code
def yX9_self : MethodName := ⟨RX9, "self", "(III)I"⟩
abbrev cX9_there : ByteArray := prog_1_method_12_code
def yX9_there : MethodName := ⟨RX9, "there", "(III)I"⟩
abbrev cX9_met : ByteArray := prog_1_method_13_code
def yX9_met : MethodName := ⟨RX9, "met", "(I)I"⟩
abbrev cX9_most : ByteArray := prog_1_method_14_code
def yX9_most : MethodName := ⟨RX9, "most", "(II)I"⟩
abbrev cX9_meet : ByteArray := prog_1_method_15_code
def yX9_meet : MethodName := ⟨RX9, "meet", "(II)I"⟩
abbrev cX9_locked : ByteArray := prog_1_method_16_code
def yX9_locked : MethodName := ⟨RX9, "locked", "()I"⟩
abbrev cX9_task : ByteArray := prog_1_method_17_code
def yX9_task : MethodName := ⟨RX9, "task", "(III)I"⟩
abbrev cX9_done : ByteArray := prog_1_method_18_code
def yX9_done : MethodName := ⟨RX9, "done", "(I)I"⟩
abbrev cX9_shortest : ByteArray := prog_1_method_19_code
def yX9_shortest : MethodName := ⟨RX9, "shortest", "(IIIII)I"⟩
abbrev cX9_glimpse : ByteArray := prog_1_method_20_code
def yX9_glimpse : MethodName := ⟨RX9, "glimpse", "(II)I"⟩
abbrev cX9_forget : ByteArray := prog_1_method_21_code
def yX9_forget : MethodName := ⟨RX9, "forget", "()I"⟩
abbrev cX9_whose : ByteArray := prog_1_method_22_code
def yX9_whose : MethodName := ⟨RX9, "whose", "()I"⟩
abbrev cX9_pair : ByteArray := prog_1_method_23_code
def yX9_pair : MethodName := ⟨RX9, "pair", "(II)I"⟩
abbrev cX9_lives : ByteArray := prog_1_method_24_code
def yX9_lives : MethodName := ⟨RX9, "lives", "(IIIII)I"⟩
abbrev cX9_image : ByteArray := prog_1_method_25_code
def yX9_image : MethodName := ⟨RX9, "image", "()I"⟩
abbrev cX9_restore : ByteArray := prog_1_method_26_code
def yX9_restore : MethodName := ⟨RX9, "restore", "()I"⟩
abbrev cX9_count : ByteArray := prog_1_method_27_code
def yX9_count : MethodName := ⟨RX9, "count", "(I)I"⟩
abbrev cX9_digest : ByteArray := prog_1_method_28_code
def yX9_digest : MethodName := ⟨RX9, "digest", "()J"⟩
abbrev cX9_digestOfHouse : ByteArray := prog_1_method_29_code
def yX9_digestOfHouse : MethodName := ⟨RX9, "digestOfHouse", "(J)J"⟩
abbrev cX9_digestOfPerson : ByteArray := prog_1_method_30_code
def yX9_digestOfPerson : MethodName := ⟨RX9, "digestOfPerson", "(JI)J"⟩
abbrev cX9_digestOfPairs : ByteArray := prog_1_method_31_code
def yX9_digestOfPairs : MethodName := ⟨RX9, "digestOfPairs", "(J)J"⟩
abbrev cX9_mixed : ByteArray := prog_1_method_32_code
def yX9_mixed : MethodName := ⟨RX9, "mixed", "(JJ)J"⟩
abbrev cX9_hasHouse : ByteArray := prog_1_method_33_code
def yX9_hasHouse : MethodName := ⟨RX9, "hasHouse", "()Z"⟩
abbrev cX9_personAt : ByteArray := prog_1_method_34_code
def yX9_personAt : MethodName := ⟨RX9, "personAt", "(I)LHourAgo$Person;"⟩
abbrev cX9_usersOf : ByteArray := prog_1_method_35_code
def yX9_usersOf : MethodName := ⟨RX9, "usersOf", "(I)I"⟩
abbrev cX9_copyLife : ByteArray := prog_1_method_36_code
def yX9_copyLife : MethodName := ⟨RX9, "copyLife", "(LHourAgo$Person;LHourAgo$Person;)V"⟩
abbrev cX9_isRoom : ByteArray := prog_1_method_37_code
def yX9_isRoom : MethodName := ⟨RX9, "isRoom", "(I)Z"⟩
abbrev cX9_isMinute : ByteArray := prog_1_method_38_code
def yX9_isMinute : MethodName := ⟨RX9, "isMinute", "(I)Z"⟩
abbrev cX9_isKind : ByteArray := prog_1_method_39_code
def yX9_isKind : MethodName := ⟨RX9, "isKind", "(I)Z"⟩
abbrev cX9_isOfKind : ByteArray := prog_1_method_40_code
def yX9_isOfKind : MethodName := ⟨RX9, "isOfKind", "(II)Z"⟩
abbrev cX9_spotOf : ByteArray := prog_1_method_41_code
def yX9_spotOf : MethodName := ⟨RX9, "spotOf", "(II)I"⟩
abbrev cX9_minuteOf : ByteArray := prog_1_method_42_code
def yX9_minuteOf : MethodName := ⟨RX9, "minuteOf", "(I)I"⟩
abbrev cX9_roomOf : ByteArray := prog_1_method_43_code
def yX9_roomOf : MethodName := ⟨RX9, "roomOf", "(I)I"⟩
abbrev cX9_digitOf : ByteArray := prog_1_method_44_code
def yX9_digitOf : MethodName := ⟨RX9, "digitOf", "(III)I"⟩
abbrev cX9_roomDigitOf : ByteArray := prog_1_method_45_code
def yX9_roomDigitOf : MethodName := ⟨RX9, "roomDigitOf", "(I)I"⟩
def RX10 : String := "HourAgoModel"
def TX10 : u_T := fun k => match k with
  | 0 => ("HourAgoModel", "page", "[I", true)
  | 1 => ("HourAgoModel", "pageMany", "I", false)
  | 2 => ("HourAgoModel", "readDoors", "[I", true)
  | 3 => ("HourAgoModel", "readSights", "[I", true)
  | 4 => ("HourAgoModel", "readOnes", "[I", true)
  | 5 => ("HourAgoModel", "readTwos", "[I", true)
  | 6 => ("HourAgoModel", "readMany", "I", false)
  | 7 => ("HourAgoModel", "readSightMany", "I", false)
  | 8 => ("HourAgoModel", "readRoom", "I", false)
  | 9 => ("HourAgoModel", "readBack", "I", false)
  | 10 => ("HourAgoModel", "readFirst", "I", false)
  | 11 => ("HourAgoModel", "state", "I", false)
  | 12 => ("HourAgoModel", "doors", "I", false)
  | 13 => ("HourAgoModel", "sightMany", "I", false)
  | 14 => ("HourAgoModel", "lowRoom", "I", false)
  | 15 => ("HourAgoModel", "back", "I", false)
  | 16 => ("HourAgoModel", "housesRead", "I", false)
  | 17 => ("HourAgoModel", "doorsOf", "[I", true)
  | 18 => ("HourAgoModel", "sightsOf", "[I", true)
  | 19 => ("HourAgoModel", "ones", "[I", true)
  | 20 => ("HourAgoModel", "twos", "[I", true)
  | 21 => ("HourAgoModel", "people", "I", false)
  | 22 => ("HourAgoModel", "kinds", "[I", true)
  | 23 => ("HourAgoModel", "selves", "[I", true)
  | 24 => ("HourAgoModel", "lowMany", "[I", true)
  | 25 => ("HourAgoModel", "minutes", "[I", true)
  | 26 => ("HourAgoModel", "rooms", "[I", true)
  | 27 => ("HourAgoModel", "lifeMinutes", "[I", true)
  | 28 => ("HourAgoModel", "lifeRooms", "[I", true)
  | 29 => ("HourAgoModel", "lifeMany", "I", false)
  | 30 => ("HourAgoModel", "lifeLow", "I", false)
  | 31 => ("HourAgoModel", "tasks", "I", false)
  | 32 => ("HourAgoModel", "taskRows", "[I", true)
  | 33 => ("HourAgoModel", "shortestMany", "I", false)
  | 34 => ("HourAgoModel", "glimpses", "I", false)
  | 35 => ("HourAgoModel", "glimpseRows", "[I", true)
  | 36 => ("HourAgoModel", "seedNow", "I", false)
  | 37 => ("HourAgoModel", "keptHouse", "I", false)
  | 38 => ("HourAgoModel", "keptPeople", "I", false)
  | 39 => ("HourAgoModel", "keptTasks", "I", false)
  | 40 => ("HourAgoModel", "keptGlimpses", "I", false)
  | 41 => ("HourAgoModel", "keptSelves", "[I", true)
  | 42 => ("HourAgoModel", "keptLow", "[I", true)
  | 43 => ("HourAgoModel", "keptMinutes", "[I", true)
  | 44 => ("HourAgoModel", "keptRooms", "[I", true)
  | 45 => ("HourAgoModel", "keptTaskRows", "[I", true)
  | 46 => ("HourAgoModel", "keptGlimpseRows", "[I", true)
  | _ => ("HourAgoModel", "hash", "J", false)
def tyX10 : Nat → FieldType := fun k => match k with
  | 0 => .array .int
  | 1 => .int
  | 2 => .array .int
  | 3 => .array .int
  | 4 => .array .int
  | 5 => .array .int
  | 6 => .int
  | 7 => .int
  | 8 => .int
  | 9 => .int
  | 10 => .int
  | 11 => .int
  | 12 => .int
  | 13 => .int
  | 14 => .int
  | 15 => .int
  | 16 => .int
  | 17 => .array .int
  | 18 => .array .int
  | 19 => .array .int
  | 20 => .array .int
  | 21 => .int
  | 22 => .array .int
  | 23 => .array .int
  | 24 => .array .int
  | 25 => .array .int
  | 26 => .array .int
  | 27 => .array .int
  | 28 => .array .int
  | 29 => .int
  | 30 => .int
  | 31 => .int
  | 32 => .array .int
  | 33 => .int
  | 34 => .int
  | 35 => .array .int
  | 36 => .int
  | 37 => .int
  | 38 => .int
  | 39 => .int
  | 40 => .int
  | 41 => .array .int
  | 42 => .array .int
  | 43 => .array .int
  | 44 => .array .int
  | 45 => .array .int
  | 46 => .array .int
  | _ => .long
abbrev wsX100 : List Cond := u_ws RX10 TX10 48
theorem nmX10 : ∀ a, a < 48 → ∀ b, b < 48 → a ≠ b → (TX10 a).2.1 ≠ (TX10 b).2.1 := by decide +kernel
theorem tyX10_ok : ∀ k, k < 48 → parseFieldDescriptor (TX10 k).2.2.1 = some (tyX10 k) := by decide +kernel
abbrev cX10_init : ByteArray := prog_12_method_1_code
def yX10_init : MethodName := ⟨RX10, "<init>", "()V"⟩
abbrev cX10_in : ByteArray := prog_12_method_2_code
def yX10_in : MethodName := ⟨RX10, "in", "(JJJ)Z"⟩
abbrev cX10_letters : ByteArray := prog_12_method_3_code
def yX10_letters : MethodName := ⟨RX10, "letters", "(J)I"⟩
abbrev cX10_blank : ByteArray := prog_12_method_4_code
def yX10_blank : MethodName := ⟨RX10, "blank", "()I"⟩
abbrev cX10_goDoor : ByteArray := prog_12_method_5_code
def yX10_goDoor : MethodName := ⟨RX10, "goDoor", "(I)Z"⟩
abbrev cX10_goSight : ByteArray := prog_12_method_6_code
def yX10_goSight : MethodName := ⟨RX10, "goSight", "(I)Z"⟩
abbrev cX10_goHouse : ByteArray := prog_12_method_7_code
def yX10_goHouse : MethodName := ⟨RX10, "goHouse", "(I)Z"⟩
abbrev cX10_houseFault : ByteArray := prog_12_method_8_code
def yX10_houseFault : MethodName := ⟨RX10, "houseFault", "()I"⟩
abbrev cX10_isLifeLetter : ByteArray := prog_12_method_9_code
def yX10_isLifeLetter : MethodName := ⟨RX10, "isLifeLetter", "(II)Z"⟩
abbrev cX10_lifeFault : ByteArray := prog_12_method_10_code
def yX10_lifeFault : MethodName := ⟨RX10, "lifeFault", "()I"⟩
abbrev cX10_fault : ByteArray := prog_12_method_11_code
def yX10_fault : MethodName := ⟨RX10, "fault", "(I)I"⟩
abbrev cX10_house : ByteArray := prog_12_method_12_code
def yX10_house : MethodName := ⟨RX10, "house", "()I"⟩
abbrev cX10_lacks : ByteArray := prog_12_method_13_code
def yX10_lacks : MethodName := ⟨RX10, "lacks", "()Z"⟩
abbrev cX10_isRoom : ByteArray := prog_12_method_14_code
def yX10_isRoom : MethodName := ⟨RX10, "isRoom", "(I)Z"⟩
abbrev cX10_betweenOf : ByteArray := prog_12_method_15_code
def yX10_betweenOf : MethodName := ⟨RX10, "betweenOf", "(II)I"⟩
abbrev cX10_between : ByteArray := prog_12_method_16_code
def yX10_between : MethodName := ⟨RX10, "between", "(II)I"⟩
abbrev cX10_isPerson : ByteArray := prog_12_method_17_code
def yX10_isPerson : MethodName := ⟨RX10, "isPerson", "(I)Z"⟩
abbrev cX10_person : ByteArray := prog_12_method_18_code
def yX10_person : MethodName := ⟨RX10, "person", "(I)I"⟩
abbrev cX10_backOf : ByteArray := prog_12_method_19_code
def yX10_backOf : MethodName := ⟨RX10, "backOf", "(I)I"⟩
abbrev cX10_beginLife : ByteArray := prog_12_method_20_code
def yX10_beginLife : MethodName := ⟨RX10, "beginLife", "(II)V"⟩
abbrev cX10_step : ByteArray := prog_12_method_21_code
def yX10_step : MethodName := ⟨RX10, "step", "(II)Z"⟩
abbrev cX10_life : ByteArray := prog_12_method_22_code
def yX10_life : MethodName := ⟨RX10, "life", "(I)I"⟩
abbrev cX10_tell : ByteArray := prog_12_method_23_code
def yX10_tell : MethodName := ⟨RX10, "tell", "(II)I"⟩
abbrev cX10_about : ByteArray := prog_12_method_24_code
def yX10_about : MethodName := ⟨RX10, "about", "(II)I"⟩
abbrev cX10_as : ByteArray := prog_12_method_25_code
def yX10_as : MethodName := ⟨RX10, "as", "(II)I"⟩
abbrev cX10_self : ByteArray := prog_12_method_26_code
def yX10_self : MethodName := ⟨RX10, "self", "(III)I"⟩
abbrev cX10_thereOf : ByteArray := prog_12_method_27_code
def yX10_thereOf : MethodName := ⟨RX10, "thereOf", "(III)I"⟩
abbrev cX10_there : ByteArray := prog_12_method_28_code
def yX10_there : MethodName := ⟨RX10, "there", "(III)I"⟩
abbrev cX10_metOf : ByteArray := prog_12_method_29_code
def yX10_metOf : MethodName := ⟨RX10, "metOf", "(I[I[III)I"⟩
abbrev cX10_metNow : ByteArray := prog_12_method_30_code
def yX10_metNow : MethodName := ⟨RX10, "metNow", "(I)I"⟩
abbrev cX10_met : ByteArray := prog_12_method_31_code
def yX10_met : MethodName := ⟨RX10, "met", "(I)I"⟩
abbrev cX10_mostOf : ByteArray := prog_12_method_32_code
def yX10_mostOf : MethodName := ⟨RX10, "mostOf", "(II)I"⟩
abbrev cX10_most : ByteArray := prog_12_method_33_code
def yX10_most : MethodName := ⟨RX10, "most", "(II)I"⟩
abbrev cX10_arePair : ByteArray := prog_12_method_34_code
def yX10_arePair : MethodName := ⟨RX10, "arePair", "(II)Z"⟩
abbrev cX10_meetOf : ByteArray := prog_12_method_35_code
def yX10_meetOf : MethodName := ⟨RX10, "meetOf", "(II)I"⟩
abbrev cX10_meet : ByteArray := prog_12_method_36_code
def yX10_meet : MethodName := ⟨RX10, "meet", "(II)I"⟩
abbrev cX10_goesThrough : ByteArray := prog_12_method_37_code
def yX10_goesThrough : MethodName := ⟨RX10, "goesThrough", "(II)Z"⟩
abbrev cX10_lockedOf : ByteArray := prog_12_method_38_code
def yX10_lockedOf : MethodName := ⟨RX10, "lockedOf", "()I"⟩
abbrev cX10_locked : ByteArray := prog_12_method_39_code
def yX10_locked : MethodName := ⟨RX10, "locked", "()I"⟩
abbrev cX10_task : ByteArray := prog_12_method_40_code
def yX10_task : MethodName := ⟨RX10, "task", "(III)I"⟩
abbrev cX10_doneBy : ByteArray := prog_12_method_41_code
def yX10_doneBy : MethodName := ⟨RX10, "doneBy", "([I[III)I"⟩
abbrev cX10_doneNow : ByteArray := prog_12_method_42_code
def yX10_doneNow : MethodName := ⟨RX10, "doneNow", "(I)I"⟩
abbrev cX10_done : ByteArray := prog_12_method_43_code
def yX10_done : MethodName := ⟨RX10, "done", "(I)I"⟩
abbrev cX10_does : ByteArray := prog_12_method_44_code
def yX10_does : MethodName := ⟨RX10, "does", "(IIIIII)Z"⟩
abbrev cX10_shortest : ByteArray := prog_12_method_45_code
def yX10_shortest : MethodName := ⟨RX10, "shortest", "(IIIII)I"⟩
abbrev cX10_glimpse : ByteArray := prog_12_method_46_code
def yX10_glimpse : MethodName := ⟨RX10, "glimpse", "(II)I"⟩
abbrev cX10_forget : ByteArray := prog_12_method_47_code
def yX10_forget : MethodName := ⟨RX10, "forget", "()I"⟩
abbrev cX10_isThere : ByteArray := prog_12_method_48_code
def yX10_isThere : MethodName := ⟨RX10, "isThere", "(II)Z"⟩
abbrev cX10_whoseOf : ByteArray := prog_12_method_49_code
def yX10_whoseOf : MethodName := ⟨RX10, "whoseOf", "()I"⟩
abbrev cX10_whose : ByteArray := prog_12_method_50_code
def yX10_whose : MethodName := ⟨RX10, "whose", "()I"⟩
abbrev cX10_pairOf : ByteArray := prog_12_method_51_code
def yX10_pairOf : MethodName := ⟨RX10, "pairOf", "(II)I"⟩
abbrev cX10_pair : ByteArray := prog_12_method_52_code
def yX10_pair : MethodName := ⟨RX10, "pair", "(II)I"⟩
abbrev cX10_draw : ByteArray := prog_12_method_53_code
def yX10_draw : MethodName := ⟨RX10, "draw", "(I)I"⟩
abbrev cX10_mayStep : ByteArray := prog_12_method_54_code
def yX10_mayStep : MethodName := ⟨RX10, "mayStep", "(II)Z"⟩
abbrev cX10_lives : ByteArray := prog_12_method_55_code
def yX10_lives : MethodName := ⟨RX10, "lives", "(IIIII)I"⟩
abbrev cX10_copy : ByteArray := prog_12_method_56_code
def yX10_copy : MethodName := ⟨RX10, "copy", "([I[I)V"⟩
abbrev cX10_image : ByteArray := prog_12_method_57_code
def yX10_image : MethodName := ⟨RX10, "image", "()I"⟩
abbrev cX10_restore : ByteArray := prog_12_method_58_code
def yX10_restore : MethodName := ⟨RX10, "restore", "()I"⟩
abbrev cX10_countOf : ByteArray := prog_12_method_59_code
def yX10_countOf : MethodName := ⟨RX10, "countOf", "(I)I"⟩
abbrev cX10_count : ByteArray := prog_12_method_60_code
def yX10_count : MethodName := ⟨RX10, "count", "(I)I"⟩
abbrev cX10_say : ByteArray := prog_12_method_61_code
def yX10_say : MethodName := ⟨RX10, "say", "(J)V"⟩
abbrev cX10_sayPerson : ByteArray := prog_12_method_62_code
def yX10_sayPerson : MethodName := ⟨RX10, "sayPerson", "(I)V"⟩
abbrev cX10_digest : ByteArray := prog_12_method_63_code
def yX10_digest : MethodName := ⟨RX10, "digest", "()J"⟩
def RL : String := "HourAgoLaw"
abbrev cL_law : ByteArray := code
def yL_law : MethodName := ⟨RL, "law", "([I)Z"⟩
abbrev vwCl : List vw_C := [(RX0, TX0, 2), (RX1, TX1, 8), (RX2, TX2, 5), (RX3, TX3, 4), (RX4, TX4, 2), (RX5, TX5, 2), (RX6, TX6, 7), (RX7, TX7, 4), (RX8, TX8, 3), (RX9, TX9, 13), (RX10, TX10, 48)]
end
section

/-! ===== an own judgement over the kit's: the objects have numbers (the k-th made lies at base + k), their whole numbers lie in one store ===== -/
/-- a method: name, code, locals, answer's type, parameters, its instructions -/
abbrev xM : Type := MethodName × ByteArray × Nat × Option FieldType × Nat × List (Nat × Instr × Nat)
/-- what a numbered cell is: an object of a class with its references; a row of ints; a row of references -/
abbrev xSh : Type := (Nat × List (Option Nat)) ⊕ (Nat ⊕ List (Option Nat))
/-- the cells, their ints, their longs -/
abbrev xH : Type := List xSh × (Nat → Nat → Int32) × (Nat → Nat → Int64)
def xfetch (M : xM) (pc : Nat) : Option (Instr × Nat) := M.2.2.2.2.2.lookup pc
def xe (b base : Nat) : Value → Value
  | .ref k => .ref (base + k)
  | .retAddr _ => .ref b
  | v => v
theorem xe_cat (b base : Nat) (v : Value) : (xe b base v).category = v.category := by cases v <;> rfl
/-- the kinds of fields: 0 int, 1 long, 2 reference, 3 boolean -/
def xkinds : List (List Nat) := [[2, 0], [2, 2, 0, 0, 0, 0, 0, 0], [2, 2, 2, 3, 0], [2, 0, 0, 0], [2, 0], [2, 0], [2, 2, 0, 0, 0, 0, 0], [2, 2, 2, 0], [0, 0, 0], [2, 2, 2, 2, 2, 2, 2, 2, 2, 2, 0, 0, 0], [2, 0, 2, 2, 2, 2, 0, 0, 0, 0, 0, 0, 0, 0, 0, 0, 0, 2, 2, 2, 2, 0, 2, 2, 2, 2, 2, 2, 2, 0, 0, 0, 2, 0, 0, 2, 0, 0, 0, 0, 0, 2, 2, 2, 2, 2, 2, 1]]
def xkind (ci k : Nat) : Nat := (xkinds.getD ci []).getD k 0
def xnf (ci : Nat) : Nat := (xkinds.getD ci []).length
def xval (base : Nat) (h : xH) (k c : Nat) (r : List (Option Nat)) (i : Nat) : Value := match xkind c i with
  | 0 => .int (h.2.1 k i)
  | 1 => .long (h.2.2 k i)
  | 2 => va_rf ((r.getD i none).map (fun j => base + j))
  | _ => .int (h.2.1 k i)
def xcell (base : Nat) (yI yP : ClassId) (h : xH) (k : Nat) : xSh → va_E
  | .inl (c, r) => .inr (c, (List.range (xnf c)).map (xval base h k c r))
  | .inr (.inl n) => .inl (yI, n, .inl (h.2.1 k))
  | .inr (.inr l) => .inl (yP, l.length, .inr (.inr (.inr (.inr (fun i => (l.getD i none).map (fun j => base + j))))))
def xws (base : Nat) (yI yP : ClassId) (h : xH) : va_W := h.1.mapIdx (fun k sh => (base + k, xcell base yI yP h k sh))
abbrev xtys (yI yP : ClassId) : List (ClassId × FieldType) := [(yI, .int), (yP, .object RX5)]
def xWd (base : Nat) (yI yP : ClassId) (D : va_G) (h : xH) (H : Heap) : Prop := H.size = base + h.1.length ∧ va_P D vwCl (xws base yI yP h) H
def xLs (b base : Nat) (ls : Array Slot) (L : List (Option Value)) : Prop := ls.size = L.length ∧ lv_wf ls ∧ ∀ (i : Nat) (v : Value), L[i]? = some (some v) → ls[i]? = some (.val (xe b base v))
/-- a word of the tables that every method may use -/
def xW (w : Cond) : Prop := w ∈ lw_tbl ∧ goodWord w = true
def xnest : Cond → Bool
  | .methodLinkNest _ _ _ _ => true
  | _ => false
def xBW : List Cond := lw_tbl.filter goodWord
theorem xBW_of {w : Cond} (h : xW w) : w ∈ xBW := List.mem_filter.mpr h
theorem xW_of {w : Cond} (h : w ∈ xBW) : xW w := List.mem_filter.mp h
abbrev xAd (base : Nat) : Nat → Prop := fun q => base ≤ q
def xIsRet (rt : Option FieldType) (i : Instr) (st : List Value) (r : Option Value) : Prop :=
  (i = .ireturn ∧ ∃ v : Int32, st = [.int v] ∧ r = some (.int v) ∧ ∃ ty, rt = some ty ∧ narrow ty (.int v) = .int v) ∨
  (i = .lreturn ∧ ∃ v : Int64, st = [.long v] ∧ r = some (.long v) ∧ rt = some .long) ∨
  (i = .areturn ∧ ∃ v : Value, st = [v] ∧ r = some v ∧ (∃ n, rt = some (.object n)) ∧ (v = .null ∨ ∃ a, v = .ref a)) ∨
  (i = .return_ ∧ st = [] ∧ r = none ∧ rt = none)
/-- the tables' part of a state -/
def xTb (yI yP : ClassId) (D : va_G) (s : State) : Prop := va_K D vwCl (xtys yI yP) s ∧ va_AO RX5 s ∧ ∀ w, w ∈ lw_tbl → xnest w = true → va_Nw w s
/-- what a walk stands on -/
def xCx (X : Option (Nat × (Nat → Int32))) (d : Nat) (M : xM) (mc ms : Nat) (Q : Option Value → xH → Prop) (p : Program) (l : Launch) (e : Env) (R : Room) (s : State) (m : MethodId) (args : Array Value) (below : List Frame) (meth : Method) (cd : Code) (Z : State → Prop) (b base : Nat) (yI yP : ClassId) (D : va_G) : Prop :=
  (p.tables.exec = Jvm.exec ∧ cd.code = M.2.1 ∧ cd.maxLocals = M.2.2.1 ∧ s.vm.findClass M.1.cls = some m.cls) ∧
  ((∀ w, w ∈ xBW → w.before args s = true) ∧ xTb yI yP D s) ∧
  (meth.name = M.1.name ∧ ∀ pc i n, xfetch M pc = some (i, n) → decode M.2.1 pc = .ok (i, n)) ∧
  (d ≤ R.frames ∧ 64 * d ≤ R.locals ∧ mc ≤ R.cells ∧ ms ≤ R.slots) ∧
  (base ≤ s.heap.size) ∧
  (match X with | none => True | some q => va_X b q.1 q.2 s s.heap ∧ b < base) ∧
  (∀ (pc : Nat) (ls : Array Slot) (i : Instr) (st : List Value) (r : Option Value) (h : xH) (H : Heap) (locs : List Loc), decode M.2.1 pc = .ok (i, 1) → xIsRet M.2.2.2.1 i st r → Q r h → xWd base yI yP D h H → va_S (xAd base) s.heap H locs → W p l e R s m args below meth cd H locs mc ms Z (F0 m pc ls (st.map (xe b base))))
/-- from this point of the method, with these locals, this stack, these cells, it returns, and Q holds of its answer and of the cells then -/
def xA (X : Option (Nat × (Nat → Int32))) (d : Nat) (M : xM) (c n mc ms pc : Nat) (L : List (Option Value)) (st : List Value) (h : xH) (Q : Option Value → xH → Prop) : Prop :=
  ∀ (p : Program) (l : Launch) (e : Env) (R : Room) (s : State) (m : MethodId) (args : Array Value) (below : List Frame) (meth : Method) (cd : Code) (Z : State → Prop) (b base : Nat) (yI yP : ClassId) (D : va_G), xCx X d M mc ms Q p l e R s m args below meth cd Z b base yI yP D →
    ∀ (H : Heap) (locs : List Loc) (ls : Array Slot), xWd base yI yP D h H → va_S (xAd base) s.heap H locs → xLs b base ls L → W p l e R s m args below meth cd H locs c n Z (F0 m pc ls (st.map (xe b base)))
def xPc (b base : Nat) (yI yP : ClassId) (D : va_G) (args : List Value) (h : xH) : Array Value → State → Prop := va_Pc (args.map (xe b base)) (fun U => xWd base yI yP D h U.heap ∧ xTb yI yP D U)
def xQc (b base : Nat) (yI yP : ClassId) (D : va_G) (Q : Option Value → xH → Prop) : Array Value → State → Outcome → State → Prop := fun _ st o t => ∃ (r : Option Value) (h' : xH), o = .returned (r.map (xe b base)) ∧ Q r h' ∧ xWd base yI yP D h' t.heap ∧ st.heap.size ≤ t.heap.size ∧ ∀ q : Nat, q < base → t.heap[q]? = st.heap[q]?
/-- a method's contract: called with these, over these cells, it returns, and Q holds -/
def xC (d : Nat) (M : xM) (args : List Value) (h : xH) (mc ms : Nat) (Q : Option Value → xH → Prop) : Prop :=
  ∀ (l : Launch) (b base : Nat) (yI yP : ClassId) (D : va_G), Met l M.1 (.code M.1 M.2.1 M.2.2.1 M.2.2.2.1 :: xBW) { frames := d, cells := mc, slots := ms, locals := 64 * d } (xPc b base yI yP D args h) (xQc b base yI yP D Q) mc ms (xAd base)
theorem xA.mono {X : Option (Nat × (Nat → Int32))} {d : Nat} {M : xM} {c n mc ms pc : Nat} {L : List (Option Value)} {st : List Value} {h : xH} {Q Q' : Option Value → xH → Prop} (k : xA X d M c n mc ms pc L st h Q) (hq : ∀ r h', Q r h' → Q' r h') : xA X d M c n mc ms pc L st h Q' := by
  intro p l e R s m args below meth cd Z b base yI yP D cx
  exact k p l e R s m args below meth cd Z b base yI yP D ⟨cx.1, cx.2.1, cx.2.2.1, cx.2.2.2.1, cx.2.2.2.2.1, cx.2.2.2.2.2.1, fun pc ls i st r h H locs a1 a2 a3 => cx.2.2.2.2.2.2 pc ls i st r h H locs a1 a2 (hq _ _ a3)⟩
theorem xC.mono {d : Nat} {M : xM} {args : List Value} {h : xH} {mc ms : Nat} {Q Q' : Option Value → xH → Prop} (k : xC d M args h mc ms Q) (hq : ∀ r h', Q r h' → Q' r h') : xC d M args h mc ms Q' := by
  intro l b base yI yP D
  refine MetFree.mono (k l b base yI yP D) (fun _ _ z => z) (fun _ _ _ _ _ _ => trivial) ?_
  rintro a s o s' - ⟨⟨r, h', h1, h2, h3⟩, hl⟩
  exact ⟨⟨r, h', h1, hq _ _ h2, h3⟩, hl⟩
/-! what the tables say of a class -/
def xtyB : Nat → FieldType → Bool
  | 0, .int => true
  | 1, .long => true
  | 2, .object _ => true
  | 2, .array _ => true
  | 3, .boolean => true
  | _, _ => false
def xLay (ci : Nat) (C : String) (T : u_T) (N : Nat) : Prop := (∀ w ∈ u_ws C T N, w ∈ xBW) ∧ (∀ a, a < N → ∀ b, b < N → a ≠ b → (T a).2.1 ≠ (T b).2.1) ∧ N = xnf ci ∧ ∃ ty : Nat → FieldType, (∀ k, k < N → parseFieldDescriptor (T k).2.2.1 = some (ty k)) ∧ ∀ k, k < N → xtyB (xkind ci k) (ty k) = true
def xinB (ws : List Cond) : Bool := ws.all (fun w => decide (w ∈ lw_tbl) && goodWord w)
theorem xinB_of {ws : List Cond} (h : xinB ws = true) : ∀ w ∈ ws, w ∈ xBW := by
  intro w hw
  have h1 := List.all_eq_true.mp h w hw
  simp only [Bool.and_eq_true, decide_eq_true_eq] at h1
  exact xBW_of h1
theorem xlay0 : xLay 0 RX0 TX0 2 := ⟨xinB_of (by decide +kernel), nmX0, by decide +kernel, tyX0, tyX0_ok, by decide +kernel⟩
theorem xlay1 : xLay 1 RX1 TX1 8 := ⟨xinB_of (by decide +kernel), nmX1, by decide +kernel, tyX1, tyX1_ok, by decide +kernel⟩
theorem xlay2 : xLay 2 RX2 TX2 5 := ⟨xinB_of (by decide +kernel), nmX2, by decide +kernel, tyX2, tyX2_ok, by decide +kernel⟩
theorem xlay3 : xLay 3 RX3 TX3 4 := ⟨xinB_of (by decide +kernel), nmX3, by decide +kernel, tyX3, tyX3_ok, by decide +kernel⟩
theorem xlay4 : xLay 4 RX4 TX4 2 := ⟨xinB_of (by decide +kernel), nmX4, by decide +kernel, tyX4, tyX4_ok, by decide +kernel⟩
theorem xlay5 : xLay 5 RX5 TX5 2 := ⟨xinB_of (by decide +kernel), nmX5, by decide +kernel, tyX5, tyX5_ok, by decide +kernel⟩
theorem xlay6 : xLay 6 RX6 TX6 7 := ⟨xinB_of (by decide +kernel), nmX6, by decide +kernel, tyX6, tyX6_ok, by decide +kernel⟩
theorem xlay7 : xLay 7 RX7 TX7 4 := ⟨xinB_of (by decide +kernel), nmX7, by decide +kernel, tyX7, tyX7_ok, by decide +kernel⟩
theorem xlay8 : xLay 8 RX8 TX8 3 := ⟨xinB_of (by decide +kernel), nmX8, by decide +kernel, tyX8, tyX8_ok, by decide +kernel⟩
theorem xlay9 : xLay 9 RX9 TX9 13 := ⟨xinB_of (by decide +kernel), nmX9, by decide +kernel, tyX9, tyX9_ok, by decide +kernel⟩
theorem xlay10 : xLay 10 RX10 TX10 48 := ⟨xinB_of (by decide +kernel), nmX10, by decide +kernel, tyX10, tyX10_ok, by decide +kernel⟩
theorem xlay {ci : Nat} {C : String} {T : u_T} {N : Nat} (h : vwCl[ci]? = some (C, T, N)) : xLay ci C T N := by
  match ci, h with
  | 0, h => cases h; exact xlay0
  | 1, h => cases h; exact xlay1
  | 2, h => cases h; exact xlay2
  | 3, h => cases h; exact xlay3
  | 4, h => cases h; exact xlay4
  | 5, h => cases h; exact xlay5
  | 6, h => cases h; exact xlay6
  | 7, h => cases h; exact xlay7
  | 8, h => cases h; exact xlay8
  | 9, h => cases h; exact xlay9
  | 10, h => cases h; exact xlay10
  | k + 11, h => simp [vwCl] at h
/-! pictures -/
theorem xws_get {base : Nat} {yI yP : ClassId} {h : xH} {k : Nat} {sh : xSh} (hk : h.1[k]? = some sh) : (xws base yI yP h)[k]? = some (base + k, xcell base yI yP h k sh) := by simp [xws, hk]
theorem xws_len (base : Nat) (yI yP : ClassId) (h : xH) : (xws base yI yP h).length = h.1.length := by simp [xws]
theorem xws_D (base : Nat) (yI yP : ClassId) (h : xH) : va_D (xAd base) (xws base yI yP h) := by
  have key : ∀ (k : Nat) (q : Nat × va_E), (xws base yI yP h)[k]? = some q → q.1 = base + k := by
    intro k q hq
    simp only [xws, List.getElem?_mapIdx, Option.map_eq_some_iff] at hq
    obtain ⟨sh, -, rfl⟩ := hq
    rfl
  refine ⟨fun i j p q hi hj hpq => ?_, fun k q hq => ?_⟩
  · have := key i p hi
    have := key j q hj
    omega
  · have := key k q hq
    show base ≤ q.1
    omega
theorem xws_set {base : Nat} {yI yP : ClassId} {h h' : xH} {k : Nat} {sh sh' : xSh} (hk : h.1[k]? = some sh) (h1 : h'.1 = h.1.set k sh') (hne : ∀ j, j ≠ k → ∀ z, xcell base yI yP h' j z = xcell base yI yP h j z) : xws base yI yP h' = (xws base yI yP h).set k (base + k, xcell base yI yP h' k sh') := by
  have hl : k < h.1.length := (List.getElem?_eq_some_iff.mp hk).1
  refine List.ext_getElem? fun j => ?_
  by_cases hj : j = k
  · subst hj
    rw [List.getElem?_set_self (by rw [xws_len]; exact hl)]
    exact xws_get (by rw [h1, List.getElem?_set_self hl])
  · rw [List.getElem?_set_ne (Ne.symm hj)]
    simp only [xws, List.getElem?_mapIdx, h1, List.getElem?_set_ne (Ne.symm hj)]
    cases h.1[j]? with
    | none => rfl
    | some z => simp [hne j hj z]
theorem x_setSelf {α : Type} {l : List α} {k : Nat} {x : α} (h : l[k]? = some x) : l = l.set k x := by
  refine List.ext_getElem? fun j => ?_
  by_cases hj : j = k
  · subst hj
    rw [List.getElem?_set_self (List.getElem?_eq_some_iff.mp h).1, h]
  · rw [List.getElem?_set_ne (Ne.symm hj)]
/-- the store, changed at one place -/
def xu (S : Nat → Nat → Int32) (a k : Nat) (v : Int32) : Nat → Nat → Int32 := fun j i => if j = a then (if i = k then v else S j i) else S j i
def xul (G : Nat → Nat → Int64) (a k : Nat) (v : Int64) : Nat → Nat → Int64 := fun j i => if j = a then (if i = k then v else G j i) else G j i
theorem xval_eq {base : Nat} {h h' : xH} {k c : Nat} {r : List (Option Nat)} {i : Nat} (h1 : h'.2.1 k i = h.2.1 k i) (h2 : h'.2.2 k i = h.2.2 k i) : xval base h' k c r i = xval base h k c r i := by unfold xval; rw [h1, h2]
theorem xcell_eq {base : Nat} {yI yP : ClassId} {h h' : xH} {k : Nat} (h1 : h'.2.1 k = h.2.1 k) (h2 : h'.2.2 k = h.2.2 k) (z : xSh) : xcell base yI yP h' k z = xcell base yI yP h k z := by
  rcases z with ⟨c, r⟩ | n | l
  · simp only [xcell]
    congr 2
    exact List.map_congr_left fun i _ => xval_eq (by rw [h1]) (by rw [h2])
  · simp only [xcell, h1]
  · rfl
/-- an object's fields when one is changed -/
theorem xfs_set {base : Nat} {h h' : xH} {a ci k : Nat} {r r' : List (Option Nat)} {v : Value} (hv : xval base h' a ci r' k = v) (hne : ∀ i, i ≠ k → xval base h' a ci r' i = xval base h a ci r i) :
    ((List.range (xnf ci)).map (xval base h a ci r)).set k v = (List.range (xnf ci)).map (xval base h' a ci r') := by
  refine List.ext_getElem? fun j => ?_
  by_cases hj : j = k
  · subst hj
    by_cases hl : j < xnf ci
    · rw [List.getElem?_set_self (by simpa using hl)]
      simp [hl, hv]
    · rw [List.getElem?_eq_none (by simpa using hl), List.getElem?_eq_none (by simpa using hl)]
  · rw [List.getElem?_set_ne (Ne.symm hj)]
    by_cases hl : j < xnf ci
    · simp [hl, hne j hj]
    · rw [List.getElem?_eq_none (by simpa using hl), List.getElem?_eq_none (by simpa using hl)]
end
section
section XR
variable {X : Option (Nat × (Nat → Int32))} {d : Nat} {M : xM} {c n mc ms pc q : Nat} {L : List (Option Value)} {st : List Value} {h : xH} {Q : Option Value → xH → Prop}
theorem xCx.ex {p : Program} {l : Launch} {e : Env} {R : Room} {s : State} {m : MethodId} {args : Array Value} {below : List Frame} {meth : Method} {cd : Code} {Z : State → Prop} {b base : Nat} {yI yP : ClassId} {D : va_G} (cx : xCx X d M mc ms Q p l e R s m args below meth cd Z b base yI yP D) : p.tables.exec = Jvm.exec := cx.1.1
theorem xCx.co {p : Program} {l : Launch} {e : Env} {R : Room} {s : State} {m : MethodId} {args : Array Value} {below : List Frame} {meth : Method} {cd : Code} {Z : State → Prop} {b base : Nat} {yI yP : ClassId} {D : va_G} (cx : xCx X d M mc ms Q p l e R s m args below meth cd Z b base yI yP D) : cd.code = M.2.1 := cx.1.2.1
theorem xCx.de {p : Program} {l : Launch} {e : Env} {R : Room} {s : State} {m : MethodId} {args : Array Value} {below : List Frame} {meth : Method} {cd : Code} {Z : State → Prop} {b base : Nat} {yI yP : ClassId} {D : va_G} (cx : xCx X d M mc ms Q p l e R s m args below meth cd Z b base yI yP D) {i : Instr} {k pc : Nat} (h : xfetch M pc = some (i, k)) : decode M.2.1 pc = .ok (i, k) := cx.2.2.1.2 pc i k h
theorem xCx.ow {p : Program} {l : Launch} {e : Env} {R : Room} {s : State} {m : MethodId} {args : Array Value} {below : List Frame} {meth : Method} {cd : Code} {Z : State → Prop} {b base : Nat} {yI yP : ClassId} {D : va_G} (cx : xCx X d M mc ms Q p l e R s m args below meth cd Z b base yI yP D) : s.vm.findClass M.1.cls = some m.cls := cx.1.2.2.2
theorem xCx.ts {p : Program} {l : Launch} {e : Env} {R : Room} {s : State} {m : MethodId} {args : Array Value} {below : List Frame} {meth : Method} {cd : Code} {Z : State → Prop} {b base : Nat} {yI yP : ClassId} {D : va_G} (cx : xCx X d M mc ms Q p l e R s m args below meth cd Z b base yI yP D) : ∀ w, w ∈ xBW → w.before args s = true := cx.2.1.1
theorem xA.iadd {x y : Int32} (hd : xfetch M pc = some (.iadd, 1)) (hq : pc + 1 = q) (k : xA X d M c n mc ms q L (.int (x + y) :: st) h Q) : xA X d M c n mc ms pc L (.int y :: .int x :: st) h Q := by
  subst hq
  intro p l e R s m args below meth cd Z b base yI yP D cx H locs ls hW hS hL
  exact lv_iadd cx.ex cx.co (cx.de hd) (k p l e R s m args below meth cd Z b base yI yP D cx H locs ls hW hS hL)
theorem xA.isub {x y : Int32} (hd : xfetch M pc = some (.isub, 1)) (hq : pc + 1 = q) (k : xA X d M c n mc ms q L (.int (x - y) :: st) h Q) : xA X d M c n mc ms pc L (.int y :: .int x :: st) h Q := by
  subst hq
  intro p l e R s m args below meth cd Z b base yI yP D cx H locs ls hW hS hL
  exact lv_isub cx.ex cx.co (cx.de hd) (k p l e R s m args below meth cd Z b base yI yP D cx H locs ls hW hS hL)
theorem xA.imul {x y : Int32} (hd : xfetch M pc = some (.imul, 1)) (hq : pc + 1 = q) (k : xA X d M c n mc ms q L (.int (x * y) :: st) h Q) : xA X d M c n mc ms pc L (.int y :: .int x :: st) h Q := by
  subst hq
  intro p l e R s m args below meth cd Z b base yI yP D cx H locs ls hW hS hL
  exact lv_imul cx.ex cx.co (cx.de hd) (k p l e R s m args below meth cd Z b base yI yP D cx H locs ls hW hS hL)
theorem xA.iand {x y : Int32} (hd : xfetch M pc = some (.iand, 1)) (hq : pc + 1 = q) (k : xA X d M c n mc ms q L (.int (x &&& y) :: st) h Q) : xA X d M c n mc ms pc L (.int y :: .int x :: st) h Q := by
  subst hq
  intro p l e R s m args below meth cd Z b base yI yP D cx H locs ls hW hS hL
  exact lv_iand cx.ex cx.co (cx.de hd) (k p l e R s m args below meth cd Z b base yI yP D cx H locs ls hW hS hL)
theorem xA.ior {x y : Int32} (hd : xfetch M pc = some (.ior, 1)) (hq : pc + 1 = q) (k : xA X d M c n mc ms q L (.int (x ||| y) :: st) h Q) : xA X d M c n mc ms pc L (.int y :: .int x :: st) h Q := by
  subst hq
  intro p l e R s m args below meth cd Z b base yI yP D cx H locs ls hW hS hL
  exact lv_ior cx.ex cx.co (cx.de hd) (k p l e R s m args below meth cd Z b base yI yP D cx H locs ls hW hS hL)
theorem xA.ixor {x y : Int32} (hd : xfetch M pc = some (.ixor, 1)) (hq : pc + 1 = q) (k : xA X d M c n mc ms q L (.int (x ^^^ y) :: st) h Q) : xA X d M c n mc ms pc L (.int y :: .int x :: st) h Q := by
  subst hq
  intro p l e R s m args below meth cd Z b base yI yP D cx H locs ls hW hS hL
  exact lv_ixor cx.ex cx.co (cx.de hd) (k p l e R s m args below meth cd Z b base yI yP D cx H locs ls hW hS hL)
theorem xA.ishl {x y : Int32} (hd : xfetch M pc = some (.ishl, 1)) (hq : pc + 1 = q) (k : xA X d M c n mc ms q L (.int (x <<< (y &&& 31)) :: st) h Q) : xA X d M c n mc ms pc L (.int y :: .int x :: st) h Q := by
  subst hq
  intro p l e R s m args below meth cd Z b base yI yP D cx H locs ls hW hS hL
  exact lv_ishl cx.ex cx.co (cx.de hd) (k p l e R s m args below meth cd Z b base yI yP D cx H locs ls hW hS hL)
theorem xA.ishr {x y : Int32} (hd : xfetch M pc = some (.ishr, 1)) (hq : pc + 1 = q) (k : xA X d M c n mc ms q L (.int (x >>> (y &&& 31)) :: st) h Q) : xA X d M c n mc ms pc L (.int y :: .int x :: st) h Q := by
  subst hq
  intro p l e R s m args below meth cd Z b base yI yP D cx H locs ls hW hS hL
  exact lv_ishr cx.ex cx.co (cx.de hd) (k p l e R s m args below meth cd Z b base yI yP D cx H locs ls hW hS hL)
theorem xA.ladd {x y : Int64} (hd : xfetch M pc = some (.ladd, 1)) (hq : pc + 1 = q) (k : xA X d M c n mc ms q L (.long (x + y) :: st) h Q) : xA X d M c n mc ms pc L (.long y :: .long x :: st) h Q := by
  subst hq
  intro p l e R s m args below meth cd Z b base yI yP D cx H locs ls hW hS hL
  exact lv_ladd cx.ex cx.co (cx.de hd) (k p l e R s m args below meth cd Z b base yI yP D cx H locs ls hW hS hL)
theorem xA.lmul {x y : Int64} (hd : xfetch M pc = some (.lmul, 1)) (hq : pc + 1 = q) (k : xA X d M c n mc ms q L (.long (x * y) :: st) h Q) : xA X d M c n mc ms pc L (.long y :: .long x :: st) h Q := by
  subst hq
  intro p l e R s m args below meth cd Z b base yI yP D cx H locs ls hW hS hL
  exact lv_lmul cx.ex cx.co (cx.de hd) (k p l e R s m args below meth cd Z b base yI yP D cx H locs ls hW hS hL)
theorem xA.land {x y : Int64} (hd : xfetch M pc = some (.land, 1)) (hq : pc + 1 = q) (k : xA X d M c n mc ms q L (.long (x &&& y) :: st) h Q) : xA X d M c n mc ms pc L (.long y :: .long x :: st) h Q := by
  subst hq
  intro p l e R s m args below meth cd Z b base yI yP D cx H locs ls hW hS hL
  exact lv_land cx.ex cx.co (cx.de hd) (k p l e R s m args below meth cd Z b base yI yP D cx H locs ls hW hS hL)
theorem xA.lor {x y : Int64} (hd : xfetch M pc = some (.lor, 1)) (hq : pc + 1 = q) (k : xA X d M c n mc ms q L (.long (x ||| y) :: st) h Q) : xA X d M c n mc ms pc L (.long y :: .long x :: st) h Q := by
  subst hq
  intro p l e R s m args below meth cd Z b base yI yP D cx H locs ls hW hS hL
  exact lv_lor cx.ex cx.co (cx.de hd) (k p l e R s m args below meth cd Z b base yI yP D cx H locs ls hW hS hL)
theorem xA.ineg {x : Int32} (hd : xfetch M pc = some (.ineg, 1)) (hq : pc + 1 = q) (k : xA X d M c n mc ms q L (.int (-x) :: st) h Q) : xA X d M c n mc ms pc L (.int x :: st) h Q := by
  subst hq
  intro p l e R s m args below meth cd Z b base yI yP D cx H locs ls hW hS hL
  exact lv_ineg cx.ex cx.co (cx.de hd) (k p l e R s m args below meth cd Z b base yI yP D cx H locs ls hW hS hL)
theorem xA.idiv {x y : Int32} (hd : xfetch M pc = some (.idiv, 1)) (hne : ¬ y = 0) (hq : pc + 1 = q) (k : xA X d M c n mc ms q L (.int (x / y) :: st) h Q) : xA X d M c n mc ms pc L (.int y :: .int x :: st) h Q := by
  subst hq
  intro p l e R s m args below meth cd Z b base yI yP D cx H locs ls hW hS hL
  exact lv_idiv cx.ex cx.co (cx.de hd) hne (k p l e R s m args below meth cd Z b base yI yP D cx H locs ls hW hS hL)
theorem xA.irem {x y : Int32} (hd : xfetch M pc = some (.irem, 1)) (hne : ¬ y = 0) (hq : pc + 1 = q) (k : xA X d M c n mc ms q L (.int (x - x / y * y) :: st) h Q) : xA X d M c n mc ms pc L (.int y :: .int x :: st) h Q := by
  subst hq
  intro p l e R s m args below meth cd Z b base yI yP D cx H locs ls hW hS hL
  exact lv_irem cx.ex cx.co (cx.de hd) hne (k p l e R s m args below meth cd Z b base yI yP D cx H locs ls hW hS hL)
theorem xA.i2l {x : Int32} (hd : xfetch M pc = some (.i2l, 1)) (hq : pc + 1 = q) (k : xA X d M c n mc ms q L (.long x.toInt64 :: st) h Q) : xA X d M c n mc ms pc L (.int x :: st) h Q := by
  subst hq
  intro p l e R s m args below meth cd Z b base yI yP D cx H locs ls hW hS hL
  exact lv_i2l cx.ex cx.co (cx.de hd) rfl (k p l e R s m args below meth cd Z b base yI yP D cx H locs ls hW hS hL)
theorem xA.l2i {x : Int64} (hd : xfetch M pc = some (.l2i, 1)) (hq : pc + 1 = q) (k : xA X d M c n mc ms q L (.int x.toInt32 :: st) h Q) : xA X d M c n mc ms pc L (.long x :: st) h Q := by
  subst hq
  intro p l e R s m args below meth cd Z b base yI yP D cx H locs ls hW hS hL
  exact lv_l2i cx.ex cx.co (cx.de hd) rfl (k p l e R s m args below meth cd Z b base yI yP D cx H locs ls hW hS hL)
theorem xA.lshl {x : Int64} {y : Int32} (hd : xfetch M pc = some (.lshl, 1)) (hq : pc + 1 = q) (k : xA X d M c n mc ms q L (.long (x <<< (y.toInt64 &&& 63)) :: st) h Q) : xA X d M c n mc ms pc L (.int y :: .long x :: st) h Q := by
  subst hq
  intro p l e R s m args below meth cd Z b base yI yP D cx H locs ls hW hS hL
  exact lv_lshl cx.ex cx.co (cx.de hd) rfl (k p l e R s m args below meth cd Z b base yI yP D cx H locs ls hW hS hL)
theorem xA.lushr {x : Int64} {y : Int32} (hd : xfetch M pc = some (.lushr, 1)) (hq : pc + 1 = q) (k : xA X d M c n mc ms q L (.long (x.toUInt64 >>> (y.toInt64.toUInt64 &&& Int64.toUInt64 63)).toInt64 :: st) h Q) : xA X d M c n mc ms pc L (.int y :: .long x :: st) h Q := by
  subst hq
  intro p l e R s m args below meth cd Z b base yI yP D cx H locs ls hW hS hL
  exact lv_lushr cx.ex cx.co (cx.de hd) rfl (k p l e R s m args below meth cd Z b base yI yP D cx H locs ls hW hS hL)
theorem xA.lcmp {x y : Int64} (hd : xfetch M pc = some (.lcmp, 1)) (hq : pc + 1 = q) (k : xA X d M c n mc ms q L (.int (lg_cmp x y) :: st) h Q) : xA X d M c n mc ms pc L (.long y :: .long x :: st) h Q := by
  subst hq
  intro p l e R s m args below meth cd Z b base yI yP D cx H locs ls hW hS hL
  exact W.lcmp cx.ex cx.co (cx.de hd) (k p l e R s m args below meth cd Z b base yI yP D cx H locs ls hW hS hL)
theorem xA.iconst {z : Int} {v : Int32} (hd : xfetch M pc = some (.iconst z, 1)) (hv : Int32.ofInt z = v) (hq : pc + 1 = q) (k : xA X d M c n mc ms q L (.int v :: st) h Q) : xA X d M c n mc ms pc L (st) h Q := by
  subst hq
  intro p l e R s m args below meth cd Z b base yI yP D cx H locs ls hW hS hL
  exact lv_iconst cx.ex cx.co (cx.de hd) hv (k p l e R s m args below meth cd Z b base yI yP D cx H locs ls hW hS hL)
theorem xA.bipush {z : Int} {v : Int32} (hd : xfetch M pc = some (.bipush z, 2)) (hv : (Int8.ofInt z).toInt32 = v) (hq : pc + 2 = q) (k : xA X d M c n mc ms q L (.int v :: st) h Q) : xA X d M c n mc ms pc L (st) h Q := by
  subst hq
  intro p l e R s m args below meth cd Z b base yI yP D cx H locs ls hW hS hL
  exact lv_bipush cx.ex cx.co (cx.de hd) hv (k p l e R s m args below meth cd Z b base yI yP D cx H locs ls hW hS hL)
theorem xA.sipush {z : Int} {v : Int32} (hd : xfetch M pc = some (.sipush z, 3)) (hv : (Int16.ofInt z).toInt32 = v) (hq : pc + 3 = q) (k : xA X d M c n mc ms q L (.int v :: st) h Q) : xA X d M c n mc ms pc L (st) h Q := by
  subst hq
  intro p l e R s m args below meth cd Z b base yI yP D cx H locs ls hW hS hL
  exact lv_sipush cx.ex cx.co (cx.de hd) hv (k p l e R s m args below meth cd Z b base yI yP D cx H locs ls hW hS hL)
theorem xA.lconst {z : Fin 2} {v : Int64} (hd : xfetch M pc = some (.lconst z, 1)) (hv : Int64.ofNat (z : Nat) = v) (hq : pc + 1 = q) (k : xA X d M c n mc ms q L (.long v :: st) h Q) : xA X d M c n mc ms pc L (st) h Q := by
  subst hq
  intro p l e R s m args below meth cd Z b base yI yP D cx H locs ls hW hS hL
  exact lv_lconst cx.ex cx.co (cx.de hd) hv (k p l e R s m args below meth cd Z b base yI yP D cx H locs ls hW hS hL)
theorem xA.null (hd : xfetch M pc = some (.aconst_null, 1)) (hq : pc + 1 = q) (k : xA X d M c n mc ms q L (.null :: st) h Q) : xA X d M c n mc ms pc L (st) h Q := by
  subst hq
  intro p l e R s m args below meth cd Z b base yI yP D cx H locs ls hW hS hL
  exact lv_null cx.ex cx.co (cx.de hd) (k p l e R s m args below meth cd Z b base yI yP D cx H locs ls hW hS hL)
theorem xA.dup {v : Value} (hd : xfetch M pc = some (.dup, 1)) (hv : v.category = 1) (hq : pc + 1 = q) (k : xA X d M c n mc ms q L (v :: v :: st) h Q) : xA X d M c n mc ms pc L (v :: st) h Q := by
  subst hq
  intro p l e R s m args below meth cd Z b base yI yP D cx H locs ls hW hS hL
  exact lv_dup cx.ex cx.co (cx.de hd) (by rw [xe_cat]; exact hv) (k p l e R s m args below meth cd Z b base yI yP D cx H locs ls hW hS hL)
theorem xA.dup2 {v w : Value} (hd : xfetch M pc = some (.dup2, 1)) (hv : v.category = 1) (hw : w.category = 1) (hq : pc + 1 = q) (k : xA X d M c n mc ms q L (v :: w :: v :: w :: st) h Q) : xA X d M c n mc ms pc L (v :: w :: st) h Q := by
  subst hq
  intro p l e R s m args below meth cd Z b base yI yP D cx H locs ls hW hS hL
  exact lv_dup2_11 cx.ex cx.co (cx.de hd) (by rw [xe_cat]; exact hv) (by rw [xe_cat]; exact hw) (k p l e R s m args below meth cd Z b base yI yP D cx H locs ls hW hS hL)
theorem xA.pop {v : Value} (hd : xfetch M pc = some (.pop, 1)) (hv : v.category = 1) (hq : pc + 1 = q) (k : xA X d M c n mc ms q L (st) h Q) : xA X d M c n mc ms pc L (v :: st) h Q := by
  subst hq
  intro p l e R s m args below meth cd Z b base yI yP D cx H locs ls hW hS hL
  exact lv_pop cx.ex cx.co (cx.de hd) (by rw [xe_cat]; exact hv) (k p l e R s m args below meth cd Z b base yI yP D cx H locs ls hW hS hL)
theorem xA.iload {i : Nat} {x : Int32} (hd : xfetch M pc = some (.iload i, 2)) (hl : L[i]? = some (some (.int x))) (hq : pc + 2 = q) (k : xA X d M c n mc ms q L (.int x :: st) h Q) : xA X d M c n mc ms pc L (st) h Q := by
  subst hq
  intro p l e R s m args below meth cd Z b base yI yP D cx H locs ls hW hS hL
  exact lv_iload cx.ex cx.co (cx.de hd) (hL.2.2 _ _ hl) (k p l e R s m args below meth cd Z b base yI yP D cx H locs ls hW hS hL)
theorem xA.iload_n {k : Fin 4} {i : Nat} {x : Int32} (hd : xfetch M pc = some (.iload_n k, 1)) (hi : (k : Nat) = i) (hl : L[i]? = some (some (.int x))) (hq : pc + 1 = q) (k : xA X d M c n mc ms q L (.int x :: st) h Q) : xA X d M c n mc ms pc L (st) h Q := by
  subst hq
  intro p l e R s m args below meth cd Z b base yI yP D cx H locs ls hW hS hL
  exact lv_iload_n cx.ex cx.co (cx.de hd) hi (hL.2.2 _ _ hl) (k p l e R s m args below meth cd Z b base yI yP D cx H locs ls hW hS hL)
theorem xA.lload {i : Nat} {x : Int64} (hd : xfetch M pc = some (.lload i, 2)) (hl : L[i]? = some (some (.long x))) (hq : pc + 2 = q) (k : xA X d M c n mc ms q L (.long x :: st) h Q) : xA X d M c n mc ms pc L (st) h Q := by
  subst hq
  intro p l e R s m args below meth cd Z b base yI yP D cx H locs ls hW hS hL
  exact lv_lload cx.ex cx.co (cx.de hd) (hL.2.2 _ _ hl) (k p l e R s m args below meth cd Z b base yI yP D cx H locs ls hW hS hL)
theorem xA.lload_n {k : Fin 4} {i : Nat} {x : Int64} (hd : xfetch M pc = some (.lload_n k, 1)) (hi : (k : Nat) = i) (hl : L[i]? = some (some (.long x))) (hq : pc + 1 = q) (k : xA X d M c n mc ms q L (.long x :: st) h Q) : xA X d M c n mc ms pc L (st) h Q := by
  subst hq
  intro p l e R s m args below meth cd Z b base yI yP D cx H locs ls hW hS hL
  exact lv_lload_n cx.ex cx.co (cx.de hd) hi (hL.2.2 _ _ hl) (k p l e R s m args below meth cd Z b base yI yP D cx H locs ls hW hS hL)
theorem xA.aload {i : Nat} {x : Nat} (hd : xfetch M pc = some (.aload i, 2)) (hl : L[i]? = some (some (.ref x))) (hq : pc + 2 = q) (k : xA X d M c n mc ms q L (.ref x :: st) h Q) : xA X d M c n mc ms pc L (st) h Q := by
  subst hq
  intro p l e R s m args below meth cd Z b base yI yP D cx H locs ls hW hS hL
  exact lv_aload cx.ex cx.co (cx.de hd) (hL.2.2 _ _ hl) (k p l e R s m args below meth cd Z b base yI yP D cx H locs ls hW hS hL)
theorem xA.aload_n {k : Fin 4} {i : Nat} {x : Nat} (hd : xfetch M pc = some (.aload_n k, 1)) (hi : (k : Nat) = i) (hl : L[i]? = some (some (.ref x))) (hq : pc + 1 = q) (k : xA X d M c n mc ms q L (.ref x :: st) h Q) : xA X d M c n mc ms pc L (st) h Q := by
  subst hq
  intro p l e R s m args below meth cd Z b base yI yP D cx H locs ls hW hS hL
  exact lv_aload_n cx.ex cx.co (cx.de hd) hi (hL.2.2 _ _ hl) (k p l e R s m args below meth cd Z b base yI yP D cx H locs ls hW hS hL)
theorem xA.aloadX {i : Nat} {x : Nat} (hd : xfetch M pc = some (.aload i, 2)) (hl : L[i]? = some (some (.retAddr x))) (hq : pc + 2 = q) (k : xA X d M c n mc ms q L (.retAddr x :: st) h Q) : xA X d M c n mc ms pc L (st) h Q := by
  subst hq
  intro p l e R s m args below meth cd Z b base yI yP D cx H locs ls hW hS hL
  exact lv_aload cx.ex cx.co (cx.de hd) (hL.2.2 _ _ hl) (k p l e R s m args below meth cd Z b base yI yP D cx H locs ls hW hS hL)
theorem xA.aloadX_n {k : Fin 4} {i : Nat} {x : Nat} (hd : xfetch M pc = some (.aload_n k, 1)) (hi : (k : Nat) = i) (hl : L[i]? = some (some (.retAddr x))) (hq : pc + 1 = q) (k : xA X d M c n mc ms q L (.retAddr x :: st) h Q) : xA X d M c n mc ms pc L (st) h Q := by
  subst hq
  intro p l e R s m args below meth cd Z b base yI yP D cx H locs ls hW hS hL
  exact lv_aload_n cx.ex cx.co (cx.de hd) hi (hL.2.2 _ _ hl) (k p l e R s m args below meth cd Z b base yI yP D cx H locs ls hW hS hL)
theorem xA.aloadN {i : Nat} (hd : xfetch M pc = some (.aload i, 2)) (hl : L[i]? = some (some .null)) (hq : pc + 2 = q) (k : xA X d M c n mc ms q L (.null :: st) h Q) : xA X d M c n mc ms pc L (st) h Q := by
  subst hq
  intro p l e R s m args below meth cd Z b base yI yP D cx H locs ls hW hS hL
  exact lv_aloadN cx.ex cx.co (cx.de hd) (hL.2.2 _ _ hl) (k p l e R s m args below meth cd Z b base yI yP D cx H locs ls hW hS hL)
theorem xA.aloadN_n {k : Fin 4} {i : Nat} (hd : xfetch M pc = some (.aload_n k, 1)) (hi : (k : Nat) = i) (hl : L[i]? = some (some .null)) (hq : pc + 1 = q) (k : xA X d M c n mc ms q L (.null :: st) h Q) : xA X d M c n mc ms pc L (st) h Q := by
  subst hq
  intro p l e R s m args below meth cd Z b base yI yP D cx H locs ls hW hS hL
  exact lv_aload_nN cx.ex cx.co (cx.de hd) hi (hL.2.2 _ _ hl) (k p l e R s m args below meth cd Z b base yI yP D cx H locs ls hW hS hL)
/-- the locals behind a store of one slot, of two -/
def xst1 (L : List (Option Value)) (i : Nat) (v : Value) : List (Option Value) := (match i with
  | 0 => L
  | j + 1 => match L[j]? with
    | some (some w) => if w.category = 2 then L.set j none else L
    | _ => L).set i (some v)
def xst2 (L : List (Option Value)) (i : Nat) (v : Value) : List (Option Value) := ((match i with
  | 0 => L
  | j + 1 => match L[j]? with
    | some (some w) => if w.category = 2 then L.set j none else L
    | _ => L).set i (some v)).set (i + 1) none
/-- the held locals, as the kit lists them -/
def xlv (b base : Nat) (L : List (Option Value)) : List (Nat × Value) := (List.range L.length).filterMap (fun i => match L[i]? with
  | some (some v) => some (i, xe b base v)
  | _ => none)
theorem xlv_has {b base : Nat} {ls : Array Slot} {L : List (Option Value)} (h : xLs b base ls L) : lv_has ls L.length (xlv b base L) := by
  refine ⟨h.1, h.2.1, fun q hq => ?_⟩
  obtain ⟨i, -, hi⟩ := List.mem_filterMap.mp hq
  revert hi
  cases hL : L[i]? with
  | none => intro hi; cases hi
  | some o =>
    cases o with
    | none => intro hi; cases hi
    | some v =>
      intro hi
      cases hi
      exact h.2.2 i v hL
theorem xlv_mem {b base : Nat} {L : List (Option Value)} {i : Nat} {v : Value} (h : L[i]? = some (some v)) : (i, xe b base v) ∈ xlv b base L := by
  refine List.mem_filterMap.mpr ⟨i, List.mem_range.mpr (List.getElem?_eq_some_iff.mp h).1, ?_⟩
  simp only [h]
theorem xdrop_get {L : List (Option Value)} {i j : Nat} {w : Value} (h : (match i with
  | 0 => L
  | j + 1 => match L[j]? with
    | some (some w) => if w.category = 2 then L.set j none else L
    | _ => L)[j]? = some (some w)) : L[j]? = some (some w) ∧ ¬ (j + 1 = i ∧ w.category = 2) := by
  cases i with
  | zero => exact ⟨h, fun q => by omega⟩
  | succ i =>
    dsimp only at h
    cases hi : L[i]? with
    | none =>
      rw [hi] at h
      refine ⟨h, fun q => ?_⟩
      have : j = i := by omega
      subst this
      rw [hi] at h
      cases h
    | some o =>
      cases o with
      | none =>
        rw [hi] at h
        refine ⟨h, fun q => ?_⟩
        have : j = i := by omega
        subst this
        rw [hi] at h
        cases h
      | some v =>
        rw [hi] at h
        dsimp only at h
        by_cases hc : v.category = 2
        · rw [if_pos hc] at h
          by_cases hj : j = i
          · subst hj
            rw [List.getElem?_set_self (List.getElem?_eq_some_iff.mp hi).1] at h
            cases h
          · rw [List.getElem?_set_ne (Ne.symm hj)] at h
            exact ⟨h, fun q => hj (by omega)⟩
        · rw [if_neg hc] at h
          refine ⟨h, fun q => ?_⟩
          have : j = i := by omega
          subst this
          rw [hi] at h
          cases h
          exact hc q.2
theorem xdrop_len {L : List (Option Value)} {i : Nat} : (match i with
  | 0 => L
  | j + 1 => match L[j]? with
    | some (some w) => if w.category = 2 then L.set j none else L
    | _ => L).length = L.length := by
  cases i with
  | zero => rfl
  | succ i =>
    dsimp only
    split
    · split <;> simp
    · rfl
theorem xst1_ok {b base : Nat} {ls : Array Slot} {L : List (Option Value)} {i : Nat} {v : Value} (hlv : lv_has ls L.length ((i, xe b base v) :: (xlv b base L).filter (fun q => !(q.1 == i) && !(q.1 + 1 == i && q.2.category == 2)))) : xLs b base ls (xst1 L i v) := by
  refine ⟨by rw [hlv.1]; unfold xst1; rw [List.length_set]; exact xdrop_len.symm, hlv.2.1, fun j w hj => ?_⟩
  unfold xst1 at hj
  by_cases hji : j = i
  · subst hji
    have hl : j < (xst1 L j v).length := by
      have := (List.getElem?_eq_some_iff.mp hj).1
      exact this
    rw [List.getElem?_set_self (by unfold xst1 at hl; rwa [List.length_set] at hl)] at hj
    cases hj
    exact hlv.2.2 _ List.mem_cons_self
  · rw [List.getElem?_set_ne (Ne.symm hji)] at hj
    obtain ⟨h1, h2⟩ := xdrop_get hj
    refine hlv.2.2 (j, xe b base w) (List.mem_cons_of_mem _ (List.mem_filter.mpr ⟨xlv_mem h1, ?_⟩))
    simp only [Bool.and_eq_true, Bool.not_eq_true', beq_eq_false_iff_ne, ne_eq, Bool.and_eq_false_iff, xe_cat]
    refine ⟨hji, ?_⟩
    by_cases hq : j + 1 = i
    · exact Or.inr fun z => h2 ⟨hq, z⟩
    · exact Or.inl hq
theorem xst2_ok {b base : Nat} {ls : Array Slot} {L : List (Option Value)} {i : Nat} {v : Value} (hlv : lv_has ls L.length ((i, xe b base v) :: (xlv b base L).filter (fun q => !(q.1 == i) && (!(q.1 == i + 1) && !(q.1 + 1 == i && q.2.category == 2))))) : xLs b base ls (xst2 L i v) := by
  refine ⟨by rw [hlv.1]; unfold xst2; rw [List.length_set, List.length_set]; exact xdrop_len.symm, hlv.2.1, fun j w hj => ?_⟩
  unfold xst2 at hj
  by_cases hji : j = i + 1
  · subst hji
    have hl := (List.getElem?_eq_some_iff.mp hj).1
    rw [List.length_set] at hl
    rw [List.getElem?_set_self hl] at hj
    cases hj
  rw [List.getElem?_set_ne (Ne.symm hji)] at hj
  by_cases hji2 : j = i
  · subst hji2
    have hl := (List.getElem?_eq_some_iff.mp hj).1
    rw [List.length_set] at hl
    rw [List.getElem?_set_self hl] at hj
    cases hj
    exact hlv.2.2 _ List.mem_cons_self
  · rw [List.getElem?_set_ne (Ne.symm hji2)] at hj
    obtain ⟨h1, h2⟩ := xdrop_get hj
    refine hlv.2.2 (j, xe b base w) (List.mem_cons_of_mem _ (List.mem_filter.mpr ⟨xlv_mem h1, ?_⟩))
    simp only [Bool.and_eq_true, Bool.not_eq_true', beq_eq_false_iff_ne, ne_eq, Bool.and_eq_false_iff, xe_cat]
    refine ⟨hji2, hji, ?_⟩
    by_cases hq : j + 1 = i
    · exact Or.inr fun z => h2 ⟨hq, z⟩
    · exact Or.inl hq
theorem xA.istore {i : Nat} {x : Int32} {L' : List (Option Value)} (hd : xfetch M pc = some (.istore i, 2)) (hi2 : i < L.length) (hl : xst1 L i (.int x) = L') (hq : pc + 2 = q) (k : xA X d M c n mc ms q L' st h Q) : xA X d M c n mc ms pc L (.int x :: st) h Q := by
  subst hq; subst hl
  intro p l e R s m args below meth cd Z b base yI yP D cx H locs ls hW hS hL
  exact lv_istore cx.ex cx.co (cx.de hd) (xlv_has hL) hi2 rfl fun ls' hl' => k p l e R s m args below meth cd Z b base yI yP D cx H locs ls' hW hS (xst1_ok hl')
theorem xA.istore_n {k : Fin 4} {i : Nat} {x : Int32} {L' : List (Option Value)} (hd : xfetch M pc = some (.istore_n k, 1)) (hi : (k : Nat) = i) (hi2 : i < L.length) (hl : xst1 L i (.int x) = L') (hq : pc + 1 = q) (k : xA X d M c n mc ms q L' st h Q) : xA X d M c n mc ms pc L (.int x :: st) h Q := by
  subst hq; subst hl
  intro p l e R s m args below meth cd Z b base yI yP D cx H locs ls hW hS hL
  exact lv_istore_n cx.ex cx.co (cx.de hd) hi (xlv_has hL) hi2 rfl fun ls' hl' => k p l e R s m args below meth cd Z b base yI yP D cx H locs ls' hW hS (xst1_ok hl')
theorem xA.lstore {i : Nat} {x : Int64} {L' : List (Option Value)} (hd : xfetch M pc = some (.lstore i, 2)) (hi2 : i + 1 < L.length) (hl : xst2 L i (.long x) = L') (hq : pc + 2 = q) (k : xA X d M c n mc ms q L' st h Q) : xA X d M c n mc ms pc L (.long x :: st) h Q := by
  subst hq; subst hl
  intro p l e R s m args below meth cd Z b base yI yP D cx H locs ls hW hS hL
  exact lv_lstore cx.ex cx.co (cx.de hd) (xlv_has hL) hi2 rfl fun ls' hl' => k p l e R s m args below meth cd Z b base yI yP D cx H locs ls' hW hS (xst2_ok hl')
theorem xA.lstore_n {k : Fin 4} {i : Nat} {x : Int64} {L' : List (Option Value)} (hd : xfetch M pc = some (.lstore_n k, 1)) (hi : (k : Nat) = i) (hi2 : i + 1 < L.length) (hl : xst2 L i (.long x) = L') (hq : pc + 1 = q) (k : xA X d M c n mc ms q L' st h Q) : xA X d M c n mc ms pc L (.long x :: st) h Q := by
  subst hq; subst hl
  intro p l e R s m args below meth cd Z b base yI yP D cx H locs ls hW hS hL
  exact lv_lstore_n cx.ex cx.co (cx.de hd) hi (xlv_has hL) hi2 rfl fun ls' hl' => k p l e R s m args below meth cd Z b base yI yP D cx H locs ls' hW hS (xst2_ok hl')
theorem xA.astore {i : Nat} {x : Nat} {L' : List (Option Value)} (hd : xfetch M pc = some (.astore i, 2)) (hi2 : i < L.length) (hl : xst1 L i (.ref x) = L') (hq : pc + 2 = q) (k : xA X d M c n mc ms q L' st h Q) : xA X d M c n mc ms pc L (.ref x :: st) h Q := by
  subst hq; subst hl
  intro p l e R s m args below meth cd Z b base yI yP D cx H locs ls hW hS hL
  exact lv_astore cx.ex cx.co (cx.de hd) (xlv_has hL) hi2 rfl fun ls' hl' => k p l e R s m args below meth cd Z b base yI yP D cx H locs ls' hW hS (xst1_ok hl')
theorem xA.astore_n {k : Fin 4} {i : Nat} {x : Nat} {L' : List (Option Value)} (hd : xfetch M pc = some (.astore_n k, 1)) (hi : (k : Nat) = i) (hi2 : i < L.length) (hl : xst1 L i (.ref x) = L') (hq : pc + 1 = q) (k : xA X d M c n mc ms q L' st h Q) : xA X d M c n mc ms pc L (.ref x :: st) h Q := by
  subst hq; subst hl
  intro p l e R s m args below meth cd Z b base yI yP D cx H locs ls hW hS hL
  exact lv_astore_n cx.ex cx.co (cx.de hd) hi (xlv_has hL) hi2 rfl fun ls' hl' => k p l e R s m args below meth cd Z b base yI yP D cx H locs ls' hW hS (xst1_ok hl')
theorem xA.astoreN {i : Nat} {L' : List (Option Value)} (hd : xfetch M pc = some (.astore i, 2)) (hi2 : i < L.length) (hl : xst1 L i .null = L') (hq : pc + 2 = q) (k : xA X d M c n mc ms q L' st h Q) : xA X d M c n mc ms pc L (.null :: st) h Q := by
  subst hq; subst hl
  intro p l e R s m args below meth cd Z b base yI yP D cx H locs ls hW hS hL
  exact lv_astoreN cx.ex cx.co (cx.de hd) (xlv_has hL) hi2 rfl fun ls' hl' => k p l e R s m args below meth cd Z b base yI yP D cx H locs ls' hW hS (xst1_ok hl')
theorem xA.astoreN_n {k : Fin 4} {i : Nat} {L' : List (Option Value)} (hd : xfetch M pc = some (.astore_n k, 1)) (hi : (k : Nat) = i) (hi2 : i < L.length) (hl : xst1 L i .null = L') (hq : pc + 1 = q) (k : xA X d M c n mc ms q L' st h Q) : xA X d M c n mc ms pc L (.null :: st) h Q := by
  subst hq; subst hl
  intro p l e R s m args below meth cd Z b base yI yP D cx H locs ls hW hS hL
  exact lv_astore_nN cx.ex cx.co (cx.de hd) hi (xlv_has hL) hi2 rfl fun ls' hl' => k p l e R s m args below meth cd Z b base yI yP D cx H locs ls' hW hS (xst1_ok hl')
theorem xA.iinc {i : Nat} {z : Int} {x v : Int32} {L' : List (Option Value)} (hd : xfetch M pc = some (.iinc i z, 3)) (hx : L[i]? = some (some (.int x))) (hv : x + Int32.ofInt z = v) (hl : xst1 L i (.int v) = L') (hq : pc + 3 = q) (k : xA X d M c n mc ms q L' st h Q) : xA X d M c n mc ms pc L st h Q := by
  subst hq; subst hl
  intro p l e R s m args below meth cd Z b base yI yP D cx H locs ls hW hS hL
  obtain ⟨j, hj⟩ := List.getElem?_of_mem (xlv_mem (b := b) (base := base) hx)
  exact lv_iinc cx.ex cx.co (cx.de hd) (xlv_has hL) hj hv (List.getElem?_eq_some_iff.mp hx).1 rfl fun ls' hl' => k p l e R s m args below meth cd Z b base yI yP D cx H locs ls' hW hS (xst1_ok hl')
theorem xA.icmp_eq {x y : Int32} {off : Int} {tgt : Nat} (hd : xfetch M pc = some (.if_icmp .eq off, 3)) (ht : (pc : Int) + off = (tgt : Int)) (hq : pc + 3 = q) (kt : x = y → xA X d M c n mc ms tgt L st h Q) (kf : ¬ x = y → xA X d M c n mc ms q L st h Q) : xA X d M c n mc ms pc L (.int y :: .int x :: st) h Q := by
  subst hq
  intro p l e R s m args below meth cd Z b base yI yP D cx H locs ls hW hS hL
  exact lv_icmp_eq cx.ex cx.co (cx.de hd) ht (fun z => kt z p l e R s m args below meth cd Z b base yI yP D cx H locs ls hW hS hL) (fun z => kf z p l e R s m args below meth cd Z b base yI yP D cx H locs ls hW hS hL)
theorem xA.icmp_ne {x y : Int32} {off : Int} {tgt : Nat} (hd : xfetch M pc = some (.if_icmp .ne off, 3)) (ht : (pc : Int) + off = (tgt : Int)) (hq : pc + 3 = q) (kt : ¬ x = y → xA X d M c n mc ms tgt L st h Q) (kf : x = y → xA X d M c n mc ms q L st h Q) : xA X d M c n mc ms pc L (.int y :: .int x :: st) h Q := by
  subst hq
  intro p l e R s m args below meth cd Z b base yI yP D cx H locs ls hW hS hL
  exact lv_icmp_ne cx.ex cx.co (cx.de hd) ht (fun z => kt z p l e R s m args below meth cd Z b base yI yP D cx H locs ls hW hS hL) (fun z => kf z p l e R s m args below meth cd Z b base yI yP D cx H locs ls hW hS hL)
theorem xA.icmp_lt {x y : Int32} {off : Int} {tgt : Nat} (hd : xfetch M pc = some (.if_icmp .lt off, 3)) (ht : (pc : Int) + off = (tgt : Int)) (hq : pc + 3 = q) (kt : x < y → xA X d M c n mc ms tgt L st h Q) (kf : ¬ x < y → xA X d M c n mc ms q L st h Q) : xA X d M c n mc ms pc L (.int y :: .int x :: st) h Q := by
  subst hq
  intro p l e R s m args below meth cd Z b base yI yP D cx H locs ls hW hS hL
  exact lv_icmp_lt cx.ex cx.co (cx.de hd) ht (fun z => kt z p l e R s m args below meth cd Z b base yI yP D cx H locs ls hW hS hL) (fun z => kf z p l e R s m args below meth cd Z b base yI yP D cx H locs ls hW hS hL)
theorem xA.icmp_le {x y : Int32} {off : Int} {tgt : Nat} (hd : xfetch M pc = some (.if_icmp .le off, 3)) (ht : (pc : Int) + off = (tgt : Int)) (hq : pc + 3 = q) (kt : x ≤ y → xA X d M c n mc ms tgt L st h Q) (kf : ¬ x ≤ y → xA X d M c n mc ms q L st h Q) : xA X d M c n mc ms pc L (.int y :: .int x :: st) h Q := by
  subst hq
  intro p l e R s m args below meth cd Z b base yI yP D cx H locs ls hW hS hL
  exact lv_icmp_le cx.ex cx.co (cx.de hd) ht (fun z => kt z p l e R s m args below meth cd Z b base yI yP D cx H locs ls hW hS hL) (fun z => kf z p l e R s m args below meth cd Z b base yI yP D cx H locs ls hW hS hL)
theorem xA.icmp_gt {x y : Int32} {off : Int} {tgt : Nat} (hd : xfetch M pc = some (.if_icmp .gt off, 3)) (ht : (pc : Int) + off = (tgt : Int)) (hq : pc + 3 = q) (kt : y < x → xA X d M c n mc ms tgt L st h Q) (kf : ¬ y < x → xA X d M c n mc ms q L st h Q) : xA X d M c n mc ms pc L (.int y :: .int x :: st) h Q := by
  subst hq
  intro p l e R s m args below meth cd Z b base yI yP D cx H locs ls hW hS hL
  exact lv_icmp_gt cx.ex cx.co (cx.de hd) ht (fun z => kt z p l e R s m args below meth cd Z b base yI yP D cx H locs ls hW hS hL) (fun z => kf z p l e R s m args below meth cd Z b base yI yP D cx H locs ls hW hS hL)
theorem xA.icmp_ge {x y : Int32} {off : Int} {tgt : Nat} (hd : xfetch M pc = some (.if_icmp .ge off, 3)) (ht : (pc : Int) + off = (tgt : Int)) (hq : pc + 3 = q) (kt : y ≤ x → xA X d M c n mc ms tgt L st h Q) (kf : ¬ y ≤ x → xA X d M c n mc ms q L st h Q) : xA X d M c n mc ms pc L (.int y :: .int x :: st) h Q := by
  subst hq
  intro p l e R s m args below meth cd Z b base yI yP D cx H locs ls hW hS hL
  exact lv_icmp_ge cx.ex cx.co (cx.de hd) ht (fun z => kt z p l e R s m args below meth cd Z b base yI yP D cx H locs ls hW hS hL) (fun z => kf z p l e R s m args below meth cd Z b base yI yP D cx H locs ls hW hS hL)
theorem xA.if_eq {x : Int32} {off : Int} {tgt : Nat} (hd : xfetch M pc = some (.ifCond .eq off, 3)) (ht : (pc : Int) + off = (tgt : Int)) (hq : pc + 3 = q) (kt : x = 0 → xA X d M c n mc ms tgt L st h Q) (kf : ¬ x = 0 → xA X d M c n mc ms q L st h Q) : xA X d M c n mc ms pc L (.int x :: st) h Q := by
  subst hq
  intro p l e R s m args below meth cd Z b base yI yP D cx H locs ls hW hS hL
  exact lv_if_eq cx.ex cx.co (cx.de hd) ht (fun z => kt z p l e R s m args below meth cd Z b base yI yP D cx H locs ls hW hS hL) (fun z => kf z p l e R s m args below meth cd Z b base yI yP D cx H locs ls hW hS hL)
theorem xA.if_ne {x : Int32} {off : Int} {tgt : Nat} (hd : xfetch M pc = some (.ifCond .ne off, 3)) (ht : (pc : Int) + off = (tgt : Int)) (hq : pc + 3 = q) (kt : ¬ x = 0 → xA X d M c n mc ms tgt L st h Q) (kf : x = 0 → xA X d M c n mc ms q L st h Q) : xA X d M c n mc ms pc L (.int x :: st) h Q := by
  subst hq
  intro p l e R s m args below meth cd Z b base yI yP D cx H locs ls hW hS hL
  exact lv_if_ne cx.ex cx.co (cx.de hd) ht (fun z => kt z p l e R s m args below meth cd Z b base yI yP D cx H locs ls hW hS hL) (fun z => kf z p l e R s m args below meth cd Z b base yI yP D cx H locs ls hW hS hL)
theorem xA.if_lt {x : Int32} {off : Int} {tgt : Nat} (hd : xfetch M pc = some (.ifCond .lt off, 3)) (ht : (pc : Int) + off = (tgt : Int)) (hq : pc + 3 = q) (kt : x < 0 → xA X d M c n mc ms tgt L st h Q) (kf : ¬ x < 0 → xA X d M c n mc ms q L st h Q) : xA X d M c n mc ms pc L (.int x :: st) h Q := by
  subst hq
  intro p l e R s m args below meth cd Z b base yI yP D cx H locs ls hW hS hL
  exact lv_if_lt cx.ex cx.co (cx.de hd) ht (fun z => kt z p l e R s m args below meth cd Z b base yI yP D cx H locs ls hW hS hL) (fun z => kf z p l e R s m args below meth cd Z b base yI yP D cx H locs ls hW hS hL)
theorem xA.if_le {x : Int32} {off : Int} {tgt : Nat} (hd : xfetch M pc = some (.ifCond .le off, 3)) (ht : (pc : Int) + off = (tgt : Int)) (hq : pc + 3 = q) (kt : x ≤ 0 → xA X d M c n mc ms tgt L st h Q) (kf : ¬ x ≤ 0 → xA X d M c n mc ms q L st h Q) : xA X d M c n mc ms pc L (.int x :: st) h Q := by
  subst hq
  intro p l e R s m args below meth cd Z b base yI yP D cx H locs ls hW hS hL
  exact lv_if_le cx.ex cx.co (cx.de hd) ht (fun z => kt z p l e R s m args below meth cd Z b base yI yP D cx H locs ls hW hS hL) (fun z => kf z p l e R s m args below meth cd Z b base yI yP D cx H locs ls hW hS hL)
theorem xA.if_gt {x : Int32} {off : Int} {tgt : Nat} (hd : xfetch M pc = some (.ifCond .gt off, 3)) (ht : (pc : Int) + off = (tgt : Int)) (hq : pc + 3 = q) (kt : 0 < x → xA X d M c n mc ms tgt L st h Q) (kf : ¬ 0 < x → xA X d M c n mc ms q L st h Q) : xA X d M c n mc ms pc L (.int x :: st) h Q := by
  subst hq
  intro p l e R s m args below meth cd Z b base yI yP D cx H locs ls hW hS hL
  exact lv_if_gt cx.ex cx.co (cx.de hd) ht (fun z => kt z p l e R s m args below meth cd Z b base yI yP D cx H locs ls hW hS hL) (fun z => kf z p l e R s m args below meth cd Z b base yI yP D cx H locs ls hW hS hL)
theorem xA.if_ge {x : Int32} {off : Int} {tgt : Nat} (hd : xfetch M pc = some (.ifCond .ge off, 3)) (ht : (pc : Int) + off = (tgt : Int)) (hq : pc + 3 = q) (kt : 0 ≤ x → xA X d M c n mc ms tgt L st h Q) (kf : ¬ 0 ≤ x → xA X d M c n mc ms q L st h Q) : xA X d M c n mc ms pc L (.int x :: st) h Q := by
  subst hq
  intro p l e R s m args below meth cd Z b base yI yP D cx H locs ls hW hS hL
  exact lv_if_ge cx.ex cx.co (cx.de hd) ht (fun z => kt z p l e R s m args below meth cd Z b base yI yP D cx H locs ls hW hS hL) (fun z => kf z p l e R s m args below meth cd Z b base yI yP D cx H locs ls hW hS hL)
theorem xA.goto {off : Int} (hd : xfetch M pc = some (.goto off, 3)) (ht : (pc : Int) + off = (q : Int)) (k : xA X d M c n mc ms q L st h Q) : xA X d M c n mc ms pc L st h Q := by
  intro p l e R s m args below meth cd Z b base yI yP D cx H locs ls hW hS hL
  exact lv_goto cx.ex cx.co (cx.de hd) ht (k p l e R s m args below meth cd Z b base yI yP D cx H locs ls hW hS hL)
theorem xA.ifnull {a : Nat} {off : Int} (hd : xfetch M pc = some (.ifnull off, 3)) (hq : pc + 3 = q) (k : xA X d M c n mc ms q L st h Q) : xA X d M c n mc ms pc L (.ref a :: st) h Q := by
  subst hq
  intro p l e R s m args below meth cd Z b base yI yP D cx H locs ls hW hS hL
  exact lv_ifnull cx.ex cx.co (cx.de hd) (k p l e R s m args below meth cd Z b base yI yP D cx H locs ls hW hS hL)
theorem xA.ifnullN {off : Int} (hd : xfetch M pc = some (.ifnull off, 3)) (ht : (pc : Int) + off = (q : Int)) (k : xA X d M c n mc ms q L st h Q) : xA X d M c n mc ms pc L (.null :: st) h Q := by
  intro p l e R s m args below meth cd Z b base yI yP D cx H locs ls hW hS hL
  exact lv_ifnullN cx.ex cx.co (cx.de hd) ht (k p l e R s m args below meth cd Z b base yI yP D cx H locs ls hW hS hL)
theorem xA.ifnonnull {a : Nat} {off : Int} (hd : xfetch M pc = some (.ifnonnull off, 3)) (ht : (pc : Int) + off = (q : Int)) (k : xA X d M c n mc ms q L st h Q) : xA X d M c n mc ms pc L (.ref a :: st) h Q := by
  intro p l e R s m args below meth cd Z b base yI yP D cx H locs ls hW hS hL
  exact lv_ifnonnull cx.ex cx.co (cx.de hd) ht (k p l e R s m args below meth cd Z b base yI yP D cx H locs ls hW hS hL)
theorem xA.ifnonnullN {off : Int} (hd : xfetch M pc = some (.ifnonnull off, 3)) (hq : pc + 3 = q) (k : xA X d M c n mc ms q L st h Q) : xA X d M c n mc ms pc L (.null :: st) h Q := by
  subst hq
  intro p l e R s m args below meth cd Z b base yI yP D cx H locs ls hW hS hL
  exact lv_ifnonnullN cx.ex cx.co (cx.de hd) (k p l e R s m args below meth cd Z b base yI yP D cx H locs ls hW hS hL)
theorem xA.tsOut {dflt lo hi : Int} {offs : Array Int} {len : Nat} {x : Int32} (hd : xfetch M pc = some (.tableswitch dflt lo hi offs, len)) (hx : x.toInt < lo ∨ hi < x.toInt) (ht : (pc : Int) + dflt = (q : Int)) (k : xA X d M c n mc ms q L st h Q) : xA X d M c n mc ms pc L (.int x :: st) h Q := by
  intro p l e R s m args below meth cd Z b base yI yP D cx H locs ls hW hS hL
  exact lv_tableOut cx.ex cx.co (cx.de hd) hx ht (k p l e R s m args below meth cd Z b base yI yP D cx H locs ls hW hS hL)
theorem xA.tsIn {dflt lo hi : Int} {offs : Array Int} {len : Nat} {x : Int32} {off : Int} (hd : xfetch M pc = some (.tableswitch dflt lo hi offs, len)) (h1 : ¬ x.toInt < lo) (h2 : ¬ hi < x.toInt) (ho : offs[(x.toInt - lo).toNat]? = some off) (ht : (pc : Int) + off = (q : Int)) (k : xA X d M c n mc ms q L st h Q) : xA X d M c n mc ms pc L (.int x :: st) h Q := by
  intro p l e R s m args below meth cd Z b base yI yP D cx H locs ls hW hS hL
  exact lv_tableIn cx.ex cx.co (cx.de hd) h1 h2 ho ht (k p l e R s m args below meth cd Z b base yI yP D cx H locs ls hW hS hL)
theorem xA.ldc {idx : Nat} {v : Int32} (hd : xfetch M pc = some (.ldc idx, 2)) (hw : Cond.constant M.1.cls idx v ∈ xBW) (hq : pc + 2 = q) (k : xA X d M c n mc ms q L (.int v :: st) h Q) : xA X d M c n mc ms pc L st h Q := by
  subst hq
  intro p l e R s m args below meth cd Z b base yI yP D cx H locs ls hW hS hL
  exact lv_ldc cx.ex cx.co cx.ow (cx.ts _ hw) (cx.de hd) (k p l e R s m args below meth cd Z b base yI yP D cx H locs ls hW hS hL)
theorem xA.ldc_w {idx : Nat} {v : Int32} (hd : xfetch M pc = some (.ldc_w idx, 3)) (hw : Cond.constant M.1.cls idx v ∈ xBW) (hq : pc + 3 = q) (k : xA X d M c n mc ms q L (.int v :: st) h Q) : xA X d M c n mc ms pc L st h Q := by
  subst hq
  intro p l e R s m args below meth cd Z b base yI yP D cx H locs ls hW hS hL
  exact lv_ldcw cx.ex cx.co cx.ow (cx.ts _ hw) (cx.de hd) (k p l e R s m args below meth cd Z b base yI yP D cx H locs ls hW hS hL)
theorem xA.ldc2 {idx : Nat} {v : Int64} (hd : xfetch M pc = some (.ldc2_w idx, 3)) (hw : Cond.constantLong M.1.cls idx v ∈ xBW) (hq : pc + 3 = q) (k : xA X d M c n mc ms q L (.long v :: st) h Q) : xA X d M c n mc ms pc L st h Q := by
  subst hq
  intro p l e R s m args below meth cd Z b base yI yP D cx H locs ls hW hS hL
  exact lv_ldc2 cx.ex cx.co cx.ow (cx.ts _ hw) (cx.de hd) (k p l e R s m args below meth cd Z b base yI yP D cx H locs ls hW hS hL)
theorem xA.iret {v : Int32} {ty : FieldType} (hd : xfetch M pc = some (.ireturn, 1)) (hr : M.2.2.2.1 = some ty) (hn : narrow ty (.int v) = .int v) (hQ : Q (some (.int v)) h) : xA X d M mc ms mc ms pc L [.int v] h Q := by
  intro p l e R s m args below meth cd Z b base yI yP D cx H locs ls hW hS hL
  exact cx.2.2.2.2.2.2 pc ls .ireturn [.int v] _ h H locs (cx.de hd) (Or.inl ⟨rfl, v, rfl, rfl, ty, hr, hn⟩) hQ hW hS
theorem xA.lret {v : Int64} (hd : xfetch M pc = some (.lreturn, 1)) (hr : M.2.2.2.1 = some .long) (hQ : Q (some (.long v)) h) : xA X d M mc ms mc ms pc L [.long v] h Q := by
  intro p l e R s m args below meth cd Z b base yI yP D cx H locs ls hW hS hL
  exact cx.2.2.2.2.2.2 pc ls .lreturn [.long v] _ h H locs (cx.de hd) (Or.inr (Or.inl ⟨rfl, v, rfl, rfl, hr⟩)) hQ hW hS
theorem xA.aret {v : Value} {nm : String} (hd : xfetch M pc = some (.areturn, 1)) (hr : M.2.2.2.1 = some (.object nm)) (hv : v = .null ∨ ∃ a, v = .ref a) (hQ : Q (some v) h) : xA X d M mc ms mc ms pc L [v] h Q := by
  intro p l e R s m args below meth cd Z b base yI yP D cx H locs ls hW hS hL
  exact cx.2.2.2.2.2.2 pc ls .areturn [v] _ h H locs (cx.de hd) (Or.inr (Or.inr (Or.inl ⟨rfl, v, rfl, rfl, ⟨nm, hr⟩, hv⟩))) hQ hW hS
theorem xA.vret (hd : xfetch M pc = some (.return_, 1)) (hr : M.2.2.2.1 = none) (hQ : Q none h) : xA X d M mc ms mc ms pc L [] h Q := by
  intro p l e R s m args below meth cd Z b base yI yP D cx H locs ls hW hS hL
  exact cx.2.2.2.2.2.2 pc ls .return_ [] _ h H locs (cx.de hd) (Or.inr (Or.inr (Or.inr ⟨rfl, rfl, rfl, hr⟩))) hQ hW hS
theorem xA.widen {c' n' : Nat} (h1 : c ≤ c') (h2 : n ≤ n') (k : xA X d M c' n' mc ms pc L st h Q) : xA X d M c n mc ms pc L st h Q := by
  intro p l e R s m args below meth cd Z b base yI yP D cx H locs ls hW hS hL
  exact W.widen h1 h2 (k p l e R s m args below meth cd Z b base yI yP D cx H locs ls hW hS hL)
end XR
end
section
/-! ===== walks at the machine, with the heap's size kept (the kit's rows va_put, va_putF, va_iast, va_astq, va_new, va_newa, va_newq, told with it) ===== -/
section XH
variable {p : Program} {l : Launch} {e : Env} {R : Room} {s : State} {m : MethodId} {args : Array Value} {below : List Frame} {meth : Method} {c : Code} {H : Heap} {locs : List Loc} {cells slots : Nat} {Q : State → Prop}
variable {cc : ByteArray} {pc : Nat} {ls : Array Slot} {rest : List Value} {D : va_G} {cl : List vw_C} {A : Nat → Prop} {a : Nat} {tys : List (ClassId × FieldType)} {ws : va_W} {H0 : Heap}
theorem x_put (hexec : p.tables.exec = Jvm.exec) (hb : c.code = cc) {own ref C : String} {T : u_T} {N ci index : Nat} {Ts : List Cond} (hts : ∀ w ∈ Ts, w.before args s = true) (hin : ∀ w ∈ u_ws C T N, w ∈ Ts) (ty0 : Nat → FieldType) (hty : ∀ k, k < N → parseFieldDescriptor (T k).2.2.1 = some (ty0 k)) (hnm : ∀ a, a < N → ∀ b, b < N → a ≠ b → (T a).2.1 ≠ (T b).2.1) (hown : s.vm.findClass own = some m.cls) (hK : va_K D cl tys s) (hP : va_P D cl ws H) (hD : va_D A ws) (hS0 : va_S A H0 H locs) (q0 : Nat) {fs : List Value} (he : ws[q0]? = some (a, .inr (ci, fs))) (hc : cl[ci]? = some (C, T, N)) (k : Nat) (hk : k < N) (hlink : (Cond.fieldLink own index ref (T k).2.1 (T k).2.2.1).before args s = true) (hsame : ∀ x, s.fieldFound? (T k).1 (T k).2.1 (T k).2.2.1 = some x → s.fieldFound? ref (T k).2.1 (T k).2.2.1 = some x) (hfin : (T k).2.2.2 = false) {ty : FieldType} {v : Value} (hd : parseFieldDescriptor (T k).2.2.1 = some ty) (hn : narrow ty v = v) (hfit : fits ty v = true) (hl : k < fs.length)
    (hdg : decode cc pc = .ok (.putfield index, 3)) (kk : ∀ (H1 : Heap) (locs1 : List Loc), H1.size = H.size → va_P D cl (ws.set q0 (a, .inr (ci, fs.set k v))) H1 → va_S A H0 H1 locs1 → W p l e R s m args below meth c H1 locs1 cells slots Q (F0 m (pc + 3) ls rest)) : W p l e R s m args below meth c H locs cells slots Q (F0 m pc ls (v :: .ref a :: rest)) := by
  have hap := va_apart (own := own) hts hin ty0 hty hnm hK hc
  obtain ⟨r, h1, cell, q1, q2, q3, q4⟩ := hP q0 _ he
  have hr : r = (C, T, N) := Option.some.inj (h1.symm.trans hc)
  subst hr
  obtain ⟨hS, hfc, kC, hkC, hkind⟩ := hK.1 ci _ hc
  obtain ⟨cf, kf, fi, f, hi, hsl⟩ := hS k hk
  have hlay := hts _ (hin _ (u_in_lay hk))
  unfold u_lay at hlay
  rw [if_neg (by rw [hfin]; decide)] at hlay
  have hst := (u_facts hfc hkC (u_lays hts hin hk) hi).1
  have h6 := u_store hfc hkC hkind hlay hi hd hn hfit
  refine W.putK hexec hb (f := f) ⟨hown, hlink, ⟨_, _, _, hsame _ hi⟩, hst⟩ (by rw [q2]; exact h6) q1 q3 (by rw [hsl]; exact k2_hasslot (q4 k hk)) rfl rfl hdg fun H' e1 e2 e3 => ?_
  rw [hsl] at e1 ⊢
  exact kk H' _ e2 (hP.set hD he ⟨_, hc, t_OB.to (V := updV (vp_V fs) k v) ⟨_, e1, q2, q3, t_set q4 hap hk v⟩ (fun j _ => vp_updV_set hl v j)⟩ e3) (hS0.put e2 e3 (hD.2 q0 _ he))
theorem x_putF (hexec : p.tables.exec = Jvm.exec) (hb : c.code = cc) {own ref C : String} {T : u_T} {N ci index : Nat} {Ts : List Cond} (hts : ∀ w ∈ Ts, w.before args s = true) (hin : ∀ w ∈ u_ws C T N, w ∈ Ts) (ty0 : Nat → FieldType) (hty : ∀ k, k < N → parseFieldDescriptor (T k).2.2.1 = some (ty0 k)) (hnm : ∀ a, a < N → ∀ b, b < N → a ≠ b → (T a).2.1 ≠ (T b).2.1) (hown : s.vm.findClass own = some m.cls) (hK : va_K D cl tys s) (hP : va_P D cl ws H) (hD : va_D A ws) (hS0 : va_S A H0 H locs) (q0 : Nat) {fs : List Value} (he : ws[q0]? = some (a, .inr (ci, fs))) (hc : cl[ci]? = some (C, T, N)) (k : Nat) (hk : k < N) (hlink : (Cond.fieldLink own index ref (T k).2.1 (T k).2.2.1).before args s = true) (hsame : ∀ x, s.fieldFound? (T k).1 (T k).2.1 (T k).2.2.1 = some x → s.fieldFound? ref (T k).2.1 (T k).2.2.1 = some x) (hfin : (T k).2.2.2 = true) (hin2 : meth.name = "<init>") (hdecl : (T k).1 = own) {ty : FieldType} {v : Value} (hd : parseFieldDescriptor (T k).2.2.1 = some ty) (hn : narrow ty v = v) (hfit : fits ty v = true) (hl : k < fs.length)
    (hdg : decode cc pc = .ok (.putfield index, 3)) (kk : ∀ (H1 : Heap) (locs1 : List Loc), H1.size = H.size → va_P D cl (ws.set q0 (a, .inr (ci, fs.set k v))) H1 → va_S A H0 H1 locs1 → W p l e R s m args below meth c H1 locs1 cells slots Q (F0 m (pc + 3) ls rest)) : W p l e R s m args below meth c H locs cells slots Q (F0 m pc ls (v :: .ref a :: rest)) := by
  have hap := va_apart (own := own) hts hin ty0 hty hnm hK hc
  obtain ⟨r, h1, cell, q1, q2, q3, q4⟩ := hP q0 _ he
  have hr : r = (C, T, N) := Option.some.inj (h1.symm.trans hc)
  subst hr
  obtain ⟨hS, hfc, kC, hkC, hkind⟩ := hK.1 ci _ hc
  obtain ⟨cf, kf, fi, f, hi, hsl⟩ := hS k hk
  have hlay := hts _ (hin _ (u_in_lay hk))
  unfold u_lay at hlay
  rw [if_pos hfin] at hlay
  have hst := (u_facts hfc hkC (u_lays hts hin hk) hi).1
  have hcf : m.cls = cf := by
    obtain ⟨_, _, c', _, _, _, -, -, hf', -, -, -, hown2, -⟩ := Cond.laysFinal_spec hlay
    have e1 : c' = cf := by have := hi.symm.trans hf'; simp at this; exact this.1.symm
    rw [hdecl] at hown2
    rw [← e1]; exact Option.some.inj (hown.symm.trans hown2)
  have h6 := u_fits hfc hkC hkind (Or.inr hlay) hi hd hn hfit
  refine W.putFinK hexec hb hown hlink (hsame _ hi) hst hcf hin2 (by rw [q2]; exact h6) q1 q3 (by rw [hsl]; exact k2_hasslot (q4 k hk)) rfl rfl hdg fun H' e1 e2 e3 => ?_
  rw [hsl] at e1 ⊢
  exact kk H' _ e2 (hP.set hD he ⟨_, hc, t_OB.to (V := updV (vp_V fs) k v) ⟨_, e1, q2, q3, t_set q4 hap hk v⟩ (fun j _ => vp_updV_set hl v j)⟩ e3) (hS0.put e2 e3 (hD.2 q0 _ he))
theorem x_iast (hexec : p.tables.exec = Jvm.exec) (hb : c.code = cc) (hK : va_K D cl tys s) (hP : va_P D cl ws H) (hD : va_D A ws) (hS : va_S A H0 H locs) (q0 t0 : Nat) {cA : ClassId} {n : Nat} {f : Nat → Int32} (ha : ws[q0]? = some (a, .inl (cA, n, .inl f))) (ht : tys[t0]? = some (cA, .int)) {i : Int32} {x : Int32} (hin : vp_in i n) (hdg : decode cc pc = .ok (.iastore, 1))
    (kk : ∀ (H1 : Heap) (locs1 : List Loc), H1.size = H.size → va_P D cl (ws.set q0 (a, .inl (cA, n, .inl (upd f i.toNatClampNeg x)))) H1 → va_S A H0 H1 locs1 → W p l e R s m args below meth c H1 locs1 cells slots Q (F0 m (pc + 1) ls rest)) : W p l e R s m args below meth c H locs cells slots Q (F0 m pc ls (.int x :: .int i :: .ref a :: rest)) := by
  refine W.iast hexec hb (hP q0 _ ha) ((hK.2 t0 _ ht).1 n (fun j => .int (f j))) (fun q => by cases q) (by show ¬ (i < 0 ∨ (arrV _ _ _).slots.size ≤ _); rw [arrV_size]; exact hin) rfl rfl hdg fun H1 e z oq => ?_
  refine kk H1 _ z (hP.set hD ha ?_ oq) (hS.put z oq (hD.2 q0 _ ha))
  show H1[a]? = some (vp_cell _ _)
  rw [e]
  rw [vp_cell_i, vp_cell_i, arrV_store]
  congr 2
  funext q
  by_cases hq : q = i.toNatClampNeg
  · subst hq
    simp [updV, upd]
  · simp [updV, upd, hq]
theorem x_astq (hexec : p.tables.exec = Jvm.exec) (hb : c.code = cc) (hK : va_K D cl tys s) (hP : va_P D cl ws H) (hD : va_D A ws) (hS : va_S A H0 H locs) (q0 t0 qk ci : Nat) {cA : ClassId} {r : vw_C} {n v : Nat} {vs : List Value} {f : Nat → Option Nat} (ha : ws[q0]? = some (a, .inl (cA, n, .inr (.inr (.inr (.inr f)))))) (ht : tys[t0]? = some (cA, .object r.1)) (hv : ws[qk]? = some (v, .inr (ci, vs))) (hc : cl[ci]? = some r) {i : Int32} (hin : vp_in i n) (hdg : decode cc pc = .ok (.aastore, 1))
    (kk : ∀ (H1 : Heap) (locs1 : List Loc), H1.size = H.size → va_P D cl (ws.set q0 (a, .inl (cA, n, .inr (.inr (.inr (.inr (va_up f i.toNatClampNeg (some v)))))))) H1 → va_S A H0 H1 locs1 → W p l e R s m args below meth c H1 locs1 cells slots Q (F0 m (pc + 1) ls rest)) : W p l e R s m args below meth c H locs cells slots Q (F0 m pc ls (.ref v :: .int i :: .ref a :: rest)) := by
  have hlt : i.toNatClampNeg < n := Nat.not_le.mp fun q => hin (Or.inr q)
  have h0 : ¬ i < 0 := fun q => hin (Or.inl q)
  obtain ⟨r', hr', cellV, g1, g2, g3, -⟩ := hP qk _ hv
  have hcls := (hK.1 ci r hc).2
  obtain ⟨kA, comp, k1, k2, k3, -⟩ := (hK.2 t0 _ ht).2
  have hcomp : comp = D.1 ci := Option.some.inj (k3.symm.trans hcls.1)
  subst hcomp
  obtain ⟨kC, hkC, -⟩ := hcls.2
  refine W.aast hexec hb (hP q0 _ ha) (fun q h => by cases h) (fun h => by cases h) k1 k2 rfl hkC ⟨h0, by show _ < (arrV _ _ _).slots.size; rw [arrV_size]; exact hlt⟩ g1 (fun q h => by rw [g3] at h; cases h) (by rw [g2]; exact hkC) (by rw [g2]; exact va_assign hcls) rfl rfl hdg fun H1 e z oq => ?_
  refine kk H1 _ z (hP.set hD ha ?_ oq) (hS.put z oq (hD.2 q0 _ ha))
  show H1[a]? = some (vp_cell _ _)
  rw [e]
  rw [vp_cell_q, vp_cell_q, arrV_store]
  congr 2
  funext q
  by_cases hq : q = i.toNatClampNeg
  · subst hq
    simp [updV, va_up, va_rf]
  · simp [updV, va_up, hq]
theorem x_P1 {D : va_G} {cl : List vw_C} {q : Nat × va_E} {H : Heap} (h : va_at D cl q H) : va_P D cl [q] H := by
  intro k x hx
  have hz : k < 1 := (List.getElem?_eq_some_iff.mp hx).1
  rw [show k = 0 by omega] at hx
  cases hx
  exact h
theorem x_new {c0 : Code} (hexec : p.tables.exec = Jvm.exec) (hb : c0.code = cc) {own C : String} {T : u_T} {N ci index : Nat} {Ts : List Cond} (hts : ∀ w ∈ Ts, w.before args s = true) (hin : ∀ w ∈ u_ws C T N, w ∈ Ts) (ty : Nat → FieldType) (hty : ∀ k, k < N → parseFieldDescriptor (T k).2.2.1 = some (ty k)) (hown : s.vm.findClass own = some m.cls) (hcl : (Cond.classLink own index C).before args s = true) (hinst : (Cond.instantiable C N).before args s = true) (hini : (Cond.initialized C).before args s = true)
    (hK : va_K D cl tys s) (hP : va_P D cl ws H) (hS : va_S A H0 H locs) (hc : cl[ci]? = some (C, T, N)) {fs : List Value} (hfs : ∀ j, j < N → defaultValue (ty j) = vp_V fs j) (hcells : cells + 1 ≤ R.cells) (hslots : slots + N ≤ R.slots) (hdg : decode cc pc = .ok (.new index, 3))
    (kk : ∀ (H1 : Heap), H1.size = H.size + 1 → va_P D cl (ws ++ [(H.size, .inr (ci, fs))]) H1 → va_S A H0 H1 locs →
      W p l e R s m args below meth c0 H1 locs (cells + 1) (slots + N) Q (F0 m (pc + 3) ls (.ref H.size :: rest))) : W p l e R s m args below meth c0 H locs cells slots Q (F0 m pc ls rest) := by
  have hKn := hK.1 ci _ hc
  refine W.newcK hexec hb hown hcl hinst hini rfl hdg hcells hslots hKn.2.1 rfl fun H1 kC hkC e1 z1 o1 => ?_
  have hk : ∀ (k : Nat) (x : Nat × va_E), ws[k]? = some x → H1[x.1]? = H[x.1]? := fun k x hx => o1 x.1 ((hP k x hx).lt)
  exact kk H1 z1 ((hP.kept hk).app (x_P1 ⟨_, hc, (u_born ty hts hin hKn hkC e1 hty).to hfs⟩)) ⟨Nat.le_trans hS.1 (by omega), fun x h1 h2 => (o1 x (Nat.lt_of_lt_of_le h1 hS.1)).trans (hS.2.1 x h1 h2), hS.2.2⟩
theorem x_newa (hexec : p.tables.exec = Jvm.exec) (hb : c.code = cc) (harr : (Cond.arrayClass .int).before args s = true) (hK : va_K D cl tys s) (hP : va_P D cl ws H) (hS : va_S A H0 H locs) {yI : ClassId} (t0 : Nat) (ht : tys[t0]? = some (yI, .int))
    {n : Int32} {N' : Nat} (hn : ¬ n < 0) (hN : n.toNatClampNeg = N') (hbytes : N' * 4 ≤ 536870912) (hcells : cells + 1 ≤ R.cells) (hslots : slots + N' ≤ R.slots) (hdg : decode cc pc = .ok (.newarray .int, 2))
    (kk : ∀ (H1 : Heap), H1.size = H.size + 1 → va_P D cl (ws ++ [(H.size, .inl (yI, N', .inl (fun _ => 0)))]) H1 → va_S A H0 H1 locs →
      W p l e R s m args below meth c H1 locs (cells + 1) (slots + N') Q (F0 m (pc + 2) ls (.ref H.size :: rest))) : W p l e R s m args below meth c H locs cells slots Q (F0 m pc ls (.int n :: rest)) := by
  refine va_newaK (atype := .int) hexec hb harr rfl hdg rfl hn hN hbytes hcells hslots rfl fun H1 cA e1 z1 o1 hAr hNm => ?_
  have hcy : cA = yI := Option.some.inj (hNm.symm.trans (hK.2 t0 _ ht).2)
  subst hcy
  have hk : ∀ (k : Nat) (x : Nat × va_E), ws[k]? = some x → H1[x.1]? = H[x.1]? := fun k x hx => o1 x.1 ((hP k x hx).lt)
  refine kk H1 z1 ((hP.kept hk).app (x_P1 ?_)) ⟨Nat.le_trans hS.1 (by omega), fun x h1 h2 => (o1 x (Nat.lt_of_lt_of_le h1 hS.1)).trans (hS.2.1 x h1 h2), hS.2.2⟩
  show H1[H.size]? = some (vp_cell _ _)
  rw [vp_cell_i]
  exact e1
theorem x_newq (hexec : p.tables.exec = Jvm.exec) (hb : c.code = cc) {own C : String} {index : Nat} (hown : s.vm.findClass own = some m.cls) (hclink : (Cond.classLink own index C).before args s = true) (hover : va_AO C s) (hK : va_K D cl tys s) (hP : va_P D cl ws H) (hS : va_S A H0 H locs) {yP : ClassId} (t0 : Nat) (ht : tys[t0]? = some (yP, .object C))
    {n : Int32} {N' : Nat} (hn : ¬ n < 0) (hN : n.toNatClampNeg = N') (hbytes : N' * 4 ≤ 536870912) (hcells : cells + 1 ≤ R.cells) (hslots : slots + N' ≤ R.slots) (hdg : decode cc pc = .ok (.anewarray index, 3))
    (kk : ∀ (H1 : Heap), H1.size = H.size + 1 → va_P D cl (ws ++ [(H.size, .inl (yP, N', .inr (.inr (.inr (.inr (fun _ => none))))))]) H1 → va_S A H0 H1 locs →
      W p l e R s m args below meth c H1 locs (cells + 1) (slots + N') Q (F0 m (pc + 3) ls (.ref H.size :: rest))) : W p l e R s m args below meth c H locs cells slots Q (F0 m pc ls (.int n :: rest)) := by
  subst hN
  refine W.anew hexec hb hown hclink (va_AO.use hover) rfl hdg rfl hn hbytes hcells hslots fun cA kA comp f1 f2 f3 f4 => ?_
  have hcy : cA = yP := by
    obtain ⟨kA2, comp2, g1, g2, g3, g4⟩ := (hK.2 t0 _ ht).2
    first | exact Option.some.inj (f4.symm.trans g4) | exact Option.some.inj (f1.symm.trans g4)
  subst hcy
  generalize hH1 : H.push ({ cls := cA, slots := Array.replicate n.toNatClampNeg .null, vm := .none } : Cell) = H1
  have z1 : H1.size = H.size + 1 := by rw [← hH1, Array.size_push]
  have e1 : H1[H.size]? = some (arrV cA n.toNatClampNeg (fun _ => .null)) := by rw [← hH1, Array.getElem?_push_size, ← arrV_new]
  have o1 : ∀ q : Nat, q < H.size → H1[q]? = H[q]? := fun q hq => by rw [← hH1, Array.getElem?_push, if_neg (Nat.ne_of_lt hq)]
  have hk : ∀ (k : Nat) (x : Nat × va_E), ws[k]? = some x → H1[x.1]? = H[x.1]? := fun k x hx => o1 x.1 ((hP k x hx).lt)
  refine kk H1 z1 ((hP.kept hk).app (x_P1 ?_)) ⟨Nat.le_trans hS.1 (by omega), fun x h1 h2 => (o1 x (Nat.lt_of_lt_of_le h1 hS.1)).trans (hS.2.1 x h1 h2), hS.2.2⟩
  show H1[H.size]? = some (vp_cell _ _)
  rw [vp_cell_q]
  exact e1
/-- behind a call -/
theorem x_call {b base : Nat} {yI yP : ClassId} {mc ms : Nat} {Q' : Option Value → xH → Prop} {st0 : List Value} {a : Array Value} (hr : va_Run p l e R s m args below meth c H locs cells slots mc ms (F0 m pc ls st0) rest (xQc b base yI yP D Q' a) (xAd base)) (hS : va_S (xAd base) s.heap H locs) (hbs : base ≤ s.heap.size)
    (kk : ∀ (r : Option Value) (h' : xH) (H1 : Heap) (locs1 : List Loc), Q' r h' → xWd base yI yP D h' H1 → va_S (xAd base) s.heap H1 locs1 → W p l e R s m args below meth c H1 locs1 (cells + mc) (slots + ms) Q (F0 m (pc + 3) ls ((r.map (xe b base)).toList ++ rest))) : W p l e R s m args below meth c H locs cells slots Q (F0 m pc ls st0) := by
  intro T hT X
  obtain ⟨v, st₀, t, T', L, h0, X', hL, e1, e2, ⟨r, h', hv, hq, hw, hz, hk⟩, st⟩ := hr T hT X
  cases hv
  rw [h0] at hz hk
  obtain ⟨t2, a1, b1⟩ := kk r h' T'.heap (locs ++ L) hq (by rw [e1]; exact hw)
    ⟨Nat.le_trans hS.1 (by rw [e1]; exact hz), fun q h1 h2 => by rw [e1, hk q (Nat.lt_of_not_le h2)]; exact hS.2.1 q h1 h2, fun q hq => by
      rcases List.mem_append.mp hq with h | h
      · exact hS.2.2 q h
      · exact hL q h⟩ T' rfl X'
  exact ⟨t2, st t2 a1, b1⟩
end XH
/-! ===== fields, rows ===== -/
/-- a field's link: in a class's table -/
def xfldOk (own : String) (idx ci k : Nat) : Prop := ∃ (C : String) (T : u_T) (N : Nat), vwCl[ci]? = some (C, T, N) ∧ k < N ∧ Cond.fieldLink own idx (T k).1 (T k).2.1 (T k).2.2.1 ∈ xBW
/-- the same, and it isn't final; it is, and the class' own -/
def xputOk (own : String) (idx ci k : Nat) : Prop := ∃ (C : String) (T : u_T) (N : Nat), vwCl[ci]? = some (C, T, N) ∧ k < N ∧ Cond.fieldLink own idx (T k).1 (T k).2.1 (T k).2.2.1 ∈ xBW ∧ (T k).2.2.2 = false
def xputFOk (own : String) (idx ci k : Nat) : Prop := ∃ (C : String) (T : u_T) (N : Nat), vwCl[ci]? = some (C, T, N) ∧ k < N ∧ Cond.fieldLink own idx (T k).1 (T k).2.1 (T k).2.2.1 ∈ xBW ∧ (T k).2.2.2 = true ∧ (T k).1 = own
section XF
variable {X : Option (Nat × (Nat → Int32))} {d : Nat} {M : xM} {c n mc ms pc q : Nat} {L : List (Option Value)} {st : List Value} {σ : List xSh} {S : Nat → Nat → Int32} {G : Nat → Nat → Int64} {Q : Option Value → xH → Prop}
theorem xA.getI {idx a ci k : Nat} {r : List (Option Nat)} (hd : xfetch M pc = some (.getfield idx, 3)) (hf : xfldOk M.1.cls idx ci k) (hσ : σ[a]? = some (.inl (ci, r))) (hk : xkind ci k = 0) (hq : pc + 3 = q) (kk : xA X d M c n mc ms q L (.int (S a k) :: st) (σ, S, G) Q) : xA X d M c n mc ms pc L (.ref a :: st) (σ, S, G) Q := by
  subst hq
  intro p l e R s m args below meth cd Z b base yI yP D cx H locs ls hW hS hL
  obtain ⟨C, T, N, hc, hkN, hw⟩ := hf
  obtain ⟨hu, -, hN, -⟩ := xlay hc
  refine va_get cx.ex cx.co cx.ts hu cx.ow cx.2.1.2.1 hW.2 a (xws_get (h := (σ, S, G)) hσ) hc k hkN (cx.ts _ hw) (fun _ h => h) ?_ (cx.de hd) (kk p l e R s m args below meth cd Z b base yI yP D cx H locs ls hW hS hL)
  rw [List.getElem?_map, List.getElem?_range (by omega)]
  simp only [Option.map_some, xval, hk, xe]
theorem xA.getZ {idx a ci k : Nat} {r : List (Option Nat)} (hd : xfetch M pc = some (.getfield idx, 3)) (hf : xfldOk M.1.cls idx ci k) (hσ : σ[a]? = some (.inl (ci, r))) (hk : xkind ci k = 3) (hq : pc + 3 = q) (kk : xA X d M c n mc ms q L (.int (S a k) :: st) (σ, S, G) Q) : xA X d M c n mc ms pc L (.ref a :: st) (σ, S, G) Q := by
  subst hq
  intro p l e R s m args below meth cd Z b base yI yP D cx H locs ls hW hS hL
  obtain ⟨C, T, N, hc, hkN, hw⟩ := hf
  obtain ⟨hu, -, hN, -⟩ := xlay hc
  refine va_get cx.ex cx.co cx.ts hu cx.ow cx.2.1.2.1 hW.2 a (xws_get (h := (σ, S, G)) hσ) hc k hkN (cx.ts _ hw) (fun _ h => h) ?_ (cx.de hd) (kk p l e R s m args below meth cd Z b base yI yP D cx H locs ls hW hS hL)
  rw [List.getElem?_map, List.getElem?_range (by omega)]
  simp only [Option.map_some, xval, hk, xe]
theorem xA.getL {idx a ci k : Nat} {r : List (Option Nat)} (hd : xfetch M pc = some (.getfield idx, 3)) (hf : xfldOk M.1.cls idx ci k) (hσ : σ[a]? = some (.inl (ci, r))) (hk : xkind ci k = 1) (hq : pc + 3 = q) (kk : xA X d M c n mc ms q L (.long (G a k) :: st) (σ, S, G) Q) : xA X d M c n mc ms pc L (.ref a :: st) (σ, S, G) Q := by
  subst hq
  intro p l e R s m args below meth cd Z b base yI yP D cx H locs ls hW hS hL
  obtain ⟨C, T, N, hc, hkN, hw⟩ := hf
  obtain ⟨hu, -, hN, -⟩ := xlay hc
  refine va_get cx.ex cx.co cx.ts hu cx.ow cx.2.1.2.1 hW.2 a (xws_get (h := (σ, S, G)) hσ) hc k hkN (cx.ts _ hw) (fun _ h => h) ?_ (cx.de hd) (kk p l e R s m args below meth cd Z b base yI yP D cx H locs ls hW hS hL)
  rw [List.getElem?_map, List.getElem?_range (by omega)]
  simp only [Option.map_some, xval, hk, xe]
theorem xA.getR {idx a ci k a' : Nat} {r : List (Option Nat)} (hd : xfetch M pc = some (.getfield idx, 3)) (hf : xfldOk M.1.cls idx ci k) (hσ : σ[a]? = some (.inl (ci, r))) (hk : xkind ci k = 2) (hr : r[k]? = some (some a')) (hq : pc + 3 = q) (kk : xA X d M c n mc ms q L (.ref a' :: st) (σ, S, G) Q) : xA X d M c n mc ms pc L (.ref a :: st) (σ, S, G) Q := by
  subst hq
  intro p l e R s m args below meth cd Z b base yI yP D cx H locs ls hW hS hL
  obtain ⟨C, T, N, hc, hkN, hw⟩ := hf
  obtain ⟨hu, -, hN, -⟩ := xlay hc
  refine va_get cx.ex cx.co cx.ts hu cx.ow cx.2.1.2.1 hW.2 a (xws_get (h := (σ, S, G)) hσ) hc k hkN (cx.ts _ hw) (fun _ h => h) ?_ (cx.de hd) (kk p l e R s m args below meth cd Z b base yI yP D cx H locs ls hW hS hL)
  rw [List.getElem?_map, List.getElem?_range (by omega)]
  simp only [Option.map_some, xval, hk, xe, List.getD_eq_getElem?_getD, hr, Option.getD_some, va_rf]
theorem xA.putI {idx a ci k : Nat} {v : Int32} {r : List (Option Nat)} (hd : xfetch M pc = some (.putfield idx, 3)) (hf : xputOk M.1.cls idx ci k) (hσ : σ[a]? = some (.inl (ci, r))) (hk : xkind ci k = 0) (hq : pc + 3 = q) (kk : xA X d M c n mc ms q L st (σ, xu S a k v, G) Q) : xA X d M c n mc ms pc L (.int v :: .ref a :: st) (σ, S, G) Q := by
  subst hq
  intro p l e R s m args below meth cd Z b base yI yP D cx H locs ls hW hS hL
  obtain ⟨C, T, N, hc, hkN, hw, hfin⟩ := hf
  obtain ⟨hu, hnm, hN, ty, hty, htk⟩ := xlay hc
  have hty2 : ty k = .int := by
    have h1 := htk k hkN
    rw [hk] at h1
    revert h1
    cases ty k <;> intro h1 <;> first | rfl | (simp [xtyB] at h1)
  refine x_put cx.ex cx.co cx.ts hu ty hty hnm cx.ow cx.2.1.2.1 hW.2 (xws_D base yI yP (σ, S, G)) hS a (xws_get (h := (σ, S, G)) hσ) hc k hkN (cx.ts _ hw) (fun _ h => h) hfin (hty k hkN) (by rw [hty2]; exact rfl) (by rw [hty2]; exact rfl) (by simp; omega) (cx.de hd) (fun H1 locs1 hz hP hS1 => kk p l e R s m args below meth cd Z b base yI yP D cx H1 locs1 ls ⟨hz.trans hW.1, ?_⟩ hS1 hL)
  rw [xws_set (h := (σ, S, G)) (h' := (σ, xu S a k v, G)) hσ (x_setSelf hσ) (fun j hj z => xcell_eq (by funext i; simp [xu, hj]) (by funext i; simp [xul, hj]) z)]
  rw [xfs_set (h' := (σ, xu S a k v, G)) (r' := r) (by simp [xval, hk, xu, xul, xe]) (fun i hi => xval_eq (by simp [xu, hi]) (by simp [xul, hi]))] at hP
  exact hP
theorem xA.putZ {idx a ci k : Nat} {v : Int32} {r : List (Option Nat)} (hd : xfetch M pc = some (.putfield idx, 3)) (hf : xputOk M.1.cls idx ci k) (hσ : σ[a]? = some (.inl (ci, r))) (hk : xkind ci k = 3) (hv : v = 0 ∨ v = 1) (hq : pc + 3 = q) (kk : xA X d M c n mc ms q L st (σ, xu S a k v, G) Q) : xA X d M c n mc ms pc L (.int v :: .ref a :: st) (σ, S, G) Q := by
  subst hq
  intro p l e R s m args below meth cd Z b base yI yP D cx H locs ls hW hS hL
  obtain ⟨C, T, N, hc, hkN, hw, hfin⟩ := hf
  obtain ⟨hu, hnm, hN, ty, hty, htk⟩ := xlay hc
  have hty2 : ty k = .boolean := by
    have h1 := htk k hkN
    rw [hk] at h1
    revert h1
    cases ty k <;> intro h1 <;> first | rfl | (simp [xtyB] at h1)
  refine x_put cx.ex cx.co cx.ts hu ty hty hnm cx.ow cx.2.1.2.1 hW.2 (xws_D base yI yP (σ, S, G)) hS a (xws_get (h := (σ, S, G)) hσ) hc k hkN (cx.ts _ hw) (fun _ h => h) hfin (hty k hkN) (by rw [hty2]; exact (by rcases hv with rfl | rfl <;> rfl)) (by rw [hty2]; exact (by rcases hv with rfl | rfl <;> rfl)) (by simp; omega) (cx.de hd) (fun H1 locs1 hz hP hS1 => kk p l e R s m args below meth cd Z b base yI yP D cx H1 locs1 ls ⟨hz.trans hW.1, ?_⟩ hS1 hL)
  rw [xws_set (h := (σ, S, G)) (h' := (σ, xu S a k v, G)) hσ (x_setSelf hσ) (fun j hj z => xcell_eq (by funext i; simp [xu, hj]) (by funext i; simp [xul, hj]) z)]
  rw [xfs_set (h' := (σ, xu S a k v, G)) (r' := r) (by simp [xval, hk, xu, xul, xe]) (fun i hi => xval_eq (by simp [xu, hi]) (by simp [xul, hi]))] at hP
  exact hP
theorem xA.putL {idx a ci k : Nat} {v : Int64} {r : List (Option Nat)} (hd : xfetch M pc = some (.putfield idx, 3)) (hf : xputOk M.1.cls idx ci k) (hσ : σ[a]? = some (.inl (ci, r))) (hk : xkind ci k = 1) (hq : pc + 3 = q) (kk : xA X d M c n mc ms q L st (σ, S, xul G a k v) Q) : xA X d M c n mc ms pc L (.long v :: .ref a :: st) (σ, S, G) Q := by
  subst hq
  intro p l e R s m args below meth cd Z b base yI yP D cx H locs ls hW hS hL
  obtain ⟨C, T, N, hc, hkN, hw, hfin⟩ := hf
  obtain ⟨hu, hnm, hN, ty, hty, htk⟩ := xlay hc
  have hty2 : ty k = .long := by
    have h1 := htk k hkN
    rw [hk] at h1
    revert h1
    cases ty k <;> intro h1 <;> first | rfl | (simp [xtyB] at h1)
  refine x_put cx.ex cx.co cx.ts hu ty hty hnm cx.ow cx.2.1.2.1 hW.2 (xws_D base yI yP (σ, S, G)) hS a (xws_get (h := (σ, S, G)) hσ) hc k hkN (cx.ts _ hw) (fun _ h => h) hfin (hty k hkN) (by rw [hty2]; exact rfl) (by rw [hty2]; exact rfl) (by simp; omega) (cx.de hd) (fun H1 locs1 hz hP hS1 => kk p l e R s m args below meth cd Z b base yI yP D cx H1 locs1 ls ⟨hz.trans hW.1, ?_⟩ hS1 hL)
  rw [xws_set (h := (σ, S, G)) (h' := (σ, S, xul G a k v)) hσ (x_setSelf hσ) (fun j hj z => xcell_eq (by funext i; simp [xu, hj]) (by funext i; simp [xul, hj]) z)]
  rw [xfs_set (h' := (σ, S, xul G a k v)) (r' := r) (by simp [xval, hk, xu, xul, xe]) (fun i hi => xval_eq (by simp [xu, hi]) (by simp [xul, hi]))] at hP
  exact hP
theorem xA.putR {idx a ci k v : Nat} {r : List (Option Nat)} (hd : xfetch M pc = some (.putfield idx, 3)) (hf : xputFOk M.1.cls idx ci k) (hin : M.1.name = "<init>") (hσ : σ[a]? = some (.inl (ci, r))) (hk : xkind ci k = 2) (hrl : k < r.length) (hq : pc + 3 = q) (kk : xA X d M c n mc ms q L st (σ.set a (.inl (ci, r.set k (some v))), S, G) Q) : xA X d M c n mc ms pc L (.ref v :: .ref a :: st) (σ, S, G) Q := by
  subst hq
  intro p l e R s m args below meth cd Z b base yI yP D cx H locs ls hW hS hL
  obtain ⟨C, T, N, hc, hkN, hw, hfin, hdecl⟩ := hf
  obtain ⟨hu, hnm, hN, ty, hty, htk⟩ := xlay hc
  have hty2 : (∃ nm, ty k = .object nm) ∨ ∃ t, ty k = .array t := by
    have h1 := htk k hkN
    rw [hk] at h1
    revert h1
    cases ty k <;> intro h1 <;> first | exact Or.inl ⟨_, rfl⟩ | exact Or.inr ⟨_, rfl⟩ | (simp [xtyB] at h1)
  refine x_putF cx.ex cx.co cx.ts hu ty hty hnm cx.ow cx.2.1.2.1 hW.2 (xws_D base yI yP (σ, S, G)) hS a (xws_get (h := (σ, S, G)) hσ) hc k hkN (cx.ts _ hw) (fun _ h => h) hfin (cx.2.2.1.1.trans hin) hdecl (hty k hkN) (by rcases hty2 with ⟨_, h⟩ | ⟨_, h⟩ <;> rw [h] <;> rfl) (by rcases hty2 with ⟨_, h⟩ | ⟨_, h⟩ <;> rw [h] <;> rfl) (by simp; omega) (cx.de hd) (fun H1 locs1 hz hP hS1 => kk p l e R s m args below meth cd Z b base yI yP D cx H1 locs1 ls ⟨by simpa using hz.trans hW.1, ?_⟩ hS1 hL)
  rw [xws_set (h := (σ, S, G)) (h' := (σ.set a (.inl (ci, r.set k (some v))), S, G)) hσ rfl (fun j hj z => xcell_eq rfl rfl z)]
  rw [xfs_set (h' := (σ.set a (.inl (ci, r.set k (some v))), S, G)) (r' := r.set k (some v)) (by simp [xval, hk, xe, hrl, va_rf]) (fun i hi => by simp [xval, List.getElem?_set_ne (Ne.symm hi)])] at hP
  exact hP
theorem xA.iald {a N : Nat} {i : Int32} (hd : xfetch M pc = some (.iaload, 1)) (hσ : σ[a]? = some (.inr (.inl N))) (hin : vp_in i N) (hq : pc + 1 = q) (kk : xA X d M c n mc ms q L (.int (S a i.toNatClampNeg) :: st) (σ, S, G) Q) : xA X d M c n mc ms pc L (.int i :: .ref a :: st) (σ, S, G) Q := by
  subst hq
  intro p l e R s m args below meth cd Z b base yI yP D cx H locs ls hW hS hL
  exact va_iald cx.ex cx.co cx.2.1.2.1 hW.2 a 0 (xws_get (h := (σ, S, G)) hσ) rfl hin (cx.de hd) (kk p l e R s m args below meth cd Z b base yI yP D cx H locs ls hW hS hL)
theorem xA.iast {a N : Nat} {i v : Int32} (hd : xfetch M pc = some (.iastore, 1)) (hσ : σ[a]? = some (.inr (.inl N))) (hin : vp_in i N) (hq : pc + 1 = q) (kk : xA X d M c n mc ms q L st (σ, xu S a i.toNatClampNeg v, G) Q) : xA X d M c n mc ms pc L (.int v :: .int i :: .ref a :: st) (σ, S, G) Q := by
  subst hq
  intro p l e R s m args below meth cd Z b base yI yP D cx H locs ls hW hS hL
  refine x_iast cx.ex cx.co cx.2.1.2.1 hW.2 (xws_D base yI yP (σ, S, G)) hS a 0 (xws_get (h := (σ, S, G)) hσ) rfl hin (cx.de hd) (fun H1 locs1 hz hP hS1 => kk p l e R s m args below meth cd Z b base yI yP D cx H1 locs1 ls ⟨hz.trans hW.1, ?_⟩ hS1 hL)
  rw [xws_set (h := (σ, S, G)) (h' := (σ, xu S a i.toNatClampNeg v, G)) hσ (x_setSelf hσ) (fun j hj z => xcell_eq (h := (σ, S, G)) (h' := (σ, xu S a i.toNatClampNeg v, G)) (by funext i; simp [xu, hj]) rfl z)]
  have e9 : upd (S a) i.toNatClampNeg v = xu S a i.toNatClampNeg v a := by funext j; simp [upd, xu]
  rw [e9] at hP
  exact hP
theorem xA.alen {a N : Nat} (hd : xfetch M pc = some (.arraylength, 1)) (hσ : σ[a]? = some (.inr (.inl N))) (hq : pc + 1 = q) (kk : xA X d M c n mc ms q L (.int (nI N) :: st) (σ, S, G) Q) : xA X d M c n mc ms pc L (.ref a :: st) (σ, S, G) Q := by
  subst hq
  intro p l e R s m args below meth cd Z b base yI yP D cx H locs ls hW hS hL
  exact va_alen cx.ex cx.co cx.2.1.2.1 hW.2 a 0 (xws_get (h := (σ, S, G)) hσ) rfl rfl (cx.de hd) (kk p l e R s m args below meth cd Z b base yI yP D cx H locs ls hW hS hL)
theorem xA.alenR {a : Nat} {l0 : List (Option Nat)} (hd : xfetch M pc = some (.arraylength, 1)) (hσ : σ[a]? = some (.inr (.inr l0))) (hq : pc + 1 = q) (kk : xA X d M c n mc ms q L (.int (nI l0.length) :: st) (σ, S, G) Q) : xA X d M c n mc ms pc L (.ref a :: st) (σ, S, G) Q := by
  subst hq
  intro p l e R s m args below meth cd Z b base yI yP D cx H locs ls hW hS hL
  exact va_alen cx.ex cx.co cx.2.1.2.1 hW.2 a 1 (xws_get (h := (σ, S, G)) hσ) rfl rfl (cx.de hd) (kk p l e R s m args below meth cd Z b base yI yP D cx H locs ls hW hS hL)
theorem xA.aald {a a' : Nat} {l0 : List (Option Nat)} {i : Int32} (hd : xfetch M pc = some (.aaload, 1)) (hσ : σ[a]? = some (.inr (.inr l0))) (hin : vp_in i l0.length) (hv : l0[i.toNatClampNeg]? = some (some a')) (hq : pc + 1 = q) (kk : xA X d M c n mc ms q L (.ref a' :: st) (σ, S, G) Q) : xA X d M c n mc ms pc L (.int i :: .ref a :: st) (σ, S, G) Q := by
  subst hq
  intro p l e R s m args below meth cd Z b base yI yP D cx H locs ls hW hS hL
  refine va_aldq cx.ex cx.co cx.2.1.2.1 hW.2 a 1 (xws_get (h := (σ, S, G)) hσ) rfl hin (cx.de hd) ?_
  have e9 : va_rf ((l0.getD i.toNatClampNeg none).map (fun j => base + j)) = .ref (base + a') := by simp [List.getD_eq_getElem?_getD, hv, va_rf]
  rw [e9]
  exact kk p l e R s m args below meth cd Z b base yI yP D cx H locs ls hW hS hL
theorem xA.aast {a v ci : Nat} {r l0 : List (Option Nat)} {i : Int32} (hd : xfetch M pc = some (.aastore, 1)) (hσ : σ[a]? = some (.inr (.inr l0))) (hσv : σ[v]? = some (.inl (5, r))) (hin : vp_in i l0.length) (hq : pc + 1 = q) (kk : xA X d M c n mc ms q L st (σ.set a (.inr (.inr (l0.set i.toNatClampNeg (some v)))), S, G) Q) : xA X d M c n mc ms pc L (.ref v :: .int i :: .ref a :: st) (σ, S, G) Q := by
  subst hq
  intro p l e R s m args below meth cd Z b base yI yP D cx H locs ls hW hS hL
  refine x_astq (r := (RX5, TX5, 2)) cx.ex cx.co cx.2.1.2.1 hW.2 (xws_D base yI yP (σ, S, G)) hS a 1 v 5 (xws_get (h := (σ, S, G)) hσ) rfl (xws_get (h := (σ, S, G)) hσv) rfl hin (cx.de hd) (fun H1 locs1 hz hP hS1 => kk p l e R s m args below meth cd Z b base yI yP D cx H1 locs1 ls ⟨by simpa using hz.trans hW.1, ?_⟩ hS1 hL)
  have hlt : i.toNatClampNeg < l0.length := Nat.not_le.mp fun q => hin (Or.inr q)
  rw [xws_set (h := (σ, S, G)) (h' := (σ.set a (.inr (.inr (l0.set i.toNatClampNeg (some v)))), S, G)) hσ rfl (fun j hj z => xcell_eq rfl rfl z)]
  have e9 : (fun j => ((l0.set i.toNatClampNeg (some v)).getD j none).map (fun j => base + j)) = va_up (fun j => (l0.getD j none).map (fun j => base + j)) i.toNatClampNeg (some (base + v)) := by
    funext j
    by_cases hj : j = i.toNatClampNeg
    · subst hj
      simp [va_up, List.getD_eq_getElem?_getD, hlt]
    · simp [va_up, List.getD_eq_getElem?_getD, hj, List.getElem?_set_ne (Ne.symm hj)]
  simp only [xcell, List.length_set, e9]
  exact hP
theorem xA.sld {N x : Nat} {xs : Nat → Int32} {i : Int32} {h : xH} (hd : xfetch M pc = some (.iaload, 1)) (hin : vp_in i N) (hq : pc + 1 = q) (kk : xA (some (N, xs)) d M c n mc ms q L (.int (xs i.toNatClampNeg) :: st) h Q) : xA (some (N, xs)) d M c n mc ms pc L (.int i :: .retAddr x :: st) h Q := by
  subst hq
  intro p l e R s m args below meth cd Z b base yI yP D cx H locs ls hW hS hL
  have hX := cx.2.2.2.2.2.1
  exact va_sld cx.ex cx.co hX.1 (Nat.lt_of_lt_of_le hX.2 cx.2.2.2.2.1) (Nat.not_le.mpr hX.2) hS hin (cx.de hd) (kk p l e R s m args below meth cd Z b base yI yP D cx H locs ls hW hS hL)
theorem xA.slen {N x : Nat} {xs : Nat → Int32} {h : xH} (hd : xfetch M pc = some (.arraylength, 1)) (hq : pc + 1 = q) (kk : xA (some (N, xs)) d M c n mc ms q L (.int (nI N) :: st) h Q) : xA (some (N, xs)) d M c n mc ms pc L (.retAddr x :: st) h Q := by
  subst hq
  intro p l e R s m args below meth cd Z b base yI yP D cx H locs ls hW hS hL
  have hX := cx.2.2.2.2.2.1
  exact va_slen cx.ex cx.co hX.1 (Nat.lt_of_lt_of_le hX.2 cx.2.2.2.2.1) (Nat.not_le.mpr hX.2) hS (cx.de hd) (kk p l e R s m args below meth cd Z b base yI yP D cx H locs ls hW hS hL)
end XF
end
section
/-! ===== making ===== -/
/-- a store with a new number's places at zero -/
def xz {α : Type} (z : α) (S : Nat → Nat → α) (k : Nat) : Nat → Nat → α := fun j => if j = k then fun _ => z else S j
theorem xws_push {base : Nat} {yI yP : ClassId} {σ : List xSh} {S S' : Nat → Nat → Int32} {G G' : Nat → Nat → Int64} {sh : xSh} (h1 : ∀ j, j ≠ σ.length → S' j = S j) (h2 : ∀ j, j ≠ σ.length → G' j = G j) :
    xws base yI yP (σ ++ [sh], S', G') = xws base yI yP (σ, S, G) ++ [(base + σ.length, xcell base yI yP (σ ++ [sh], S', G') σ.length sh)] := by
  refine List.ext_getElem? fun j => ?_
  by_cases hj : j < σ.length
  · rw [List.getElem?_append_left (by rw [xws_len]; exact hj)]
    simp only [xws, List.getElem?_mapIdx]
    rw [List.getElem?_append_left hj]
    have hne : j ≠ σ.length := by omega
    cases σ[j]? with
    | none => rfl
    | some z => exact congrArg some (congrArg (Prod.mk _) (xcell_eq (h1 j hne) (h2 j hne) z))
  · rw [List.getElem?_append_right (by rw [xws_len]; exact Nat.not_lt.mp hj), xws_len]
    simp only [xws, List.getElem?_mapIdx]
    rw [List.getElem?_append_right (Nat.not_lt.mp hj)]
    cases hz : j - σ.length with
    | zero =>
      have : j = σ.length := by omega
      subst this
      rfl
    | succ k => simp
def xnewOk (own : String) (idx ci : Nat) : Prop := ∃ (C : String) (T : u_T) (N : Nat), vwCl[ci]? = some (C, T, N) ∧ Cond.classLink own idx C ∈ xBW ∧ Cond.instantiable C N ∈ xBW ∧ Cond.initialized C ∈ xBW
section XN
variable {X : Option (Nat × (Nat → Int32))} {d : Nat} {M : xM} {c n mc ms pc q : Nat} {L : List (Option Value)} {st : List Value} {σ : List xSh} {S : Nat → Nat → Int32} {G : Nat → Nat → Int64} {Q : Option Value → xH → Prop}
theorem xA.new {idx ci N : Nat} (hd : xfetch M pc = some (.new idx, 3)) (hf : xnewOk M.1.cls idx ci) (hN : xnf ci = N) (h1 : c + 1 ≤ mc) (h2 : n + N ≤ ms) (hq : pc + 3 = q) (kk : xA X d M (c + 1) (n + N) mc ms q L (.ref σ.length :: st) (σ ++ [.inl (ci, List.replicate N none)], xz 0 S σ.length, xz 0 G σ.length) Q) : xA X d M c n mc ms pc L st (σ, S, G) Q := by
  subst hq; subst hN
  intro p l e R s m args below meth cd Z b base yI yP D cx H locs ls hW hS hL
  obtain ⟨C, T, N, hc, hw1, hw2, hw3⟩ := hf
  obtain ⟨hu, hnm, hN, ty, hty, htk⟩ := xlay hc
  subst hN
  refine x_new (fs := (List.range (xnf ci)).map (xval base (σ ++ [.inl (ci, List.replicate (xnf ci) none)], xz 0 S σ.length, xz 0 G σ.length) σ.length ci (List.replicate (xnf ci) none))) cx.ex cx.co cx.ts hu ty hty cx.ow (cx.ts _ hw1) (cx.ts _ hw2) (cx.ts _ hw3) cx.2.1.2.1 hW.2 hS hc ?_ (Nat.le_trans h1 cx.2.2.2.1.2.2.1) (Nat.le_trans h2 cx.2.2.2.1.2.2.2) (cx.de hd) (fun H1 hz hP hS1 => ?_)
  · intro j hj
    have h3 := htk j hj
    simp only [vp_V, List.getD_eq_getElem?_getD, List.getElem?_map, List.getElem?_range hj, Option.map_some, Option.getD_some, xval]
    generalize xkind ci j = kd at h3 ⊢
    generalize ty j = t at h3 ⊢
    revert h3
    rcases kd with _ | _ | _ | _ | kd <;> cases t <;> intro h3 <;> first | (simp [xtyB] at h3; done) | (simp [xz, defaultValue, va_rf, List.getElem?_replicate]; done) | (simp [xz, defaultValue, va_rf, List.getElem?_replicate]; split <;> simp_all)
  · have hsz : H.size = base + σ.length := hW.1
    rw [hsz] at hP ⊢
    refine kk p l e R s m args below meth cd Z b base yI yP D cx H1 locs ls ⟨by rw [hz, hsz]; simp [Nat.add_assoc], ?_⟩ hS1 hL
    rw [xws_push (S := S) (G := G) (fun j hj => by simp [xz, hj]) (fun j hj => by simp [xz, hj])]
    exact hP
theorem xA.newa {i : Int32} {N : Nat} (hd : xfetch M pc = some (.newarray .int, 2)) (hw : Cond.arrayClass .int ∈ xBW) (hi : ¬ i < 0) (hN : i.toNatClampNeg = N) (hb : N * 4 ≤ 536870912) (h1 : c + 1 ≤ mc) (h2 : n + N ≤ ms) (hq : pc + 2 = q) (kk : xA X d M (c + 1) (n + N) mc ms q L (.ref σ.length :: st) (σ ++ [.inr (.inl N)], xz 0 S σ.length, xz 0 G σ.length) Q) : xA X d M c n mc ms pc L (.int i :: st) (σ, S, G) Q := by
  subst hq
  intro p l e R s m args below meth cd Z b base yI yP D cx H locs ls hW hS hL
  refine x_newa cx.ex cx.co (cx.ts _ hw) cx.2.1.2.1 hW.2 hS 0 rfl hi hN hb (Nat.le_trans h1 cx.2.2.2.1.2.2.1) (Nat.le_trans h2 cx.2.2.2.1.2.2.2) (cx.de hd) (fun H1 hz hP hS1 => ?_)
  have hsz : H.size = base + σ.length := hW.1
  rw [hsz] at hP ⊢
  refine kk p l e R s m args below meth cd Z b base yI yP D cx H1 locs ls ⟨by rw [hz, hsz]; simp [Nat.add_assoc], ?_⟩ hS1 hL
  rw [xws_push (S := S) (G := G) (fun j hj => by simp [xz, hj]) (fun j hj => by simp [xz, hj])]
  have e9 : xz 0 S σ.length σ.length = fun _ => 0 := by simp [xz]
  simp only [xcell, e9]
  exact hP
theorem xA.newq {i : Int32} {idx N : Nat} (hd : xfetch M pc = some (.anewarray idx, 3)) (hw : Cond.classLink M.1.cls idx RX5 ∈ xBW) (hi : ¬ i < 0) (hN : i.toNatClampNeg = N) (hb : N * 4 ≤ 536870912) (h1 : c + 1 ≤ mc) (h2 : n + N ≤ ms) (hq : pc + 3 = q) (kk : xA X d M (c + 1) (n + N) mc ms q L (.ref σ.length :: st) (σ ++ [.inr (.inr (List.replicate N none))], xz 0 S σ.length, xz 0 G σ.length) Q) : xA X d M c n mc ms pc L (.int i :: st) (σ, S, G) Q := by
  subst hq
  intro p l e R s m args below meth cd Z b base yI yP D cx H locs ls hW hS hL
  refine x_newq cx.ex cx.co cx.ow (cx.ts _ hw) cx.2.1.2.2.1 cx.2.1.2.1 hW.2 hS 1 rfl hi hN hb (Nat.le_trans h1 cx.2.2.2.1.2.2.1) (Nat.le_trans h2 cx.2.2.2.1.2.2.2) (cx.de hd) (fun H1 hz hP hS1 => ?_)
  have hsz : H.size = base + σ.length := hW.1
  rw [hsz] at hP ⊢
  refine kk p l e R s m args below meth cd Z b base yI yP D cx H1 locs ls ⟨by rw [hz, hsz]; simp [Nat.add_assoc], ?_⟩ hS1 hL
  rw [xws_push (S := S) (G := G) (fun j hj => by simp [xz, hj]) (fun j hj => by simp [xz, hj])]
  have e9 : (fun j => ((List.replicate N (none : Option Nat)).getD j none).map (fun j => base + j)) = fun _ => none := by
    funext j
    by_cases hj : j < N <;> simp [List.getD_eq_getElem?_getD, List.getElem?_replicate, hj]
  simp only [xcell, List.length_replicate, e9]
  exact hP
end XN
/-! ===== calls ===== -/
def xmOk (M : xM) : Prop := Cond.code M.1 M.2.1 M.2.2.1 M.2.2.2.1 ∈ xBW ∧ (M.1.cls ≠ "java/lang/invoke/MethodHandle" ∧ M.1.cls ≠ "java/lang/invoke/VarHandle" ∧ (parseMethodDescriptor M.1.desc).map (fun d => d.parameters.length) = some M.2.2.2.2.1) ∧ M.2.2.1 ≤ 45 ∧ plainName M.1.cls = true ∧ ∀ pc i n, xfetch M pc = some (i, n) → decode M.2.1 pc = .ok (i, n)
theorem xfetch_of {M : xM} (h : M.2.2.2.2.2.all (fun q => decide (decode M.2.1 q.1 = .ok (q.2.1, q.2.2))) = true) : ∀ pc i n, xfetch M pc = some (i, n) → decode M.2.1 pc = .ok (i, n) := by
  intro pc i n hf
  unfold xfetch at hf
  obtain ⟨l1, l2, he, -⟩ := List.lookup_eq_some_iff.mp hf
  have h1 := List.all_eq_true.mp h (pc, i, n) (by rw [he]; simp)
  simpa using h1
def xcV (own : String) (idx : Nat) (M : xM) : Prop := Cond.methodLink own idx M.1 ∈ xBW ∧ Cond.instanceMethod M.1 ∈ xBW ∧ Cond.selects M.1.cls M.1 M.1 ∈ xBW ∧ Cond.initialized M.1.cls ∈ xBW
def xcS (own : String) (idx : Nat) (M : xM) : Prop := Cond.methodLink own idx M.1 ∈ xBW ∧ Cond.static M.1 ∈ xBW ∧ Cond.initialized M.1.cls ∈ xBW
def xcI (own : String) (idx : Nat) (M : xM) : Prop := Cond.methodLink own idx M.1 ∈ xBW ∧ Cond.instanceMethod M.1 ∈ xBW ∧ Cond.initialized M.1.cls ∈ xBW ∧ M.1.name = "<init>" ∧ M.2.2.2.1 = none
def xcSN (own : String) (idx : Nat) (M : xM) : Prop := Cond.methodLinkNest own idx M.1 "HourAgo" ∈ lw_tbl ∧ Cond.static M.1 ∈ xBW ∧ Cond.initialized M.1.cls ∈ xBW
def xcIN (own : String) (idx : Nat) (M : xM) : Prop := Cond.methodLinkNest own idx M.1 "HourAgo" ∈ lw_tbl ∧ Cond.instanceMethod M.1 ∈ xBW ∧ Cond.initialized M.1.cls ∈ xBW ∧ M.1.name = "<init>" ∧ M.2.2.2.1 = none
theorem x_good {w : Cond} (h : w ∈ xBW) : GoodIn xBW (w :: xBW) := by
  intro v hv
  have h1 : v ∈ xBW := by
    rcases List.mem_cons.mp hv with h2 | h2
    · rw [h2]; exact h
    · exact h2
  exact ⟨h1, good_of_word (xW_of h1).2⟩
theorem xTb_of {yI yP : ClassId} {D : va_G} {s U : State} (hvm : s.vm.Alike U.vm) (hn : ∀ w, w ∈ lw_tbl → xnest w = true → va_Nw w s → va_Nw w U) (h : xTb yI yP D s) : xTb yI yP D U := ⟨va_K.moved hvm h.1, va_AO.moved hvm h.2.1, fun w h1 h2 => hn w h1 h2 (h.2.2 w h1 h2)⟩
theorem xTb_warm {yI yP : ClassId} {D : va_G} {s U : State} (hW : s.WarmedH U.vm) (h : xTb yI yP D s) : xTb yI yP D U := by
  refine xTb_of hW.alike (fun w h1 h2 h3 => ?_) h
  cases w <;> first | exact va_Nw.warmM hW h3 | (simp [xnest] at h2)
theorem xPc_blind {b base : Nat} {yI yP : ClassId} {D : va_G} {args : List Value} {h : xH} : FrameBlind (xPc b base yI yP D args h) := by
  intro a U g mk q
  refine ⟨q.1, q.2.1, xTb_of (U := U.calling g mk a) (Vm.Alike.refl U.vm) (fun w h1 h2 h3 => ?_) q.2.2⟩
  cases w <;> first | exact va_Nw.same rfl rfl h3 | (simp [xnest] at h2)
theorem x_ret {b base : Nat} {r : Option Value} {st : List Value} : (r.toList ++ st).map (xe b base) = (r.map (xe b base)).toList ++ st.map (xe b base) := by cases r <;> simp
theorem x_cats {b base : Nat} {st : List Value} (h : (st.map Value.category).sum ≤ 8) : ((st.map (xe b base)).map (fun v => v.category)).sum ≤ 8 := by
  rw [List.map_map]
  have e : ((fun v : Value => v.category) ∘ xe b base) = Value.category := by funext v; exact xe_cat b base v
  rw [e]
  exact h
section XC
variable {X : Option (Nat × (Nat → Int32))} {d : Nat} {M M' : xM} {c n mc ms mc' ms' pc q idx : Nat} {L : List (Option Value)} {As st stk : List Value} {h : xH} {Q Q' : Option Value → xH → Prop}
theorem xA.callV {a ci : Nat} {r : List (Option Nat)} (hd : xfetch M pc = some (.invokevirtual idx, 3)) (hk : xcV M.1.cls idx M') (hm : xmOk M') (hσ : h.1[a]? = some (.inl (ci, r))) (hci : (vwCl[ci]?).map (fun z => z.1) = some M'.1.cls) (hn : As.length = M'.2.2.2.2.1) (hLn : L.length = M.2.2.1) (hst : (st.map Value.category).sum ≤ 8) (hC : xC d M' (.ref a :: As) h mc' ms' Q') (hc1 : c + mc' ≤ mc) (hc2 : n + ms' ≤ ms) (hq : pc + 3 = q) (hs : stk = As.reverse ++ .ref a :: st) (kk : ∀ r h', Q' r h' → xA X (d + 1) M (c + mc') (n + ms') mc ms q L (r.toList ++ st) h' Q) : xA X (d + 1) M c n mc ms pc L stk h Q := by
  subst hq; subst hs
  intro p l e R s m args below meth cd Z b base yI yP D cx H locs ls hW hS hL
  obtain ⟨w1, w2, w3, w4⟩ := hk
  have hro := cx.2.2.2.1
  have hml := hm.2.2.1
  obtain ⟨⟨C, T, N⟩, hc, hcC⟩ := Option.map_eq_some_iff.mp hci
  dsimp only at hcC
  have hr := va_runV (e := e) (below := below) (meth := meth) (ms := ms') (mc := mc') (cells := c) (slots := n) (locs := locs) (g := F0 m pc ls ((As.reverse ++ .ref a :: st).map (xe b base))) (C := M'.1.cls) (As := As.map (xe b base)) (rest := st.map (xe b base)) ⟨cx.ex, cx.co, cx.1.2.2.1, cx.ow, cx.ts⟩ (hC l b base yI yP D) ⟨callB_of (ws' := xBW) M'.2.2.2.2.1 cx.ts (x_good hm.1) rfl rfl rfl (cx.ts _ w4) (cx.ts _ w1) hm.2.1 ⟨by show d + 1 ≤ R.frames; omega, by show 8 + (M'.2.2.1 + 11) + 64 * d ≤ R.locals; omega⟩, cx.ts _ w2, cx.ts _ w3⟩ ⟨xPc_blind, hcC ▸ va_recv cx.2.1.2.1 hW.2 (q := (C, T, N)) hc (xws_get hσ), fun U hU hWm => ⟨rfl, by rw [hU]; exact hW, xTb_warm hWm cx.2.1.2⟩⟩ rfl (by rw [List.length_map]; exact hn) (hL.1.trans hLn) (by simp [xe]) (lv_room (x_cats hst)) (cx.de hd) ⟨Nat.le_trans hc1 hro.2.2.1, Nat.le_trans hc2 hro.2.2.2⟩
  refine x_call hr hS cx.2.2.2.2.1 (fun r h' H1 locs1 hq hW1 hS1 => ?_)
  rw [← x_ret]
  exact kk r h' hq p l e R s m args below meth cd Z b base yI yP D cx H1 locs1 ls hW1 hS1 hL
theorem xA.callS (hd : xfetch M pc = some (.invokestatic idx, 3)) (hk : xcS M.1.cls idx M') (hm : xmOk M') (hn : As.length = M'.2.2.2.2.1) (hLn : L.length = M.2.2.1) (hst : (st.map Value.category).sum ≤ 8) (hC : xC d M' As h mc' ms' Q') (hc1 : c + mc' ≤ mc) (hc2 : n + ms' ≤ ms) (hq : pc + 3 = q) (hs : stk = As.reverse ++ st) (kk : ∀ r h', Q' r h' → xA X (d + 1) M (c + mc') (n + ms') mc ms q L (r.toList ++ st) h' Q) : xA X (d + 1) M c n mc ms pc L stk h Q := by
  subst hq; subst hs
  intro p l e R s m args below meth cd Z b base yI yP D cx H locs ls hW hS hL
  obtain ⟨w1, w2, w4⟩ := hk
  have hro := cx.2.2.2.1
  have hml := hm.2.2.1
  have hr := va_runS (e := e) (below := below) (meth := meth) (ms := ms') (mc := mc') (cells := c) (slots := n) (locs := locs) (g := F0 m pc ls ((As.reverse ++ st).map (xe b base))) (As := As.map (xe b base)) (rest := st.map (xe b base)) ⟨cx.ex, cx.co, cx.1.2.2.1, cx.ow, cx.ts⟩ (hC l b base yI yP D) ⟨callB_of (ws' := xBW) M'.2.2.2.2.1 cx.ts (x_good hm.1) rfl rfl rfl (cx.ts _ w4) (cx.ts _ w1) hm.2.1 ⟨by show d + 1 ≤ R.frames; omega, by show 8 + (M'.2.2.1 + 11) + 64 * d ≤ R.locals; omega⟩, cx.ts _ w2⟩ ⟨xPc_blind, fun U hU hWm => ⟨rfl, by rw [hU]; exact hW, xTb_warm hWm cx.2.1.2⟩⟩ rfl (by rw [List.length_map]; exact hn) (hL.1.trans hLn) (by simp [xe]) (lv_room (x_cats hst)) (cx.de hd) ⟨Nat.le_trans hc1 hro.2.2.1, Nat.le_trans hc2 hro.2.2.2⟩
  refine x_call hr hS cx.2.2.2.2.1 (fun r h' H1 locs1 hq hW1 hS1 => ?_)
  rw [← x_ret]
  exact kk r h' hq p l e R s m args below meth cd Z b base yI yP D cx H1 locs1 ls hW1 hS1 hL
theorem xA.callI {a : Nat} (hd : xfetch M pc = some (.invokespecial idx, 3)) (hk : xcI M.1.cls idx M') (hm : xmOk M') (hn : As.length = M'.2.2.2.2.1) (hLn : L.length = M.2.2.1) (hst : (st.map Value.category).sum ≤ 8) (hC : xC d M' (.ref a :: As) h mc' ms' Q') (hc1 : c + mc' ≤ mc) (hc2 : n + ms' ≤ ms) (hq : pc + 3 = q) (hs : stk = As.reverse ++ .ref a :: st) (kk : ∀ r h', Q' r h' → xA X (d + 1) M (c + mc') (n + ms') mc ms q L (r.toList ++ st) h' Q) : xA X (d + 1) M c n mc ms pc L stk h Q := by
  subst hq; subst hs
  intro p l e R s m args below meth cd Z b base yI yP D cx H locs ls hW hS hL
  obtain ⟨w1, w2, w4, w5, w6⟩ := hk
  have hro := cx.2.2.2.1
  have hml := hm.2.2.1
  have hr := va_runI (e := e) (below := below) (meth := meth) (ms := ms') (mc := mc') (cells := c) (slots := n) (locs := locs) (g := F0 m pc ls ((As.reverse ++ .ref a :: st).map (xe b base))) (As := As.map (xe b base)) (rest := st.map (xe b base)) ⟨cx.ex, cx.co, cx.1.2.2.1, cx.ow, cx.ts⟩ (hC l b base yI yP D) ⟨by rw [← w6]; exact callB_of (ws' := xBW) M'.2.2.2.2.1 cx.ts (x_good hm.1) rfl rfl rfl (cx.ts _ w4) (cx.ts _ w1) hm.2.1 ⟨by show d + 1 ≤ R.frames; omega, by show 8 + (M'.2.2.1 + 11) + 64 * d ≤ R.locals; omega⟩, w5, cx.ts _ w2⟩ ⟨xPc_blind, fun U hU hWm => ⟨rfl, by rw [hU]; exact hW, xTb_warm hWm cx.2.1.2⟩⟩ rfl (by rw [List.length_map]; exact hn) (hL.1.trans hLn) (by simp [xe]) (lv_room (x_cats hst)) (cx.de hd) ⟨Nat.le_trans hc1 hro.2.2.1, Nat.le_trans hc2 hro.2.2.2⟩
  refine x_call hr hS cx.2.2.2.2.1 (fun r h' H1 locs1 hq hW1 hS1 => ?_)
  rw [← x_ret]
  exact kk r h' hq p l e R s m args below meth cd Z b base yI yP D cx H1 locs1 ls hW1 hS1 hL
theorem xA.callSN (hd : xfetch M pc = some (.invokestatic idx, 3)) (hk : xcSN M.1.cls idx M') (hm : xmOk M') (hn : As.length = M'.2.2.2.2.1) (hLn : L.length = M.2.2.1) (hst : (st.map Value.category).sum ≤ 8) (hC : xC d M' As h mc' ms' Q') (hc1 : c + mc' ≤ mc) (hc2 : n + ms' ≤ ms) (hq : pc + 3 = q) (hs : stk = As.reverse ++ st) (kk : ∀ r h', Q' r h' → xA X (d + 1) M (c + mc') (n + ms') mc ms q L (r.toList ++ st) h' Q) : xA X (d + 1) M c n mc ms pc L stk h Q := by
  subst hq; subst hs
  intro p l e R s m args below meth cd Z b base yI yP D cx H locs ls hW hS hL
  obtain ⟨w1, w2, w4⟩ := hk
  have hro := cx.2.2.2.1
  have hml := hm.2.2.1
  have hr := va_runSN (e := e) (below := below) (meth := meth) (ms := ms') (mc := mc') (cells := c) (slots := n) (locs := locs) (g := F0 m pc ls ((As.reverse ++ st).map (xe b base))) (As := As.map (xe b base)) (rest := st.map (xe b base)) ⟨cx.ex, cx.co, cx.1.2.2.1, cx.ow, cx.ts⟩ (hC l b base yI yP D) ⟨va_cnB (ws' := xBW) M'.2.2.2.2.1 cx.ts (x_good hm.1) rfl rfl rfl (cx.2.1.2.2.2 _ w1 rfl) (cx.ts _ w4) hm.2.1 ⟨by show d + 1 ≤ R.frames; omega, by show 8 + (M'.2.2.1 + 11) + 64 * d ≤ R.locals; omega⟩, cx.ts _ w2, trivial⟩ ⟨xPc_blind, fun U hU hWm => ⟨rfl, by rw [hU]; exact hW, xTb_warm hWm cx.2.1.2⟩⟩ rfl (by rw [List.length_map]; exact hn) (hL.1.trans hLn) (by simp [xe]) (lv_room (x_cats hst)) (cx.de hd) ⟨Nat.le_trans hc1 hro.2.2.1, Nat.le_trans hc2 hro.2.2.2⟩
  refine x_call hr hS cx.2.2.2.2.1 (fun r h' H1 locs1 hq hW1 hS1 => ?_)
  rw [← x_ret]
  exact kk r h' hq p l e R s m args below meth cd Z b base yI yP D cx H1 locs1 ls hW1 hS1 hL
theorem xA.callIN {a : Nat} (hd : xfetch M pc = some (.invokespecial idx, 3)) (hk : xcIN M.1.cls idx M') (hm : xmOk M') (hn : As.length = M'.2.2.2.2.1) (hLn : L.length = M.2.2.1) (hst : (st.map Value.category).sum ≤ 8) (hC : xC d M' (.ref a :: As) h mc' ms' Q') (hc1 : c + mc' ≤ mc) (hc2 : n + ms' ≤ ms) (hq : pc + 3 = q) (hs : stk = As.reverse ++ .ref a :: st) (kk : ∀ r h', Q' r h' → xA X (d + 1) M (c + mc') (n + ms') mc ms q L (r.toList ++ st) h' Q) : xA X (d + 1) M c n mc ms pc L stk h Q := by
  subst hq; subst hs
  intro p l e R s m args below meth cd Z b base yI yP D cx H locs ls hW hS hL
  obtain ⟨w1, w2, w4, w5, w6⟩ := hk
  have hro := cx.2.2.2.1
  have hml := hm.2.2.1
  have hr := va_runIN (e := e) (below := below) (meth := meth) (ms := ms') (mc := mc') (cells := c) (slots := n) (locs := locs) (g := F0 m pc ls ((As.reverse ++ .ref a :: st).map (xe b base))) (As := As.map (xe b base)) (rest := st.map (xe b base)) ⟨cx.ex, cx.co, cx.1.2.2.1, cx.ow, cx.ts⟩ (hC l b base yI yP D) ⟨by rw [← w6]; exact va_cnB (ws' := xBW) M'.2.2.2.2.1 cx.ts (x_good hm.1) rfl rfl rfl (cx.2.1.2.2.2 _ w1 rfl) (cx.ts _ w4) hm.2.1 ⟨by show d + 1 ≤ R.frames; omega, by show 8 + (M'.2.2.1 + 11) + 64 * d ≤ R.locals; omega⟩, w5, cx.ts _ w2⟩ ⟨xPc_blind, fun U hU hWm => ⟨rfl, by rw [hU]; exact hW, xTb_warm hWm cx.2.1.2⟩⟩ rfl (by rw [List.length_map]; exact hn) (hL.1.trans hLn) (by simp [xe]) (lv_room (x_cats hst)) (cx.de hd) ⟨Nat.le_trans hc1 hro.2.2.1, Nat.le_trans hc2 hro.2.2.2⟩
  refine x_call hr hS cx.2.2.2.2.1 (fun r h' H1 locs1 hq hW1 hS1 => ?_)
  rw [← x_ret]
  exact kk r h' hq p l e R s m args below meth cd Z b base yI yP D cx H1 locs1 ls hW1 hS1 hL
theorem xA.objInit {a : Nat} (hd : xfetch M pc = some (.invokespecial idx, 3)) (hk : Cond.methodLink M.1.cls idx objectInit ∈ xBW) (hk2 : Cond.instanceMethod objectInit ∈ xBW) (hk3 : Cond.code objectInit ⟨#[0xb1]⟩ 1 none ∈ xBW) (hLn : L.length = M.2.2.1) (hst : (st.map Value.category).sum ≤ 8) (hq : pc + 3 = q) (kk : xA X (d + 1) M c n mc ms q L st h Q) : xA X (d + 1) M c n mc ms pc L (.ref a :: st) h Q := by
  subst hq
  intro p l e R s m args below meth cd Z b base yI yP D cx H locs ls hW hS hL
  have hro := cx.2.2.2.1
  have h8 := lv_room (m := m) (pc := pc) (ls := ls) (rest := (.ref a :: st : List Value).map (xe b base)) (x_cats (b := b) (base := base) hst)
  refine W.objInit (g := F0 m pc ls ((.ref a :: st : List Value).map (xe b base))) cx.ex cx.co cx.ow (cx.ts _ hk) (cx.ts _ hk2) (cx.ts _ hk3) rfl (by rw [cx.1.2.2.1]; exact hL.1.trans hLn) rfl (cx.de hd) (by omega) (by omega) (kk p l e R s m args below meth cd Z b base yI yP D cx H locs ls hW hS hL)
end XC
/-! ===== entry ===== -/
def xlocs : List Value → List (Option Value)
  | [] => []
  | v :: vs => if v.category = 2 then some v :: none :: xlocs vs else some v :: xlocs vs
def xargs (n : Nat) (args : List Value) : List (Option Value) := xlocs args ++ List.replicate (n - (xlocs args).length) none
theorem xlocs_cons (v : Value) (vs : List Value) : xlocs (v :: vs) = if v.category = 2 then some v :: none :: xlocs vs else some v :: xlocs vs := rfl
theorem xlocs_mem {b base : Nat} : ∀ (args : List Value) (o i : Nat) (v : Value), (xlocs args)[i]? = some (some v) → (o + i, xe b base v) ∈ lv_args o (args.map (xe b base))
  | [], o, i, v, h => by simp [xlocs] at h
  | w :: vs, o, i, v, h => by
    unfold xlocs at h
    rw [List.map_cons]
    unfold lv_args
    rw [xe_cat]
    by_cases hc : w.category = 2
    · rw [if_pos hc] at h
      rw [if_pos hc]
      match i, h with
      | 0, h => simp at h; subst h; exact List.mem_cons_self
      | 1, h => simp at h
      | i + 2, h =>
        have h1 := xlocs_mem (b := b) (base := base) vs (o + 2) i v (by simpa using h)
        rw [show o + (i + 2) = o + 2 + i by omega]
        exact List.mem_cons_of_mem _ h1
    · rw [if_neg hc] at h
      rw [if_neg hc]
      match i, h with
      | 0, h => simp at h; subst h; exact List.mem_cons_self
      | i + 1, h =>
        have h1 := xlocs_mem (b := b) (base := base) vs (o + 1) i v (by simpa using h)
        rw [show o + (i + 1) = o + 1 + i by omega]
        exact List.mem_cons_of_mem _ h1
theorem xlocs_len {b base : Nat} : ∀ (args : List Value), (lg_sl (args.map (xe b base))).length = (xlocs args).length
  | [] => rfl
  | w :: vs => by
    have h1 := xlocs_len (b := b) (base := base) vs
    unfold lg_sl at h1 ⊢
    rw [List.map_cons, List.flatMap_cons, List.length_append, h1, xlocs_cons, xe_cat]
    by_cases hc : w.category = 2
    · simp [hc]; omega
    · simp [hc]; omega
theorem xLs_entry {b base : Nat} {args : List Value} {nL : Nat} (hlen : (xlocs args).length ≤ nL) : xLs b base ((lg_sl (args.map (xe b base)) ++ List.replicate (nL - (lg_sl (args.map (xe b base))).length) Slot.unset).toArray) (xargs nL args) := by
  have hl := lv_entry (args.map (xe b base)) (n := nL) (by rw [xlocs_len]; exact hlen)
  refine ⟨by rw [hl.1]; simp [xargs]; omega, hl.2.1, fun i v hi => ?_⟩
  refine hl.2.2 (i, xe b base v) ?_
  have h1 : (xlocs args)[i]? = some (some v) := by
    unfold xargs at hi
    by_cases hj : i < (xlocs args).length
    · rwa [List.getElem?_append_left hj] at hi
    · rw [List.getElem?_append_right (Nat.not_lt.mp hj)] at hi
      have := List.mem_of_getElem? hi
      simp at this
  have h2 := xlocs_mem (b := b) (base := base) args 0 i v h1
  rwa [Nat.zero_add] at h2
theorem xC.of {d : Nat} {M : xM} {args : List Value} {h : xH} {mc ms : Nat} {Q : Option Value → xH → Prop} {L : List (Option Value)} (hm : xmOk M) (hlen : (xlocs args).length ≤ M.2.2.1) (hL : xargs M.2.2.1 args = L) (k : xA none d M 0 0 mc ms 0 L [] h Q) : xC d M args h mc ms Q := by
  subst hL
  intro l b base yI yP D
  refine Met.ofW (cc := M.2.1) (maxL := M.2.2.1) (ret := M.2.2.2.1) hm.2.2.2.1 rfl ?_
  intro p e s m a below meth cd s₁ B hml hv
  obtain ⟨rfl, hW, hT⟩ := hv
  rw [lg_entry_eq]
  have hbs : base ≤ s.heap.size := by rw [hW.1]; omega
  refine k p l e _ s m _ below meth cd _ b base yI yP D ⟨⟨B.exec, B.bytes, hml, findClass_of_methodNamed B.named⟩, ⟨fun w hw => atoms_spec (ws := .code M.1 M.2.1 M.2.2.1 M.2.2.2.1 :: xBW) B.pre w (List.mem_cons_of_mem _ hw), hT⟩, ⟨(name_of_methodNamed B.named B.method).1, hm.2.2.2.2⟩, ⟨Nat.le_refl _, Nat.le_refl _, Nat.le_refl _, Nat.le_refl _⟩, hbs, trivial, ?_⟩ s.heap [] _ hW va_S.rf (xLs_entry hlen)
  intro pc ls i st r h' H locs hd hret hQ hW' hS'
  have post : ∀ (r : Option Value) (t : State), Q r h' → t.heap = H → xQc b base yI yP D Q (args.map (xe b base)).toArray s (.returned (r.map (xe b base))) t := fun r t hQ ht => ⟨r, h', rfl, hQ, by rw [ht]; exact hW', by rw [ht]; exact hS'.1, fun q hq => by rw [ht]; exact hS'.2.1 q (Nat.lt_of_lt_of_le hq hbs) (Nat.not_le.mpr hq)⟩
  rcases hret with ⟨rfl, v, rfl, rfl, ty, hr, hn⟩ | ⟨rfl, v, rfl, rfl, hr⟩ | ⟨rfl, v, rfl, rfl, ⟨nm, hr⟩, hv⟩ | ⟨rfl, rfl, rfl, hr⟩
  · exact W.zret B.exec B.bytes (B.returns.trans hr) hn (fun t ht hWm => post (some (.int v)) t hQ ht) hS'.2.2 hd B.notSynchronized
  · exact W.lret B.exec B.bytes (B.returns.trans hr) (fun t ht hWm => post (some (.long v)) t hQ ht) hS'.2.2 hd B.notSynchronized
  · refine W.aret (v := xe b base v) B.exec B.bytes (B.returns.trans hr) (Or.inl ⟨nm, rfl⟩) ?_ (fun t ht hWm => post (some v) t hQ ht) hS'.2.2 hd B.notSynchronized
    rcases hv with rfl | ⟨a, rfl⟩
    · exact Or.inl rfl
    · exact Or.inr ⟨_, rfl⟩
  · exact W.vret B.exec B.bytes (B.returns.trans hr) (fun t ht hWm => post none t hQ ht) hS'.2.2 hd B.notSynchronized
end
