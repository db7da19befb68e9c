section
-- ===== PART A: goes FIRST, ahead of the names: the tables' words, and 'selects' of the private methods out of them =====
/-- a private method of a class that the tables say can be made, by its rows of tables_1 -/
def lw_okq (q : MethodName × Nat) : Prop := (q.1.cls ≠ "java/lang/invoke/MethodHandle" ∧ q.1.cls ≠ "java/lang/invoke/VarHandle") ∧ Cond.instantiable q.1.cls q.2 ∈ tables_1 ∧ Cond.privateMethod q.1 ∈ tables_1 ∧ Cond.instanceMethod q.1 ∈ tables_1
theorem lw_p0 : lw_okq (⟨"WholeTurns", "found", "(I)I"⟩, 13) := ⟨⟨by decide +kernel, by decide +kernel⟩, List.mem_of_getElem? (i := 16) (by decide +kernel), List.mem_of_getElem? (i := 307) (by decide +kernel), List.mem_of_getElem? (i := 308) (by decide +kernel)⟩
theorem lw_p1 : lw_okq (⟨"WholeTurns", "answered", "(I)I"⟩, 13) := ⟨⟨by decide +kernel, by decide +kernel⟩, List.mem_of_getElem? (i := 16) (by decide +kernel), List.mem_of_getElem? (i := 316) (by decide +kernel), List.mem_of_getElem? (i := 317) (by decide +kernel)⟩
theorem lw_p2 : lw_okq (⟨"WholeTurns", "standing", "(I)LWholeTurns$Tray;"⟩, 13) := ⟨⟨by decide +kernel, by decide +kernel⟩, List.mem_of_getElem? (i := 16) (by decide +kernel), List.mem_of_getElem? (i := 325) (by decide +kernel), List.mem_of_getElem? (i := 326) (by decide +kernel)⟩
theorem lw_p3 : lw_okq (⟨"WholeTurns", "keep", "(ILWholeTurns$Four;)I"⟩, 13) := ⟨⟨by decide +kernel, by decide +kernel⟩, List.mem_of_getElem? (i := 16) (by decide +kernel), List.mem_of_getElem? (i := 388) (by decide +kernel), List.mem_of_getElem? (i := 389) (by decide +kernel)⟩
theorem lw_p4 : lw_okq (⟨"WholeTurns", "held", "(I)LWholeTurns$Four;"⟩, 13) := ⟨⟨by decide +kernel, by decide +kernel⟩, List.mem_of_getElem? (i := 16) (by decide +kernel), List.mem_of_getElem? (i := 434) (by decide +kernel), List.mem_of_getElem? (i := 435) (by decide +kernel)⟩
theorem lw_p5 : lw_okq (⟨"WholeTurns$Asks", "unitSize", "()I"⟩, 2) := ⟨⟨by decide +kernel, by decide +kernel⟩, List.mem_of_getElem? (i := 246) (by decide +kernel), List.mem_of_getElem? (i := 473) (by decide +kernel), List.mem_of_getElem? (i := 474) (by decide +kernel)⟩
theorem lw_p6 : lw_okq (⟨"WholeTurns$Asks", "begin", "(I)V"⟩, 2) := ⟨⟨by decide +kernel, by decide +kernel⟩, List.mem_of_getElem? (i := 246) (by decide +kernel), List.mem_of_getElem? (i := 477) (by decide +kernel), List.mem_of_getElem? (i := 478) (by decide +kernel)⟩
theorem lw_p7 : lw_okq (⟨"WholeTurns$Asks", "primeSize", "(LWholeTurns$Four;)I"⟩, 2) := ⟨⟨by decide +kernel, by decide +kernel⟩, List.mem_of_getElem? (i := 246) (by decide +kernel), List.mem_of_getElem? (i := 481) (by decide +kernel), List.mem_of_getElem? (i := 482) (by decide +kernel)⟩
theorem lw_p8 : lw_okq (⟨"WholeTurns$Asks", "lentSize", "(LWholeTurns$Four;)I"⟩, 2) := ⟨⟨by decide +kernel, by decide +kernel⟩, List.mem_of_getElem? (i := 246) (by decide +kernel), List.mem_of_getElem? (i := 485) (by decide +kernel), List.mem_of_getElem? (i := 486) (by decide +kernel)⟩
theorem lw_p9 : lw_okq (⟨"WholeTurns$Asks", "unitShare", "(LWholeTurns$Four;I)I"⟩, 2) := ⟨⟨by decide +kernel, by decide +kernel⟩, List.mem_of_getElem? (i := 246) (by decide +kernel), List.mem_of_getElem? (i := 495) (by decide +kernel), List.mem_of_getElem? (i := 496) (by decide +kernel)⟩
theorem lw_p10 : lw_okq (⟨"WholeTurns$Asks", "plainShare", "(LWholeTurns$Four;I)I"⟩, 2) := ⟨⟨by decide +kernel, by decide +kernel⟩, List.mem_of_getElem? (i := 246) (by decide +kernel), List.mem_of_getElem? (i := 499) (by decide +kernel), List.mem_of_getElem? (i := 500) (by decide +kernel)⟩
theorem lw_p11 : lw_okq (⟨"WholeTurns$Asks", "fourShare", "()I"⟩, 2) := ⟨⟨by decide +kernel, by decide +kernel⟩, List.mem_of_getElem? (i := 246) (by decide +kernel), List.mem_of_getElem? (i := 503) (by decide +kernel), List.mem_of_getElem? (i := 504) (by decide +kernel)⟩
theorem lw_p12 : lw_okq (⟨"WholeTurns$Asks", "halfShare", "()I"⟩, 2) := ⟨⟨by decide +kernel, by decide +kernel⟩, List.mem_of_getElem? (i := 246) (by decide +kernel), List.mem_of_getElem? (i := 508) (by decide +kernel), List.mem_of_getElem? (i := 509) (by decide +kernel)⟩
theorem lw_p13 : lw_okq (⟨"WholeTurns$Asks", "primeMark", "(LWholeTurns$Four;)I"⟩, 2) := ⟨⟨by decide +kernel, by decide +kernel⟩, List.mem_of_getElem? (i := 246) (by decide +kernel), List.mem_of_getElem? (i := 516) (by decide +kernel), List.mem_of_getElem? (i := 517) (by decide +kernel)⟩
theorem lw_p14 : lw_okq (⟨"WholeTurns$Asks", "plainMark", "(LWholeTurns$Four;)I"⟩, 2) := ⟨⟨by decide +kernel, by decide +kernel⟩, List.mem_of_getElem? (i := 246) (by decide +kernel), List.mem_of_getElem? (i := 520) (by decide +kernel), List.mem_of_getElem? (i := 521) (by decide +kernel)⟩
theorem lw_p15 : lw_okq (⟨"WholeTurns$Asks", "lentMark", "(LWholeTurns$Four;)I"⟩, 2) := ⟨⟨by decide +kernel, by decide +kernel⟩, List.mem_of_getElem? (i := 246) (by decide +kernel), List.mem_of_getElem? (i := 524) (by decide +kernel), List.mem_of_getElem? (i := 525) (by decide +kernel)⟩
def lw_privs_1 : List (MethodName × Nat) := [(⟨"WholeTurns", "found", "(I)I"⟩, 13), (⟨"WholeTurns", "answered", "(I)I"⟩, 13), (⟨"WholeTurns", "standing", "(I)LWholeTurns$Tray;"⟩, 13), (⟨"WholeTurns", "keep", "(ILWholeTurns$Four;)I"⟩, 13), (⟨"WholeTurns", "held", "(I)LWholeTurns$Four;"⟩, 13), (⟨"WholeTurns$Asks", "unitSize", "()I"⟩, 2), (⟨"WholeTurns$Asks", "begin", "(I)V"⟩, 2), (⟨"WholeTurns$Asks", "primeSize", "(LWholeTurns$Four;)I"⟩, 2), (⟨"WholeTurns$Asks", "lentSize", "(LWholeTurns$Four;)I"⟩, 2), (⟨"WholeTurns$Asks", "unitShare", "(LWholeTurns$Four;I)I"⟩, 2), (⟨"WholeTurns$Asks", "plainShare", "(LWholeTurns$Four;I)I"⟩, 2), (⟨"WholeTurns$Asks", "fourShare", "()I"⟩, 2), (⟨"WholeTurns$Asks", "halfShare", "()I"⟩, 2), (⟨"WholeTurns$Asks", "primeMark", "(LWholeTurns$Four;)I"⟩, 2), (⟨"WholeTurns$Asks", "plainMark", "(LWholeTurns$Four;)I"⟩, 2), (⟨"WholeTurns$Asks", "lentMark", "(LWholeTurns$Four;)I"⟩, 2)]
theorem lw_r1 : ∀ q ∈ lw_privs_1, lw_okq q := List.forall_mem_cons.mpr ⟨lw_p0, List.forall_mem_cons.mpr ⟨lw_p1, List.forall_mem_cons.mpr ⟨lw_p2, List.forall_mem_cons.mpr ⟨lw_p3, List.forall_mem_cons.mpr ⟨lw_p4, List.forall_mem_cons.mpr ⟨lw_p5, List.forall_mem_cons.mpr ⟨lw_p6, List.forall_mem_cons.mpr ⟨lw_p7, List.forall_mem_cons.mpr ⟨lw_p8, List.forall_mem_cons.mpr ⟨lw_p9, List.forall_mem_cons.mpr ⟨lw_p10, List.forall_mem_cons.mpr ⟨lw_p11, List.forall_mem_cons.mpr ⟨lw_p12, List.forall_mem_cons.mpr ⟨lw_p13, List.forall_mem_cons.mpr ⟨lw_p14, List.forall_mem_cons.mpr ⟨lw_p15, fun _ h => absurd h List.not_mem_nil⟩⟩⟩⟩⟩⟩⟩⟩⟩⟩⟩⟩⟩⟩⟩⟩
theorem lw_p16 : lw_okq (⟨"WholeTurns$Division", "roundFraction", "(J)V"⟩, 4) := ⟨⟨by decide +kernel, by decide +kernel⟩, List.mem_of_getElem? (i := 82) (by decide +kernel), List.mem_of_getElem? (i := 583) (by decide +kernel), List.mem_of_getElem? (i := 584) (by decide +kernel)⟩
theorem lw_p17 : lw_okq (⟨"WholeTurns$Division", "between", "(LWholeTurns$Four;J)J"⟩, 4) := ⟨⟨by decide +kernel, by decide +kernel⟩, List.mem_of_getElem? (i := 82) (by decide +kernel), List.mem_of_getElem? (i := 598) (by decide +kernel), List.mem_of_getElem? (i := 599) (by decide +kernel)⟩
theorem lw_p18 : lw_okq (⟨"WholeTurns$Parts", "splitOff", "(J)V"⟩, 5) := ⟨⟨by decide +kernel, by decide +kernel⟩, List.mem_of_getElem? (i := 156) (by decide +kernel), List.mem_of_getElem? (i := 656) (by decide +kernel), List.mem_of_getElem? (i := 657) (by decide +kernel)⟩
theorem lw_p19 : lw_okq (⟨"WholeTurns$Listing", "root", "(I)I"⟩, 3) := ⟨⟨by decide +kernel, by decide +kernel⟩, List.mem_of_getElem? (i := 183) (by decide +kernel), List.mem_of_getElem? (i := 681) (by decide +kernel), List.mem_of_getElem? (i := 682) (by decide +kernel)⟩
theorem lw_p20 : lw_okq (⟨"WholeTurns$Listing", "seekBehind", "(III)Z"⟩, 3) := ⟨⟨by decide +kernel, by decide +kernel⟩, List.mem_of_getElem? (i := 183) (by decide +kernel), List.mem_of_getElem? (i := 685) (by decide +kernel), List.mem_of_getElem? (i := 686) (by decide +kernel)⟩
theorem lw_p21 : lw_okq (⟨"WholeTurns$Listing", "isReached", "(IIII)Z"⟩, 3) := ⟨⟨by decide +kernel, by decide +kernel⟩, List.mem_of_getElem? (i := 183) (by decide +kernel), List.mem_of_getElem? (i := 689) (by decide +kernel), List.mem_of_getElem? (i := 690) (by decide +kernel)⟩
theorem lw_p22 : lw_okq (⟨"WholeTurns$Cell", "seekFirst", "()V"⟩, 7) := ⟨⟨by decide +kernel, by decide +kernel⟩, List.mem_of_getElem? (i := 216) (by decide +kernel), List.mem_of_getElem? (i := 783) (by decide +kernel), List.mem_of_getElem? (i := 784) (by decide +kernel)⟩
theorem lw_p23 : lw_okq (⟨"WholeTurns$Cell", "seekSecond", "()V"⟩, 7) := ⟨⟨by decide +kernel, by decide +kernel⟩, List.mem_of_getElem? (i := 216) (by decide +kernel), List.mem_of_getElem? (i := 791) (by decide +kernel), List.mem_of_getElem? (i := 792) (by decide +kernel)⟩
theorem lw_p24 : lw_okq (⟨"WholeTurns$Cell", "seekThird", "()V"⟩, 7) := ⟨⟨by decide +kernel, by decide +kernel⟩, List.mem_of_getElem? (i := 216) (by decide +kernel), List.mem_of_getElem? (i := 795) (by decide +kernel), List.mem_of_getElem? (i := 796) (by decide +kernel)⟩
theorem lw_p25 : lw_okq (⟨"WholeTurnsModel", "finds", "(I)I"⟩, 11) := ⟨⟨by decide +kernel, by decide +kernel⟩, List.mem_of_getElem? (i := 807) (by decide +kernel), List.mem_of_getElem? (i := 861) (by decide +kernel), List.mem_of_getElem? (i := 862) (by decide +kernel)⟩
theorem lw_p26 : lw_okq (⟨"WholeTurnsModel", "well", "(I)I"⟩, 11) := ⟨⟨by decide +kernel, by decide +kernel⟩, List.mem_of_getElem? (i := 807) (by decide +kernel), List.mem_of_getElem? (i := 866) (by decide +kernel), List.mem_of_getElem? (i := 867) (by decide +kernel)⟩
theorem lw_p27 : lw_okq (⟨"WholeTurnsModel", "put", "(IJJJJ)V"⟩, 11) := ⟨⟨by decide +kernel, by decide +kernel⟩, List.mem_of_getElem? (i := 807) (by decide +kernel), List.mem_of_getElem? (i := 894) (by decide +kernel), List.mem_of_getElem? (i := 895) (by decide +kernel)⟩
theorem lw_p28 : lw_okq (⟨"WholeTurnsModel", "norm4", "(I)J"⟩, 11) := ⟨⟨by decide +kernel, by decide +kernel⟩, List.mem_of_getElem? (i := 807) (by decide +kernel), List.mem_of_getElem? (i := 898) (by decide +kernel), List.mem_of_getElem? (i := 899) (by decide +kernel)⟩
theorem lw_p29 : lw_okq (⟨"WholeTurnsModel", "hold", "(II)V"⟩, 11) := ⟨⟨by decide +kernel, by decide +kernel⟩, List.mem_of_getElem? (i := 807) (by decide +kernel), List.mem_of_getElem? (i := 904) (by decide +kernel), List.mem_of_getElem? (i := 905) (by decide +kernel)⟩
theorem lw_p30 : lw_okq (⟨"WholeTurnsModel", "kindOf", "(I)I"⟩, 11) := ⟨⟨by decide +kernel, by decide +kernel⟩, List.mem_of_getElem? (i := 807) (by decide +kernel), List.mem_of_getElem? (i := 908) (by decide +kernel), List.mem_of_getElem? (i := 909) (by decide +kernel)⟩
theorem lw_p31 : lw_okq (⟨"WholeTurnsModel", "isNought", "(I)Z"⟩, 11) := ⟨⟨by decide +kernel, by decide +kernel⟩, List.mem_of_getElem? (i := 807) (by decide +kernel), List.mem_of_getElem? (i := 912) (by decide +kernel), List.mem_of_getElem? (i := 913) (by decide +kernel)⟩
def lw_privs_2 : List (MethodName × Nat) := [(⟨"WholeTurns$Division", "roundFraction", "(J)V"⟩, 4), (⟨"WholeTurns$Division", "between", "(LWholeTurns$Four;J)J"⟩, 4), (⟨"WholeTurns$Parts", "splitOff", "(J)V"⟩, 5), (⟨"WholeTurns$Listing", "root", "(I)I"⟩, 3), (⟨"WholeTurns$Listing", "seekBehind", "(III)Z"⟩, 3), (⟨"WholeTurns$Listing", "isReached", "(IIII)Z"⟩, 3), (⟨"WholeTurns$Cell", "seekFirst", "()V"⟩, 7), (⟨"WholeTurns$Cell", "seekSecond", "()V"⟩, 7), (⟨"WholeTurns$Cell", "seekThird", "()V"⟩, 7), (⟨"WholeTurnsModel", "finds", "(I)I"⟩, 11), (⟨"WholeTurnsModel", "well", "(I)I"⟩, 11), (⟨"WholeTurnsModel", "put", "(IJJJJ)V"⟩, 11), (⟨"WholeTurnsModel", "norm4", "(I)J"⟩, 11), (⟨"WholeTurnsModel", "hold", "(II)V"⟩, 11), (⟨"WholeTurnsModel", "kindOf", "(I)I"⟩, 11), (⟨"WholeTurnsModel", "isNought", "(I)Z"⟩, 11)]
theorem lw_r2 : ∀ q ∈ lw_privs_2, lw_okq q := List.forall_mem_cons.mpr ⟨lw_p16, List.forall_mem_cons.mpr ⟨lw_p17, List.forall_mem_cons.mpr ⟨lw_p18, List.forall_mem_cons.mpr ⟨lw_p19, List.forall_mem_cons.mpr ⟨lw_p20, List.forall_mem_cons.mpr ⟨lw_p21, List.forall_mem_cons.mpr ⟨lw_p22, List.forall_mem_cons.mpr ⟨lw_p23, List.forall_mem_cons.mpr ⟨lw_p24, List.forall_mem_cons.mpr ⟨lw_p25, List.forall_mem_cons.mpr ⟨lw_p26, List.forall_mem_cons.mpr ⟨lw_p27, List.forall_mem_cons.mpr ⟨lw_p28, List.forall_mem_cons.mpr ⟨lw_p29, List.forall_mem_cons.mpr ⟨lw_p30, List.forall_mem_cons.mpr ⟨lw_p31, fun _ h => absurd h List.not_mem_nil⟩⟩⟩⟩⟩⟩⟩⟩⟩⟩⟩⟩⟩⟩⟩⟩
theorem lw_p32 : lw_okq (⟨"WholeTurnsModel", "greatestWhole", "(I)J"⟩, 11) := ⟨⟨by decide +kernel, by decide +kernel⟩, List.mem_of_getElem? (i := 807) (by decide +kernel), List.mem_of_getElem? (i := 916) (by decide +kernel), List.mem_of_getElem? (i := 917) (by decide +kernel)⟩
theorem lw_p33 : lw_okq (⟨"WholeTurnsModel", "load", "(II)V"⟩, 11) := ⟨⟨by decide +kernel, by decide +kernel⟩, List.mem_of_getElem? (i := 807) (by decide +kernel), List.mem_of_getElem? (i := 939) (by decide +kernel), List.mem_of_getElem? (i := 940) (by decide +kernel)⟩
theorem lw_p34 : lw_okq (⟨"WholeTurnsModel", "sizeOf", "(I)I"⟩, 11) := ⟨⟨by decide +kernel, by decide +kernel⟩, List.mem_of_getElem? (i := 807) (by decide +kernel), List.mem_of_getElem? (i := 962) (by decide +kernel), List.mem_of_getElem? (i := 963) (by decide +kernel)⟩
theorem lw_p35 : lw_okq (⟨"WholeTurnsModel", "begins", "(I)V"⟩, 11) := ⟨⟨by decide +kernel, by decide +kernel⟩, List.mem_of_getElem? (i := 807) (by decide +kernel), List.mem_of_getElem? (i := 966) (by decide +kernel), List.mem_of_getElem? (i := 967) (by decide +kernel)⟩
theorem lw_p36 : lw_okq (⟨"WholeTurnsModel", "share", "(I)I"⟩, 11) := ⟨⟨by decide +kernel, by decide +kernel⟩, List.mem_of_getElem? (i := 807) (by decide +kernel), List.mem_of_getElem? (i := 971) (by decide +kernel), List.mem_of_getElem? (i := 972) (by decide +kernel)⟩
theorem lw_p37 : lw_okq (⟨"WholeTurnsModel", "mark", "(I)I"⟩, 11) := ⟨⟨by decide +kernel, by decide +kernel⟩, List.mem_of_getElem? (i := 807) (by decide +kernel), List.mem_of_getElem? (i := 975) (by decide +kernel), List.mem_of_getElem? (i := 976) (by decide +kernel)⟩
theorem lw_p38 : lw_okq (⟨"WholeTurnsModel", "multiply", "(III)V"⟩, 11) := ⟨⟨by decide +kernel, by decide +kernel⟩, List.mem_of_getElem? (i := 807) (by decide +kernel), List.mem_of_getElem? (i := 989) (by decide +kernel), List.mem_of_getElem? (i := 990) (by decide +kernel)⟩
theorem lw_p39 : lw_okq (⟨"WholeTurnsModel", "comes", "(II)I"⟩, 11) := ⟨⟨by decide +kernel, by decide +kernel⟩, List.mem_of_getElem? (i := 807) (by decide +kernel), List.mem_of_getElem? (i := 993) (by decide +kernel), List.mem_of_getElem? (i := 994) (by decide +kernel)⟩
theorem lw_p40 : lw_okq (⟨"WholeTurnsModel", "turnBack", "(II)V"⟩, 11) := ⟨⟨by decide +kernel, by decide +kernel⟩, List.mem_of_getElem? (i := 807) (by decide +kernel), List.mem_of_getElem? (i := 1005) (by decide +kernel), List.mem_of_getElem? (i := 1006) (by decide +kernel)⟩
theorem lw_p41 : lw_okq (⟨"WholeTurnsModel", "divide", "(I)V"⟩, 11) := ⟨⟨by decide +kernel, by decide +kernel⟩, List.mem_of_getElem? (i := 807) (by decide +kernel), List.mem_of_getElem? (i := 1014) (by decide +kernel), List.mem_of_getElem? (i := 1015) (by decide +kernel)⟩
theorem lw_p42 : lw_okq (⟨"WholeTurnsModel", "greatestP", "(I)V"⟩, 11) := ⟨⟨by decide +kernel, by decide +kernel⟩, List.mem_of_getElem? (i := 807) (by decide +kernel), List.mem_of_getElem? (i := 1025) (by decide +kernel), List.mem_of_getElem? (i := 1026) (by decide +kernel)⟩
theorem lw_p43 : lw_okq (⟨"WholeTurnsModel", "copyOf", "(II)V"⟩, 11) := ⟨⟨by decide +kernel, by decide +kernel⟩, List.mem_of_getElem? (i := 807) (by decide +kernel), List.mem_of_getElem? (i := 1029) (by decide +kernel), List.mem_of_getElem? (i := 1030) (by decide +kernel)⟩
theorem lw_p44 : lw_okq (⟨"WholeTurnsModel", "associateP", "(I)V"⟩, 11) := ⟨⟨by decide +kernel, by decide +kernel⟩, List.mem_of_getElem? (i := 807) (by decide +kernel), List.mem_of_getElem? (i := 1033) (by decide +kernel), List.mem_of_getElem? (i := 1034) (by decide +kernel)⟩
theorem lw_p45 : lw_okq (⟨"WholeTurnsModel", "unit", "(II)V"⟩, 11) := ⟨⟨by decide +kernel, by decide +kernel⟩, List.mem_of_getElem? (i := 807) (by decide +kernel), List.mem_of_getElem? (i := 1037) (by decide +kernel), List.mem_of_getElem? (i := 1038) (by decide +kernel)⟩
theorem lw_p46 : lw_okq (⟨"WholeTurnsModel", "isLess", "(II)Z"⟩, 11) := ⟨⟨by decide +kernel, by decide +kernel⟩, List.mem_of_getElem? (i := 807) (by decide +kernel), List.mem_of_getElem? (i := 1043) (by decide +kernel), List.mem_of_getElem? (i := 1044) (by decide +kernel)⟩
theorem lw_p47 : lw_okq (⟨"WholeTurnsModel", "refusal", "(I)I"⟩, 11) := ⟨⟨by decide +kernel, by decide +kernel⟩, List.mem_of_getElem? (i := 807) (by decide +kernel), List.mem_of_getElem? (i := 1087) (by decide +kernel), List.mem_of_getElem? (i := 1088) (by decide +kernel)⟩
def lw_privs_3 : List (MethodName × Nat) := [(⟨"WholeTurnsModel", "greatestWhole", "(I)J"⟩, 11), (⟨"WholeTurnsModel", "load", "(II)V"⟩, 11), (⟨"WholeTurnsModel", "sizeOf", "(I)I"⟩, 11), (⟨"WholeTurnsModel", "begins", "(I)V"⟩, 11), (⟨"WholeTurnsModel", "share", "(I)I"⟩, 11), (⟨"WholeTurnsModel", "mark", "(I)I"⟩, 11), (⟨"WholeTurnsModel", "multiply", "(III)V"⟩, 11), (⟨"WholeTurnsModel", "comes", "(II)I"⟩, 11), (⟨"WholeTurnsModel", "turnBack", "(II)V"⟩, 11), (⟨"WholeTurnsModel", "divide", "(I)V"⟩, 11), (⟨"WholeTurnsModel", "greatestP", "(I)V"⟩, 11), (⟨"WholeTurnsModel", "copyOf", "(II)V"⟩, 11), (⟨"WholeTurnsModel", "associateP", "(I)V"⟩, 11), (⟨"WholeTurnsModel", "unit", "(II)V"⟩, 11), (⟨"WholeTurnsModel", "isLess", "(II)Z"⟩, 11), (⟨"WholeTurnsModel", "refusal", "(I)I"⟩, 11)]
theorem lw_r3 : ∀ q ∈ lw_privs_3, lw_okq q := List.forall_mem_cons.mpr ⟨lw_p32, List.forall_mem_cons.mpr ⟨lw_p33, List.forall_mem_cons.mpr ⟨lw_p34, List.forall_mem_cons.mpr ⟨lw_p35, List.forall_mem_cons.mpr ⟨lw_p36, List.forall_mem_cons.mpr ⟨lw_p37, List.forall_mem_cons.mpr ⟨lw_p38, List.forall_mem_cons.mpr ⟨lw_p39, List.forall_mem_cons.mpr ⟨lw_p40, List.forall_mem_cons.mpr ⟨lw_p41, List.forall_mem_cons.mpr ⟨lw_p42, List.forall_mem_cons.mpr ⟨lw_p43, List.forall_mem_cons.mpr ⟨lw_p44, List.forall_mem_cons.mpr ⟨lw_p45, List.forall_mem_cons.mpr ⟨lw_p46, List.forall_mem_cons.mpr ⟨lw_p47, fun _ h => absurd h List.not_mem_nil⟩⟩⟩⟩⟩⟩⟩⟩⟩⟩⟩⟩⟩⟩⟩⟩
theorem lw_p48 : lw_okq (⟨"WholeTurnsModel", "upper", "(II)J"⟩, 11) := ⟨⟨by decide +kernel, by decide +kernel⟩, List.mem_of_getElem? (i := 807) (by decide +kernel), List.mem_of_getElem? (i := 1091) (by decide +kernel), List.mem_of_getElem? (i := 1092) (by decide +kernel)⟩
theorem lw_p49 : lw_okq (⟨"WholeTurnsModel", "part2", "(JJI)J"⟩, 11) := ⟨⟨by decide +kernel, by decide +kernel⟩, List.mem_of_getElem? (i := 807) (by decide +kernel), List.mem_of_getElem? (i := 1095) (by decide +kernel), List.mem_of_getElem? (i := 1096) (by decide +kernel)⟩
theorem lw_p50 : lw_okq (⟨"WholeTurnsModel", "indexOf", "()J"⟩, 11) := ⟨⟨by decide +kernel, by decide +kernel⟩, List.mem_of_getElem? (i := 807) (by decide +kernel), List.mem_of_getElem? (i := 1121) (by decide +kernel), List.mem_of_getElem? (i := 1122) (by decide +kernel)⟩
theorem lw_p51 : lw_okq (⟨"WholeTurnsModel", "isCommon", "(JJJJ)Z"⟩, 11) := ⟨⟨by decide +kernel, by decide +kernel⟩, List.mem_of_getElem? (i := 807) (by decide +kernel), List.mem_of_getElem? (i := 1131) (by decide +kernel), List.mem_of_getElem? (i := 1132) (by decide +kernel)⟩
def lw_privs_4 : List (MethodName × Nat) := [(⟨"WholeTurnsModel", "upper", "(II)J"⟩, 11), (⟨"WholeTurnsModel", "part2", "(JJI)J"⟩, 11), (⟨"WholeTurnsModel", "indexOf", "()J"⟩, 11), (⟨"WholeTurnsModel", "isCommon", "(JJJJ)Z"⟩, 11)]
theorem lw_r4 : ∀ q ∈ lw_privs_4, lw_okq q := List.forall_mem_cons.mpr ⟨lw_p48, List.forall_mem_cons.mpr ⟨lw_p49, List.forall_mem_cons.mpr ⟨lw_p50, List.forall_mem_cons.mpr ⟨lw_p51, fun _ h => absurd h List.not_mem_nil⟩⟩⟩⟩
def lw_privs : List (MethodName × Nat) := lw_privs_1 ++ (lw_privs_2 ++ (lw_privs_3 ++ (lw_privs_4)))
def lw_tbl : List Cond := k2_sels lw_privs ++ tables_1
theorem lw_privs_ok : ∀ q ∈ lw_privs, lw_okq q := by
  show ∀ q ∈ lw_privs_1 ++ (lw_privs_2 ++ (lw_privs_3 ++ (lw_privs_4))), lw_okq q
  exact List.forall_mem_append.mpr ⟨lw_r1, List.forall_mem_append.mpr ⟨lw_r2, List.forall_mem_append.mpr ⟨lw_r3, lw_r4⟩⟩⟩
end
section
def RX0 : String := "WholeTurns$Asks"
def TX0 : u_T := fun k => match k with
  | 0 => ("WholeTurns$Asks", "traces", "[I", true)
  | _ => ("WholeTurns$Asks", "count", "I", false)
def tyX0 : Nat → FieldType := fun k => match k with
  | 0 => .array .int
  | _ => .int
abbrev wsX00 : List Cond := u_ws RX0 TX0 2
theorem nmX0 : ∀ a, a < 2 → ∀ b, b < 2 → a ≠ b → (TX0 a).2.1 ≠ (TX0 b).2.1 := by decide +kernel
theorem tyX0_ok : ∀ k, k < 2 → parseFieldDescriptor (TX0 k).2.2.1 = some (tyX0 k) := by decide +kernel
abbrev cX0_init : ByteArray := prog_2_method_1_code
def yX0_init : MethodName := ⟨RX0, "<init>", "()V"⟩
abbrev cX0_forget : ByteArray := prog_2_method_2_code
def yX0_forget : MethodName := ⟨RX0, "forget", "()V"⟩
abbrev cX0_traceAt : ByteArray := prog_2_method_3_code
def yX0_traceAt : MethodName := ⟨RX0, "traceAt", "(I)I"⟩
abbrev cX0_begin : ByteArray := prog_2_method_4_code
def yX0_begin : MethodName := ⟨RX0, "begin", "(I)V"⟩
abbrev cX0_sizeOf : ByteArray := prog_2_method_5_code
def yX0_sizeOf : MethodName := ⟨RX0, "sizeOf", "(LWholeTurns$Four;I)I"⟩
abbrev cX0_lentSize : ByteArray := prog_2_method_6_code
def yX0_lentSize : MethodName := ⟨RX0, "lentSize", "(LWholeTurns$Four;)I"⟩
abbrev cX0_unitSize : ByteArray := prog_2_method_7_code
def yX0_unitSize : MethodName := ⟨RX0, "unitSize", "()I"⟩
abbrev cX0_primeSize : ByteArray := prog_2_method_8_code
def yX0_primeSize : MethodName := ⟨RX0, "primeSize", "(LWholeTurns$Four;)I"⟩
abbrev cX0_shareOf : ByteArray := prog_2_method_9_code
def yX0_shareOf : MethodName := ⟨RX0, "shareOf", "(LWholeTurns$Four;I)I"⟩
abbrev cX0_fourShare : ByteArray := prog_2_method_10_code
def yX0_fourShare : MethodName := ⟨RX0, "fourShare", "()I"⟩
abbrev cX0_halfShare : ByteArray := prog_2_method_11_code
def yX0_halfShare : MethodName := ⟨RX0, "halfShare", "()I"⟩
abbrev cX0_plainShare : ByteArray := prog_2_method_12_code
def yX0_plainShare : MethodName := ⟨RX0, "plainShare", "(LWholeTurns$Four;I)I"⟩
abbrev cX0_unitShare : ByteArray := prog_2_method_13_code
def yX0_unitShare : MethodName := ⟨RX0, "unitShare", "(LWholeTurns$Four;I)I"⟩
abbrev cX0_markOf : ByteArray := prog_2_method_14_code
def yX0_markOf : MethodName := ⟨RX0, "markOf", "(LWholeTurns$Four;I)I"⟩
abbrev cX0_lentMark : ByteArray := prog_2_method_15_code
def yX0_lentMark : MethodName := ⟨RX0, "lentMark", "(LWholeTurns$Four;)I"⟩
abbrev cX0_plainMark : ByteArray := prog_2_method_16_code
def yX0_plainMark : MethodName := ⟨RX0, "plainMark", "(LWholeTurns$Four;)I"⟩
abbrev cX0_primeMark : ByteArray := prog_2_method_17_code
def yX0_primeMark : MethodName := ⟨RX0, "primeMark", "(LWholeTurns$Four;)I"⟩
def RX1 : String := "WholeTurns$Associate"
def TX1 : u_T := fun k => match k with
  | 0 => ("WholeTurns$Associate", "result", "LWholeTurns$Four;", true)
  | 1 => ("WholeTurns$Associate", "unit", "LWholeTurns$Four;", true)
  | _ => ("WholeTurns$Associate", "product", "LWholeTurns$Four;", true)
def tyX1 : Nat → FieldType := fun k => match k with
  | 0 => .object "WholeTurns$Four"
  | 1 => .object "WholeTurns$Four"
  | _ => .object "WholeTurns$Four"
abbrev wsX10 : List Cond := u_ws RX1 TX1 3
theorem nmX1 : ∀ a, a < 3 → ∀ b, b < 3 → a ≠ b → (TX1 a).2.1 ≠ (TX1 b).2.1 := by decide +kernel
theorem tyX1_ok : ∀ k, k < 3 → parseFieldDescriptor (TX1 k).2.2.1 = some (tyX1 k) := by decide +kernel
abbrev cX1_init : ByteArray := prog_3_method_1_code
def yX1_init : MethodName := ⟨RX1, "<init>", "()V"⟩
abbrev cX1_seek : ByteArray := prog_3_method_2_code
def yX1_seek : MethodName := ⟨RX1, "seek", "(LWholeTurns$Four;I)V"⟩
def RX2 : String := "WholeTurns$Cell"
def TX2 : u_T := fun k => match k with
  | 0 => ("WholeTurns$Cell", "table", "LWholeTurns$Table;", true)
  | 1 => ("WholeTurns$Cell", "a", "I", false)
  | 2 => ("WholeTurns$Cell", "b", "I", false)
  | 3 => ("WholeTurns$Cell", "c", "I", false)
  | 4 => ("WholeTurns$Cell", "d", "I", false)
  | 5 => ("WholeTurns$Cell", "e", "I", false)
  | _ => ("WholeTurns$Cell", "f", "I", false)
def tyX2 : Nat → FieldType := fun k => match k with
  | 0 => .object "WholeTurns$Table"
  | 1 => .int
  | 2 => .int
  | 3 => .int
  | 4 => .int
  | 5 => .int
  | _ => .int
abbrev wsX20 : List Cond := u_ws RX2 TX2 7
theorem nmX2 : ∀ a, a < 7 → ∀ b, b < 7 → a ≠ b → (TX2 a).2.1 ≠ (TX2 b).2.1 := by decide +kernel
theorem tyX2_ok : ∀ k, k < 7 → parseFieldDescriptor (TX2 k).2.2.1 = some (tyX2 k) := by decide +kernel
abbrev cX2_init : ByteArray := prog_4_method_1_code
def yX2_init : MethodName := ⟨RX2, "<init>", "()V"⟩
abbrev cX2_fill : ByteArray := prog_4_method_2_code
def yX2_fill : MethodName := ⟨RX2, "fill", "(LWholeTurns$Four;)V"⟩
abbrev cX2_numberAt : ByteArray := prog_4_method_3_code
def yX2_numberAt : MethodName := ⟨RX2, "numberAt", "(I)I"⟩
abbrev cX2_seekFirst : ByteArray := prog_4_method_4_code
def yX2_seekFirst : MethodName := ⟨RX2, "seekFirst", "()V"⟩
abbrev cX2_seekSecond : ByteArray := prog_4_method_5_code
def yX2_seekSecond : MethodName := ⟨RX2, "seekSecond", "()V"⟩
abbrev cX2_seekThird : ByteArray := prog_4_method_6_code
def yX2_seekThird : MethodName := ⟨RX2, "seekThird", "()V"⟩
def RX3 : String := "WholeTurns$Division"
def TX3 : u_T := fun k => match k with
  | 0 => ("WholeTurns$Division", "quotient", "LWholeTurns$Four;", true)
  | 1 => ("WholeTurns$Division", "rest", "LWholeTurns$Four;", true)
  | 2 => ("WholeTurns$Division", "fraction", "LWholeTurns$Four;", true)
  | _ => ("WholeTurns$Division", "halves", "LWholeTurns$Four;", true)
def tyX3 : Nat → FieldType := fun k => match k with
  | 0 => .object "WholeTurns$Four"
  | 1 => .object "WholeTurns$Four"
  | 2 => .object "WholeTurns$Four"
  | _ => .object "WholeTurns$Four"
abbrev wsX30 : List Cond := u_ws RX3 TX3 4
theorem nmX3 : ∀ a, a < 4 → ∀ b, b < 4 → a ≠ b → (TX3 a).2.1 ≠ (TX3 b).2.1 := by decide +kernel
theorem tyX3_ok : ∀ k, k < 4 → parseFieldDescriptor (TX3 k).2.2.1 = some (tyX3 k) := by decide +kernel
abbrev cX3_init : ByteArray := prog_5_method_1_code
def yX3_init : MethodName := ⟨RX3, "<init>", "()V"⟩
abbrev cX3_divide : ByteArray := prog_5_method_2_code
def yX3_divide : MethodName := ⟨RX3, "divide", "(LWholeTurns$Four;LWholeTurns$Four;I)V"⟩
abbrev cX3_roundFraction : ByteArray := prog_5_method_3_code
def yX3_roundFraction : MethodName := ⟨RX3, "roundFraction", "(J)V"⟩
abbrev cX3_nearest : ByteArray := prog_5_method_4_code
def yX3_nearest : MethodName := ⟨RX3, "nearest", "(JJ)J"⟩
abbrev cX3_half : ByteArray := prog_5_method_5_code
def yX3_half : MethodName := ⟨RX3, "half", "(JJ)J"⟩
abbrev cX3_between : ByteArray := prog_5_method_6_code
def yX3_between : MethodName := ⟨RX3, "between", "(LWholeTurns$Four;J)J"⟩
def RX4 : String := "WholeTurns$Four"
def TX4 : u_T := fun k => match k with
  | 0 => ("WholeTurns$Four", "w", "J", false)
  | 1 => ("WholeTurns$Four", "x", "J", false)
  | 2 => ("WholeTurns$Four", "y", "J", false)
  | _ => ("WholeTurns$Four", "z", "J", false)
def tyX4 : Nat → FieldType := fun k => match k with
  | 0 => .long
  | 1 => .long
  | 2 => .long
  | _ => .long
abbrev wsX40 : List Cond := u_ws RX4 TX4 4
theorem nmX4 : ∀ a, a < 4 → ∀ b, b < 4 → a ≠ b → (TX4 a).2.1 ≠ (TX4 b).2.1 := by decide +kernel
theorem tyX4_ok : ∀ k, k < 4 → parseFieldDescriptor (TX4 k).2.2.1 = some (tyX4 k) := by decide +kernel
abbrev cX4_init : ByteArray := prog_6_method_1_code
def yX4_init : MethodName := ⟨RX4, "<init>", "()V"⟩
abbrev cX4_become : ByteArray := prog_6_method_2_code
def yX4_become : MethodName := ⟨RX4, "become", "(JJJJ)V"⟩
abbrev cX4_become_ : ByteArray := prog_6_method_3_code
def yX4_become_ : MethodName := ⟨RX4, "become", "(LWholeTurns$Four;)V"⟩
abbrev cX4_becomeSum : ByteArray := prog_6_method_4_code
def yX4_becomeSum : MethodName := ⟨RX4, "becomeSum", "(LWholeTurns$Four;LWholeTurns$Four;)V"⟩
abbrev cX4_becomeDifference : ByteArray := prog_6_method_5_code
def yX4_becomeDifference : MethodName := ⟨RX4, "becomeDifference", "(LWholeTurns$Four;LWholeTurns$Four;)V"⟩
abbrev cX4_becomeBack : ByteArray := prog_6_method_6_code
def yX4_becomeBack : MethodName := ⟨RX4, "becomeBack", "(LWholeTurns$Four;)V"⟩
abbrev cX4_becomeProduct : ByteArray := prog_6_method_7_code
def yX4_becomeProduct : MethodName := ⟨RX4, "becomeProduct", "(LWholeTurns$Four;LWholeTurns$Four;)V"⟩
abbrev cX4_becomeUnit : ByteArray := prog_6_method_8_code
def yX4_becomeUnit : MethodName := ⟨RX4, "becomeUnit", "(I)V"⟩
abbrev cX4_divideBy : ByteArray := prog_6_method_9_code
def yX4_divideBy : MethodName := ⟨RX4, "divideBy", "(J)V"⟩
abbrev cX4_numberAt : ByteArray := prog_6_method_10_code
def yX4_numberAt : MethodName := ⟨RX4, "numberAt", "(I)J"⟩
abbrev cX4_squareSum : ByteArray := prog_6_method_11_code
def yX4_squareSum : MethodName := ⟨RX4, "squareSum", "()J"⟩
abbrev cX4_ownNorm : ByteArray := prog_6_method_12_code
def yX4_ownNorm : MethodName := ⟨RX4, "ownNorm", "()J"⟩
abbrev cX4_isZero : ByteArray := prog_6_method_13_code
def yX4_isZero : MethodName := ⟨RX4, "isZero", "()Z"⟩
abbrev cX4_isAllEven : ByteArray := prog_6_method_14_code
def yX4_isAllEven : MethodName := ⟨RX4, "isAllEven", "()Z"⟩
abbrev cX4_isAllOdd : ByteArray := prog_6_method_15_code
def yX4_isAllOdd : MethodName := ⟨RX4, "isAllOdd", "()Z"⟩
abbrev cX4_isTooGreat : ByteArray := prog_6_method_16_code
def yX4_isTooGreat : MethodName := ⟨RX4, "isTooGreat", "()Z"⟩
abbrev cX4_isFar : ByteArray := prog_6_method_17_code
def yX4_isFar : MethodName := ⟨RX4, "isFar", "(J)Z"⟩
abbrev cX4_isLessThan : ByteArray := prog_6_method_18_code
def yX4_isLessThan : MethodName := ⟨RX4, "isLessThan", "(LWholeTurns$Four;)Z"⟩
abbrev cX4_isMultipleOf : ByteArray := prog_6_method_19_code
def yX4_isMultipleOf : MethodName := ⟨RX4, "isMultipleOf", "(LWholeTurns$Four;)Z"⟩
abbrev cX4_numbersDivisor : ByteArray := prog_6_method_20_code
def yX4_numbersDivisor : MethodName := ⟨RX4, "numbersDivisor", "()J"⟩
abbrev cX4_wholeDivisor : ByteArray := prog_6_method_21_code
def yX4_wholeDivisor : MethodName := ⟨RX4, "wholeDivisor", "()J"⟩
abbrev cX4_ownIndex : ByteArray := prog_6_method_22_code
def yX4_ownIndex : MethodName := ⟨RX4, "ownIndex", "()J"⟩
def RX5 : String := "WholeTurns$Greatest"
def TX5 : u_T := fun k => match k with
  | 0 => ("WholeTurns$Greatest", "result", "LWholeTurns$Four;", true)
  | 1 => ("WholeTurns$Greatest", "first", "LWholeTurns$Four;", true)
  | 2 => ("WholeTurns$Greatest", "second", "LWholeTurns$Four;", true)
  | 3 => ("WholeTurns$Greatest", "division", "LWholeTurns$Division;", true)
  | _ => ("WholeTurns$Greatest", "associate", "LWholeTurns$Associate;", true)
def tyX5 : Nat → FieldType := fun k => match k with
  | 0 => .object "WholeTurns$Four"
  | 1 => .object "WholeTurns$Four"
  | 2 => .object "WholeTurns$Four"
  | 3 => .object "WholeTurns$Division"
  | _ => .object "WholeTurns$Associate"
abbrev wsX50 : List Cond := u_ws RX5 TX5 5
theorem nmX5 : ∀ a, a < 5 → ∀ b, b < 5 → a ≠ b → (TX5 a).2.1 ≠ (TX5 b).2.1 := by decide +kernel
theorem tyX5_ok : ∀ k, k < 5 → parseFieldDescriptor (TX5 k).2.2.1 = some (tyX5 k) := by decide +kernel
abbrev cX5_init : ByteArray := prog_7_method_1_code
def yX5_init : MethodName := ⟨RX5, "<init>", "()V"⟩
abbrev cX5_seek : ByteArray := prog_7_method_2_code
def yX5_seek : MethodName := ⟨RX5, "seek", "(LWholeTurns$Four;LWholeTurns$Four;I)V"⟩
def RX6 : String := "WholeTurns$Listing"
def TX6 : u_T := fun k => match k with
  | 0 => ("WholeTurns$Listing", "result", "LWholeTurns$Four;", true)
  | 1 => ("WholeTurns$Listing", "roots", "[I", true)
  | _ => ("WholeTurns$Listing", "ahead", "I", false)
def tyX6 : Nat → FieldType := fun k => match k with
  | 0 => .object "WholeTurns$Four"
  | 1 => .array .int
  | _ => .int
abbrev wsX60 : List Cond := u_ws RX6 TX6 3
theorem nmX6 : ∀ a, a < 3 → ∀ b, b < 3 → a ≠ b → (TX6 a).2.1 ≠ (TX6 b).2.1 := by decide +kernel
theorem tyX6_ok : ∀ k, k < 3 → parseFieldDescriptor (TX6 k).2.2.1 = some (tyX6 k) := by decide +kernel
abbrev cX6_init : ByteArray := prog_8_method_1_code
def yX6_init : MethodName := ⟨RX6, "<init>", "()V"⟩
abbrev cX6_seek : ByteArray := prog_8_method_2_code
def yX6_seek : MethodName := ⟨RX6, "seek", "(II)Z"⟩
abbrev cX6_seekBehind : ByteArray := prog_8_method_3_code
def yX6_seekBehind : MethodName := ⟨RX6, "seekBehind", "(III)Z"⟩
abbrev cX6_isReached : ByteArray := prog_8_method_4_code
def yX6_isReached : MethodName := ⟨RX6, "isReached", "(IIII)Z"⟩
abbrev cX6_root : ByteArray := prog_8_method_5_code
def yX6_root : MethodName := ⟨RX6, "root", "(I)I"⟩
def RX7 : String := "WholeTurns$Parts"
def TX7 : u_T := fun k => match k with
  | 0 => ("WholeTurns$Parts", "wanted", "LWholeTurns$Four;", true)
  | 1 => ("WholeTurns$Parts", "left", "LWholeTurns$Four;", true)
  | 2 => ("WholeTurns$Parts", "whole", "LWholeTurns$Four;", true)
  | 3 => ("WholeTurns$Parts", "mirrored", "LWholeTurns$Four;", true)
  | _ => ("WholeTurns$Parts", "greatest", "LWholeTurns$Greatest;", true)
def tyX7 : Nat → FieldType := fun k => match k with
  | 0 => .object "WholeTurns$Four"
  | 1 => .object "WholeTurns$Four"
  | 2 => .object "WholeTurns$Four"
  | 3 => .object "WholeTurns$Four"
  | _ => .object "WholeTurns$Greatest"
abbrev wsX70 : List Cond := u_ws RX7 TX7 5
theorem nmX7 : ∀ a, a < 5 → ∀ b, b < 5 → a ≠ b → (TX7 a).2.1 ≠ (TX7 b).2.1 := by decide +kernel
theorem tyX7_ok : ∀ k, k < 5 → parseFieldDescriptor (TX7 k).2.2.1 = some (tyX7 k) := by decide +kernel
abbrev cX7_init : ByteArray := prog_9_method_1_code
def yX7_init : MethodName := ⟨RX7, "<init>", "()V"⟩
abbrev cX7_split : ByteArray := prog_9_method_2_code
def yX7_split : MethodName := ⟨RX7, "split", "(LWholeTurns$Four;I)I"⟩
abbrev cX7_splitOff : ByteArray := prog_9_method_3_code
def yX7_splitOff : MethodName := ⟨RX7, "splitOff", "(J)V"⟩
def RX8 : String := "WholeTurns$Table"
def TX8 : u_T := fun k => match k with
  | 0 => ("WholeTurns$Table", "lower", "J", false)
  | _ => ("WholeTurns$Table", "uppers", "[J", true)
def tyX8 : Nat → FieldType := fun k => match k with
  | 0 => .long
  | _ => .array .long
abbrev wsX80 : List Cond := u_ws RX8 TX8 2
theorem nmX8 : ∀ a, a < 2 → ∀ b, b < 2 → a ≠ b → (TX8 a).2.1 ≠ (TX8 b).2.1 := by decide +kernel
theorem tyX8_ok : ∀ k, k < 2 → parseFieldDescriptor (TX8 k).2.2.1 = some (tyX8 k) := by decide +kernel
abbrev cX8_init : ByteArray := prog_10_method_1_code
def yX8_init : MethodName := ⟨RX8, "<init>", "()V"⟩
abbrev cX8_fill : ByteArray := prog_10_method_2_code
def yX8_fill : MethodName := ⟨RX8, "fill", "(LWholeTurns$Four;)V"⟩
abbrev cX8_upper : ByteArray := prog_10_method_3_code
def yX8_upper : MethodName := ⟨RX8, "upper", "(II)J"⟩
abbrev cX8_turned : ByteArray := prog_10_method_4_code
def yX8_turned : MethodName := ⟨RX8, "turned", "(JJJI)J"⟩
abbrev cX8_isCommon : ByteArray := prog_10_method_5_code
def yX8_isCommon : MethodName := ⟨RX8, "isCommon", "(JJJ)Z"⟩
def RX9 : String := "WholeTurns$Tray"
def TX9 : u_T := fun k => match k with
  | 0 => ("WholeTurns$Tray", "items", "[J", true)
  | 1 => ("WholeTurns$Tray", "lane", "I", false)
  | _ => ("WholeTurns$Tray", "size", "I", false)
def tyX9 : Nat → FieldType := fun k => match k with
  | 0 => .array .long
  | 1 => .int
  | _ => .int
abbrev wsX90 : List Cond := u_ws RX9 TX9 3
theorem nmX9 : ∀ a, a < 3 → ∀ b, b < 3 → a ≠ b → (TX9 a).2.1 ≠ (TX9 b).2.1 := by decide +kernel
theorem tyX9_ok : ∀ k, k < 3 → parseFieldDescriptor (TX9 k).2.2.1 = some (tyX9 k) := by decide +kernel
abbrev cX9_init : ByteArray := prog_11_method_1_code
def yX9_init : MethodName := ⟨RX9, "<init>", "()V"⟩
abbrev cX9_begin : ByteArray := prog_11_method_2_code
def yX9_begin : MethodName := ⟨RX9, "begin", "(II)V"⟩
abbrev cX9_hasRun : ByteArray := prog_11_method_3_code
def yX9_hasRun : MethodName := ⟨RX9, "hasRun", "(II)Z"⟩
abbrev cX9_item : ByteArray := prog_11_method_4_code
def yX9_item : MethodName := ⟨RX9, "item", "(I)J"⟩
abbrev cX9_write : ByteArray := prog_11_method_5_code
def yX9_write : MethodName := ⟨RX9, "write", "(IJ)V"⟩
def RX10 : String := "WholeTurns"
def TX10 : u_T := fun k => match k with
  | 0 => ("WholeTurns", "trays", "[LWholeTurns$Tray;", true)
  | 1 => ("WholeTurns", "fours", "[LWholeTurns$Four;", true)
  | 2 => ("WholeTurns", "kinds", "[I", true)
  | 3 => ("WholeTurns", "made", "LWholeTurns$Four;", true)
  | 4 => ("WholeTurns", "division", "LWholeTurns$Division;", true)
  | 5 => ("WholeTurns", "associate", "LWholeTurns$Associate;", true)
  | 6 => ("WholeTurns", "greatest", "LWholeTurns$Greatest;", true)
  | 7 => ("WholeTurns", "parts", "LWholeTurns$Parts;", true)
  | 8 => ("WholeTurns", "listing", "LWholeTurns$Listing;", true)
  | 9 => ("WholeTurns", "table", "LWholeTurns$Table;", true)
  | 10 => ("WholeTurns", "cell", "LWholeTurns$Cell;", true)
  | 11 => ("WholeTurns", "asks", "LWholeTurns$Asks;", true)
  | _ => ("WholeTurns", "finding", "I", false)
def tyX10 : Nat → FieldType := fun k => match k with
  | 0 => .array (.object "WholeTurns$Tray")
  | 1 => .array (.object "WholeTurns$Four")
  | 2 => .array .int
  | 3 => .object "WholeTurns$Four"
  | 4 => .object "WholeTurns$Division"
  | 5 => .object "WholeTurns$Associate"
  | 6 => .object "WholeTurns$Greatest"
  | 7 => .object "WholeTurns$Parts"
  | 8 => .object "WholeTurns$Listing"
  | 9 => .object "WholeTurns$Table"
  | 10 => .object "WholeTurns$Cell"
  | 11 => .object "WholeTurns$Asks"
  | _ => .int
abbrev wsX100 : List Cond := u_ws RX10 TX10 13
theorem nmX10 : ∀ a, a < 13 → ∀ b, b < 13 → a ≠ b → (TX10 a).2.1 ≠ (TX10 b).2.1 := by decide +kernel
theorem tyX10_ok : ∀ k, k < 13 → parseFieldDescriptor (TX10 k).2.2.1 = some (tyX10 k) := by decide +kernel
abbrev cX10_init : ByteArray := prog_1_method_1_code
def yX10_init : MethodName := ⟨RX10, "<init>", "()V"⟩
abbrev cX10_tray : ByteArray := prog_1_method_2_code
def yX10_tray : MethodName := ⟨RX10, "tray", "(III)I"⟩
abbrev cX10_set : ByteArray := prog_1_method_3_code
def yX10_set : MethodName := ⟨RX10, "set", "(IIJ)J"⟩
abbrev cX10_copy : ByteArray := prog_1_method_4_code
def yX10_copy : MethodName := ⟨RX10, "copy", "(IIIII)I"⟩
abbrev cX10_drop : ByteArray := prog_1_method_5_code
def yX10_drop : MethodName := ⟨RX10, "drop", "(I)I"⟩
abbrev cX10_take : ByteArray := prog_1_method_6_code
def yX10_take : MethodName := ⟨RX10, "take", "(III)I"⟩
abbrev cX10_clear : ByteArray := prog_1_method_7_code
def yX10_clear : MethodName := ⟨RX10, "clear", "(I)I"⟩
abbrev cX10_number : ByteArray := prog_1_method_8_code
def yX10_number : MethodName := ⟨RX10, "number", "(II)J"⟩
abbrev cX10_norm : ByteArray := prog_1_method_9_code
def yX10_norm : MethodName := ⟨RX10, "norm", "(I)I"⟩
abbrev cX10_kind : ByteArray := prog_1_method_10_code
def yX10_kind : MethodName := ⟨RX10, "kind", "(I)I"⟩
abbrev cX10_is : ByteArray := prog_1_method_11_code
def yX10_is : MethodName := ⟨RX10, "is", "(II)I"⟩
abbrev cX10_as : ByteArray := prog_1_method_12_code
def yX10_as : MethodName := ⟨RX10, "as", "(II)I"⟩
abbrev cX10_ask : ByteArray := prog_1_method_13_code
def yX10_ask : MethodName := ⟨RX10, "ask", "(II)I"⟩
abbrev cX10_trace : ByteArray := prog_1_method_14_code
def yX10_trace : MethodName := ⟨RX10, "trace", "(I)I"⟩
abbrev cX10_times : ByteArray := prog_1_method_15_code
def yX10_times : MethodName := ⟨RX10, "times", "(III)I"⟩
abbrev cX10_sum : ByteArray := prog_1_method_16_code
def yX10_sum : MethodName := ⟨RX10, "sum", "(III)I"⟩
abbrev cX10_back : ByteArray := prog_1_method_17_code
def yX10_back : MethodName := ⟨RX10, "back", "(II)I"⟩
abbrev cX10_over : ByteArray := prog_1_method_18_code
def yX10_over : MethodName := ⟨RX10, "over", "(IIIII)I"⟩
abbrev cX10_greatest : ByteArray := prog_1_method_19_code
def yX10_greatest : MethodName := ⟨RX10, "greatest", "(IIII)I"⟩
abbrev cX10_associate : ByteArray := prog_1_method_20_code
def yX10_associate : MethodName := ⟨RX10, "associate", "(III)I"⟩
abbrev cX10_plain : ByteArray := prog_1_method_21_code
def yX10_plain : MethodName := ⟨RX10, "plain", "(II)I"⟩
abbrev cX10_part : ByteArray := prog_1_method_22_code
def yX10_part : MethodName := ⟨RX10, "part", "(III)I"⟩
abbrev cX10_many : ByteArray := prog_1_method_23_code
def yX10_many : MethodName := ⟨RX10, "many", "(I)I"⟩
abbrev cX10_list : ByteArray := prog_1_method_24_code
def yX10_list : MethodName := ⟨RX10, "list", "(III)I"⟩
abbrev cX10_squares : ByteArray := prog_1_method_25_code
def yX10_squares : MethodName := ⟨RX10, "squares", "(I)I"⟩
abbrev cX10_three : ByteArray := prog_1_method_26_code
def yX10_three : MethodName := ⟨RX10, "three", "(I)I"⟩
abbrev cX10_table : ByteArray := prog_1_method_27_code
def yX10_table : MethodName := ⟨RX10, "table", "(IIII)J"⟩
abbrev cX10_turn : ByteArray := prog_1_method_28_code
def yX10_turn : MethodName := ⟨RX10, "turn", "(IIIIII)J"⟩
abbrev cX10_order : ByteArray := prog_1_method_29_code
def yX10_order : MethodName := ⟨RX10, "order", "(I)I"⟩
abbrev cX10_axis : ByteArray := prog_1_method_30_code
def yX10_axis : MethodName := ⟨RX10, "axis", "(II)I"⟩
abbrev cX10_alike : ByteArray := prog_1_method_31_code
def yX10_alike : MethodName := ⟨RX10, "alike", "(II)I"⟩
abbrev cX10_index : ByteArray := prog_1_method_32_code
def yX10_index : MethodName := ⟨RX10, "index", "(I)I"⟩
abbrev cX10_cell : ByteArray := prog_1_method_33_code
def yX10_cell : MethodName := ⟨RX10, "cell", "(II)I"⟩
abbrev cX10_status : ByteArray := prog_1_method_34_code
def yX10_status : MethodName := ⟨RX10, "status", "()I"⟩
abbrev cX10_outside : ByteArray := prog_1_method_35_code
def yX10_outside : MethodName := ⟨RX10, "outside", "(II)Z"⟩
abbrev cX10_tooFar : ByteArray := prog_1_method_36_code
def yX10_tooFar : MethodName := ⟨RX10, "tooFar", "(I)Z"⟩
abbrev cX10_found : ByteArray := prog_1_method_37_code
def yX10_found : MethodName := ⟨RX10, "found", "(I)I"⟩
abbrev cX10_answered : ByteArray := prog_1_method_38_code
def yX10_answered : MethodName := ⟨RX10, "answered", "(I)I"⟩
abbrev cX10_standing : ByteArray := prog_1_method_39_code
def yX10_standing : MethodName := ⟨RX10, "standing", "(I)LWholeTurns$Tray;"⟩
abbrev cX10_held : ByteArray := prog_1_method_40_code
def yX10_held : MethodName := ⟨RX10, "held", "(I)LWholeTurns$Four;"⟩
abbrev cX10_keep : ByteArray := prog_1_method_41_code
def yX10_keep : MethodName := ⟨RX10, "keep", "(ILWholeTurns$Four;)I"⟩
abbrev cX10_kindOf : ByteArray := prog_1_method_42_code
def yX10_kindOf : MethodName := ⟨RX10, "kindOf", "(LWholeTurns$Four;)I"⟩
abbrev cX10_isToo : ByteArray := prog_1_method_43_code
def yX10_isToo : MethodName := ⟨RX10, "isToo", "(II)Z"⟩
abbrev cX10_orderOf : ByteArray := prog_1_method_44_code
def yX10_orderOf : MethodName := ⟨RX10, "orderOf", "(LWholeTurns$Four;)I"⟩
abbrev cX10_axisNumber : ByteArray := prog_1_method_45_code
def yX10_axisNumber : MethodName := ⟨RX10, "axisNumber", "(LWholeTurns$Four;I)I"⟩
abbrev cX10_inLeastTerms : ByteArray := prog_1_method_46_code
def yX10_inLeastTerms : MethodName := ⟨RX10, "inLeastTerms", "(JJI)J"⟩
abbrev cX10_commonDivisor : ByteArray := prog_1_method_47_code
def yX10_commonDivisor : MethodName := ⟨RX10, "commonDivisor", "(JJ)J"⟩
abbrev cX10_leastPrime : ByteArray := prog_1_method_48_code
def yX10_leastPrime : MethodName := ⟨RX10, "leastPrime", "(J)J"⟩
abbrev cX10_withoutFactor : ByteArray := prog_1_method_49_code
def yX10_withoutFactor : MethodName := ⟨RX10, "withoutFactor", "(JI)J"⟩
abbrev cX10_sumOfDivisors : ByteArray := prog_1_method_50_code
def yX10_sumOfDivisors : MethodName := ⟨RX10, "sumOfDivisors", "(II)I"⟩
def RX11 : String := "WholeTurnsModel"
def TX11 : u_T := fun k => match k with
  | 0 => ("WholeTurnsModel", "has", "[Z", true)
  | 1 => ("WholeTurnsModel", "slot", "[J", true)
  | 2 => ("WholeTurnsModel", "lane", "[I", true)
  | 3 => ("WholeTurnsModel", "size", "[I", true)
  | 4 => ("WholeTurnsModel", "item", "[J", true)
  | 5 => ("WholeTurnsModel", "moving", "[J", true)
  | 6 => ("WholeTurnsModel", "status", "I", false)
  | 7 => ("WholeTurnsModel", "trace", "[I", true)
  | 8 => ("WholeTurnsModel", "traced", "I", false)
  | 9 => ("WholeTurnsModel", "r", "[J", true)
  | _ => ("WholeTurnsModel", "table", "[J", true)
def tyX11 : Nat → FieldType := fun k => match k with
  | 0 => .array .boolean
  | 1 => .array .long
  | 2 => .array .int
  | 3 => .array .int
  | 4 => .array .long
  | 5 => .array .long
  | 6 => .int
  | 7 => .array .int
  | 8 => .int
  | 9 => .array .long
  | _ => .array .long
abbrev wsX110 : List Cond := u_ws RX11 TX11 11
theorem nmX11 : ∀ a, a < 11 → ∀ b, b < 11 → a ≠ b → (TX11 a).2.1 ≠ (TX11 b).2.1 := by decide +kernel
theorem tyX11_ok : ∀ k, k < 11 → parseFieldDescriptor (TX11 k).2.2.1 = some (tyX11 k) := by decide +kernel
abbrev cX11_init : ByteArray := prog_13_method_1_code
def yX11_init : MethodName := ⟨RX11, "<init>", "()V"⟩
abbrev cX11_in : ByteArray := prog_13_method_2_code
def yX11_in : MethodName := ⟨RX11, "in", "(JJJ)Z"⟩
abbrev cX11_finds : ByteArray := prog_13_method_3_code
def yX11_finds : MethodName := ⟨RX11, "finds", "(I)I"⟩
abbrev cX11_well : ByteArray := prog_13_method_4_code
def yX11_well : MethodName := ⟨RX11, "well", "(I)I"⟩
abbrev cX11_isTray : ByteArray := prog_13_method_5_code
def yX11_isTray : MethodName := ⟨RX11, "isTray", "(I)Z"⟩
abbrev cX11_tray : ByteArray := prog_13_method_6_code
def yX11_tray : MethodName := ⟨RX11, "tray", "(III)I"⟩
abbrev cX11_set : ByteArray := prog_13_method_7_code
def yX11_set : MethodName := ⟨RX11, "set", "(IIJ)J"⟩
abbrev cX11_copy : ByteArray := prog_13_method_8_code
def yX11_copy : MethodName := ⟨RX11, "copy", "(IIIII)I"⟩
abbrev cX11_drop : ByteArray := prog_13_method_9_code
def yX11_drop : MethodName := ⟨RX11, "drop", "(I)I"⟩
abbrev cX11_load : ByteArray := prog_13_method_10_code
def yX11_load : MethodName := ⟨RX11, "load", "(II)V"⟩
abbrev cX11_copyOf : ByteArray := prog_13_method_11_code
def yX11_copyOf : MethodName := ⟨RX11, "copyOf", "(II)V"⟩
abbrev cX11_put : ByteArray := prog_13_method_12_code
def yX11_put : MethodName := ⟨RX11, "put", "(IJJJJ)V"⟩
abbrev cX11_hold : ByteArray := prog_13_method_13_code
def yX11_hold : MethodName := ⟨RX11, "hold", "(II)V"⟩
abbrev cX11_norm4 : ByteArray := prog_13_method_14_code
def yX11_norm4 : MethodName := ⟨RX11, "norm4", "(I)J"⟩
abbrev cX11_isNought : ByteArray := prog_13_method_15_code
def yX11_isNought : MethodName := ⟨RX11, "isNought", "(I)Z"⟩
abbrev cX11_multiply : ByteArray := prog_13_method_16_code
def yX11_multiply : MethodName := ⟨RX11, "multiply", "(III)V"⟩
abbrev cX11_turnBack : ByteArray := prog_13_method_17_code
def yX11_turnBack : MethodName := ⟨RX11, "turnBack", "(II)V"⟩
abbrev cX11_divisor : ByteArray := prog_13_method_18_code
def yX11_divisor : MethodName := ⟨RX11, "divisor", "(JJ)J"⟩
abbrev cX11_down : ByteArray := prog_13_method_19_code
def yX11_down : MethodName := ⟨RX11, "down", "(JJ)J"⟩
abbrev cX11_greatestWhole : ByteArray := prog_13_method_20_code
def yX11_greatestWhole : MethodName := ⟨RX11, "greatestWhole", "(I)J"⟩
abbrev cX11_isPrime : ByteArray := prog_13_method_21_code
def yX11_isPrime : MethodName := ⟨RX11, "isPrime", "(J)Z"⟩
abbrev cX11_kindOf : ByteArray := prog_13_method_22_code
def yX11_kindOf : MethodName := ⟨RX11, "kindOf", "(I)I"⟩
abbrev cX11_isOf : ByteArray := prog_13_method_23_code
def yX11_isOf : MethodName := ⟨RX11, "isOf", "(II)Z"⟩
abbrev cX11_isSlot : ByteArray := prog_13_method_24_code
def yX11_isSlot : MethodName := ⟨RX11, "isSlot", "(I)Z"⟩
abbrev cX11_take : ByteArray := prog_13_method_25_code
def yX11_take : MethodName := ⟨RX11, "take", "(III)I"⟩
abbrev cX11_clear : ByteArray := prog_13_method_26_code
def yX11_clear : MethodName := ⟨RX11, "clear", "(I)I"⟩
abbrev cX11_number : ByteArray := prog_13_method_27_code
def yX11_number : MethodName := ⟨RX11, "number", "(II)J"⟩
abbrev cX11_norm : ByteArray := prog_13_method_28_code
def yX11_norm : MethodName := ⟨RX11, "norm", "(I)I"⟩
abbrev cX11_kind : ByteArray := prog_13_method_29_code
def yX11_kind : MethodName := ⟨RX11, "kind", "(I)I"⟩
abbrev cX11_is : ByteArray := prog_13_method_30_code
def yX11_is : MethodName := ⟨RX11, "is", "(II)I"⟩
abbrev cX11_as : ByteArray := prog_13_method_31_code
def yX11_as : MethodName := ⟨RX11, "as", "(II)I"⟩
abbrev cX11_begins : ByteArray := prog_13_method_32_code
def yX11_begins : MethodName := ⟨RX11, "begins", "(I)V"⟩
abbrev cX11_sizeOf : ByteArray := prog_13_method_33_code
def yX11_sizeOf : MethodName := ⟨RX11, "sizeOf", "(I)I"⟩
abbrev cX11_share : ByteArray := prog_13_method_34_code
def yX11_share : MethodName := ⟨RX11, "share", "(I)I"⟩
abbrev cX11_mark : ByteArray := prog_13_method_35_code
def yX11_mark : MethodName := ⟨RX11, "mark", "(I)I"⟩
abbrev cX11_ask : ByteArray := prog_13_method_36_code
def yX11_ask : MethodName := ⟨RX11, "ask", "(II)I"⟩
abbrev cX11_trace : ByteArray := prog_13_method_37_code
def yX11_trace : MethodName := ⟨RX11, "trace", "(I)I"⟩
abbrev cX11_comes : ByteArray := prog_13_method_38_code
def yX11_comes : MethodName := ⟨RX11, "comes", "(II)I"⟩
abbrev cX11_times : ByteArray := prog_13_method_39_code
def yX11_times : MethodName := ⟨RX11, "times", "(III)I"⟩
abbrev cX11_sum : ByteArray := prog_13_method_40_code
def yX11_sum : MethodName := ⟨RX11, "sum", "(III)I"⟩
abbrev cX11_back : ByteArray := prog_13_method_41_code
def yX11_back : MethodName := ⟨RX11, "back", "(II)I"⟩
abbrev cX11_divide : ByteArray := prog_13_method_42_code
def yX11_divide : MethodName := ⟨RX11, "divide", "(I)V"⟩
abbrev cX11_over : ByteArray := prog_13_method_43_code
def yX11_over : MethodName := ⟨RX11, "over", "(IIIII)I"⟩
abbrev cX11_isLess : ByteArray := prog_13_method_44_code
def yX11_isLess : MethodName := ⟨RX11, "isLess", "(II)Z"⟩
abbrev cX11_unit : ByteArray := prog_13_method_45_code
def yX11_unit : MethodName := ⟨RX11, "unit", "(II)V"⟩
abbrev cX11_associateP : ByteArray := prog_13_method_46_code
def yX11_associateP : MethodName := ⟨RX11, "associateP", "(I)V"⟩
abbrev cX11_greatestP : ByteArray := prog_13_method_47_code
def yX11_greatestP : MethodName := ⟨RX11, "greatestP", "(I)V"⟩
abbrev cX11_greatest : ByteArray := prog_13_method_48_code
def yX11_greatest : MethodName := ⟨RX11, "greatest", "(IIII)I"⟩
abbrev cX11_associate : ByteArray := prog_13_method_49_code
def yX11_associate : MethodName := ⟨RX11, "associate", "(III)I"⟩
abbrev cX11_plain : ByteArray := prog_13_method_50_code
def yX11_plain : MethodName := ⟨RX11, "plain", "(II)I"⟩
abbrev cX11_leastPrime : ByteArray := prog_13_method_51_code
def yX11_leastPrime : MethodName := ⟨RX11, "leastPrime", "(J)J"⟩
abbrev cX11_part : ByteArray := prog_13_method_52_code
def yX11_part : MethodName := ⟨RX11, "part", "(III)I"⟩
abbrev cX11_many : ByteArray := prog_13_method_53_code
def yX11_many : MethodName := ⟨RX11, "many", "(I)I"⟩
abbrev cX11_root : ByteArray := prog_13_method_54_code
def yX11_root : MethodName := ⟨RX11, "root", "(J)J"⟩
abbrev cX11_list : ByteArray := prog_13_method_55_code
def yX11_list : MethodName := ⟨RX11, "list", "(III)I"⟩
abbrev cX11_squares : ByteArray := prog_13_method_56_code
def yX11_squares : MethodName := ⟨RX11, "squares", "(I)I"⟩
abbrev cX11_three : ByteArray := prog_13_method_57_code
def yX11_three : MethodName := ⟨RX11, "three", "(I)I"⟩
abbrev cX11_upper : ByteArray := prog_13_method_58_code
def yX11_upper : MethodName := ⟨RX11, "upper", "(II)J"⟩
abbrev cX11_refusal : ByteArray := prog_13_method_59_code
def yX11_refusal : MethodName := ⟨RX11, "refusal", "(I)I"⟩
abbrev cX11_part2 : ByteArray := prog_13_method_60_code
def yX11_part2 : MethodName := ⟨RX11, "part2", "(JJI)J"⟩
abbrev cX11_table : ByteArray := prog_13_method_61_code
def yX11_table : MethodName := ⟨RX11, "table", "(IIII)J"⟩
abbrev cX11_turn : ByteArray := prog_13_method_62_code
def yX11_turn : MethodName := ⟨RX11, "turn", "(IIIIII)J"⟩
abbrev cX11_order : ByteArray := prog_13_method_63_code
def yX11_order : MethodName := ⟨RX11, "order", "(I)I"⟩
abbrev cX11_axis : ByteArray := prog_13_method_64_code
def yX11_axis : MethodName := ⟨RX11, "axis", "(II)I"⟩
abbrev cX11_alike : ByteArray := prog_13_method_65_code
def yX11_alike : MethodName := ⟨RX11, "alike", "(II)I"⟩
abbrev cX11_indexOf : ByteArray := prog_13_method_66_code
def yX11_indexOf : MethodName := ⟨RX11, "indexOf", "()J"⟩
abbrev cX11_index : ByteArray := prog_13_method_67_code
def yX11_index : MethodName := ⟨RX11, "index", "(I)I"⟩
abbrev cX11_isCommon : ByteArray := prog_13_method_68_code
def yX11_isCommon : MethodName := ⟨RX11, "isCommon", "(JJJJ)Z"⟩
abbrev cX11_cell : ByteArray := prog_13_method_69_code
def yX11_cell : MethodName := ⟨RX11, "cell", "(II)I"⟩
abbrev cX11_status : ByteArray := prog_13_method_70_code
def yX11_status : MethodName := ⟨RX11, "status", "()I"⟩
def RJ9 : String := "java/lang/Math"
def TJ9 : u_T := fun k => match k with
  | _ => ("", "", "", false)
def tyJ9 : Nat → FieldType := fun k => match k with
  | _ => .int
abbrev wsJ90 : List Cond := u_ws RJ9 TJ9 0
theorem nmJ9 : ∀ a, a < 0 → ∀ b, b < 0 → a ≠ b → (TJ9 a).2.1 ≠ (TJ9 b).2.1 := by decide +kernel
theorem tyJ9_ok : ∀ k, k < 0 → parseFieldDescriptor (TJ9 k).2.2.1 = some (tyJ9 k) := by decide +kernel
abbrev cJ9_floorDiv_f86c9 : ByteArray := prog_14_method_49_code
def yJ9_floorDiv_f86c9 : MethodName := ⟨RJ9, "floorDiv", "(JJ)J"⟩
abbrev cJ9_floorMod_f86c9 : ByteArray := prog_14_method_52_code
def yJ9_floorMod_f86c9 : MethodName := ⟨RJ9, "floorMod", "(JJ)J"⟩
abbrev cJ9_abs_067f4 : ByteArray := prog_14_method_61_code
def yJ9_abs_067f4 : MethodName := ⟨RJ9, "abs", "(J)J"⟩
def RJ10 : String := "java/lang/System"
def TJ10 : u_T := fun k => match k with
  | _ => ("", "", "", false)
def tyJ10 : Nat → FieldType := fun k => match k with
  | _ => .int
abbrev wsJ100 : List Cond := u_ws RJ10 TJ10 0
theorem nmJ10 : ∀ a, a < 0 → ∀ b, b < 0 → a ≠ b → (TJ10 a).2.1 ≠ (TJ10 b).2.1 := by decide +kernel
theorem tyJ10_ok : ∀ k, k < 0 → parseFieldDescriptor (TJ10 k).2.2.1 = some (tyJ10 k) := by decide +kernel
def RL : String := "WholeTurnsLaw"
abbrev cL_law : ByteArray := code
def yL_law : MethodName := ⟨RL, "law", "([I)Z"⟩
abbrev vwCl : List vw_C := [(RX0, TX0, 2), (RX1, TX1, 3), (RX2, TX2, 7), (RX3, TX3, 4), (RX4, TX4, 4), (RX5, TX5, 5), (RX6, TX6, 3), (RX7, TX7, 5), (RX8, TX8, 2), (RX9, TX9, 3), (RX10, TX10, 13), (RX11, TX11, 11)]
end
section
theorem dX0_init_0 : decode cX0_init 0 = .ok (.aload_n 0, 1) := by decide +kernel
theorem dX0_init_1 : decode cX0_init 1 = .ok (.invokespecial 3, 3) := by decide +kernel
theorem dX0_init_4 : decode cX0_init 4 = .ok (.aload_n 0, 1) := by decide +kernel
theorem dX0_init_5 : decode cX0_init 5 = .ok (.bipush 16, 2) := by decide +kernel
theorem dX0_init_7 : decode cX0_init 7 = .ok (.newarray .int, 2) := by decide +kernel
theorem dX0_init_9 : decode cX0_init 9 = .ok (.putfield 9, 3) := by decide +kernel
theorem dX0_init_12 : decode cX0_init 12 = .ok (.aload_n 0, 1) := by decide +kernel
theorem dX0_init_13 : decode cX0_init 13 = .ok (.iconst 0, 1) := by decide +kernel
theorem dX0_init_14 : decode cX0_init 14 = .ok (.putfield 15, 3) := by decide +kernel
theorem dX0_init_17 : decode cX0_init 17 = .ok (.return_, 1) := by decide +kernel
theorem dX0_forget_0 : decode cX0_forget 0 = .ok (.aload_n 0, 1) := by decide +kernel
theorem dX0_forget_1 : decode cX0_forget 1 = .ok (.iconst 0, 1) := by decide +kernel
theorem dX0_forget_2 : decode cX0_forget 2 = .ok (.putfield 15, 3) := by decide +kernel
theorem dX0_forget_5 : decode cX0_forget 5 = .ok (.return_, 1) := by decide +kernel
theorem dX0_traceAt_0 : decode cX0_traceAt 0 = .ok (.iload_n 1, 1) := by decide +kernel
theorem dX0_traceAt_1 : decode cX0_traceAt 1 = .ok (.ifCond .lt 20, 3) := by decide +kernel
theorem dX0_traceAt_4 : decode cX0_traceAt 4 = .ok (.iload_n 1, 1) := by decide +kernel
theorem dX0_traceAt_5 : decode cX0_traceAt 5 = .ok (.aload_n 0, 1) := by decide +kernel
theorem dX0_traceAt_6 : decode cX0_traceAt 6 = .ok (.getfield 15, 3) := by decide +kernel
theorem dX0_traceAt_9 : decode cX0_traceAt 9 = .ok (.if_icmp .ge 12, 3) := by decide +kernel
theorem dX0_traceAt_12 : decode cX0_traceAt 12 = .ok (.iload_n 1, 1) := by decide +kernel
theorem dX0_traceAt_13 : decode cX0_traceAt 13 = .ok (.aload_n 0, 1) := by decide +kernel
theorem dX0_traceAt_14 : decode cX0_traceAt 14 = .ok (.getfield 9, 3) := by decide +kernel
theorem dX0_traceAt_17 : decode cX0_traceAt 17 = .ok (.arraylength, 1) := by decide +kernel
theorem dX0_traceAt_18 : decode cX0_traceAt 18 = .ok (.if_icmp .lt 8, 3) := by decide +kernel
theorem dX0_traceAt_21 : decode cX0_traceAt 21 = .ok (.ldc 19, 2) := by decide +kernel
theorem dX0_traceAt_23 : decode cX0_traceAt 23 = .ok (.goto 9, 3) := by decide +kernel
theorem dX0_traceAt_26 : decode cX0_traceAt 26 = .ok (.aload_n 0, 1) := by decide +kernel
theorem dX0_traceAt_27 : decode cX0_traceAt 27 = .ok (.getfield 9, 3) := by decide +kernel
theorem dX0_traceAt_30 : decode cX0_traceAt 30 = .ok (.iload_n 1, 1) := by decide +kernel
theorem dX0_traceAt_31 : decode cX0_traceAt 31 = .ok (.iaload, 1) := by decide +kernel
theorem dX0_traceAt_32 : decode cX0_traceAt 32 = .ok (.ireturn, 1) := by decide +kernel
theorem dX0_begin_0 : decode cX0_begin 0 = .ok (.aload_n 0, 1) := by decide +kernel
theorem dX0_begin_1 : decode cX0_begin 1 = .ok (.getfield 15, 3) := by decide +kernel
theorem dX0_begin_4 : decode cX0_begin 4 = .ok (.ifCond .lt 15, 3) := by decide +kernel
theorem dX0_begin_7 : decode cX0_begin 7 = .ok (.aload_n 0, 1) := by decide +kernel
theorem dX0_begin_8 : decode cX0_begin 8 = .ok (.getfield 15, 3) := by decide +kernel
theorem dX0_begin_11 : decode cX0_begin 11 = .ok (.aload_n 0, 1) := by decide +kernel
theorem dX0_begin_12 : decode cX0_begin 12 = .ok (.getfield 9, 3) := by decide +kernel
theorem dX0_begin_15 : decode cX0_begin 15 = .ok (.arraylength, 1) := by decide +kernel
theorem dX0_begin_16 : decode cX0_begin 16 = .ok (.if_icmp .lt 4, 3) := by decide +kernel
theorem dX0_begin_19 : decode cX0_begin 19 = .ok (.return_, 1) := by decide +kernel
theorem dX0_begin_20 : decode cX0_begin 20 = .ok (.aload_n 0, 1) := by decide +kernel
theorem dX0_begin_21 : decode cX0_begin 21 = .ok (.getfield 9, 3) := by decide +kernel
theorem dX0_begin_24 : decode cX0_begin 24 = .ok (.aload_n 0, 1) := by decide +kernel
theorem dX0_begin_25 : decode cX0_begin 25 = .ok (.getfield 15, 3) := by decide +kernel
theorem dX0_begin_28 : decode cX0_begin 28 = .ok (.iload_n 1, 1) := by decide +kernel
theorem dX0_begin_29 : decode cX0_begin 29 = .ok (.iastore, 1) := by decide +kernel
theorem dX0_begin_30 : decode cX0_begin 30 = .ok (.aload_n 0, 1) := by decide +kernel
theorem dX0_begin_31 : decode cX0_begin 31 = .ok (.dup, 1) := by decide +kernel
theorem dX0_begin_32 : decode cX0_begin 32 = .ok (.getfield 15, 3) := by decide +kernel
theorem dX0_begin_35 : decode cX0_begin 35 = .ok (.iconst 1, 1) := by decide +kernel
theorem dX0_begin_36 : decode cX0_begin 36 = .ok (.iadd, 1) := by decide +kernel
theorem dX0_begin_37 : decode cX0_begin 37 = .ok (.putfield 15, 3) := by decide +kernel
theorem dX0_begin_40 : decode cX0_begin 40 = .ok (.return_, 1) := by decide +kernel
theorem dX0_sizeOf_0 : decode cX0_sizeOf 0 = .ok (.iload_n 2, 1) := by decide +kernel
theorem dX0_sizeOf_1 : decode cX0_sizeOf 1 = .ok (.iconst 4, 1) := by decide +kernel
theorem dX0_sizeOf_2 : decode cX0_sizeOf 2 = .ok (.if_icmp .ne 8, 3) := by decide +kernel
theorem dX0_sizeOf_5 : decode cX0_sizeOf 5 = .ok (.aload_n 0, 1) := by decide +kernel
theorem dX0_sizeOf_6 : decode cX0_sizeOf 6 = .ok (.invokevirtual 20, 3) := by decide +kernel
theorem dX0_sizeOf_9 : decode cX0_sizeOf 9 = .ok (.ireturn, 1) := by decide +kernel
theorem dX0_sizeOf_10 : decode cX0_sizeOf 10 = .ok (.iload_n 2, 1) := by decide +kernel
theorem dX0_sizeOf_11 : decode cX0_sizeOf 11 = .ok (.iconst 3, 1) := by decide +kernel
theorem dX0_sizeOf_12 : decode cX0_sizeOf 12 = .ok (.if_icmp .ne 9, 3) := by decide +kernel
theorem dX0_sizeOf_15 : decode cX0_sizeOf 15 = .ok (.aload_n 0, 1) := by decide +kernel
theorem dX0_sizeOf_16 : decode cX0_sizeOf 16 = .ok (.aload_n 1, 1) := by decide +kernel
theorem dX0_sizeOf_17 : decode cX0_sizeOf 17 = .ok (.invokevirtual 24, 3) := by decide +kernel
theorem dX0_sizeOf_20 : decode cX0_sizeOf 20 = .ok (.ireturn, 1) := by decide +kernel
theorem dX0_sizeOf_21 : decode cX0_sizeOf 21 = .ok (.aload_n 0, 1) := by decide +kernel
theorem dX0_sizeOf_22 : decode cX0_sizeOf 22 = .ok (.aload_n 1, 1) := by decide +kernel
theorem dX0_sizeOf_23 : decode cX0_sizeOf 23 = .ok (.invokevirtual 28, 3) := by decide +kernel
theorem dX0_sizeOf_26 : decode cX0_sizeOf 26 = .ok (.ireturn, 1) := by decide +kernel
theorem dX0_lentSize_0 : decode cX0_lentSize 0 = .ok (.aload_n 0, 1) := by decide +kernel
theorem dX0_lentSize_1 : decode cX0_lentSize 1 = .ok (.bipush 10, 2) := by decide +kernel
theorem dX0_lentSize_3 : decode cX0_lentSize 3 = .ok (.invokevirtual 31, 3) := by decide +kernel
theorem dX0_lentSize_6 : decode cX0_lentSize 6 = .ok (.aload_n 1, 1) := by decide +kernel
theorem dX0_lentSize_7 : decode cX0_lentSize 7 = .ok (.invokevirtual 35, 3) := by decide +kernel
theorem dX0_lentSize_10 : decode cX0_lentSize 10 = .ok (.ldc2_w 41, 3) := by decide +kernel
theorem dX0_lentSize_13 : decode cX0_lentSize 13 = .ok (.lrem, 1) := by decide +kernel
theorem dX0_lentSize_14 : decode cX0_lentSize 14 = .ok (.l2i, 1) := by decide +kernel
theorem dX0_lentSize_15 : decode cX0_lentSize 15 = .ok (.ireturn, 1) := by decide +kernel
theorem dX0_unitSize_0 : decode cX0_unitSize 0 = .ok (.aload_n 0, 1) := by decide +kernel
theorem dX0_unitSize_1 : decode cX0_unitSize 1 = .ok (.bipush 11, 2) := by decide +kernel
theorem dX0_unitSize_3 : decode cX0_unitSize 3 = .ok (.invokevirtual 31, 3) := by decide +kernel
theorem dX0_unitSize_6 : decode cX0_unitSize 6 = .ok (.iconst 1, 1) := by decide +kernel
theorem dX0_unitSize_7 : decode cX0_unitSize 7 = .ok (.ireturn, 1) := by decide +kernel
theorem dX0_primeSize_0 : decode cX0_primeSize 0 = .ok (.aload_n 0, 1) := by decide +kernel
theorem dX0_primeSize_1 : decode cX0_primeSize 1 = .ok (.bipush 12, 2) := by decide +kernel
theorem dX0_primeSize_3 : decode cX0_primeSize 3 = .ok (.invokevirtual 31, 3) := by decide +kernel
theorem dX0_primeSize_6 : decode cX0_primeSize 6 = .ok (.aload_n 0, 1) := by decide +kernel
theorem dX0_primeSize_7 : decode cX0_primeSize 7 = .ok (.aload_n 1, 1) := by decide +kernel
theorem dX0_primeSize_8 : decode cX0_primeSize 8 = .ok (.invokevirtual 28, 3) := by decide +kernel
theorem dX0_primeSize_11 : decode cX0_primeSize 11 = .ok (.iconst 2, 1) := by decide +kernel
theorem dX0_primeSize_12 : decode cX0_primeSize 12 = .ok (.iadd, 1) := by decide +kernel
theorem dX0_primeSize_13 : decode cX0_primeSize 13 = .ok (.ireturn, 1) := by decide +kernel
theorem dX0_shareOf_0 : decode cX0_shareOf 0 = .ok (.iload_n 2, 1) := by decide +kernel
theorem dX0_shareOf_1 : decode cX0_shareOf 1 = .ok (.iconst 4, 1) := by decide +kernel
theorem dX0_shareOf_2 : decode cX0_shareOf 2 = .ok (.if_icmp .ne 10, 3) := by decide +kernel
theorem dX0_shareOf_5 : decode cX0_shareOf 5 = .ok (.aload_n 0, 1) := by decide +kernel
theorem dX0_shareOf_6 : decode cX0_shareOf 6 = .ok (.aload_n 1, 1) := by decide +kernel
theorem dX0_shareOf_7 : decode cX0_shareOf 7 = .ok (.iload_n 2, 1) := by decide +kernel
theorem dX0_shareOf_8 : decode cX0_shareOf 8 = .ok (.invokevirtual 43, 3) := by decide +kernel
theorem dX0_shareOf_11 : decode cX0_shareOf 11 = .ok (.ireturn, 1) := by decide +kernel
theorem dX0_shareOf_12 : decode cX0_shareOf 12 = .ok (.iload_n 2, 1) := by decide +kernel
theorem dX0_shareOf_13 : decode cX0_shareOf 13 = .ok (.iconst 2, 1) := by decide +kernel
theorem dX0_shareOf_14 : decode cX0_shareOf 14 = .ok (.if_icmp .eq 8, 3) := by decide +kernel
theorem dX0_shareOf_17 : decode cX0_shareOf 17 = .ok (.iload_n 2, 1) := by decide +kernel
theorem dX0_shareOf_18 : decode cX0_shareOf 18 = .ok (.iconst 3, 1) := by decide +kernel
theorem dX0_shareOf_19 : decode cX0_shareOf 19 = .ok (.if_icmp .ne 10, 3) := by decide +kernel
theorem dX0_shareOf_22 : decode cX0_shareOf 22 = .ok (.aload_n 0, 1) := by decide +kernel
theorem dX0_shareOf_23 : decode cX0_shareOf 23 = .ok (.aload_n 1, 1) := by decide +kernel
theorem dX0_shareOf_24 : decode cX0_shareOf 24 = .ok (.iload_n 2, 1) := by decide +kernel
theorem dX0_shareOf_25 : decode cX0_shareOf 25 = .ok (.invokevirtual 47, 3) := by decide +kernel
theorem dX0_shareOf_28 : decode cX0_shareOf 28 = .ok (.ireturn, 1) := by decide +kernel
theorem dX0_shareOf_29 : decode cX0_shareOf 29 = .ok (.iload_n 2, 1) := by decide +kernel
theorem dX0_shareOf_30 : decode cX0_shareOf 30 = .ok (.iconst 1, 1) := by decide +kernel
theorem dX0_shareOf_31 : decode cX0_shareOf 31 = .ok (.if_icmp .ne 8, 3) := by decide +kernel
theorem dX0_shareOf_34 : decode cX0_shareOf 34 = .ok (.aload_n 0, 1) := by decide +kernel
theorem dX0_shareOf_35 : decode cX0_shareOf 35 = .ok (.invokevirtual 50, 3) := by decide +kernel
theorem dX0_shareOf_38 : decode cX0_shareOf 38 = .ok (.ireturn, 1) := by decide +kernel
theorem dX0_shareOf_39 : decode cX0_shareOf 39 = .ok (.aload_n 0, 1) := by decide +kernel
theorem dX0_shareOf_40 : decode cX0_shareOf 40 = .ok (.invokevirtual 53, 3) := by decide +kernel
theorem dX0_shareOf_43 : decode cX0_shareOf 43 = .ok (.ireturn, 1) := by decide +kernel
theorem dX0_fourShare_0 : decode cX0_fourShare 0 = .ok (.aload_n 0, 1) := by decide +kernel
theorem dX0_fourShare_1 : decode cX0_fourShare 1 = .ok (.bipush 20, 2) := by decide +kernel
theorem dX0_fourShare_3 : decode cX0_fourShare 3 = .ok (.invokevirtual 31, 3) := by decide +kernel
theorem dX0_fourShare_6 : decode cX0_fourShare 6 = .ok (.bipush 24, 2) := by decide +kernel
theorem dX0_fourShare_8 : decode cX0_fourShare 8 = .ok (.ireturn, 1) := by decide +kernel
theorem dX0_halfShare_0 : decode cX0_halfShare 0 = .ok (.aload_n 0, 1) := by decide +kernel
theorem dX0_halfShare_1 : decode cX0_halfShare 1 = .ok (.bipush 21, 2) := by decide +kernel
theorem dX0_halfShare_3 : decode cX0_halfShare 3 = .ok (.invokevirtual 31, 3) := by decide +kernel
theorem dX0_halfShare_6 : decode cX0_halfShare 6 = .ok (.aload_n 0, 1) := by decide +kernel
theorem dX0_halfShare_7 : decode cX0_halfShare 7 = .ok (.invokevirtual 53, 3) := by decide +kernel
theorem dX0_halfShare_10 : decode cX0_halfShare 10 = .ok (.iconst 2, 1) := by decide +kernel
theorem dX0_halfShare_11 : decode cX0_halfShare 11 = .ok (.idiv, 1) := by decide +kernel
theorem dX0_halfShare_12 : decode cX0_halfShare 12 = .ok (.ireturn, 1) := by decide +kernel
theorem dX0_plainShare_0 : decode cX0_plainShare 0 = .ok (.aload_n 0, 1) := by decide +kernel
theorem dX0_plainShare_1 : decode cX0_plainShare 1 = .ok (.bipush 22, 2) := by decide +kernel
theorem dX0_plainShare_3 : decode cX0_plainShare 3 = .ok (.invokevirtual 31, 3) := by decide +kernel
theorem dX0_plainShare_6 : decode cX0_plainShare 6 = .ok (.aload_n 0, 1) := by decide +kernel
theorem dX0_plainShare_7 : decode cX0_plainShare 7 = .ok (.invokevirtual 53, 3) := by decide +kernel
theorem dX0_plainShare_10 : decode cX0_plainShare 10 = .ok (.istore_n 3, 1) := by decide +kernel
theorem dX0_plainShare_11 : decode cX0_plainShare 11 = .ok (.iload_n 3, 1) := by decide +kernel
theorem dX0_plainShare_12 : decode cX0_plainShare 12 = .ok (.aload_n 0, 1) := by decide +kernel
theorem dX0_plainShare_13 : decode cX0_plainShare 13 = .ok (.aload_n 1, 1) := by decide +kernel
theorem dX0_plainShare_14 : decode cX0_plainShare 14 = .ok (.iload_n 2, 1) := by decide +kernel
theorem dX0_plainShare_15 : decode cX0_plainShare 15 = .ok (.invokevirtual 56, 3) := by decide +kernel
theorem dX0_plainShare_18 : decode cX0_plainShare 18 = .ok (.iadd, 1) := by decide +kernel
theorem dX0_plainShare_19 : decode cX0_plainShare 19 = .ok (.ireturn, 1) := by decide +kernel
theorem dX0_unitShare_0 : decode cX0_unitShare 0 = .ok (.aload_n 0, 1) := by decide +kernel
theorem dX0_unitShare_1 : decode cX0_unitShare 1 = .ok (.bipush 23, 2) := by decide +kernel
theorem dX0_unitShare_3 : decode cX0_unitShare 3 = .ok (.invokevirtual 31, 3) := by decide +kernel
theorem dX0_unitShare_6 : decode cX0_unitShare 6 = .ok (.aload_n 0, 1) := by decide +kernel
theorem dX0_unitShare_7 : decode cX0_unitShare 7 = .ok (.aload_n 1, 1) := by decide +kernel
theorem dX0_unitShare_8 : decode cX0_unitShare 8 = .ok (.iload_n 2, 1) := by decide +kernel
theorem dX0_unitShare_9 : decode cX0_unitShare 9 = .ok (.invokevirtual 47, 3) := by decide +kernel
theorem dX0_unitShare_12 : decode cX0_unitShare 12 = .ok (.iconst 5, 1) := by decide +kernel
theorem dX0_unitShare_13 : decode cX0_unitShare 13 = .ok (.idiv, 1) := by decide +kernel
theorem dX0_unitShare_14 : decode cX0_unitShare 14 = .ok (.ireturn, 1) := by decide +kernel
theorem dX0_markOf_0 : decode cX0_markOf 0 = .ok (.iload_n 2, 1) := by decide +kernel
theorem dX0_markOf_1 : decode cX0_markOf 1 = .ok (.iconst 3, 1) := by decide +kernel
theorem dX0_markOf_2 : decode cX0_markOf 2 = .ok (.if_icmp .ne 9, 3) := by decide +kernel
theorem dX0_markOf_5 : decode cX0_markOf 5 = .ok (.aload_n 0, 1) := by decide +kernel
theorem dX0_markOf_6 : decode cX0_markOf 6 = .ok (.aload_n 1, 1) := by decide +kernel
theorem dX0_markOf_7 : decode cX0_markOf 7 = .ok (.invokevirtual 59, 3) := by decide +kernel
theorem dX0_markOf_10 : decode cX0_markOf 10 = .ok (.ireturn, 1) := by decide +kernel
theorem dX0_markOf_11 : decode cX0_markOf 11 = .ok (.iload_n 2, 1) := by decide +kernel
theorem dX0_markOf_12 : decode cX0_markOf 12 = .ok (.iconst 2, 1) := by decide +kernel
theorem dX0_markOf_13 : decode cX0_markOf 13 = .ok (.if_icmp .eq 8, 3) := by decide +kernel
theorem dX0_markOf_16 : decode cX0_markOf 16 = .ok (.iload_n 2, 1) := by decide +kernel
theorem dX0_markOf_17 : decode cX0_markOf 17 = .ok (.iconst 4, 1) := by decide +kernel
theorem dX0_markOf_18 : decode cX0_markOf 18 = .ok (.if_icmp .ne 9, 3) := by decide +kernel
theorem dX0_markOf_21 : decode cX0_markOf 21 = .ok (.aload_n 0, 1) := by decide +kernel
theorem dX0_markOf_22 : decode cX0_markOf 22 = .ok (.aload_n 1, 1) := by decide +kernel
theorem dX0_markOf_23 : decode cX0_markOf 23 = .ok (.invokevirtual 62, 3) := by decide +kernel
theorem dX0_markOf_26 : decode cX0_markOf 26 = .ok (.ireturn, 1) := by decide +kernel
theorem dX0_markOf_27 : decode cX0_markOf 27 = .ok (.aload_n 0, 1) := by decide +kernel
theorem dX0_markOf_28 : decode cX0_markOf 28 = .ok (.aload_n 1, 1) := by decide +kernel
theorem dX0_markOf_29 : decode cX0_markOf 29 = .ok (.invokevirtual 65, 3) := by decide +kernel
theorem dX0_markOf_32 : decode cX0_markOf 32 = .ok (.ireturn, 1) := by decide +kernel
theorem dX0_lentMark_0 : decode cX0_lentMark 0 = .ok (.aload_n 0, 1) := by decide +kernel
theorem dX0_lentMark_1 : decode cX0_lentMark 1 = .ok (.bipush 30, 2) := by decide +kernel
theorem dX0_lentMark_3 : decode cX0_lentMark 3 = .ok (.invokevirtual 31, 3) := by decide +kernel
theorem dX0_lentMark_6 : decode cX0_lentMark 6 = .ok (.aload_n 1, 1) := by decide +kernel
theorem dX0_lentMark_7 : decode cX0_lentMark 7 = .ok (.getfield 68, 3) := by decide +kernel
theorem dX0_lentMark_10 : decode cX0_lentMark 10 = .ok (.aload_n 1, 1) := by decide +kernel
theorem dX0_lentMark_11 : decode cX0_lentMark 11 = .ok (.getfield 72, 3) := by decide +kernel
theorem dX0_lentMark_14 : decode cX0_lentMark 14 = .ok (.ladd, 1) := by decide +kernel
theorem dX0_lentMark_15 : decode cX0_lentMark 15 = .ok (.aload_n 1, 1) := by decide +kernel
theorem dX0_lentMark_16 : decode cX0_lentMark 16 = .ok (.getfield 75, 3) := by decide +kernel
theorem dX0_lentMark_19 : decode cX0_lentMark 19 = .ok (.ladd, 1) := by decide +kernel
theorem dX0_lentMark_20 : decode cX0_lentMark 20 = .ok (.aload_n 1, 1) := by decide +kernel
theorem dX0_lentMark_21 : decode cX0_lentMark 21 = .ok (.getfield 78, 3) := by decide +kernel
theorem dX0_lentMark_24 : decode cX0_lentMark 24 = .ok (.ladd, 1) := by decide +kernel
theorem dX0_lentMark_25 : decode cX0_lentMark 25 = .ok (.ldc2_w 81, 3) := by decide +kernel
theorem dX0_lentMark_28 : decode cX0_lentMark 28 = .ok (.invokestatic 83, 3) := by decide +kernel
theorem dX0_lentMark_31 : decode cX0_lentMark 31 = .ok (.l2i, 1) := by decide +kernel
theorem dX0_lentMark_32 : decode cX0_lentMark 32 = .ok (.ireturn, 1) := by decide +kernel
theorem dX0_plainMark_0 : decode cX0_plainMark 0 = .ok (.aload_n 0, 1) := by decide +kernel
theorem dX0_plainMark_1 : decode cX0_plainMark 1 = .ok (.bipush 31, 2) := by decide +kernel
theorem dX0_plainMark_3 : decode cX0_plainMark 3 = .ok (.invokevirtual 31, 3) := by decide +kernel
theorem dX0_plainMark_6 : decode cX0_plainMark 6 = .ok (.iconst 2, 1) := by decide +kernel
theorem dX0_plainMark_7 : decode cX0_plainMark 7 = .ok (.aload_n 0, 1) := by decide +kernel
theorem dX0_plainMark_8 : decode cX0_plainMark 8 = .ok (.aload_n 1, 1) := by decide +kernel
theorem dX0_plainMark_9 : decode cX0_plainMark 9 = .ok (.invokevirtual 65, 3) := by decide +kernel
theorem dX0_plainMark_12 : decode cX0_plainMark 12 = .ok (.imul, 1) := by decide +kernel
theorem dX0_plainMark_13 : decode cX0_plainMark 13 = .ok (.ireturn, 1) := by decide +kernel
theorem dX0_primeMark_0 : decode cX0_primeMark 0 = .ok (.aload_n 0, 1) := by decide +kernel
theorem dX0_primeMark_1 : decode cX0_primeMark 1 = .ok (.bipush 32, 2) := by decide +kernel
theorem dX0_primeMark_3 : decode cX0_primeMark 3 = .ok (.invokevirtual 31, 3) := by decide +kernel
theorem dX0_primeMark_6 : decode cX0_primeMark 6 = .ok (.aload_n 0, 1) := by decide +kernel
theorem dX0_primeMark_7 : decode cX0_primeMark 7 = .ok (.aload_n 1, 1) := by decide +kernel
theorem dX0_primeMark_8 : decode cX0_primeMark 8 = .ok (.invokevirtual 62, 3) := by decide +kernel
theorem dX0_primeMark_11 : decode cX0_primeMark 11 = .ok (.iconst 1, 1) := by decide +kernel
theorem dX0_primeMark_12 : decode cX0_primeMark 12 = .ok (.iadd, 1) := by decide +kernel
theorem dX0_primeMark_13 : decode cX0_primeMark 13 = .ok (.ireturn, 1) := by decide +kernel
theorem dX1_init_0 : decode cX1_init 0 = .ok (.aload_n 0, 1) := by decide +kernel
theorem dX1_init_1 : decode cX1_init 1 = .ok (.invokespecial 3, 3) := by decide +kernel
theorem dX1_init_4 : decode cX1_init 4 = .ok (.aload_n 0, 1) := by decide +kernel
theorem dX1_init_5 : decode cX1_init 5 = .ok (.new 9, 3) := by decide +kernel
theorem dX1_init_8 : decode cX1_init 8 = .ok (.dup, 1) := by decide +kernel
theorem dX1_init_9 : decode cX1_init 9 = .ok (.invokespecial 11, 3) := by decide +kernel
theorem dX1_init_12 : decode cX1_init 12 = .ok (.putfield 12, 3) := by decide +kernel
theorem dX1_init_15 : decode cX1_init 15 = .ok (.aload_n 0, 1) := by decide +kernel
theorem dX1_init_16 : decode cX1_init 16 = .ok (.new 9, 3) := by decide +kernel
theorem dX1_init_19 : decode cX1_init 19 = .ok (.dup, 1) := by decide +kernel
theorem dX1_init_20 : decode cX1_init 20 = .ok (.invokespecial 11, 3) := by decide +kernel
theorem dX1_init_23 : decode cX1_init 23 = .ok (.putfield 18, 3) := by decide +kernel
theorem dX1_init_26 : decode cX1_init 26 = .ok (.aload_n 0, 1) := by decide +kernel
theorem dX1_init_27 : decode cX1_init 27 = .ok (.new 9, 3) := by decide +kernel
theorem dX1_init_30 : decode cX1_init 30 = .ok (.dup, 1) := by decide +kernel
theorem dX1_init_31 : decode cX1_init 31 = .ok (.invokespecial 11, 3) := by decide +kernel
theorem dX1_init_34 : decode cX1_init 34 = .ok (.putfield 21, 3) := by decide +kernel
theorem dX1_init_37 : decode cX1_init 37 = .ok (.return_, 1) := by decide +kernel
theorem dX1_seek_0 : decode cX1_seek 0 = .ok (.aload_n 0, 1) := by decide +kernel
theorem dX1_seek_1 : decode cX1_seek 1 = .ok (.getfield 12, 3) := by decide +kernel
theorem dX1_seek_4 : decode cX1_seek 4 = .ok (.aload_n 1, 1) := by decide +kernel
theorem dX1_seek_5 : decode cX1_seek 5 = .ok (.invokevirtual 24, 3) := by decide +kernel
theorem dX1_seek_8 : decode cX1_seek 8 = .ok (.iconst 0, 1) := by decide +kernel
theorem dX1_seek_9 : decode cX1_seek 9 = .ok (.istore_n 3, 1) := by decide +kernel
theorem dX1_seek_10 : decode cX1_seek 10 = .ok (.iload_n 3, 1) := by decide +kernel
theorem dX1_seek_11 : decode cX1_seek 11 = .ok (.bipush 24, 2) := by decide +kernel
theorem dX1_seek_13 : decode cX1_seek 13 = .ok (.if_icmp .ge 73, 3) := by decide +kernel
theorem dX1_seek_16 : decode cX1_seek 16 = .ok (.aload_n 0, 1) := by decide +kernel
theorem dX1_seek_17 : decode cX1_seek 17 = .ok (.getfield 18, 3) := by decide +kernel
theorem dX1_seek_20 : decode cX1_seek 20 = .ok (.iload_n 3, 1) := by decide +kernel
theorem dX1_seek_21 : decode cX1_seek 21 = .ok (.invokevirtual 28, 3) := by decide +kernel
theorem dX1_seek_24 : decode cX1_seek 24 = .ok (.iload_n 2, 1) := by decide +kernel
theorem dX1_seek_25 : decode cX1_seek 25 = .ok (.ifCond .ne 18, 3) := by decide +kernel
theorem dX1_seek_28 : decode cX1_seek 28 = .ok (.aload_n 0, 1) := by decide +kernel
theorem dX1_seek_29 : decode cX1_seek 29 = .ok (.getfield 21, 3) := by decide +kernel
theorem dX1_seek_32 : decode cX1_seek 32 = .ok (.aload_n 0, 1) := by decide +kernel
theorem dX1_seek_33 : decode cX1_seek 33 = .ok (.getfield 18, 3) := by decide +kernel
theorem dX1_seek_36 : decode cX1_seek 36 = .ok (.aload_n 1, 1) := by decide +kernel
theorem dX1_seek_37 : decode cX1_seek 37 = .ok (.invokevirtual 32, 3) := by decide +kernel
theorem dX1_seek_40 : decode cX1_seek 40 = .ok (.goto 15, 3) := by decide +kernel
theorem dX1_seek_43 : decode cX1_seek 43 = .ok (.aload_n 0, 1) := by decide +kernel
theorem dX1_seek_44 : decode cX1_seek 44 = .ok (.getfield 21, 3) := by decide +kernel
theorem dX1_seek_47 : decode cX1_seek 47 = .ok (.aload_n 1, 1) := by decide +kernel
theorem dX1_seek_48 : decode cX1_seek 48 = .ok (.aload_n 0, 1) := by decide +kernel
theorem dX1_seek_49 : decode cX1_seek 49 = .ok (.getfield 18, 3) := by decide +kernel
theorem dX1_seek_52 : decode cX1_seek 52 = .ok (.invokevirtual 32, 3) := by decide +kernel
theorem dX1_seek_55 : decode cX1_seek 55 = .ok (.aload_n 0, 1) := by decide +kernel
theorem dX1_seek_56 : decode cX1_seek 56 = .ok (.getfield 12, 3) := by decide +kernel
theorem dX1_seek_59 : decode cX1_seek 59 = .ok (.aload_n 0, 1) := by decide +kernel
theorem dX1_seek_60 : decode cX1_seek 60 = .ok (.getfield 21, 3) := by decide +kernel
theorem dX1_seek_63 : decode cX1_seek 63 = .ok (.invokevirtual 36, 3) := by decide +kernel
theorem dX1_seek_66 : decode cX1_seek 66 = .ok (.ifCond .eq 14, 3) := by decide +kernel
theorem dX1_seek_69 : decode cX1_seek 69 = .ok (.aload_n 0, 1) := by decide +kernel
theorem dX1_seek_70 : decode cX1_seek 70 = .ok (.getfield 12, 3) := by decide +kernel
theorem dX1_seek_73 : decode cX1_seek 73 = .ok (.aload_n 0, 1) := by decide +kernel
theorem dX1_seek_74 : decode cX1_seek 74 = .ok (.getfield 21, 3) := by decide +kernel
theorem dX1_seek_77 : decode cX1_seek 77 = .ok (.invokevirtual 24, 3) := by decide +kernel
theorem dX1_seek_80 : decode cX1_seek 80 = .ok (.iinc 3 1, 3) := by decide +kernel
theorem dX1_seek_83 : decode cX1_seek 83 = .ok (.goto (-73), 3) := by decide +kernel
theorem dX1_seek_86 : decode cX1_seek 86 = .ok (.return_, 1) := by decide +kernel
theorem dX2_init_0 : decode cX2_init 0 = .ok (.aload_n 0, 1) := by decide +kernel
theorem dX2_init_1 : decode cX2_init 1 = .ok (.invokespecial 3, 3) := by decide +kernel
theorem dX2_init_4 : decode cX2_init 4 = .ok (.aload_n 0, 1) := by decide +kernel
theorem dX2_init_5 : decode cX2_init 5 = .ok (.new 9, 3) := by decide +kernel
theorem dX2_init_8 : decode cX2_init 8 = .ok (.dup, 1) := by decide +kernel
theorem dX2_init_9 : decode cX2_init 9 = .ok (.invokespecial 11, 3) := by decide +kernel
theorem dX2_init_12 : decode cX2_init 12 = .ok (.putfield 12, 3) := by decide +kernel
theorem dX2_init_15 : decode cX2_init 15 = .ok (.return_, 1) := by decide +kernel
theorem dX2_fill_0 : decode cX2_fill 0 = .ok (.aload_n 0, 1) := by decide +kernel
theorem dX2_fill_1 : decode cX2_fill 1 = .ok (.getfield 12, 3) := by decide +kernel
theorem dX2_fill_4 : decode cX2_fill 4 = .ok (.aload_n 1, 1) := by decide +kernel
theorem dX2_fill_5 : decode cX2_fill 5 = .ok (.invokevirtual 18, 3) := by decide +kernel
theorem dX2_fill_8 : decode cX2_fill 8 = .ok (.aload_n 0, 1) := by decide +kernel
theorem dX2_fill_9 : decode cX2_fill 9 = .ok (.invokevirtual 22, 3) := by decide +kernel
theorem dX2_fill_12 : decode cX2_fill 12 = .ok (.aload_n 0, 1) := by decide +kernel
theorem dX2_fill_13 : decode cX2_fill 13 = .ok (.invokevirtual 25, 3) := by decide +kernel
theorem dX2_fill_16 : decode cX2_fill 16 = .ok (.aload_n 0, 1) := by decide +kernel
theorem dX2_fill_17 : decode cX2_fill 17 = .ok (.invokevirtual 28, 3) := by decide +kernel
theorem dX2_fill_20 : decode cX2_fill 20 = .ok (.return_, 1) := by decide +kernel
theorem dX2_numberAt_0 : decode cX2_numberAt 0 = .ok (.iload_n 1, 1) := by decide +kernel
theorem dX2_numberAt_1 : decode cX2_numberAt 1 = .ok (.ifCond .ne 10, 3) := by decide +kernel
theorem dX2_numberAt_4 : decode cX2_numberAt 4 = .ok (.aload_n 0, 1) := by decide +kernel
theorem dX2_numberAt_5 : decode cX2_numberAt 5 = .ok (.getfield 31, 3) := by decide +kernel
theorem dX2_numberAt_8 : decode cX2_numberAt 8 = .ok (.goto 55, 3) := by decide +kernel
theorem dX2_numberAt_11 : decode cX2_numberAt 11 = .ok (.iload_n 1, 1) := by decide +kernel
theorem dX2_numberAt_12 : decode cX2_numberAt 12 = .ok (.iconst 1, 1) := by decide +kernel
theorem dX2_numberAt_13 : decode cX2_numberAt 13 = .ok (.if_icmp .ne 10, 3) := by decide +kernel
theorem dX2_numberAt_16 : decode cX2_numberAt 16 = .ok (.aload_n 0, 1) := by decide +kernel
theorem dX2_numberAt_17 : decode cX2_numberAt 17 = .ok (.getfield 35, 3) := by decide +kernel
theorem dX2_numberAt_20 : decode cX2_numberAt 20 = .ok (.goto 43, 3) := by decide +kernel
theorem dX2_numberAt_23 : decode cX2_numberAt 23 = .ok (.iload_n 1, 1) := by decide +kernel
theorem dX2_numberAt_24 : decode cX2_numberAt 24 = .ok (.iconst 2, 1) := by decide +kernel
theorem dX2_numberAt_25 : decode cX2_numberAt 25 = .ok (.if_icmp .ne 10, 3) := by decide +kernel
theorem dX2_numberAt_28 : decode cX2_numberAt 28 = .ok (.aload_n 0, 1) := by decide +kernel
theorem dX2_numberAt_29 : decode cX2_numberAt 29 = .ok (.getfield 38, 3) := by decide +kernel
theorem dX2_numberAt_32 : decode cX2_numberAt 32 = .ok (.goto 31, 3) := by decide +kernel
theorem dX2_numberAt_35 : decode cX2_numberAt 35 = .ok (.iload_n 1, 1) := by decide +kernel
theorem dX2_numberAt_36 : decode cX2_numberAt 36 = .ok (.iconst 3, 1) := by decide +kernel
theorem dX2_numberAt_37 : decode cX2_numberAt 37 = .ok (.if_icmp .ne 10, 3) := by decide +kernel
theorem dX2_numberAt_40 : decode cX2_numberAt 40 = .ok (.aload_n 0, 1) := by decide +kernel
theorem dX2_numberAt_41 : decode cX2_numberAt 41 = .ok (.getfield 41, 3) := by decide +kernel
theorem dX2_numberAt_44 : decode cX2_numberAt 44 = .ok (.goto 19, 3) := by decide +kernel
theorem dX2_numberAt_47 : decode cX2_numberAt 47 = .ok (.iload_n 1, 1) := by decide +kernel
theorem dX2_numberAt_48 : decode cX2_numberAt 48 = .ok (.iconst 4, 1) := by decide +kernel
theorem dX2_numberAt_49 : decode cX2_numberAt 49 = .ok (.if_icmp .ne 10, 3) := by decide +kernel
theorem dX2_numberAt_52 : decode cX2_numberAt 52 = .ok (.aload_n 0, 1) := by decide +kernel
theorem dX2_numberAt_53 : decode cX2_numberAt 53 = .ok (.getfield 44, 3) := by decide +kernel
theorem dX2_numberAt_56 : decode cX2_numberAt 56 = .ok (.goto 7, 3) := by decide +kernel
theorem dX2_numberAt_59 : decode cX2_numberAt 59 = .ok (.aload_n 0, 1) := by decide +kernel
theorem dX2_numberAt_60 : decode cX2_numberAt 60 = .ok (.getfield 47, 3) := by decide +kernel
theorem dX2_numberAt_63 : decode cX2_numberAt 63 = .ok (.ireturn, 1) := by decide +kernel
theorem dX2_seekFirst_0 : decode cX2_seekFirst 0 = .ok (.iconst 1, 1) := by decide +kernel
theorem dX2_seekFirst_1 : decode cX2_seekFirst 1 = .ok (.istore_n 1, 1) := by decide +kernel
theorem dX2_seekFirst_2 : decode cX2_seekFirst 2 = .ok (.iload_n 1, 1) := by decide +kernel
theorem dX2_seekFirst_3 : decode cX2_seekFirst 3 = .ok (.sipush 300, 3) := by decide +kernel
theorem dX2_seekFirst_6 : decode cX2_seekFirst 6 = .ok (.if_icmp .gt 32, 3) := by decide +kernel
theorem dX2_seekFirst_9 : decode cX2_seekFirst 9 = .ok (.aload_n 0, 1) := by decide +kernel
theorem dX2_seekFirst_10 : decode cX2_seekFirst 10 = .ok (.getfield 12, 3) := by decide +kernel
theorem dX2_seekFirst_13 : decode cX2_seekFirst 13 = .ok (.iload_n 1, 1) := by decide +kernel
theorem dX2_seekFirst_14 : decode cX2_seekFirst 14 = .ok (.i2l, 1) := by decide +kernel
theorem dX2_seekFirst_15 : decode cX2_seekFirst 15 = .ok (.lconst 0, 1) := by decide +kernel
theorem dX2_seekFirst_16 : decode cX2_seekFirst 16 = .ok (.lconst 0, 1) := by decide +kernel
theorem dX2_seekFirst_17 : decode cX2_seekFirst 17 = .ok (.invokevirtual 50, 3) := by decide +kernel
theorem dX2_seekFirst_20 : decode cX2_seekFirst 20 = .ok (.ifCond .ne 6, 3) := by decide +kernel
theorem dX2_seekFirst_23 : decode cX2_seekFirst 23 = .ok (.goto 9, 3) := by decide +kernel
theorem dX2_seekFirst_26 : decode cX2_seekFirst 26 = .ok (.aload_n 0, 1) := by decide +kernel
theorem dX2_seekFirst_27 : decode cX2_seekFirst 27 = .ok (.iload_n 1, 1) := by decide +kernel
theorem dX2_seekFirst_28 : decode cX2_seekFirst 28 = .ok (.putfield 31, 3) := by decide +kernel
theorem dX2_seekFirst_31 : decode cX2_seekFirst 31 = .ok (.return_, 1) := by decide +kernel
theorem dX2_seekFirst_32 : decode cX2_seekFirst 32 = .ok (.iinc 1 1, 3) := by decide +kernel
theorem dX2_seekFirst_35 : decode cX2_seekFirst 35 = .ok (.goto (-33), 3) := by decide +kernel
theorem dX2_seekFirst_38 : decode cX2_seekFirst 38 = .ok (.return_, 1) := by decide +kernel
theorem dX2_seekSecond_0 : decode cX2_seekSecond 0 = .ok (.iconst 1, 1) := by decide +kernel
theorem dX2_seekSecond_1 : decode cX2_seekSecond 1 = .ok (.istore_n 1, 1) := by decide +kernel
theorem dX2_seekSecond_2 : decode cX2_seekSecond 2 = .ok (.iload_n 1, 1) := by decide +kernel
theorem dX2_seekSecond_3 : decode cX2_seekSecond 3 = .ok (.sipush 300, 3) := by decide +kernel
theorem dX2_seekSecond_6 : decode cX2_seekSecond 6 = .ok (.if_icmp .gt 54, 3) := by decide +kernel
theorem dX2_seekSecond_9 : decode cX2_seekSecond 9 = .ok (.iconst 0, 1) := by decide +kernel
theorem dX2_seekSecond_10 : decode cX2_seekSecond 10 = .ok (.istore_n 2, 1) := by decide +kernel
theorem dX2_seekSecond_11 : decode cX2_seekSecond 11 = .ok (.iload_n 2, 1) := by decide +kernel
theorem dX2_seekSecond_12 : decode cX2_seekSecond 12 = .ok (.aload_n 0, 1) := by decide +kernel
theorem dX2_seekSecond_13 : decode cX2_seekSecond 13 = .ok (.getfield 31, 3) := by decide +kernel
theorem dX2_seekSecond_16 : decode cX2_seekSecond 16 = .ok (.if_icmp .ge 38, 3) := by decide +kernel
theorem dX2_seekSecond_19 : decode cX2_seekSecond 19 = .ok (.aload_n 0, 1) := by decide +kernel
theorem dX2_seekSecond_20 : decode cX2_seekSecond 20 = .ok (.getfield 12, 3) := by decide +kernel
theorem dX2_seekSecond_23 : decode cX2_seekSecond 23 = .ok (.iload_n 2, 1) := by decide +kernel
theorem dX2_seekSecond_24 : decode cX2_seekSecond 24 = .ok (.i2l, 1) := by decide +kernel
theorem dX2_seekSecond_25 : decode cX2_seekSecond 25 = .ok (.iload_n 1, 1) := by decide +kernel
theorem dX2_seekSecond_26 : decode cX2_seekSecond 26 = .ok (.i2l, 1) := by decide +kernel
theorem dX2_seekSecond_27 : decode cX2_seekSecond 27 = .ok (.lconst 0, 1) := by decide +kernel
theorem dX2_seekSecond_28 : decode cX2_seekSecond 28 = .ok (.invokevirtual 50, 3) := by decide +kernel
theorem dX2_seekSecond_31 : decode cX2_seekSecond 31 = .ok (.ifCond .ne 6, 3) := by decide +kernel
theorem dX2_seekSecond_34 : decode cX2_seekSecond 34 = .ok (.goto 14, 3) := by decide +kernel
theorem dX2_seekSecond_37 : decode cX2_seekSecond 37 = .ok (.aload_n 0, 1) := by decide +kernel
theorem dX2_seekSecond_38 : decode cX2_seekSecond 38 = .ok (.iload_n 2, 1) := by decide +kernel
theorem dX2_seekSecond_39 : decode cX2_seekSecond 39 = .ok (.putfield 35, 3) := by decide +kernel
theorem dX2_seekSecond_42 : decode cX2_seekSecond 42 = .ok (.aload_n 0, 1) := by decide +kernel
theorem dX2_seekSecond_43 : decode cX2_seekSecond 43 = .ok (.iload_n 1, 1) := by decide +kernel
theorem dX2_seekSecond_44 : decode cX2_seekSecond 44 = .ok (.putfield 38, 3) := by decide +kernel
theorem dX2_seekSecond_47 : decode cX2_seekSecond 47 = .ok (.return_, 1) := by decide +kernel
theorem dX2_seekSecond_48 : decode cX2_seekSecond 48 = .ok (.iinc 2 1, 3) := by decide +kernel
theorem dX2_seekSecond_51 : decode cX2_seekSecond 51 = .ok (.goto (-40), 3) := by decide +kernel
theorem dX2_seekSecond_54 : decode cX2_seekSecond 54 = .ok (.iinc 1 1, 3) := by decide +kernel
theorem dX2_seekSecond_57 : decode cX2_seekSecond 57 = .ok (.goto (-55), 3) := by decide +kernel
theorem dX2_seekSecond_60 : decode cX2_seekSecond 60 = .ok (.return_, 1) := by decide +kernel
theorem dX2_seekThird_0 : decode cX2_seekThird 0 = .ok (.iconst 1, 1) := by decide +kernel
theorem dX2_seekThird_1 : decode cX2_seekThird 1 = .ok (.istore_n 1, 1) := by decide +kernel
theorem dX2_seekThird_2 : decode cX2_seekThird 2 = .ok (.iload_n 1, 1) := by decide +kernel
theorem dX2_seekThird_3 : decode cX2_seekThird 3 = .ok (.sipush 300, 3) := by decide +kernel
theorem dX2_seekThird_6 : decode cX2_seekThird 6 = .ok (.if_icmp .gt 76, 3) := by decide +kernel
theorem dX2_seekThird_9 : decode cX2_seekThird 9 = .ok (.iconst 0, 1) := by decide +kernel
theorem dX2_seekThird_10 : decode cX2_seekThird 10 = .ok (.istore_n 2, 1) := by decide +kernel
theorem dX2_seekThird_11 : decode cX2_seekThird 11 = .ok (.iload_n 2, 1) := by decide +kernel
theorem dX2_seekThird_12 : decode cX2_seekThird 12 = .ok (.aload_n 0, 1) := by decide +kernel
theorem dX2_seekThird_13 : decode cX2_seekThird 13 = .ok (.getfield 38, 3) := by decide +kernel
theorem dX2_seekThird_16 : decode cX2_seekThird 16 = .ok (.if_icmp .ge 60, 3) := by decide +kernel
theorem dX2_seekThird_19 : decode cX2_seekThird 19 = .ok (.iconst 0, 1) := by decide +kernel
theorem dX2_seekThird_20 : decode cX2_seekThird 20 = .ok (.istore_n 3, 1) := by decide +kernel
theorem dX2_seekThird_21 : decode cX2_seekThird 21 = .ok (.iload_n 3, 1) := by decide +kernel
theorem dX2_seekThird_22 : decode cX2_seekThird 22 = .ok (.aload_n 0, 1) := by decide +kernel
theorem dX2_seekThird_23 : decode cX2_seekThird 23 = .ok (.getfield 31, 3) := by decide +kernel
theorem dX2_seekThird_26 : decode cX2_seekThird 26 = .ok (.if_icmp .ge 44, 3) := by decide +kernel
theorem dX2_seekThird_29 : decode cX2_seekThird 29 = .ok (.aload_n 0, 1) := by decide +kernel
theorem dX2_seekThird_30 : decode cX2_seekThird 30 = .ok (.getfield 12, 3) := by decide +kernel
theorem dX2_seekThird_33 : decode cX2_seekThird 33 = .ok (.iload_n 3, 1) := by decide +kernel
theorem dX2_seekThird_34 : decode cX2_seekThird 34 = .ok (.i2l, 1) := by decide +kernel
theorem dX2_seekThird_35 : decode cX2_seekThird 35 = .ok (.iload_n 2, 1) := by decide +kernel
theorem dX2_seekThird_36 : decode cX2_seekThird 36 = .ok (.i2l, 1) := by decide +kernel
theorem dX2_seekThird_37 : decode cX2_seekThird 37 = .ok (.iload_n 1, 1) := by decide +kernel
theorem dX2_seekThird_38 : decode cX2_seekThird 38 = .ok (.i2l, 1) := by decide +kernel
theorem dX2_seekThird_39 : decode cX2_seekThird 39 = .ok (.invokevirtual 50, 3) := by decide +kernel
theorem dX2_seekThird_42 : decode cX2_seekThird 42 = .ok (.ifCond .ne 6, 3) := by decide +kernel
theorem dX2_seekThird_45 : decode cX2_seekThird 45 = .ok (.goto 19, 3) := by decide +kernel
theorem dX2_seekThird_48 : decode cX2_seekThird 48 = .ok (.aload_n 0, 1) := by decide +kernel
theorem dX2_seekThird_49 : decode cX2_seekThird 49 = .ok (.iload_n 3, 1) := by decide +kernel
theorem dX2_seekThird_50 : decode cX2_seekThird 50 = .ok (.putfield 41, 3) := by decide +kernel
theorem dX2_seekThird_53 : decode cX2_seekThird 53 = .ok (.aload_n 0, 1) := by decide +kernel
theorem dX2_seekThird_54 : decode cX2_seekThird 54 = .ok (.iload_n 2, 1) := by decide +kernel
theorem dX2_seekThird_55 : decode cX2_seekThird 55 = .ok (.putfield 44, 3) := by decide +kernel
theorem dX2_seekThird_58 : decode cX2_seekThird 58 = .ok (.aload_n 0, 1) := by decide +kernel
theorem dX2_seekThird_59 : decode cX2_seekThird 59 = .ok (.iload_n 1, 1) := by decide +kernel
theorem dX2_seekThird_60 : decode cX2_seekThird 60 = .ok (.putfield 47, 3) := by decide +kernel
theorem dX2_seekThird_63 : decode cX2_seekThird 63 = .ok (.return_, 1) := by decide +kernel
theorem dX2_seekThird_64 : decode cX2_seekThird 64 = .ok (.iinc 3 1, 3) := by decide +kernel
theorem dX2_seekThird_67 : decode cX2_seekThird 67 = .ok (.goto (-46), 3) := by decide +kernel
theorem dX2_seekThird_70 : decode cX2_seekThird 70 = .ok (.iinc 2 1, 3) := by decide +kernel
theorem dX2_seekThird_73 : decode cX2_seekThird 73 = .ok (.goto (-62), 3) := by decide +kernel
theorem dX2_seekThird_76 : decode cX2_seekThird 76 = .ok (.iinc 1 1, 3) := by decide +kernel
theorem dX2_seekThird_79 : decode cX2_seekThird 79 = .ok (.goto (-77), 3) := by decide +kernel
theorem dX2_seekThird_82 : decode cX2_seekThird 82 = .ok (.return_, 1) := by decide +kernel
theorem dX3_init_0 : decode cX3_init 0 = .ok (.aload_n 0, 1) := by decide +kernel
theorem dX3_init_1 : decode cX3_init 1 = .ok (.invokespecial 3, 3) := by decide +kernel
theorem dX3_init_4 : decode cX3_init 4 = .ok (.aload_n 0, 1) := by decide +kernel
theorem dX3_init_5 : decode cX3_init 5 = .ok (.new 9, 3) := by decide +kernel
theorem dX3_init_8 : decode cX3_init 8 = .ok (.dup, 1) := by decide +kernel
theorem dX3_init_9 : decode cX3_init 9 = .ok (.invokespecial 11, 3) := by decide +kernel
theorem dX3_init_12 : decode cX3_init 12 = .ok (.putfield 12, 3) := by decide +kernel
theorem dX3_init_15 : decode cX3_init 15 = .ok (.aload_n 0, 1) := by decide +kernel
theorem dX3_init_16 : decode cX3_init 16 = .ok (.new 9, 3) := by decide +kernel
theorem dX3_init_19 : decode cX3_init 19 = .ok (.dup, 1) := by decide +kernel
theorem dX3_init_20 : decode cX3_init 20 = .ok (.invokespecial 11, 3) := by decide +kernel
theorem dX3_init_23 : decode cX3_init 23 = .ok (.putfield 18, 3) := by decide +kernel
theorem dX3_init_26 : decode cX3_init 26 = .ok (.aload_n 0, 1) := by decide +kernel
theorem dX3_init_27 : decode cX3_init 27 = .ok (.new 9, 3) := by decide +kernel
theorem dX3_init_30 : decode cX3_init 30 = .ok (.dup, 1) := by decide +kernel
theorem dX3_init_31 : decode cX3_init 31 = .ok (.invokespecial 11, 3) := by decide +kernel
theorem dX3_init_34 : decode cX3_init 34 = .ok (.putfield 21, 3) := by decide +kernel
theorem dX3_init_37 : decode cX3_init 37 = .ok (.aload_n 0, 1) := by decide +kernel
theorem dX3_init_38 : decode cX3_init 38 = .ok (.new 9, 3) := by decide +kernel
theorem dX3_init_41 : decode cX3_init 41 = .ok (.dup, 1) := by decide +kernel
theorem dX3_init_42 : decode cX3_init 42 = .ok (.invokespecial 11, 3) := by decide +kernel
theorem dX3_init_45 : decode cX3_init 45 = .ok (.putfield 24, 3) := by decide +kernel
theorem dX3_init_48 : decode cX3_init 48 = .ok (.return_, 1) := by decide +kernel
theorem dX3_divide_0 : decode cX3_divide 0 = .ok (.aload_n 0, 1) := by decide +kernel
theorem dX3_divide_1 : decode cX3_divide 1 = .ok (.getfield 21, 3) := by decide +kernel
theorem dX3_divide_4 : decode cX3_divide 4 = .ok (.aload_n 2, 1) := by decide +kernel
theorem dX3_divide_5 : decode cX3_divide 5 = .ok (.invokevirtual 27, 3) := by decide +kernel
theorem dX3_divide_8 : decode cX3_divide 8 = .ok (.iload_n 3, 1) := by decide +kernel
theorem dX3_divide_9 : decode cX3_divide 9 = .ok (.ifCond .ne 18, 3) := by decide +kernel
theorem dX3_divide_12 : decode cX3_divide 12 = .ok (.aload_n 0, 1) := by decide +kernel
theorem dX3_divide_13 : decode cX3_divide 13 = .ok (.getfield 21, 3) := by decide +kernel
theorem dX3_divide_16 : decode cX3_divide 16 = .ok (.aload_n 0, 1) := by decide +kernel
theorem dX3_divide_17 : decode cX3_divide 17 = .ok (.getfield 21, 3) := by decide +kernel
theorem dX3_divide_20 : decode cX3_divide 20 = .ok (.aload_n 1, 1) := by decide +kernel
theorem dX3_divide_21 : decode cX3_divide 21 = .ok (.invokevirtual 31, 3) := by decide +kernel
theorem dX3_divide_24 : decode cX3_divide 24 = .ok (.goto 15, 3) := by decide +kernel
theorem dX3_divide_27 : decode cX3_divide 27 = .ok (.aload_n 0, 1) := by decide +kernel
theorem dX3_divide_28 : decode cX3_divide 28 = .ok (.getfield 21, 3) := by decide +kernel
theorem dX3_divide_31 : decode cX3_divide 31 = .ok (.aload_n 1, 1) := by decide +kernel
theorem dX3_divide_32 : decode cX3_divide 32 = .ok (.aload_n 0, 1) := by decide +kernel
theorem dX3_divide_33 : decode cX3_divide 33 = .ok (.getfield 21, 3) := by decide +kernel
theorem dX3_divide_36 : decode cX3_divide 36 = .ok (.invokevirtual 31, 3) := by decide +kernel
theorem dX3_divide_39 : decode cX3_divide 39 = .ok (.aload_n 2, 1) := by decide +kernel
theorem dX3_divide_40 : decode cX3_divide 40 = .ok (.invokevirtual 35, 3) := by decide +kernel
theorem dX3_divide_43 : decode cX3_divide 43 = .ok (.lstore 4, 2) := by decide +kernel
theorem dX3_divide_45 : decode cX3_divide 45 = .ok (.aload_n 0, 1) := by decide +kernel
theorem dX3_divide_46 : decode cX3_divide 46 = .ok (.getfield 21, 3) := by decide +kernel
theorem dX3_divide_49 : decode cX3_divide 49 = .ok (.invokevirtual 39, 3) := by decide +kernel
theorem dX3_divide_52 : decode cX3_divide 52 = .ok (.lload 4, 2) := by decide +kernel
theorem dX3_divide_54 : decode cX3_divide 54 = .ok (.invokestatic 42, 3) := by decide +kernel
theorem dX3_divide_57 : decode cX3_divide 57 = .ok (.lstore 6, 2) := by decide +kernel
theorem dX3_divide_59 : decode cX3_divide 59 = .ok (.lload 6, 2) := by decide +kernel
theorem dX3_divide_61 : decode cX3_divide 61 = .ok (.lconst 0, 1) := by decide +kernel
theorem dX3_divide_62 : decode cX3_divide 62 = .ok (.lcmp, 1) := by decide +kernel
theorem dX3_divide_63 : decode cX3_divide 63 = .ok (.ifCond .ne 4, 3) := by decide +kernel
theorem dX3_divide_66 : decode cX3_divide 66 = .ok (.return_, 1) := by decide +kernel
theorem dX3_divide_67 : decode cX3_divide 67 = .ok (.aload_n 0, 1) := by decide +kernel
theorem dX3_divide_68 : decode cX3_divide 68 = .ok (.getfield 21, 3) := by decide +kernel
theorem dX3_divide_71 : decode cX3_divide 71 = .ok (.lload 6, 2) := by decide +kernel
theorem dX3_divide_73 : decode cX3_divide 73 = .ok (.invokevirtual 46, 3) := by decide +kernel
theorem dX3_divide_76 : decode cX3_divide 76 = .ok (.aload_n 0, 1) := by decide +kernel
theorem dX3_divide_77 : decode cX3_divide 77 = .ok (.lload 4, 2) := by decide +kernel
theorem dX3_divide_79 : decode cX3_divide 79 = .ok (.lload 6, 2) := by decide +kernel
theorem dX3_divide_81 : decode cX3_divide 81 = .ok (.ldiv, 1) := by decide +kernel
theorem dX3_divide_82 : decode cX3_divide 82 = .ok (.invokevirtual 50, 3) := by decide +kernel
theorem dX3_divide_85 : decode cX3_divide 85 = .ok (.iload_n 3, 1) := by decide +kernel
theorem dX3_divide_86 : decode cX3_divide 86 = .ok (.ifCond .ne 18, 3) := by decide +kernel
theorem dX3_divide_89 : decode cX3_divide 89 = .ok (.aload_n 0, 1) := by decide +kernel
theorem dX3_divide_90 : decode cX3_divide 90 = .ok (.getfield 18, 3) := by decide +kernel
theorem dX3_divide_93 : decode cX3_divide 93 = .ok (.aload_n 2, 1) := by decide +kernel
theorem dX3_divide_94 : decode cX3_divide 94 = .ok (.aload_n 0, 1) := by decide +kernel
theorem dX3_divide_95 : decode cX3_divide 95 = .ok (.getfield 12, 3) := by decide +kernel
theorem dX3_divide_98 : decode cX3_divide 98 = .ok (.invokevirtual 31, 3) := by decide +kernel
theorem dX3_divide_101 : decode cX3_divide 101 = .ok (.goto 15, 3) := by decide +kernel
theorem dX3_divide_104 : decode cX3_divide 104 = .ok (.aload_n 0, 1) := by decide +kernel
theorem dX3_divide_105 : decode cX3_divide 105 = .ok (.getfield 18, 3) := by decide +kernel
theorem dX3_divide_108 : decode cX3_divide 108 = .ok (.aload_n 0, 1) := by decide +kernel
theorem dX3_divide_109 : decode cX3_divide 109 = .ok (.getfield 12, 3) := by decide +kernel
theorem dX3_divide_112 : decode cX3_divide 112 = .ok (.aload_n 2, 1) := by decide +kernel
theorem dX3_divide_113 : decode cX3_divide 113 = .ok (.invokevirtual 31, 3) := by decide +kernel
theorem dX3_divide_116 : decode cX3_divide 116 = .ok (.aload_n 0, 1) := by decide +kernel
theorem dX3_divide_117 : decode cX3_divide 117 = .ok (.getfield 18, 3) := by decide +kernel
theorem dX3_divide_120 : decode cX3_divide 120 = .ok (.aload_n 1, 1) := by decide +kernel
theorem dX3_divide_121 : decode cX3_divide 121 = .ok (.aload_n 0, 1) := by decide +kernel
theorem dX3_divide_122 : decode cX3_divide 122 = .ok (.getfield 18, 3) := by decide +kernel
theorem dX3_divide_125 : decode cX3_divide 125 = .ok (.invokevirtual 53, 3) := by decide +kernel
theorem dX3_divide_128 : decode cX3_divide 128 = .ok (.return_, 1) := by decide +kernel
theorem dX3_roundFraction_0 : decode cX3_roundFraction 0 = .ok (.lload_n 1, 1) := by decide +kernel
theorem dX3_roundFraction_1 : decode cX3_roundFraction 1 = .ok (.lconst 0, 1) := by decide +kernel
theorem dX3_roundFraction_2 : decode cX3_roundFraction 2 = .ok (.lcmp, 1) := by decide +kernel
theorem dX3_roundFraction_3 : decode cX3_roundFraction 3 = .ok (.ifCond .ne 4, 3) := by decide +kernel
theorem dX3_roundFraction_6 : decode cX3_roundFraction 6 = .ok (.return_, 1) := by decide +kernel
theorem dX3_roundFraction_7 : decode cX3_roundFraction 7 = .ok (.aload_n 0, 1) := by decide +kernel
theorem dX3_roundFraction_8 : decode cX3_roundFraction 8 = .ok (.getfield 21, 3) := by decide +kernel
theorem dX3_roundFraction_11 : decode cX3_roundFraction 11 = .ok (.astore_n 3, 1) := by decide +kernel
theorem dX3_roundFraction_12 : decode cX3_roundFraction 12 = .ok (.aload_n 0, 1) := by decide +kernel
theorem dX3_roundFraction_13 : decode cX3_roundFraction 13 = .ok (.getfield 12, 3) := by decide +kernel
theorem dX3_roundFraction_16 : decode cX3_roundFraction 16 = .ok (.aload_n 3, 1) := by decide +kernel
theorem dX3_roundFraction_17 : decode cX3_roundFraction 17 = .ok (.getfield 56, 3) := by decide +kernel
theorem dX3_roundFraction_20 : decode cX3_roundFraction 20 = .ok (.lload_n 1, 1) := by decide +kernel
theorem dX3_roundFraction_21 : decode cX3_roundFraction 21 = .ok (.invokestatic 60, 3) := by decide +kernel
theorem dX3_roundFraction_24 : decode cX3_roundFraction 24 = .ok (.aload_n 3, 1) := by decide +kernel
theorem dX3_roundFraction_25 : decode cX3_roundFraction 25 = .ok (.getfield 63, 3) := by decide +kernel
theorem dX3_roundFraction_28 : decode cX3_roundFraction 28 = .ok (.lload_n 1, 1) := by decide +kernel
theorem dX3_roundFraction_29 : decode cX3_roundFraction 29 = .ok (.invokestatic 60, 3) := by decide +kernel
theorem dX3_roundFraction_32 : decode cX3_roundFraction 32 = .ok (.aload_n 3, 1) := by decide +kernel
theorem dX3_roundFraction_33 : decode cX3_roundFraction 33 = .ok (.getfield 66, 3) := by decide +kernel
theorem dX3_roundFraction_36 : decode cX3_roundFraction 36 = .ok (.lload_n 1, 1) := by decide +kernel
theorem dX3_roundFraction_37 : decode cX3_roundFraction 37 = .ok (.invokestatic 60, 3) := by decide +kernel
theorem dX3_roundFraction_40 : decode cX3_roundFraction 40 = .ok (.aload_n 3, 1) := by decide +kernel
theorem dX3_roundFraction_41 : decode cX3_roundFraction 41 = .ok (.getfield 69, 3) := by decide +kernel
theorem dX3_roundFraction_44 : decode cX3_roundFraction 44 = .ok (.lload_n 1, 1) := by decide +kernel
theorem dX3_roundFraction_45 : decode cX3_roundFraction 45 = .ok (.invokestatic 60, 3) := by decide +kernel
theorem dX3_roundFraction_48 : decode cX3_roundFraction 48 = .ok (.invokevirtual 72, 3) := by decide +kernel
theorem dX3_roundFraction_51 : decode cX3_roundFraction 51 = .ok (.aload_n 0, 1) := by decide +kernel
theorem dX3_roundFraction_52 : decode cX3_roundFraction 52 = .ok (.getfield 24, 3) := by decide +kernel
theorem dX3_roundFraction_55 : decode cX3_roundFraction 55 = .ok (.aload_n 3, 1) := by decide +kernel
theorem dX3_roundFraction_56 : decode cX3_roundFraction 56 = .ok (.getfield 56, 3) := by decide +kernel
theorem dX3_roundFraction_59 : decode cX3_roundFraction 59 = .ok (.lload_n 1, 1) := by decide +kernel
theorem dX3_roundFraction_60 : decode cX3_roundFraction 60 = .ok (.invokestatic 76, 3) := by decide +kernel
theorem dX3_roundFraction_63 : decode cX3_roundFraction 63 = .ok (.aload_n 3, 1) := by decide +kernel
theorem dX3_roundFraction_64 : decode cX3_roundFraction 64 = .ok (.getfield 63, 3) := by decide +kernel
theorem dX3_roundFraction_67 : decode cX3_roundFraction 67 = .ok (.lload_n 1, 1) := by decide +kernel
theorem dX3_roundFraction_68 : decode cX3_roundFraction 68 = .ok (.invokestatic 76, 3) := by decide +kernel
theorem dX3_roundFraction_71 : decode cX3_roundFraction 71 = .ok (.aload_n 3, 1) := by decide +kernel
theorem dX3_roundFraction_72 : decode cX3_roundFraction 72 = .ok (.getfield 66, 3) := by decide +kernel
theorem dX3_roundFraction_75 : decode cX3_roundFraction 75 = .ok (.lload_n 1, 1) := by decide +kernel
theorem dX3_roundFraction_76 : decode cX3_roundFraction 76 = .ok (.invokestatic 76, 3) := by decide +kernel
theorem dX3_roundFraction_79 : decode cX3_roundFraction 79 = .ok (.aload_n 3, 1) := by decide +kernel
theorem dX3_roundFraction_80 : decode cX3_roundFraction 80 = .ok (.getfield 69, 3) := by decide +kernel
theorem dX3_roundFraction_83 : decode cX3_roundFraction 83 = .ok (.lload_n 1, 1) := by decide +kernel
theorem dX3_roundFraction_84 : decode cX3_roundFraction 84 = .ok (.invokestatic 76, 3) := by decide +kernel
theorem dX3_roundFraction_87 : decode cX3_roundFraction 87 = .ok (.invokevirtual 72, 3) := by decide +kernel
theorem dX3_roundFraction_90 : decode cX3_roundFraction 90 = .ok (.aload_n 0, 1) := by decide +kernel
theorem dX3_roundFraction_91 : decode cX3_roundFraction 91 = .ok (.aload_n 0, 1) := by decide +kernel
theorem dX3_roundFraction_92 : decode cX3_roundFraction 92 = .ok (.getfield 12, 3) := by decide +kernel
theorem dX3_roundFraction_95 : decode cX3_roundFraction 95 = .ok (.lload_n 1, 1) := by decide +kernel
theorem dX3_roundFraction_96 : decode cX3_roundFraction 96 = .ok (.invokevirtual 79, 3) := by decide +kernel
theorem dX3_roundFraction_99 : decode cX3_roundFraction 99 = .ok (.aload_n 0, 1) := by decide +kernel
theorem dX3_roundFraction_100 : decode cX3_roundFraction 100 = .ok (.aload_n 0, 1) := by decide +kernel
theorem dX3_roundFraction_101 : decode cX3_roundFraction 101 = .ok (.getfield 24, 3) := by decide +kernel
theorem dX3_roundFraction_104 : decode cX3_roundFraction 104 = .ok (.lload_n 1, 1) := by decide +kernel
theorem dX3_roundFraction_105 : decode cX3_roundFraction 105 = .ok (.invokevirtual 79, 3) := by decide +kernel
theorem dX3_roundFraction_108 : decode cX3_roundFraction 108 = .ok (.lcmp, 1) := by decide +kernel
theorem dX3_roundFraction_109 : decode cX3_roundFraction 109 = .ok (.ifCond .le 14, 3) := by decide +kernel
theorem dX3_roundFraction_112 : decode cX3_roundFraction 112 = .ok (.aload_n 0, 1) := by decide +kernel
theorem dX3_roundFraction_113 : decode cX3_roundFraction 113 = .ok (.getfield 12, 3) := by decide +kernel
theorem dX3_roundFraction_116 : decode cX3_roundFraction 116 = .ok (.aload_n 0, 1) := by decide +kernel
theorem dX3_roundFraction_117 : decode cX3_roundFraction 117 = .ok (.getfield 24, 3) := by decide +kernel
theorem dX3_roundFraction_120 : decode cX3_roundFraction 120 = .ok (.invokevirtual 83, 3) := by decide +kernel
theorem dX3_roundFraction_123 : decode cX3_roundFraction 123 = .ok (.return_, 1) := by decide +kernel
theorem dX3_nearest_0 : decode cX3_nearest 0 = .ok (.lload_n 2, 1) := by decide +kernel
theorem dX3_nearest_1 : decode cX3_nearest 1 = .ok (.lconst 0, 1) := by decide +kernel
theorem dX3_nearest_2 : decode cX3_nearest 2 = .ok (.lcmp, 1) := by decide +kernel
theorem dX3_nearest_3 : decode cX3_nearest 3 = .ok (.ifCond .ne 7, 3) := by decide +kernel
theorem dX3_nearest_6 : decode cX3_nearest 6 = .ok (.lconst 0, 1) := by decide +kernel
theorem dX3_nearest_7 : decode cX3_nearest 7 = .ok (.goto 18, 3) := by decide +kernel
theorem dX3_nearest_10 : decode cX3_nearest 10 = .ok (.ldc2_w 85, 3) := by decide +kernel
theorem dX3_nearest_13 : decode cX3_nearest 13 = .ok (.lload_n 0, 1) := by decide +kernel
theorem dX3_nearest_14 : decode cX3_nearest 14 = .ok (.lload_n 2, 1) := by decide +kernel
theorem dX3_nearest_15 : decode cX3_nearest 15 = .ok (.ladd, 1) := by decide +kernel
theorem dX3_nearest_16 : decode cX3_nearest 16 = .ok (.ldc2_w 85, 3) := by decide +kernel
theorem dX3_nearest_19 : decode cX3_nearest 19 = .ok (.lload_n 2, 1) := by decide +kernel
theorem dX3_nearest_20 : decode cX3_nearest 20 = .ok (.lmul, 1) := by decide +kernel
theorem dX3_nearest_21 : decode cX3_nearest 21 = .ok (.invokestatic 87, 3) := by decide +kernel
theorem dX3_nearest_24 : decode cX3_nearest 24 = .ok (.lmul, 1) := by decide +kernel
theorem dX3_nearest_25 : decode cX3_nearest 25 = .ok (.lreturn, 1) := by decide +kernel
theorem dX3_half_0 : decode cX3_half 0 = .ok (.lload_n 2, 1) := by decide +kernel
theorem dX3_half_1 : decode cX3_half 1 = .ok (.lconst 0, 1) := by decide +kernel
theorem dX3_half_2 : decode cX3_half 2 = .ok (.lcmp, 1) := by decide +kernel
theorem dX3_half_3 : decode cX3_half 3 = .ok (.ifCond .ne 7, 3) := by decide +kernel
theorem dX3_half_6 : decode cX3_half 6 = .ok (.lconst 0, 1) := by decide +kernel
theorem dX3_half_7 : decode cX3_half 7 = .ok (.goto 18, 3) := by decide +kernel
theorem dX3_half_10 : decode cX3_half 10 = .ok (.ldc2_w 85, 3) := by decide +kernel
theorem dX3_half_13 : decode cX3_half 13 = .ok (.lload_n 0, 1) := by decide +kernel
theorem dX3_half_14 : decode cX3_half 14 = .ok (.ldc2_w 85, 3) := by decide +kernel
theorem dX3_half_17 : decode cX3_half 17 = .ok (.lload_n 2, 1) := by decide +kernel
theorem dX3_half_18 : decode cX3_half 18 = .ok (.lmul, 1) := by decide +kernel
theorem dX3_half_19 : decode cX3_half 19 = .ok (.invokestatic 87, 3) := by decide +kernel
theorem dX3_half_22 : decode cX3_half 22 = .ok (.lmul, 1) := by decide +kernel
theorem dX3_half_23 : decode cX3_half 23 = .ok (.lconst 1, 1) := by decide +kernel
theorem dX3_half_24 : decode cX3_half 24 = .ok (.ladd, 1) := by decide +kernel
theorem dX3_half_25 : decode cX3_half 25 = .ok (.lreturn, 1) := by decide +kernel
theorem dX3_between_0 : decode cX3_between 0 = .ok (.aload_n 0, 1) := by decide +kernel
theorem dX3_between_1 : decode cX3_between 1 = .ok (.getfield 21, 3) := by decide +kernel
theorem dX3_between_4 : decode cX3_between 4 = .ok (.getfield 56, 3) := by decide +kernel
theorem dX3_between_7 : decode cX3_between 7 = .ok (.aload_n 1, 1) := by decide +kernel
theorem dX3_between_8 : decode cX3_between 8 = .ok (.getfield 56, 3) := by decide +kernel
theorem dX3_between_11 : decode cX3_between 11 = .ok (.lload_n 2, 1) := by decide +kernel
theorem dX3_between_12 : decode cX3_between 12 = .ok (.lmul, 1) := by decide +kernel
theorem dX3_between_13 : decode cX3_between 13 = .ok (.lsub, 1) := by decide +kernel
theorem dX3_between_14 : decode cX3_between 14 = .ok (.lstore 4, 2) := by decide +kernel
theorem dX3_between_16 : decode cX3_between 16 = .ok (.aload_n 0, 1) := by decide +kernel
theorem dX3_between_17 : decode cX3_between 17 = .ok (.getfield 21, 3) := by decide +kernel
theorem dX3_between_20 : decode cX3_between 20 = .ok (.getfield 63, 3) := by decide +kernel
theorem dX3_between_23 : decode cX3_between 23 = .ok (.aload_n 1, 1) := by decide +kernel
theorem dX3_between_24 : decode cX3_between 24 = .ok (.getfield 63, 3) := by decide +kernel
theorem dX3_between_27 : decode cX3_between 27 = .ok (.lload_n 2, 1) := by decide +kernel
theorem dX3_between_28 : decode cX3_between 28 = .ok (.lmul, 1) := by decide +kernel
theorem dX3_between_29 : decode cX3_between 29 = .ok (.lsub, 1) := by decide +kernel
theorem dX3_between_30 : decode cX3_between 30 = .ok (.lstore 6, 2) := by decide +kernel
theorem dX3_between_32 : decode cX3_between 32 = .ok (.aload_n 0, 1) := by decide +kernel
theorem dX3_between_33 : decode cX3_between 33 = .ok (.getfield 21, 3) := by decide +kernel
theorem dX3_between_36 : decode cX3_between 36 = .ok (.getfield 66, 3) := by decide +kernel
theorem dX3_between_39 : decode cX3_between 39 = .ok (.aload_n 1, 1) := by decide +kernel
theorem dX3_between_40 : decode cX3_between 40 = .ok (.getfield 66, 3) := by decide +kernel
theorem dX3_between_43 : decode cX3_between 43 = .ok (.lload_n 2, 1) := by decide +kernel
theorem dX3_between_44 : decode cX3_between 44 = .ok (.lmul, 1) := by decide +kernel
theorem dX3_between_45 : decode cX3_between 45 = .ok (.lsub, 1) := by decide +kernel
theorem dX3_between_46 : decode cX3_between 46 = .ok (.lstore 8, 2) := by decide +kernel
theorem dX3_between_48 : decode cX3_between 48 = .ok (.aload_n 0, 1) := by decide +kernel
theorem dX3_between_49 : decode cX3_between 49 = .ok (.getfield 21, 3) := by decide +kernel
theorem dX3_between_52 : decode cX3_between 52 = .ok (.getfield 69, 3) := by decide +kernel
theorem dX3_between_55 : decode cX3_between 55 = .ok (.aload_n 1, 1) := by decide +kernel
theorem dX3_between_56 : decode cX3_between 56 = .ok (.getfield 69, 3) := by decide +kernel
theorem dX3_between_59 : decode cX3_between 59 = .ok (.lload_n 2, 1) := by decide +kernel
theorem dX3_between_60 : decode cX3_between 60 = .ok (.lmul, 1) := by decide +kernel
theorem dX3_between_61 : decode cX3_between 61 = .ok (.lsub, 1) := by decide +kernel
theorem dX3_between_62 : decode cX3_between 62 = .ok (.lstore 10, 2) := by decide +kernel
theorem dX3_between_64 : decode cX3_between 64 = .ok (.lload 4, 2) := by decide +kernel
theorem dX3_between_66 : decode cX3_between 66 = .ok (.lload 4, 2) := by decide +kernel
theorem dX3_between_68 : decode cX3_between 68 = .ok (.lmul, 1) := by decide +kernel
theorem dX3_between_69 : decode cX3_between 69 = .ok (.lload 6, 2) := by decide +kernel
theorem dX3_between_71 : decode cX3_between 71 = .ok (.lload 6, 2) := by decide +kernel
theorem dX3_between_73 : decode cX3_between 73 = .ok (.lmul, 1) := by decide +kernel
theorem dX3_between_74 : decode cX3_between 74 = .ok (.ladd, 1) := by decide +kernel
theorem dX3_between_75 : decode cX3_between 75 = .ok (.lload 8, 2) := by decide +kernel
theorem dX3_between_77 : decode cX3_between 77 = .ok (.lload 8, 2) := by decide +kernel
theorem dX3_between_79 : decode cX3_between 79 = .ok (.lmul, 1) := by decide +kernel
theorem dX3_between_80 : decode cX3_between 80 = .ok (.ladd, 1) := by decide +kernel
theorem dX3_between_81 : decode cX3_between 81 = .ok (.lload 10, 2) := by decide +kernel
theorem dX3_between_83 : decode cX3_between 83 = .ok (.lload 10, 2) := by decide +kernel
theorem dX3_between_85 : decode cX3_between 85 = .ok (.lmul, 1) := by decide +kernel
theorem dX3_between_86 : decode cX3_between 86 = .ok (.ladd, 1) := by decide +kernel
theorem dX3_between_87 : decode cX3_between 87 = .ok (.lreturn, 1) := by decide +kernel
theorem dX4_init_0 : decode cX4_init 0 = .ok (.aload_n 0, 1) := by decide +kernel
theorem dX4_init_1 : decode cX4_init 1 = .ok (.invokespecial 3, 3) := by decide +kernel
theorem dX4_init_4 : decode cX4_init 4 = .ok (.return_, 1) := by decide +kernel
theorem dX4_become_0 : decode cX4_become 0 = .ok (.aload_n 0, 1) := by decide +kernel
theorem dX4_become_1 : decode cX4_become 1 = .ok (.lload_n 1, 1) := by decide +kernel
theorem dX4_become_2 : decode cX4_become 2 = .ok (.putfield 9, 3) := by decide +kernel
theorem dX4_become_5 : decode cX4_become 5 = .ok (.aload_n 0, 1) := by decide +kernel
theorem dX4_become_6 : decode cX4_become 6 = .ok (.lload_n 3, 1) := by decide +kernel
theorem dX4_become_7 : decode cX4_become 7 = .ok (.putfield 15, 3) := by decide +kernel
theorem dX4_become_10 : decode cX4_become 10 = .ok (.aload_n 0, 1) := by decide +kernel
theorem dX4_become_11 : decode cX4_become 11 = .ok (.lload 5, 2) := by decide +kernel
theorem dX4_become_13 : decode cX4_become 13 = .ok (.putfield 18, 3) := by decide +kernel
theorem dX4_become_16 : decode cX4_become 16 = .ok (.aload_n 0, 1) := by decide +kernel
theorem dX4_become_17 : decode cX4_become 17 = .ok (.lload 7, 2) := by decide +kernel
theorem dX4_become_19 : decode cX4_become 19 = .ok (.putfield 21, 3) := by decide +kernel
theorem dX4_become_22 : decode cX4_become 22 = .ok (.return_, 1) := by decide +kernel
theorem dX4_become__0 : decode cX4_become_ 0 = .ok (.aload_n 0, 1) := by decide +kernel
theorem dX4_become__1 : decode cX4_become_ 1 = .ok (.aload_n 1, 1) := by decide +kernel
theorem dX4_become__2 : decode cX4_become_ 2 = .ok (.getfield 9, 3) := by decide +kernel
theorem dX4_become__5 : decode cX4_become_ 5 = .ok (.aload_n 1, 1) := by decide +kernel
theorem dX4_become__6 : decode cX4_become_ 6 = .ok (.getfield 15, 3) := by decide +kernel
theorem dX4_become__9 : decode cX4_become_ 9 = .ok (.aload_n 1, 1) := by decide +kernel
theorem dX4_become__10 : decode cX4_become_ 10 = .ok (.getfield 18, 3) := by decide +kernel
theorem dX4_become__13 : decode cX4_become_ 13 = .ok (.aload_n 1, 1) := by decide +kernel
theorem dX4_become__14 : decode cX4_become_ 14 = .ok (.getfield 21, 3) := by decide +kernel
theorem dX4_become__17 : decode cX4_become_ 17 = .ok (.invokevirtual 24, 3) := by decide +kernel
theorem dX4_become__20 : decode cX4_become_ 20 = .ok (.return_, 1) := by decide +kernel
theorem dX4_becomeSum_0 : decode cX4_becomeSum 0 = .ok (.aload_n 0, 1) := by decide +kernel
theorem dX4_becomeSum_1 : decode cX4_becomeSum 1 = .ok (.aload_n 1, 1) := by decide +kernel
theorem dX4_becomeSum_2 : decode cX4_becomeSum 2 = .ok (.getfield 9, 3) := by decide +kernel
theorem dX4_becomeSum_5 : decode cX4_becomeSum 5 = .ok (.aload_n 2, 1) := by decide +kernel
theorem dX4_becomeSum_6 : decode cX4_becomeSum 6 = .ok (.getfield 9, 3) := by decide +kernel
theorem dX4_becomeSum_9 : decode cX4_becomeSum 9 = .ok (.ladd, 1) := by decide +kernel
theorem dX4_becomeSum_10 : decode cX4_becomeSum 10 = .ok (.aload_n 1, 1) := by decide +kernel
theorem dX4_becomeSum_11 : decode cX4_becomeSum 11 = .ok (.getfield 15, 3) := by decide +kernel
theorem dX4_becomeSum_14 : decode cX4_becomeSum 14 = .ok (.aload_n 2, 1) := by decide +kernel
theorem dX4_becomeSum_15 : decode cX4_becomeSum 15 = .ok (.getfield 15, 3) := by decide +kernel
theorem dX4_becomeSum_18 : decode cX4_becomeSum 18 = .ok (.ladd, 1) := by decide +kernel
theorem dX4_becomeSum_19 : decode cX4_becomeSum 19 = .ok (.aload_n 1, 1) := by decide +kernel
theorem dX4_becomeSum_20 : decode cX4_becomeSum 20 = .ok (.getfield 18, 3) := by decide +kernel
theorem dX4_becomeSum_23 : decode cX4_becomeSum 23 = .ok (.aload_n 2, 1) := by decide +kernel
theorem dX4_becomeSum_24 : decode cX4_becomeSum 24 = .ok (.getfield 18, 3) := by decide +kernel
theorem dX4_becomeSum_27 : decode cX4_becomeSum 27 = .ok (.ladd, 1) := by decide +kernel
theorem dX4_becomeSum_28 : decode cX4_becomeSum 28 = .ok (.aload_n 1, 1) := by decide +kernel
theorem dX4_becomeSum_29 : decode cX4_becomeSum 29 = .ok (.getfield 21, 3) := by decide +kernel
theorem dX4_becomeSum_32 : decode cX4_becomeSum 32 = .ok (.aload_n 2, 1) := by decide +kernel
theorem dX4_becomeSum_33 : decode cX4_becomeSum 33 = .ok (.getfield 21, 3) := by decide +kernel
theorem dX4_becomeSum_36 : decode cX4_becomeSum 36 = .ok (.ladd, 1) := by decide +kernel
theorem dX4_becomeSum_37 : decode cX4_becomeSum 37 = .ok (.invokevirtual 24, 3) := by decide +kernel
theorem dX4_becomeSum_40 : decode cX4_becomeSum 40 = .ok (.return_, 1) := by decide +kernel
theorem dX4_becomeDifference_0 : decode cX4_becomeDifference 0 = .ok (.aload_n 0, 1) := by decide +kernel
theorem dX4_becomeDifference_1 : decode cX4_becomeDifference 1 = .ok (.aload_n 1, 1) := by decide +kernel
theorem dX4_becomeDifference_2 : decode cX4_becomeDifference 2 = .ok (.getfield 9, 3) := by decide +kernel
theorem dX4_becomeDifference_5 : decode cX4_becomeDifference 5 = .ok (.aload_n 2, 1) := by decide +kernel
theorem dX4_becomeDifference_6 : decode cX4_becomeDifference 6 = .ok (.getfield 9, 3) := by decide +kernel
theorem dX4_becomeDifference_9 : decode cX4_becomeDifference 9 = .ok (.lsub, 1) := by decide +kernel
theorem dX4_becomeDifference_10 : decode cX4_becomeDifference 10 = .ok (.aload_n 1, 1) := by decide +kernel
theorem dX4_becomeDifference_11 : decode cX4_becomeDifference 11 = .ok (.getfield 15, 3) := by decide +kernel
theorem dX4_becomeDifference_14 : decode cX4_becomeDifference 14 = .ok (.aload_n 2, 1) := by decide +kernel
theorem dX4_becomeDifference_15 : decode cX4_becomeDifference 15 = .ok (.getfield 15, 3) := by decide +kernel
theorem dX4_becomeDifference_18 : decode cX4_becomeDifference 18 = .ok (.lsub, 1) := by decide +kernel
theorem dX4_becomeDifference_19 : decode cX4_becomeDifference 19 = .ok (.aload_n 1, 1) := by decide +kernel
theorem dX4_becomeDifference_20 : decode cX4_becomeDifference 20 = .ok (.getfield 18, 3) := by decide +kernel
theorem dX4_becomeDifference_23 : decode cX4_becomeDifference 23 = .ok (.aload_n 2, 1) := by decide +kernel
theorem dX4_becomeDifference_24 : decode cX4_becomeDifference 24 = .ok (.getfield 18, 3) := by decide +kernel
theorem dX4_becomeDifference_27 : decode cX4_becomeDifference 27 = .ok (.lsub, 1) := by decide +kernel
theorem dX4_becomeDifference_28 : decode cX4_becomeDifference 28 = .ok (.aload_n 1, 1) := by decide +kernel
theorem dX4_becomeDifference_29 : decode cX4_becomeDifference 29 = .ok (.getfield 21, 3) := by decide +kernel
theorem dX4_becomeDifference_32 : decode cX4_becomeDifference 32 = .ok (.aload_n 2, 1) := by decide +kernel
theorem dX4_becomeDifference_33 : decode cX4_becomeDifference 33 = .ok (.getfield 21, 3) := by decide +kernel
theorem dX4_becomeDifference_36 : decode cX4_becomeDifference 36 = .ok (.lsub, 1) := by decide +kernel
theorem dX4_becomeDifference_37 : decode cX4_becomeDifference 37 = .ok (.invokevirtual 24, 3) := by decide +kernel
theorem dX4_becomeDifference_40 : decode cX4_becomeDifference 40 = .ok (.return_, 1) := by decide +kernel
theorem dX4_becomeBack_0 : decode cX4_becomeBack 0 = .ok (.aload_n 0, 1) := by decide +kernel
theorem dX4_becomeBack_1 : decode cX4_becomeBack 1 = .ok (.aload_n 1, 1) := by decide +kernel
theorem dX4_becomeBack_2 : decode cX4_becomeBack 2 = .ok (.getfield 9, 3) := by decide +kernel
theorem dX4_becomeBack_5 : decode cX4_becomeBack 5 = .ok (.aload_n 1, 1) := by decide +kernel
theorem dX4_becomeBack_6 : decode cX4_becomeBack 6 = .ok (.getfield 15, 3) := by decide +kernel
theorem dX4_becomeBack_9 : decode cX4_becomeBack 9 = .ok (.lneg, 1) := by decide +kernel
theorem dX4_becomeBack_10 : decode cX4_becomeBack 10 = .ok (.aload_n 1, 1) := by decide +kernel
theorem dX4_becomeBack_11 : decode cX4_becomeBack 11 = .ok (.getfield 18, 3) := by decide +kernel
theorem dX4_becomeBack_14 : decode cX4_becomeBack 14 = .ok (.lneg, 1) := by decide +kernel
theorem dX4_becomeBack_15 : decode cX4_becomeBack 15 = .ok (.aload_n 1, 1) := by decide +kernel
theorem dX4_becomeBack_16 : decode cX4_becomeBack 16 = .ok (.getfield 21, 3) := by decide +kernel
theorem dX4_becomeBack_19 : decode cX4_becomeBack 19 = .ok (.lneg, 1) := by decide +kernel
theorem dX4_becomeBack_20 : decode cX4_becomeBack 20 = .ok (.invokevirtual 24, 3) := by decide +kernel
theorem dX4_becomeBack_23 : decode cX4_becomeBack 23 = .ok (.return_, 1) := by decide +kernel
theorem dX4_becomeProduct_0 : decode cX4_becomeProduct 0 = .ok (.aload_n 1, 1) := by decide +kernel
theorem dX4_becomeProduct_1 : decode cX4_becomeProduct 1 = .ok (.getfield 9, 3) := by decide +kernel
theorem dX4_becomeProduct_4 : decode cX4_becomeProduct 4 = .ok (.aload_n 2, 1) := by decide +kernel
theorem dX4_becomeProduct_5 : decode cX4_becomeProduct 5 = .ok (.getfield 9, 3) := by decide +kernel
theorem dX4_becomeProduct_8 : decode cX4_becomeProduct 8 = .ok (.lmul, 1) := by decide +kernel
theorem dX4_becomeProduct_9 : decode cX4_becomeProduct 9 = .ok (.aload_n 1, 1) := by decide +kernel
theorem dX4_becomeProduct_10 : decode cX4_becomeProduct 10 = .ok (.getfield 15, 3) := by decide +kernel
theorem dX4_becomeProduct_13 : decode cX4_becomeProduct 13 = .ok (.aload_n 2, 1) := by decide +kernel
theorem dX4_becomeProduct_14 : decode cX4_becomeProduct 14 = .ok (.getfield 15, 3) := by decide +kernel
theorem dX4_becomeProduct_17 : decode cX4_becomeProduct 17 = .ok (.lmul, 1) := by decide +kernel
theorem dX4_becomeProduct_18 : decode cX4_becomeProduct 18 = .ok (.lsub, 1) := by decide +kernel
theorem dX4_becomeProduct_19 : decode cX4_becomeProduct 19 = .ok (.aload_n 1, 1) := by decide +kernel
theorem dX4_becomeProduct_20 : decode cX4_becomeProduct 20 = .ok (.getfield 18, 3) := by decide +kernel
theorem dX4_becomeProduct_23 : decode cX4_becomeProduct 23 = .ok (.aload_n 2, 1) := by decide +kernel
theorem dX4_becomeProduct_24 : decode cX4_becomeProduct 24 = .ok (.getfield 18, 3) := by decide +kernel
theorem dX4_becomeProduct_27 : decode cX4_becomeProduct 27 = .ok (.lmul, 1) := by decide +kernel
theorem dX4_becomeProduct_28 : decode cX4_becomeProduct 28 = .ok (.lsub, 1) := by decide +kernel
theorem dX4_becomeProduct_29 : decode cX4_becomeProduct 29 = .ok (.aload_n 1, 1) := by decide +kernel
theorem dX4_becomeProduct_30 : decode cX4_becomeProduct 30 = .ok (.getfield 21, 3) := by decide +kernel
theorem dX4_becomeProduct_33 : decode cX4_becomeProduct 33 = .ok (.aload_n 2, 1) := by decide +kernel
theorem dX4_becomeProduct_34 : decode cX4_becomeProduct 34 = .ok (.getfield 21, 3) := by decide +kernel
theorem dX4_becomeProduct_37 : decode cX4_becomeProduct 37 = .ok (.lmul, 1) := by decide +kernel
theorem dX4_becomeProduct_38 : decode cX4_becomeProduct 38 = .ok (.lsub, 1) := by decide +kernel
theorem dX4_becomeProduct_39 : decode cX4_becomeProduct 39 = .ok (.lstore_n 3, 1) := by decide +kernel
theorem dX4_becomeProduct_40 : decode cX4_becomeProduct 40 = .ok (.aload_n 1, 1) := by decide +kernel
theorem dX4_becomeProduct_41 : decode cX4_becomeProduct 41 = .ok (.getfield 9, 3) := by decide +kernel
theorem dX4_becomeProduct_44 : decode cX4_becomeProduct 44 = .ok (.aload_n 2, 1) := by decide +kernel
theorem dX4_becomeProduct_45 : decode cX4_becomeProduct 45 = .ok (.getfield 15, 3) := by decide +kernel
theorem dX4_becomeProduct_48 : decode cX4_becomeProduct 48 = .ok (.lmul, 1) := by decide +kernel
theorem dX4_becomeProduct_49 : decode cX4_becomeProduct 49 = .ok (.aload_n 1, 1) := by decide +kernel
theorem dX4_becomeProduct_50 : decode cX4_becomeProduct 50 = .ok (.getfield 15, 3) := by decide +kernel
theorem dX4_becomeProduct_53 : decode cX4_becomeProduct 53 = .ok (.aload_n 2, 1) := by decide +kernel
theorem dX4_becomeProduct_54 : decode cX4_becomeProduct 54 = .ok (.getfield 9, 3) := by decide +kernel
theorem dX4_becomeProduct_57 : decode cX4_becomeProduct 57 = .ok (.lmul, 1) := by decide +kernel
theorem dX4_becomeProduct_58 : decode cX4_becomeProduct 58 = .ok (.ladd, 1) := by decide +kernel
theorem dX4_becomeProduct_59 : decode cX4_becomeProduct 59 = .ok (.aload_n 1, 1) := by decide +kernel
theorem dX4_becomeProduct_60 : decode cX4_becomeProduct 60 = .ok (.getfield 18, 3) := by decide +kernel
theorem dX4_becomeProduct_63 : decode cX4_becomeProduct 63 = .ok (.aload_n 2, 1) := by decide +kernel
theorem dX4_becomeProduct_64 : decode cX4_becomeProduct 64 = .ok (.getfield 21, 3) := by decide +kernel
theorem dX4_becomeProduct_67 : decode cX4_becomeProduct 67 = .ok (.lmul, 1) := by decide +kernel
theorem dX4_becomeProduct_68 : decode cX4_becomeProduct 68 = .ok (.ladd, 1) := by decide +kernel
theorem dX4_becomeProduct_69 : decode cX4_becomeProduct 69 = .ok (.aload_n 1, 1) := by decide +kernel
theorem dX4_becomeProduct_70 : decode cX4_becomeProduct 70 = .ok (.getfield 21, 3) := by decide +kernel
theorem dX4_becomeProduct_73 : decode cX4_becomeProduct 73 = .ok (.aload_n 2, 1) := by decide +kernel
theorem dX4_becomeProduct_74 : decode cX4_becomeProduct 74 = .ok (.getfield 18, 3) := by decide +kernel
theorem dX4_becomeProduct_77 : decode cX4_becomeProduct 77 = .ok (.lmul, 1) := by decide +kernel
theorem dX4_becomeProduct_78 : decode cX4_becomeProduct 78 = .ok (.lsub, 1) := by decide +kernel
theorem dX4_becomeProduct_79 : decode cX4_becomeProduct 79 = .ok (.lstore 5, 2) := by decide +kernel
theorem dX4_becomeProduct_81 : decode cX4_becomeProduct 81 = .ok (.aload_n 1, 1) := by decide +kernel
theorem dX4_becomeProduct_82 : decode cX4_becomeProduct 82 = .ok (.getfield 9, 3) := by decide +kernel
theorem dX4_becomeProduct_85 : decode cX4_becomeProduct 85 = .ok (.aload_n 2, 1) := by decide +kernel
theorem dX4_becomeProduct_86 : decode cX4_becomeProduct 86 = .ok (.getfield 18, 3) := by decide +kernel
theorem dX4_becomeProduct_89 : decode cX4_becomeProduct 89 = .ok (.lmul, 1) := by decide +kernel
theorem dX4_becomeProduct_90 : decode cX4_becomeProduct 90 = .ok (.aload_n 1, 1) := by decide +kernel
theorem dX4_becomeProduct_91 : decode cX4_becomeProduct 91 = .ok (.getfield 15, 3) := by decide +kernel
theorem dX4_becomeProduct_94 : decode cX4_becomeProduct 94 = .ok (.aload_n 2, 1) := by decide +kernel
theorem dX4_becomeProduct_95 : decode cX4_becomeProduct 95 = .ok (.getfield 21, 3) := by decide +kernel
theorem dX4_becomeProduct_98 : decode cX4_becomeProduct 98 = .ok (.lmul, 1) := by decide +kernel
theorem dX4_becomeProduct_99 : decode cX4_becomeProduct 99 = .ok (.lsub, 1) := by decide +kernel
theorem dX4_becomeProduct_100 : decode cX4_becomeProduct 100 = .ok (.aload_n 1, 1) := by decide +kernel
theorem dX4_becomeProduct_101 : decode cX4_becomeProduct 101 = .ok (.getfield 18, 3) := by decide +kernel
theorem dX4_becomeProduct_104 : decode cX4_becomeProduct 104 = .ok (.aload_n 2, 1) := by decide +kernel
theorem dX4_becomeProduct_105 : decode cX4_becomeProduct 105 = .ok (.getfield 9, 3) := by decide +kernel
theorem dX4_becomeProduct_108 : decode cX4_becomeProduct 108 = .ok (.lmul, 1) := by decide +kernel
theorem dX4_becomeProduct_109 : decode cX4_becomeProduct 109 = .ok (.ladd, 1) := by decide +kernel
theorem dX4_becomeProduct_110 : decode cX4_becomeProduct 110 = .ok (.aload_n 1, 1) := by decide +kernel
theorem dX4_becomeProduct_111 : decode cX4_becomeProduct 111 = .ok (.getfield 21, 3) := by decide +kernel
theorem dX4_becomeProduct_114 : decode cX4_becomeProduct 114 = .ok (.aload_n 2, 1) := by decide +kernel
theorem dX4_becomeProduct_115 : decode cX4_becomeProduct 115 = .ok (.getfield 15, 3) := by decide +kernel
theorem dX4_becomeProduct_118 : decode cX4_becomeProduct 118 = .ok (.lmul, 1) := by decide +kernel
theorem dX4_becomeProduct_119 : decode cX4_becomeProduct 119 = .ok (.ladd, 1) := by decide +kernel
theorem dX4_becomeProduct_120 : decode cX4_becomeProduct 120 = .ok (.lstore 7, 2) := by decide +kernel
theorem dX4_becomeProduct_122 : decode cX4_becomeProduct 122 = .ok (.aload_n 1, 1) := by decide +kernel
theorem dX4_becomeProduct_123 : decode cX4_becomeProduct 123 = .ok (.getfield 9, 3) := by decide +kernel
theorem dX4_becomeProduct_126 : decode cX4_becomeProduct 126 = .ok (.aload_n 2, 1) := by decide +kernel
theorem dX4_becomeProduct_127 : decode cX4_becomeProduct 127 = .ok (.getfield 21, 3) := by decide +kernel
theorem dX4_becomeProduct_130 : decode cX4_becomeProduct 130 = .ok (.lmul, 1) := by decide +kernel
theorem dX4_becomeProduct_131 : decode cX4_becomeProduct 131 = .ok (.aload_n 1, 1) := by decide +kernel
theorem dX4_becomeProduct_132 : decode cX4_becomeProduct 132 = .ok (.getfield 15, 3) := by decide +kernel
theorem dX4_becomeProduct_135 : decode cX4_becomeProduct 135 = .ok (.aload_n 2, 1) := by decide +kernel
theorem dX4_becomeProduct_136 : decode cX4_becomeProduct 136 = .ok (.getfield 18, 3) := by decide +kernel
theorem dX4_becomeProduct_139 : decode cX4_becomeProduct 139 = .ok (.lmul, 1) := by decide +kernel
theorem dX4_becomeProduct_140 : decode cX4_becomeProduct 140 = .ok (.ladd, 1) := by decide +kernel
theorem dX4_becomeProduct_141 : decode cX4_becomeProduct 141 = .ok (.aload_n 1, 1) := by decide +kernel
theorem dX4_becomeProduct_142 : decode cX4_becomeProduct 142 = .ok (.getfield 18, 3) := by decide +kernel
theorem dX4_becomeProduct_145 : decode cX4_becomeProduct 145 = .ok (.aload_n 2, 1) := by decide +kernel
theorem dX4_becomeProduct_146 : decode cX4_becomeProduct 146 = .ok (.getfield 15, 3) := by decide +kernel
theorem dX4_becomeProduct_149 : decode cX4_becomeProduct 149 = .ok (.lmul, 1) := by decide +kernel
theorem dX4_becomeProduct_150 : decode cX4_becomeProduct 150 = .ok (.lsub, 1) := by decide +kernel
theorem dX4_becomeProduct_151 : decode cX4_becomeProduct 151 = .ok (.aload_n 1, 1) := by decide +kernel
theorem dX4_becomeProduct_152 : decode cX4_becomeProduct 152 = .ok (.getfield 21, 3) := by decide +kernel
theorem dX4_becomeProduct_155 : decode cX4_becomeProduct 155 = .ok (.aload_n 2, 1) := by decide +kernel
theorem dX4_becomeProduct_156 : decode cX4_becomeProduct 156 = .ok (.getfield 9, 3) := by decide +kernel
theorem dX4_becomeProduct_159 : decode cX4_becomeProduct 159 = .ok (.lmul, 1) := by decide +kernel
theorem dX4_becomeProduct_160 : decode cX4_becomeProduct 160 = .ok (.ladd, 1) := by decide +kernel
theorem dX4_becomeProduct_161 : decode cX4_becomeProduct 161 = .ok (.lstore 9, 2) := by decide +kernel
theorem dX4_becomeProduct_163 : decode cX4_becomeProduct 163 = .ok (.aload_n 0, 1) := by decide +kernel
theorem dX4_becomeProduct_164 : decode cX4_becomeProduct 164 = .ok (.lload_n 3, 1) := by decide +kernel
theorem dX4_becomeProduct_165 : decode cX4_becomeProduct 165 = .ok (.ldc2_w 28, 3) := by decide +kernel
theorem dX4_becomeProduct_168 : decode cX4_becomeProduct 168 = .ok (.ldiv, 1) := by decide +kernel
theorem dX4_becomeProduct_169 : decode cX4_becomeProduct 169 = .ok (.lload 5, 2) := by decide +kernel
theorem dX4_becomeProduct_171 : decode cX4_becomeProduct 171 = .ok (.ldc2_w 28, 3) := by decide +kernel
theorem dX4_becomeProduct_174 : decode cX4_becomeProduct 174 = .ok (.ldiv, 1) := by decide +kernel
theorem dX4_becomeProduct_175 : decode cX4_becomeProduct 175 = .ok (.lload 7, 2) := by decide +kernel
theorem dX4_becomeProduct_177 : decode cX4_becomeProduct 177 = .ok (.ldc2_w 28, 3) := by decide +kernel
theorem dX4_becomeProduct_180 : decode cX4_becomeProduct 180 = .ok (.ldiv, 1) := by decide +kernel
theorem dX4_becomeProduct_181 : decode cX4_becomeProduct 181 = .ok (.lload 9, 2) := by decide +kernel
theorem dX4_becomeProduct_183 : decode cX4_becomeProduct 183 = .ok (.ldc2_w 28, 3) := by decide +kernel
theorem dX4_becomeProduct_186 : decode cX4_becomeProduct 186 = .ok (.ldiv, 1) := by decide +kernel
theorem dX4_becomeProduct_187 : decode cX4_becomeProduct 187 = .ok (.invokevirtual 24, 3) := by decide +kernel
theorem dX4_becomeProduct_190 : decode cX4_becomeProduct 190 = .ok (.return_, 1) := by decide +kernel
theorem dX4_becomeUnit_0 : decode cX4_becomeUnit 0 = .ok (.iload_n 1, 1) := by decide +kernel
theorem dX4_becomeUnit_1 : decode cX4_becomeUnit 1 = .ok (.bipush 16, 2) := by decide +kernel
theorem dX4_becomeUnit_3 : decode cX4_becomeUnit 3 = .ok (.if_icmp .ge 38, 3) := by decide +kernel
theorem dX4_becomeUnit_6 : decode cX4_becomeUnit 6 = .ok (.aload_n 0, 1) := by decide +kernel
theorem dX4_becomeUnit_7 : decode cX4_becomeUnit 7 = .ok (.iconst 1, 1) := by decide +kernel
theorem dX4_becomeUnit_8 : decode cX4_becomeUnit 8 = .ok (.iload_n 1, 1) := by decide +kernel
theorem dX4_becomeUnit_9 : decode cX4_becomeUnit 9 = .ok (.iconst 2, 1) := by decide +kernel
theorem dX4_becomeUnit_10 : decode cX4_becomeUnit 10 = .ok (.iand, 1) := by decide +kernel
theorem dX4_becomeUnit_11 : decode cX4_becomeUnit 11 = .ok (.isub, 1) := by decide +kernel
theorem dX4_becomeUnit_12 : decode cX4_becomeUnit 12 = .ok (.i2l, 1) := by decide +kernel
theorem dX4_becomeUnit_13 : decode cX4_becomeUnit 13 = .ok (.iconst 1, 1) := by decide +kernel
theorem dX4_becomeUnit_14 : decode cX4_becomeUnit 14 = .ok (.iload_n 1, 1) := by decide +kernel
theorem dX4_becomeUnit_15 : decode cX4_becomeUnit 15 = .ok (.iconst 1, 1) := by decide +kernel
theorem dX4_becomeUnit_16 : decode cX4_becomeUnit 16 = .ok (.ishr, 1) := by decide +kernel
theorem dX4_becomeUnit_17 : decode cX4_becomeUnit 17 = .ok (.iconst 2, 1) := by decide +kernel
theorem dX4_becomeUnit_18 : decode cX4_becomeUnit 18 = .ok (.iand, 1) := by decide +kernel
theorem dX4_becomeUnit_19 : decode cX4_becomeUnit 19 = .ok (.isub, 1) := by decide +kernel
theorem dX4_becomeUnit_20 : decode cX4_becomeUnit 20 = .ok (.i2l, 1) := by decide +kernel
theorem dX4_becomeUnit_21 : decode cX4_becomeUnit 21 = .ok (.iconst 1, 1) := by decide +kernel
theorem dX4_becomeUnit_22 : decode cX4_becomeUnit 22 = .ok (.iload_n 1, 1) := by decide +kernel
theorem dX4_becomeUnit_23 : decode cX4_becomeUnit 23 = .ok (.iconst 2, 1) := by decide +kernel
theorem dX4_becomeUnit_24 : decode cX4_becomeUnit 24 = .ok (.ishr, 1) := by decide +kernel
theorem dX4_becomeUnit_25 : decode cX4_becomeUnit 25 = .ok (.iconst 2, 1) := by decide +kernel
theorem dX4_becomeUnit_26 : decode cX4_becomeUnit 26 = .ok (.iand, 1) := by decide +kernel
theorem dX4_becomeUnit_27 : decode cX4_becomeUnit 27 = .ok (.isub, 1) := by decide +kernel
theorem dX4_becomeUnit_28 : decode cX4_becomeUnit 28 = .ok (.i2l, 1) := by decide +kernel
theorem dX4_becomeUnit_29 : decode cX4_becomeUnit 29 = .ok (.iconst 1, 1) := by decide +kernel
theorem dX4_becomeUnit_30 : decode cX4_becomeUnit 30 = .ok (.iload_n 1, 1) := by decide +kernel
theorem dX4_becomeUnit_31 : decode cX4_becomeUnit 31 = .ok (.iconst 1, 1) := by decide +kernel
theorem dX4_becomeUnit_32 : decode cX4_becomeUnit 32 = .ok (.ishl, 1) := by decide +kernel
theorem dX4_becomeUnit_33 : decode cX4_becomeUnit 33 = .ok (.iconst 2, 1) := by decide +kernel
theorem dX4_becomeUnit_34 : decode cX4_becomeUnit 34 = .ok (.iand, 1) := by decide +kernel
theorem dX4_becomeUnit_35 : decode cX4_becomeUnit 35 = .ok (.isub, 1) := by decide +kernel
theorem dX4_becomeUnit_36 : decode cX4_becomeUnit 36 = .ok (.i2l, 1) := by decide +kernel
theorem dX4_becomeUnit_37 : decode cX4_becomeUnit 37 = .ok (.invokevirtual 24, 3) := by decide +kernel
theorem dX4_becomeUnit_40 : decode cX4_becomeUnit 40 = .ok (.return_, 1) := by decide +kernel
theorem dX4_becomeUnit_41 : decode cX4_becomeUnit 41 = .ok (.iload_n 1, 1) := by decide +kernel
theorem dX4_becomeUnit_42 : decode cX4_becomeUnit 42 = .ok (.bipush 16, 2) := by decide +kernel
theorem dX4_becomeUnit_44 : decode cX4_becomeUnit 44 = .ok (.isub, 1) := by decide +kernel
theorem dX4_becomeUnit_45 : decode cX4_becomeUnit 45 = .ok (.iconst 1, 1) := by decide +kernel
theorem dX4_becomeUnit_46 : decode cX4_becomeUnit 46 = .ok (.ishr, 1) := by decide +kernel
theorem dX4_becomeUnit_47 : decode cX4_becomeUnit 47 = .ok (.istore_n 2, 1) := by decide +kernel
theorem dX4_becomeUnit_48 : decode cX4_becomeUnit 48 = .ok (.iload_n 1, 1) := by decide +kernel
theorem dX4_becomeUnit_49 : decode cX4_becomeUnit 49 = .ok (.iconst 1, 1) := by decide +kernel
theorem dX4_becomeUnit_50 : decode cX4_becomeUnit 50 = .ok (.iand, 1) := by decide +kernel
theorem dX4_becomeUnit_51 : decode cX4_becomeUnit 51 = .ok (.ifCond .ne 9, 3) := by decide +kernel
theorem dX4_becomeUnit_54 : decode cX4_becomeUnit 54 = .ok (.ldc2_w 28, 3) := by decide +kernel
theorem dX4_becomeUnit_57 : decode cX4_becomeUnit 57 = .ok (.goto 6, 3) := by decide +kernel
theorem dX4_becomeUnit_60 : decode cX4_becomeUnit 60 = .ok (.ldc2_w 30, 3) := by decide +kernel
theorem dX4_becomeUnit_63 : decode cX4_becomeUnit 63 = .ok (.lstore_n 3, 1) := by decide +kernel
theorem dX4_becomeUnit_64 : decode cX4_becomeUnit 64 = .ok (.aload_n 0, 1) := by decide +kernel
theorem dX4_becomeUnit_65 : decode cX4_becomeUnit 65 = .ok (.iload_n 2, 1) := by decide +kernel
theorem dX4_becomeUnit_66 : decode cX4_becomeUnit 66 = .ok (.ifCond .ne 7, 3) := by decide +kernel
theorem dX4_becomeUnit_69 : decode cX4_becomeUnit 69 = .ok (.lload_n 3, 1) := by decide +kernel
theorem dX4_becomeUnit_70 : decode cX4_becomeUnit 70 = .ok (.goto 4, 3) := by decide +kernel
theorem dX4_becomeUnit_73 : decode cX4_becomeUnit 73 = .ok (.lconst 0, 1) := by decide +kernel
theorem dX4_becomeUnit_74 : decode cX4_becomeUnit 74 = .ok (.iload_n 2, 1) := by decide +kernel
theorem dX4_becomeUnit_75 : decode cX4_becomeUnit 75 = .ok (.iconst 1, 1) := by decide +kernel
theorem dX4_becomeUnit_76 : decode cX4_becomeUnit 76 = .ok (.if_icmp .ne 7, 3) := by decide +kernel
theorem dX4_becomeUnit_79 : decode cX4_becomeUnit 79 = .ok (.lload_n 3, 1) := by decide +kernel
theorem dX4_becomeUnit_80 : decode cX4_becomeUnit 80 = .ok (.goto 4, 3) := by decide +kernel
theorem dX4_becomeUnit_83 : decode cX4_becomeUnit 83 = .ok (.lconst 0, 1) := by decide +kernel
theorem dX4_becomeUnit_84 : decode cX4_becomeUnit 84 = .ok (.iload_n 2, 1) := by decide +kernel
theorem dX4_becomeUnit_85 : decode cX4_becomeUnit 85 = .ok (.iconst 2, 1) := by decide +kernel
theorem dX4_becomeUnit_86 : decode cX4_becomeUnit 86 = .ok (.if_icmp .ne 7, 3) := by decide +kernel
theorem dX4_becomeUnit_89 : decode cX4_becomeUnit 89 = .ok (.lload_n 3, 1) := by decide +kernel
theorem dX4_becomeUnit_90 : decode cX4_becomeUnit 90 = .ok (.goto 4, 3) := by decide +kernel
theorem dX4_becomeUnit_93 : decode cX4_becomeUnit 93 = .ok (.lconst 0, 1) := by decide +kernel
theorem dX4_becomeUnit_94 : decode cX4_becomeUnit 94 = .ok (.iload_n 2, 1) := by decide +kernel
theorem dX4_becomeUnit_95 : decode cX4_becomeUnit 95 = .ok (.iconst 3, 1) := by decide +kernel
theorem dX4_becomeUnit_96 : decode cX4_becomeUnit 96 = .ok (.if_icmp .ne 7, 3) := by decide +kernel
theorem dX4_becomeUnit_99 : decode cX4_becomeUnit 99 = .ok (.lload_n 3, 1) := by decide +kernel
theorem dX4_becomeUnit_100 : decode cX4_becomeUnit 100 = .ok (.goto 4, 3) := by decide +kernel
theorem dX4_becomeUnit_103 : decode cX4_becomeUnit 103 = .ok (.lconst 0, 1) := by decide +kernel
theorem dX4_becomeUnit_104 : decode cX4_becomeUnit 104 = .ok (.invokevirtual 24, 3) := by decide +kernel
theorem dX4_becomeUnit_107 : decode cX4_becomeUnit 107 = .ok (.return_, 1) := by decide +kernel
theorem dX4_divideBy_0 : decode cX4_divideBy 0 = .ok (.lload_n 1, 1) := by decide +kernel
theorem dX4_divideBy_1 : decode cX4_divideBy 1 = .ok (.lconst 0, 1) := by decide +kernel
theorem dX4_divideBy_2 : decode cX4_divideBy 2 = .ok (.lcmp, 1) := by decide +kernel
theorem dX4_divideBy_3 : decode cX4_divideBy 3 = .ok (.ifCond .ne 4, 3) := by decide +kernel
theorem dX4_divideBy_6 : decode cX4_divideBy 6 = .ok (.return_, 1) := by decide +kernel
theorem dX4_divideBy_7 : decode cX4_divideBy 7 = .ok (.aload_n 0, 1) := by decide +kernel
theorem dX4_divideBy_8 : decode cX4_divideBy 8 = .ok (.aload_n 0, 1) := by decide +kernel
theorem dX4_divideBy_9 : decode cX4_divideBy 9 = .ok (.getfield 9, 3) := by decide +kernel
theorem dX4_divideBy_12 : decode cX4_divideBy 12 = .ok (.lload_n 1, 1) := by decide +kernel
theorem dX4_divideBy_13 : decode cX4_divideBy 13 = .ok (.ldiv, 1) := by decide +kernel
theorem dX4_divideBy_14 : decode cX4_divideBy 14 = .ok (.aload_n 0, 1) := by decide +kernel
theorem dX4_divideBy_15 : decode cX4_divideBy 15 = .ok (.getfield 15, 3) := by decide +kernel
theorem dX4_divideBy_18 : decode cX4_divideBy 18 = .ok (.lload_n 1, 1) := by decide +kernel
theorem dX4_divideBy_19 : decode cX4_divideBy 19 = .ok (.ldiv, 1) := by decide +kernel
theorem dX4_divideBy_20 : decode cX4_divideBy 20 = .ok (.aload_n 0, 1) := by decide +kernel
theorem dX4_divideBy_21 : decode cX4_divideBy 21 = .ok (.getfield 18, 3) := by decide +kernel
theorem dX4_divideBy_24 : decode cX4_divideBy 24 = .ok (.lload_n 1, 1) := by decide +kernel
theorem dX4_divideBy_25 : decode cX4_divideBy 25 = .ok (.ldiv, 1) := by decide +kernel
theorem dX4_divideBy_26 : decode cX4_divideBy 26 = .ok (.aload_n 0, 1) := by decide +kernel
theorem dX4_divideBy_27 : decode cX4_divideBy 27 = .ok (.getfield 21, 3) := by decide +kernel
theorem dX4_divideBy_30 : decode cX4_divideBy 30 = .ok (.lload_n 1, 1) := by decide +kernel
theorem dX4_divideBy_31 : decode cX4_divideBy 31 = .ok (.ldiv, 1) := by decide +kernel
theorem dX4_divideBy_32 : decode cX4_divideBy 32 = .ok (.invokevirtual 24, 3) := by decide +kernel
theorem dX4_divideBy_35 : decode cX4_divideBy 35 = .ok (.return_, 1) := by decide +kernel
theorem dX4_numberAt_0 : decode cX4_numberAt 0 = .ok (.iload_n 1, 1) := by decide +kernel
theorem dX4_numberAt_1 : decode cX4_numberAt 1 = .ok (.ifCond .ne 10, 3) := by decide +kernel
theorem dX4_numberAt_4 : decode cX4_numberAt 4 = .ok (.aload_n 0, 1) := by decide +kernel
theorem dX4_numberAt_5 : decode cX4_numberAt 5 = .ok (.getfield 9, 3) := by decide +kernel
theorem dX4_numberAt_8 : decode cX4_numberAt 8 = .ok (.goto 31, 3) := by decide +kernel
theorem dX4_numberAt_11 : decode cX4_numberAt 11 = .ok (.iload_n 1, 1) := by decide +kernel
theorem dX4_numberAt_12 : decode cX4_numberAt 12 = .ok (.iconst 1, 1) := by decide +kernel
theorem dX4_numberAt_13 : decode cX4_numberAt 13 = .ok (.if_icmp .ne 10, 3) := by decide +kernel
theorem dX4_numberAt_16 : decode cX4_numberAt 16 = .ok (.aload_n 0, 1) := by decide +kernel
theorem dX4_numberAt_17 : decode cX4_numberAt 17 = .ok (.getfield 15, 3) := by decide +kernel
theorem dX4_numberAt_20 : decode cX4_numberAt 20 = .ok (.goto 19, 3) := by decide +kernel
theorem dX4_numberAt_23 : decode cX4_numberAt 23 = .ok (.iload_n 1, 1) := by decide +kernel
theorem dX4_numberAt_24 : decode cX4_numberAt 24 = .ok (.iconst 2, 1) := by decide +kernel
theorem dX4_numberAt_25 : decode cX4_numberAt 25 = .ok (.if_icmp .ne 10, 3) := by decide +kernel
theorem dX4_numberAt_28 : decode cX4_numberAt 28 = .ok (.aload_n 0, 1) := by decide +kernel
theorem dX4_numberAt_29 : decode cX4_numberAt 29 = .ok (.getfield 18, 3) := by decide +kernel
theorem dX4_numberAt_32 : decode cX4_numberAt 32 = .ok (.goto 7, 3) := by decide +kernel
theorem dX4_numberAt_35 : decode cX4_numberAt 35 = .ok (.aload_n 0, 1) := by decide +kernel
theorem dX4_numberAt_36 : decode cX4_numberAt 36 = .ok (.getfield 21, 3) := by decide +kernel
theorem dX4_numberAt_39 : decode cX4_numberAt 39 = .ok (.lreturn, 1) := by decide +kernel
theorem dX4_squareSum_0 : decode cX4_squareSum 0 = .ok (.aload_n 0, 1) := by decide +kernel
theorem dX4_squareSum_1 : decode cX4_squareSum 1 = .ok (.getfield 9, 3) := by decide +kernel
theorem dX4_squareSum_4 : decode cX4_squareSum 4 = .ok (.aload_n 0, 1) := by decide +kernel
theorem dX4_squareSum_5 : decode cX4_squareSum 5 = .ok (.getfield 9, 3) := by decide +kernel
theorem dX4_squareSum_8 : decode cX4_squareSum 8 = .ok (.lmul, 1) := by decide +kernel
theorem dX4_squareSum_9 : decode cX4_squareSum 9 = .ok (.aload_n 0, 1) := by decide +kernel
theorem dX4_squareSum_10 : decode cX4_squareSum 10 = .ok (.getfield 15, 3) := by decide +kernel
theorem dX4_squareSum_13 : decode cX4_squareSum 13 = .ok (.aload_n 0, 1) := by decide +kernel
theorem dX4_squareSum_14 : decode cX4_squareSum 14 = .ok (.getfield 15, 3) := by decide +kernel
theorem dX4_squareSum_17 : decode cX4_squareSum 17 = .ok (.lmul, 1) := by decide +kernel
theorem dX4_squareSum_18 : decode cX4_squareSum 18 = .ok (.ladd, 1) := by decide +kernel
theorem dX4_squareSum_19 : decode cX4_squareSum 19 = .ok (.aload_n 0, 1) := by decide +kernel
theorem dX4_squareSum_20 : decode cX4_squareSum 20 = .ok (.getfield 18, 3) := by decide +kernel
theorem dX4_squareSum_23 : decode cX4_squareSum 23 = .ok (.aload_n 0, 1) := by decide +kernel
theorem dX4_squareSum_24 : decode cX4_squareSum 24 = .ok (.getfield 18, 3) := by decide +kernel
theorem dX4_squareSum_27 : decode cX4_squareSum 27 = .ok (.lmul, 1) := by decide +kernel
theorem dX4_squareSum_28 : decode cX4_squareSum 28 = .ok (.ladd, 1) := by decide +kernel
theorem dX4_squareSum_29 : decode cX4_squareSum 29 = .ok (.aload_n 0, 1) := by decide +kernel
theorem dX4_squareSum_30 : decode cX4_squareSum 30 = .ok (.getfield 21, 3) := by decide +kernel
theorem dX4_squareSum_33 : decode cX4_squareSum 33 = .ok (.aload_n 0, 1) := by decide +kernel
theorem dX4_squareSum_34 : decode cX4_squareSum 34 = .ok (.getfield 21, 3) := by decide +kernel
theorem dX4_squareSum_37 : decode cX4_squareSum 37 = .ok (.lmul, 1) := by decide +kernel
theorem dX4_squareSum_38 : decode cX4_squareSum 38 = .ok (.ladd, 1) := by decide +kernel
theorem dX4_squareSum_39 : decode cX4_squareSum 39 = .ok (.lreturn, 1) := by decide +kernel
theorem dX4_ownNorm_0 : decode cX4_ownNorm 0 = .ok (.aload_n 0, 1) := by decide +kernel
theorem dX4_ownNorm_1 : decode cX4_ownNorm 1 = .ok (.invokevirtual 32, 3) := by decide +kernel
theorem dX4_ownNorm_4 : decode cX4_ownNorm 4 = .ok (.ldc2_w 36, 3) := by decide +kernel
theorem dX4_ownNorm_7 : decode cX4_ownNorm 7 = .ok (.ldiv, 1) := by decide +kernel
theorem dX4_ownNorm_8 : decode cX4_ownNorm 8 = .ok (.lreturn, 1) := by decide +kernel
theorem dX4_isZero_0 : decode cX4_isZero 0 = .ok (.aload_n 0, 1) := by decide +kernel
theorem dX4_isZero_1 : decode cX4_isZero 1 = .ok (.getfield 9, 3) := by decide +kernel
theorem dX4_isZero_4 : decode cX4_isZero 4 = .ok (.lconst 0, 1) := by decide +kernel
theorem dX4_isZero_5 : decode cX4_isZero 5 = .ok (.lcmp, 1) := by decide +kernel
theorem dX4_isZero_6 : decode cX4_isZero 6 = .ok (.ifCond .ne 34, 3) := by decide +kernel
theorem dX4_isZero_9 : decode cX4_isZero 9 = .ok (.aload_n 0, 1) := by decide +kernel
theorem dX4_isZero_10 : decode cX4_isZero 10 = .ok (.getfield 15, 3) := by decide +kernel
theorem dX4_isZero_13 : decode cX4_isZero 13 = .ok (.lconst 0, 1) := by decide +kernel
theorem dX4_isZero_14 : decode cX4_isZero 14 = .ok (.lcmp, 1) := by decide +kernel
theorem dX4_isZero_15 : decode cX4_isZero 15 = .ok (.ifCond .ne 25, 3) := by decide +kernel
theorem dX4_isZero_18 : decode cX4_isZero 18 = .ok (.aload_n 0, 1) := by decide +kernel
theorem dX4_isZero_19 : decode cX4_isZero 19 = .ok (.getfield 18, 3) := by decide +kernel
theorem dX4_isZero_22 : decode cX4_isZero 22 = .ok (.lconst 0, 1) := by decide +kernel
theorem dX4_isZero_23 : decode cX4_isZero 23 = .ok (.lcmp, 1) := by decide +kernel
theorem dX4_isZero_24 : decode cX4_isZero 24 = .ok (.ifCond .ne 16, 3) := by decide +kernel
theorem dX4_isZero_27 : decode cX4_isZero 27 = .ok (.aload_n 0, 1) := by decide +kernel
theorem dX4_isZero_28 : decode cX4_isZero 28 = .ok (.getfield 21, 3) := by decide +kernel
theorem dX4_isZero_31 : decode cX4_isZero 31 = .ok (.lconst 0, 1) := by decide +kernel
theorem dX4_isZero_32 : decode cX4_isZero 32 = .ok (.lcmp, 1) := by decide +kernel
theorem dX4_isZero_33 : decode cX4_isZero 33 = .ok (.ifCond .ne 7, 3) := by decide +kernel
theorem dX4_isZero_36 : decode cX4_isZero 36 = .ok (.iconst 1, 1) := by decide +kernel
theorem dX4_isZero_37 : decode cX4_isZero 37 = .ok (.goto 4, 3) := by decide +kernel
theorem dX4_isZero_40 : decode cX4_isZero 40 = .ok (.iconst 0, 1) := by decide +kernel
theorem dX4_isZero_41 : decode cX4_isZero 41 = .ok (.ireturn, 1) := by decide +kernel
theorem dX4_isAllEven_0 : decode cX4_isAllEven 0 = .ok (.aload_n 0, 1) := by decide +kernel
theorem dX4_isAllEven_1 : decode cX4_isAllEven 1 = .ok (.getfield 9, 3) := by decide +kernel
theorem dX4_isAllEven_4 : decode cX4_isAllEven 4 = .ok (.aload_n 0, 1) := by decide +kernel
theorem dX4_isAllEven_5 : decode cX4_isAllEven 5 = .ok (.getfield 15, 3) := by decide +kernel
theorem dX4_isAllEven_8 : decode cX4_isAllEven 8 = .ok (.lor, 1) := by decide +kernel
theorem dX4_isAllEven_9 : decode cX4_isAllEven 9 = .ok (.aload_n 0, 1) := by decide +kernel
theorem dX4_isAllEven_10 : decode cX4_isAllEven 10 = .ok (.getfield 18, 3) := by decide +kernel
theorem dX4_isAllEven_13 : decode cX4_isAllEven 13 = .ok (.lor, 1) := by decide +kernel
theorem dX4_isAllEven_14 : decode cX4_isAllEven 14 = .ok (.aload_n 0, 1) := by decide +kernel
theorem dX4_isAllEven_15 : decode cX4_isAllEven 15 = .ok (.getfield 21, 3) := by decide +kernel
theorem dX4_isAllEven_18 : decode cX4_isAllEven 18 = .ok (.lor, 1) := by decide +kernel
theorem dX4_isAllEven_19 : decode cX4_isAllEven 19 = .ok (.lconst 1, 1) := by decide +kernel
theorem dX4_isAllEven_20 : decode cX4_isAllEven 20 = .ok (.land, 1) := by decide +kernel
theorem dX4_isAllEven_21 : decode cX4_isAllEven 21 = .ok (.lconst 0, 1) := by decide +kernel
theorem dX4_isAllEven_22 : decode cX4_isAllEven 22 = .ok (.lcmp, 1) := by decide +kernel
theorem dX4_isAllEven_23 : decode cX4_isAllEven 23 = .ok (.ifCond .ne 7, 3) := by decide +kernel
theorem dX4_isAllEven_26 : decode cX4_isAllEven 26 = .ok (.iconst 1, 1) := by decide +kernel
theorem dX4_isAllEven_27 : decode cX4_isAllEven 27 = .ok (.goto 4, 3) := by decide +kernel
theorem dX4_isAllEven_30 : decode cX4_isAllEven 30 = .ok (.iconst 0, 1) := by decide +kernel
theorem dX4_isAllEven_31 : decode cX4_isAllEven 31 = .ok (.ireturn, 1) := by decide +kernel
theorem dX4_isAllOdd_0 : decode cX4_isAllOdd 0 = .ok (.aload_n 0, 1) := by decide +kernel
theorem dX4_isAllOdd_1 : decode cX4_isAllOdd 1 = .ok (.getfield 9, 3) := by decide +kernel
theorem dX4_isAllOdd_4 : decode cX4_isAllOdd 4 = .ok (.aload_n 0, 1) := by decide +kernel
theorem dX4_isAllOdd_5 : decode cX4_isAllOdd 5 = .ok (.getfield 15, 3) := by decide +kernel
theorem dX4_isAllOdd_8 : decode cX4_isAllOdd 8 = .ok (.land, 1) := by decide +kernel
theorem dX4_isAllOdd_9 : decode cX4_isAllOdd 9 = .ok (.aload_n 0, 1) := by decide +kernel
theorem dX4_isAllOdd_10 : decode cX4_isAllOdd 10 = .ok (.getfield 18, 3) := by decide +kernel
theorem dX4_isAllOdd_13 : decode cX4_isAllOdd 13 = .ok (.land, 1) := by decide +kernel
theorem dX4_isAllOdd_14 : decode cX4_isAllOdd 14 = .ok (.aload_n 0, 1) := by decide +kernel
theorem dX4_isAllOdd_15 : decode cX4_isAllOdd 15 = .ok (.getfield 21, 3) := by decide +kernel
theorem dX4_isAllOdd_18 : decode cX4_isAllOdd 18 = .ok (.land, 1) := by decide +kernel
theorem dX4_isAllOdd_19 : decode cX4_isAllOdd 19 = .ok (.lconst 1, 1) := by decide +kernel
theorem dX4_isAllOdd_20 : decode cX4_isAllOdd 20 = .ok (.land, 1) := by decide +kernel
theorem dX4_isAllOdd_21 : decode cX4_isAllOdd 21 = .ok (.lconst 1, 1) := by decide +kernel
theorem dX4_isAllOdd_22 : decode cX4_isAllOdd 22 = .ok (.lcmp, 1) := by decide +kernel
theorem dX4_isAllOdd_23 : decode cX4_isAllOdd 23 = .ok (.ifCond .ne 7, 3) := by decide +kernel
theorem dX4_isAllOdd_26 : decode cX4_isAllOdd 26 = .ok (.iconst 1, 1) := by decide +kernel
theorem dX4_isAllOdd_27 : decode cX4_isAllOdd 27 = .ok (.goto 4, 3) := by decide +kernel
theorem dX4_isAllOdd_30 : decode cX4_isAllOdd 30 = .ok (.iconst 0, 1) := by decide +kernel
theorem dX4_isAllOdd_31 : decode cX4_isAllOdd 31 = .ok (.ireturn, 1) := by decide +kernel
theorem dX4_isTooGreat_0 : decode cX4_isTooGreat 0 = .ok (.aload_n 0, 1) := by decide +kernel
theorem dX4_isTooGreat_1 : decode cX4_isTooGreat 1 = .ok (.getfield 9, 3) := by decide +kernel
theorem dX4_isTooGreat_4 : decode cX4_isTooGreat 4 = .ok (.invokestatic 38, 3) := by decide +kernel
theorem dX4_isTooGreat_7 : decode cX4_isTooGreat 7 = .ok (.ifCond .ne 33, 3) := by decide +kernel
theorem dX4_isTooGreat_10 : decode cX4_isTooGreat 10 = .ok (.aload_n 0, 1) := by decide +kernel
theorem dX4_isTooGreat_11 : decode cX4_isTooGreat 11 = .ok (.getfield 15, 3) := by decide +kernel
theorem dX4_isTooGreat_14 : decode cX4_isTooGreat 14 = .ok (.invokestatic 38, 3) := by decide +kernel
theorem dX4_isTooGreat_17 : decode cX4_isTooGreat 17 = .ok (.ifCond .ne 23, 3) := by decide +kernel
theorem dX4_isTooGreat_20 : decode cX4_isTooGreat 20 = .ok (.aload_n 0, 1) := by decide +kernel
theorem dX4_isTooGreat_21 : decode cX4_isTooGreat 21 = .ok (.getfield 18, 3) := by decide +kernel
theorem dX4_isTooGreat_24 : decode cX4_isTooGreat 24 = .ok (.invokestatic 38, 3) := by decide +kernel
theorem dX4_isTooGreat_27 : decode cX4_isTooGreat 27 = .ok (.ifCond .ne 13, 3) := by decide +kernel
theorem dX4_isTooGreat_30 : decode cX4_isTooGreat 30 = .ok (.aload_n 0, 1) := by decide +kernel
theorem dX4_isTooGreat_31 : decode cX4_isTooGreat 31 = .ok (.getfield 21, 3) := by decide +kernel
theorem dX4_isTooGreat_34 : decode cX4_isTooGreat 34 = .ok (.invokestatic 38, 3) := by decide +kernel
theorem dX4_isTooGreat_37 : decode cX4_isTooGreat 37 = .ok (.ifCond .eq 5, 3) := by decide +kernel
theorem dX4_isTooGreat_40 : decode cX4_isTooGreat 40 = .ok (.iconst 1, 1) := by decide +kernel
theorem dX4_isTooGreat_41 : decode cX4_isTooGreat 41 = .ok (.ireturn, 1) := by decide +kernel
theorem dX4_isTooGreat_42 : decode cX4_isTooGreat 42 = .ok (.aload_n 0, 1) := by decide +kernel
theorem dX4_isTooGreat_43 : decode cX4_isTooGreat 43 = .ok (.invokevirtual 42, 3) := by decide +kernel
theorem dX4_isTooGreat_46 : decode cX4_isTooGreat 46 = .ok (.ldc2_w 45, 3) := by decide +kernel
theorem dX4_isTooGreat_49 : decode cX4_isTooGreat 49 = .ok (.lcmp, 1) := by decide +kernel
theorem dX4_isTooGreat_50 : decode cX4_isTooGreat 50 = .ok (.ifCond .le 7, 3) := by decide +kernel
theorem dX4_isTooGreat_53 : decode cX4_isTooGreat 53 = .ok (.iconst 1, 1) := by decide +kernel
theorem dX4_isTooGreat_54 : decode cX4_isTooGreat 54 = .ok (.goto 4, 3) := by decide +kernel
theorem dX4_isTooGreat_57 : decode cX4_isTooGreat 57 = .ok (.iconst 0, 1) := by decide +kernel
theorem dX4_isTooGreat_58 : decode cX4_isTooGreat 58 = .ok (.ireturn, 1) := by decide +kernel
theorem dX4_isFar_0 : decode cX4_isFar 0 = .ok (.lload_n 0, 1) := by decide +kernel
theorem dX4_isFar_1 : decode cX4_isFar 1 = .ok (.ldc2_w 47, 3) := by decide +kernel
theorem dX4_isFar_4 : decode cX4_isFar 4 = .ok (.lcmp, 1) := by decide +kernel
theorem dX4_isFar_5 : decode cX4_isFar 5 = .ok (.ifCond .lt 11, 3) := by decide +kernel
theorem dX4_isFar_8 : decode cX4_isFar 8 = .ok (.lload_n 0, 1) := by decide +kernel
theorem dX4_isFar_9 : decode cX4_isFar 9 = .ok (.ldc2_w 49, 3) := by decide +kernel
theorem dX4_isFar_12 : decode cX4_isFar 12 = .ok (.lcmp, 1) := by decide +kernel
theorem dX4_isFar_13 : decode cX4_isFar 13 = .ok (.ifCond .le 7, 3) := by decide +kernel
theorem dX4_isFar_16 : decode cX4_isFar 16 = .ok (.iconst 1, 1) := by decide +kernel
theorem dX4_isFar_17 : decode cX4_isFar 17 = .ok (.goto 4, 3) := by decide +kernel
theorem dX4_isFar_20 : decode cX4_isFar 20 = .ok (.iconst 0, 1) := by decide +kernel
theorem dX4_isFar_21 : decode cX4_isFar 21 = .ok (.ireturn, 1) := by decide +kernel
theorem dX4_isLessThan_0 : decode cX4_isLessThan 0 = .ok (.aload_n 0, 1) := by decide +kernel
theorem dX4_isLessThan_1 : decode cX4_isLessThan 1 = .ok (.getfield 9, 3) := by decide +kernel
theorem dX4_isLessThan_4 : decode cX4_isLessThan 4 = .ok (.aload_n 1, 1) := by decide +kernel
theorem dX4_isLessThan_5 : decode cX4_isLessThan 5 = .ok (.getfield 9, 3) := by decide +kernel
theorem dX4_isLessThan_8 : decode cX4_isLessThan 8 = .ok (.lcmp, 1) := by decide +kernel
theorem dX4_isLessThan_9 : decode cX4_isLessThan 9 = .ok (.ifCond .eq 21, 3) := by decide +kernel
theorem dX4_isLessThan_12 : decode cX4_isLessThan 12 = .ok (.aload_n 0, 1) := by decide +kernel
theorem dX4_isLessThan_13 : decode cX4_isLessThan 13 = .ok (.getfield 9, 3) := by decide +kernel
theorem dX4_isLessThan_16 : decode cX4_isLessThan 16 = .ok (.aload_n 1, 1) := by decide +kernel
theorem dX4_isLessThan_17 : decode cX4_isLessThan 17 = .ok (.getfield 9, 3) := by decide +kernel
theorem dX4_isLessThan_20 : decode cX4_isLessThan 20 = .ok (.lcmp, 1) := by decide +kernel
theorem dX4_isLessThan_21 : decode cX4_isLessThan 21 = .ok (.ifCond .ge 7, 3) := by decide +kernel
theorem dX4_isLessThan_24 : decode cX4_isLessThan 24 = .ok (.iconst 1, 1) := by decide +kernel
theorem dX4_isLessThan_25 : decode cX4_isLessThan 25 = .ok (.goto 4, 3) := by decide +kernel
theorem dX4_isLessThan_28 : decode cX4_isLessThan 28 = .ok (.iconst 0, 1) := by decide +kernel
theorem dX4_isLessThan_29 : decode cX4_isLessThan 29 = .ok (.ireturn, 1) := by decide +kernel
theorem dX4_isLessThan_30 : decode cX4_isLessThan 30 = .ok (.aload_n 0, 1) := by decide +kernel
theorem dX4_isLessThan_31 : decode cX4_isLessThan 31 = .ok (.getfield 15, 3) := by decide +kernel
theorem dX4_isLessThan_34 : decode cX4_isLessThan 34 = .ok (.aload_n 1, 1) := by decide +kernel
theorem dX4_isLessThan_35 : decode cX4_isLessThan 35 = .ok (.getfield 15, 3) := by decide +kernel
theorem dX4_isLessThan_38 : decode cX4_isLessThan 38 = .ok (.lcmp, 1) := by decide +kernel
theorem dX4_isLessThan_39 : decode cX4_isLessThan 39 = .ok (.ifCond .eq 21, 3) := by decide +kernel
theorem dX4_isLessThan_42 : decode cX4_isLessThan 42 = .ok (.aload_n 0, 1) := by decide +kernel
theorem dX4_isLessThan_43 : decode cX4_isLessThan 43 = .ok (.getfield 15, 3) := by decide +kernel
theorem dX4_isLessThan_46 : decode cX4_isLessThan 46 = .ok (.aload_n 1, 1) := by decide +kernel
theorem dX4_isLessThan_47 : decode cX4_isLessThan 47 = .ok (.getfield 15, 3) := by decide +kernel
theorem dX4_isLessThan_50 : decode cX4_isLessThan 50 = .ok (.lcmp, 1) := by decide +kernel
theorem dX4_isLessThan_51 : decode cX4_isLessThan 51 = .ok (.ifCond .ge 7, 3) := by decide +kernel
theorem dX4_isLessThan_54 : decode cX4_isLessThan 54 = .ok (.iconst 1, 1) := by decide +kernel
theorem dX4_isLessThan_55 : decode cX4_isLessThan 55 = .ok (.goto 4, 3) := by decide +kernel
theorem dX4_isLessThan_58 : decode cX4_isLessThan 58 = .ok (.iconst 0, 1) := by decide +kernel
theorem dX4_isLessThan_59 : decode cX4_isLessThan 59 = .ok (.ireturn, 1) := by decide +kernel
theorem dX4_isLessThan_60 : decode cX4_isLessThan 60 = .ok (.aload_n 0, 1) := by decide +kernel
theorem dX4_isLessThan_61 : decode cX4_isLessThan 61 = .ok (.getfield 18, 3) := by decide +kernel
theorem dX4_isLessThan_64 : decode cX4_isLessThan 64 = .ok (.aload_n 1, 1) := by decide +kernel
theorem dX4_isLessThan_65 : decode cX4_isLessThan 65 = .ok (.getfield 18, 3) := by decide +kernel
theorem dX4_isLessThan_68 : decode cX4_isLessThan 68 = .ok (.lcmp, 1) := by decide +kernel
theorem dX4_isLessThan_69 : decode cX4_isLessThan 69 = .ok (.ifCond .eq 21, 3) := by decide +kernel
theorem dX4_isLessThan_72 : decode cX4_isLessThan 72 = .ok (.aload_n 0, 1) := by decide +kernel
theorem dX4_isLessThan_73 : decode cX4_isLessThan 73 = .ok (.getfield 18, 3) := by decide +kernel
theorem dX4_isLessThan_76 : decode cX4_isLessThan 76 = .ok (.aload_n 1, 1) := by decide +kernel
theorem dX4_isLessThan_77 : decode cX4_isLessThan 77 = .ok (.getfield 18, 3) := by decide +kernel
theorem dX4_isLessThan_80 : decode cX4_isLessThan 80 = .ok (.lcmp, 1) := by decide +kernel
theorem dX4_isLessThan_81 : decode cX4_isLessThan 81 = .ok (.ifCond .ge 7, 3) := by decide +kernel
theorem dX4_isLessThan_84 : decode cX4_isLessThan 84 = .ok (.iconst 1, 1) := by decide +kernel
theorem dX4_isLessThan_85 : decode cX4_isLessThan 85 = .ok (.goto 4, 3) := by decide +kernel
theorem dX4_isLessThan_88 : decode cX4_isLessThan 88 = .ok (.iconst 0, 1) := by decide +kernel
theorem dX4_isLessThan_89 : decode cX4_isLessThan 89 = .ok (.ireturn, 1) := by decide +kernel
theorem dX4_isLessThan_90 : decode cX4_isLessThan 90 = .ok (.aload_n 0, 1) := by decide +kernel
theorem dX4_isLessThan_91 : decode cX4_isLessThan 91 = .ok (.getfield 21, 3) := by decide +kernel
theorem dX4_isLessThan_94 : decode cX4_isLessThan 94 = .ok (.aload_n 1, 1) := by decide +kernel
theorem dX4_isLessThan_95 : decode cX4_isLessThan 95 = .ok (.getfield 21, 3) := by decide +kernel
theorem dX4_isLessThan_98 : decode cX4_isLessThan 98 = .ok (.lcmp, 1) := by decide +kernel
theorem dX4_isLessThan_99 : decode cX4_isLessThan 99 = .ok (.ifCond .ge 7, 3) := by decide +kernel
theorem dX4_isLessThan_102 : decode cX4_isLessThan 102 = .ok (.iconst 1, 1) := by decide +kernel
theorem dX4_isLessThan_103 : decode cX4_isLessThan 103 = .ok (.goto 4, 3) := by decide +kernel
theorem dX4_isLessThan_106 : decode cX4_isLessThan 106 = .ok (.iconst 0, 1) := by decide +kernel
theorem dX4_isLessThan_107 : decode cX4_isLessThan 107 = .ok (.ireturn, 1) := by decide +kernel
theorem dX4_isMultipleOf_0 : decode cX4_isMultipleOf 0 = .ok (.aload_n 0, 1) := by decide +kernel
theorem dX4_isMultipleOf_1 : decode cX4_isMultipleOf 1 = .ok (.getfield 9, 3) := by decide +kernel
theorem dX4_isMultipleOf_4 : decode cX4_isMultipleOf 4 = .ok (.aload_n 1, 1) := by decide +kernel
theorem dX4_isMultipleOf_5 : decode cX4_isMultipleOf 5 = .ok (.getfield 15, 3) := by decide +kernel
theorem dX4_isMultipleOf_8 : decode cX4_isMultipleOf 8 = .ok (.lmul, 1) := by decide +kernel
theorem dX4_isMultipleOf_9 : decode cX4_isMultipleOf 9 = .ok (.aload_n 0, 1) := by decide +kernel
theorem dX4_isMultipleOf_10 : decode cX4_isMultipleOf 10 = .ok (.getfield 15, 3) := by decide +kernel
theorem dX4_isMultipleOf_13 : decode cX4_isMultipleOf 13 = .ok (.aload_n 1, 1) := by decide +kernel
theorem dX4_isMultipleOf_14 : decode cX4_isMultipleOf 14 = .ok (.getfield 9, 3) := by decide +kernel
theorem dX4_isMultipleOf_17 : decode cX4_isMultipleOf 17 = .ok (.lmul, 1) := by decide +kernel
theorem dX4_isMultipleOf_18 : decode cX4_isMultipleOf 18 = .ok (.lcmp, 1) := by decide +kernel
theorem dX4_isMultipleOf_19 : decode cX4_isMultipleOf 19 = .ok (.ifCond .ne 117, 3) := by decide +kernel
theorem dX4_isMultipleOf_22 : decode cX4_isMultipleOf 22 = .ok (.aload_n 0, 1) := by decide +kernel
theorem dX4_isMultipleOf_23 : decode cX4_isMultipleOf 23 = .ok (.getfield 9, 3) := by decide +kernel
theorem dX4_isMultipleOf_26 : decode cX4_isMultipleOf 26 = .ok (.aload_n 1, 1) := by decide +kernel
theorem dX4_isMultipleOf_27 : decode cX4_isMultipleOf 27 = .ok (.getfield 18, 3) := by decide +kernel
theorem dX4_isMultipleOf_30 : decode cX4_isMultipleOf 30 = .ok (.lmul, 1) := by decide +kernel
theorem dX4_isMultipleOf_31 : decode cX4_isMultipleOf 31 = .ok (.aload_n 0, 1) := by decide +kernel
theorem dX4_isMultipleOf_32 : decode cX4_isMultipleOf 32 = .ok (.getfield 18, 3) := by decide +kernel
theorem dX4_isMultipleOf_35 : decode cX4_isMultipleOf 35 = .ok (.aload_n 1, 1) := by decide +kernel
theorem dX4_isMultipleOf_36 : decode cX4_isMultipleOf 36 = .ok (.getfield 9, 3) := by decide +kernel
theorem dX4_isMultipleOf_39 : decode cX4_isMultipleOf 39 = .ok (.lmul, 1) := by decide +kernel
theorem dX4_isMultipleOf_40 : decode cX4_isMultipleOf 40 = .ok (.lcmp, 1) := by decide +kernel
theorem dX4_isMultipleOf_41 : decode cX4_isMultipleOf 41 = .ok (.ifCond .ne 95, 3) := by decide +kernel
theorem dX4_isMultipleOf_44 : decode cX4_isMultipleOf 44 = .ok (.aload_n 0, 1) := by decide +kernel
theorem dX4_isMultipleOf_45 : decode cX4_isMultipleOf 45 = .ok (.getfield 9, 3) := by decide +kernel
theorem dX4_isMultipleOf_48 : decode cX4_isMultipleOf 48 = .ok (.aload_n 1, 1) := by decide +kernel
theorem dX4_isMultipleOf_49 : decode cX4_isMultipleOf 49 = .ok (.getfield 21, 3) := by decide +kernel
theorem dX4_isMultipleOf_52 : decode cX4_isMultipleOf 52 = .ok (.lmul, 1) := by decide +kernel
theorem dX4_isMultipleOf_53 : decode cX4_isMultipleOf 53 = .ok (.aload_n 0, 1) := by decide +kernel
theorem dX4_isMultipleOf_54 : decode cX4_isMultipleOf 54 = .ok (.getfield 21, 3) := by decide +kernel
theorem dX4_isMultipleOf_57 : decode cX4_isMultipleOf 57 = .ok (.aload_n 1, 1) := by decide +kernel
theorem dX4_isMultipleOf_58 : decode cX4_isMultipleOf 58 = .ok (.getfield 9, 3) := by decide +kernel
theorem dX4_isMultipleOf_61 : decode cX4_isMultipleOf 61 = .ok (.lmul, 1) := by decide +kernel
theorem dX4_isMultipleOf_62 : decode cX4_isMultipleOf 62 = .ok (.lcmp, 1) := by decide +kernel
theorem dX4_isMultipleOf_63 : decode cX4_isMultipleOf 63 = .ok (.ifCond .ne 73, 3) := by decide +kernel
theorem dX4_isMultipleOf_66 : decode cX4_isMultipleOf 66 = .ok (.aload_n 0, 1) := by decide +kernel
theorem dX4_isMultipleOf_67 : decode cX4_isMultipleOf 67 = .ok (.getfield 15, 3) := by decide +kernel
theorem dX4_isMultipleOf_70 : decode cX4_isMultipleOf 70 = .ok (.aload_n 1, 1) := by decide +kernel
theorem dX4_isMultipleOf_71 : decode cX4_isMultipleOf 71 = .ok (.getfield 18, 3) := by decide +kernel
theorem dX4_isMultipleOf_74 : decode cX4_isMultipleOf 74 = .ok (.lmul, 1) := by decide +kernel
theorem dX4_isMultipleOf_75 : decode cX4_isMultipleOf 75 = .ok (.aload_n 0, 1) := by decide +kernel
theorem dX4_isMultipleOf_76 : decode cX4_isMultipleOf 76 = .ok (.getfield 18, 3) := by decide +kernel
theorem dX4_isMultipleOf_79 : decode cX4_isMultipleOf 79 = .ok (.aload_n 1, 1) := by decide +kernel
theorem dX4_isMultipleOf_80 : decode cX4_isMultipleOf 80 = .ok (.getfield 15, 3) := by decide +kernel
theorem dX4_isMultipleOf_83 : decode cX4_isMultipleOf 83 = .ok (.lmul, 1) := by decide +kernel
theorem dX4_isMultipleOf_84 : decode cX4_isMultipleOf 84 = .ok (.lcmp, 1) := by decide +kernel
theorem dX4_isMultipleOf_85 : decode cX4_isMultipleOf 85 = .ok (.ifCond .ne 51, 3) := by decide +kernel
theorem dX4_isMultipleOf_88 : decode cX4_isMultipleOf 88 = .ok (.aload_n 0, 1) := by decide +kernel
theorem dX4_isMultipleOf_89 : decode cX4_isMultipleOf 89 = .ok (.getfield 15, 3) := by decide +kernel
theorem dX4_isMultipleOf_92 : decode cX4_isMultipleOf 92 = .ok (.aload_n 1, 1) := by decide +kernel
theorem dX4_isMultipleOf_93 : decode cX4_isMultipleOf 93 = .ok (.getfield 21, 3) := by decide +kernel
theorem dX4_isMultipleOf_96 : decode cX4_isMultipleOf 96 = .ok (.lmul, 1) := by decide +kernel
theorem dX4_isMultipleOf_97 : decode cX4_isMultipleOf 97 = .ok (.aload_n 0, 1) := by decide +kernel
theorem dX4_isMultipleOf_98 : decode cX4_isMultipleOf 98 = .ok (.getfield 21, 3) := by decide +kernel
theorem dX4_isMultipleOf_101 : decode cX4_isMultipleOf 101 = .ok (.aload_n 1, 1) := by decide +kernel
theorem dX4_isMultipleOf_102 : decode cX4_isMultipleOf 102 = .ok (.getfield 15, 3) := by decide +kernel
theorem dX4_isMultipleOf_105 : decode cX4_isMultipleOf 105 = .ok (.lmul, 1) := by decide +kernel
theorem dX4_isMultipleOf_106 : decode cX4_isMultipleOf 106 = .ok (.lcmp, 1) := by decide +kernel
theorem dX4_isMultipleOf_107 : decode cX4_isMultipleOf 107 = .ok (.ifCond .ne 29, 3) := by decide +kernel
theorem dX4_isMultipleOf_110 : decode cX4_isMultipleOf 110 = .ok (.aload_n 0, 1) := by decide +kernel
theorem dX4_isMultipleOf_111 : decode cX4_isMultipleOf 111 = .ok (.getfield 18, 3) := by decide +kernel
theorem dX4_isMultipleOf_114 : decode cX4_isMultipleOf 114 = .ok (.aload_n 1, 1) := by decide +kernel
theorem dX4_isMultipleOf_115 : decode cX4_isMultipleOf 115 = .ok (.getfield 21, 3) := by decide +kernel
theorem dX4_isMultipleOf_118 : decode cX4_isMultipleOf 118 = .ok (.lmul, 1) := by decide +kernel
theorem dX4_isMultipleOf_119 : decode cX4_isMultipleOf 119 = .ok (.aload_n 0, 1) := by decide +kernel
theorem dX4_isMultipleOf_120 : decode cX4_isMultipleOf 120 = .ok (.getfield 21, 3) := by decide +kernel
theorem dX4_isMultipleOf_123 : decode cX4_isMultipleOf 123 = .ok (.aload_n 1, 1) := by decide +kernel
theorem dX4_isMultipleOf_124 : decode cX4_isMultipleOf 124 = .ok (.getfield 18, 3) := by decide +kernel
theorem dX4_isMultipleOf_127 : decode cX4_isMultipleOf 127 = .ok (.lmul, 1) := by decide +kernel
theorem dX4_isMultipleOf_128 : decode cX4_isMultipleOf 128 = .ok (.lcmp, 1) := by decide +kernel
theorem dX4_isMultipleOf_129 : decode cX4_isMultipleOf 129 = .ok (.ifCond .ne 7, 3) := by decide +kernel
theorem dX4_isMultipleOf_132 : decode cX4_isMultipleOf 132 = .ok (.iconst 1, 1) := by decide +kernel
theorem dX4_isMultipleOf_133 : decode cX4_isMultipleOf 133 = .ok (.goto 4, 3) := by decide +kernel
theorem dX4_isMultipleOf_136 : decode cX4_isMultipleOf 136 = .ok (.iconst 0, 1) := by decide +kernel
theorem dX4_isMultipleOf_137 : decode cX4_isMultipleOf 137 = .ok (.ireturn, 1) := by decide +kernel
theorem dX4_numbersDivisor_0 : decode cX4_numbersDivisor 0 = .ok (.aload_n 0, 1) := by decide +kernel
theorem dX4_numbersDivisor_1 : decode cX4_numbersDivisor 1 = .ok (.getfield 9, 3) := by decide +kernel
theorem dX4_numbersDivisor_4 : decode cX4_numbersDivisor 4 = .ok (.aload_n 0, 1) := by decide +kernel
theorem dX4_numbersDivisor_5 : decode cX4_numbersDivisor 5 = .ok (.getfield 15, 3) := by decide +kernel
theorem dX4_numbersDivisor_8 : decode cX4_numbersDivisor 8 = .ok (.invokestatic 51, 3) := by decide +kernel
theorem dX4_numbersDivisor_11 : decode cX4_numbersDivisor 11 = .ok (.aload_n 0, 1) := by decide +kernel
theorem dX4_numbersDivisor_12 : decode cX4_numbersDivisor 12 = .ok (.getfield 18, 3) := by decide +kernel
theorem dX4_numbersDivisor_15 : decode cX4_numbersDivisor 15 = .ok (.aload_n 0, 1) := by decide +kernel
theorem dX4_numbersDivisor_16 : decode cX4_numbersDivisor 16 = .ok (.getfield 21, 3) := by decide +kernel
theorem dX4_numbersDivisor_19 : decode cX4_numbersDivisor 19 = .ok (.invokestatic 51, 3) := by decide +kernel
theorem dX4_numbersDivisor_22 : decode cX4_numbersDivisor 22 = .ok (.invokestatic 51, 3) := by decide +kernel
theorem dX4_numbersDivisor_25 : decode cX4_numbersDivisor 25 = .ok (.lreturn, 1) := by decide +kernel
theorem dX4_wholeDivisor_0 : decode cX4_wholeDivisor 0 = .ok (.aload_n 0, 1) := by decide +kernel
theorem dX4_wholeDivisor_1 : decode cX4_wholeDivisor 1 = .ok (.invokevirtual 55, 3) := by decide +kernel
theorem dX4_wholeDivisor_4 : decode cX4_wholeDivisor 4 = .ok (.lstore_n 1, 1) := by decide +kernel
theorem dX4_wholeDivisor_5 : decode cX4_wholeDivisor 5 = .ok (.lload_n 1, 1) := by decide +kernel
theorem dX4_wholeDivisor_6 : decode cX4_wholeDivisor 6 = .ok (.lconst 0, 1) := by decide +kernel
theorem dX4_wholeDivisor_7 : decode cX4_wholeDivisor 7 = .ok (.lcmp, 1) := by decide +kernel
theorem dX4_wholeDivisor_8 : decode cX4_wholeDivisor 8 = .ok (.ifCond .ne 5, 3) := by decide +kernel
theorem dX4_wholeDivisor_11 : decode cX4_wholeDivisor 11 = .ok (.lconst 0, 1) := by decide +kernel
theorem dX4_wholeDivisor_12 : decode cX4_wholeDivisor 12 = .ok (.lreturn, 1) := by decide +kernel
theorem dX4_wholeDivisor_13 : decode cX4_wholeDivisor 13 = .ok (.aload_n 0, 1) := by decide +kernel
theorem dX4_wholeDivisor_14 : decode cX4_wholeDivisor 14 = .ok (.getfield 9, 3) := by decide +kernel
theorem dX4_wholeDivisor_17 : decode cX4_wholeDivisor 17 = .ok (.lload_n 1, 1) := by decide +kernel
theorem dX4_wholeDivisor_18 : decode cX4_wholeDivisor 18 = .ok (.ldiv, 1) := by decide +kernel
theorem dX4_wholeDivisor_19 : decode cX4_wholeDivisor 19 = .ok (.aload_n 0, 1) := by decide +kernel
theorem dX4_wholeDivisor_20 : decode cX4_wholeDivisor 20 = .ok (.getfield 15, 3) := by decide +kernel
theorem dX4_wholeDivisor_23 : decode cX4_wholeDivisor 23 = .ok (.lload_n 1, 1) := by decide +kernel
theorem dX4_wholeDivisor_24 : decode cX4_wholeDivisor 24 = .ok (.ldiv, 1) := by decide +kernel
theorem dX4_wholeDivisor_25 : decode cX4_wholeDivisor 25 = .ok (.land, 1) := by decide +kernel
theorem dX4_wholeDivisor_26 : decode cX4_wholeDivisor 26 = .ok (.aload_n 0, 1) := by decide +kernel
theorem dX4_wholeDivisor_27 : decode cX4_wholeDivisor 27 = .ok (.getfield 18, 3) := by decide +kernel
theorem dX4_wholeDivisor_30 : decode cX4_wholeDivisor 30 = .ok (.lload_n 1, 1) := by decide +kernel
theorem dX4_wholeDivisor_31 : decode cX4_wholeDivisor 31 = .ok (.ldiv, 1) := by decide +kernel
theorem dX4_wholeDivisor_32 : decode cX4_wholeDivisor 32 = .ok (.land, 1) := by decide +kernel
theorem dX4_wholeDivisor_33 : decode cX4_wholeDivisor 33 = .ok (.aload_n 0, 1) := by decide +kernel
theorem dX4_wholeDivisor_34 : decode cX4_wholeDivisor 34 = .ok (.getfield 21, 3) := by decide +kernel
theorem dX4_wholeDivisor_37 : decode cX4_wholeDivisor 37 = .ok (.lload_n 1, 1) := by decide +kernel
theorem dX4_wholeDivisor_38 : decode cX4_wholeDivisor 38 = .ok (.ldiv, 1) := by decide +kernel
theorem dX4_wholeDivisor_39 : decode cX4_wholeDivisor 39 = .ok (.land, 1) := by decide +kernel
theorem dX4_wholeDivisor_40 : decode cX4_wholeDivisor 40 = .ok (.lconst 1, 1) := by decide +kernel
theorem dX4_wholeDivisor_41 : decode cX4_wholeDivisor 41 = .ok (.land, 1) := by decide +kernel
theorem dX4_wholeDivisor_42 : decode cX4_wholeDivisor 42 = .ok (.lconst 1, 1) := by decide +kernel
theorem dX4_wholeDivisor_43 : decode cX4_wholeDivisor 43 = .ok (.lcmp, 1) := by decide +kernel
theorem dX4_wholeDivisor_44 : decode cX4_wholeDivisor 44 = .ok (.ifCond .ne 7, 3) := by decide +kernel
theorem dX4_wholeDivisor_47 : decode cX4_wholeDivisor 47 = .ok (.iconst 1, 1) := by decide +kernel
theorem dX4_wholeDivisor_48 : decode cX4_wholeDivisor 48 = .ok (.goto 4, 3) := by decide +kernel
theorem dX4_wholeDivisor_51 : decode cX4_wholeDivisor 51 = .ok (.iconst 0, 1) := by decide +kernel
theorem dX4_wholeDivisor_52 : decode cX4_wholeDivisor 52 = .ok (.istore_n 3, 1) := by decide +kernel
theorem dX4_wholeDivisor_53 : decode cX4_wholeDivisor 53 = .ok (.iload_n 3, 1) := by decide +kernel
theorem dX4_wholeDivisor_54 : decode cX4_wholeDivisor 54 = .ok (.ifCond .eq 7, 3) := by decide +kernel
theorem dX4_wholeDivisor_57 : decode cX4_wholeDivisor 57 = .ok (.lload_n 1, 1) := by decide +kernel
theorem dX4_wholeDivisor_58 : decode cX4_wholeDivisor 58 = .ok (.goto 8, 3) := by decide +kernel
theorem dX4_wholeDivisor_61 : decode cX4_wholeDivisor 61 = .ok (.lload_n 1, 1) := by decide +kernel
theorem dX4_wholeDivisor_62 : decode cX4_wholeDivisor 62 = .ok (.ldc2_w 28, 3) := by decide +kernel
theorem dX4_wholeDivisor_65 : decode cX4_wholeDivisor 65 = .ok (.ldiv, 1) := by decide +kernel
theorem dX4_wholeDivisor_66 : decode cX4_wholeDivisor 66 = .ok (.lreturn, 1) := by decide +kernel
theorem dX4_ownIndex_0 : decode cX4_ownIndex 0 = .ok (.aload_n 0, 1) := by decide +kernel
theorem dX4_ownIndex_1 : decode cX4_ownIndex 1 = .ok (.invokevirtual 58, 3) := by decide +kernel
theorem dX4_ownIndex_4 : decode cX4_ownIndex 4 = .ok (.lstore_n 1, 1) := by decide +kernel
theorem dX4_ownIndex_5 : decode cX4_ownIndex 5 = .ok (.lload_n 1, 1) := by decide +kernel
theorem dX4_ownIndex_6 : decode cX4_ownIndex 6 = .ok (.lconst 0, 1) := by decide +kernel
theorem dX4_ownIndex_7 : decode cX4_ownIndex 7 = .ok (.lcmp, 1) := by decide +kernel
theorem dX4_ownIndex_8 : decode cX4_ownIndex 8 = .ok (.ifCond .ne 5, 3) := by decide +kernel
theorem dX4_ownIndex_11 : decode cX4_ownIndex 11 = .ok (.lconst 0, 1) := by decide +kernel
theorem dX4_ownIndex_12 : decode cX4_ownIndex 12 = .ok (.lreturn, 1) := by decide +kernel
theorem dX4_ownIndex_13 : decode cX4_ownIndex 13 = .ok (.aload_n 0, 1) := by decide +kernel
theorem dX4_ownIndex_14 : decode cX4_ownIndex 14 = .ok (.invokevirtual 42, 3) := by decide +kernel
theorem dX4_ownIndex_17 : decode cX4_ownIndex 17 = .ok (.lload_n 1, 1) := by decide +kernel
theorem dX4_ownIndex_18 : decode cX4_ownIndex 18 = .ok (.ldiv, 1) := by decide +kernel
theorem dX4_ownIndex_19 : decode cX4_ownIndex 19 = .ok (.lload_n 1, 1) := by decide +kernel
theorem dX4_ownIndex_20 : decode cX4_ownIndex 20 = .ok (.ldiv, 1) := by decide +kernel
theorem dX4_ownIndex_21 : decode cX4_ownIndex 21 = .ok (.iconst 2, 1) := by decide +kernel
theorem dX4_ownIndex_22 : decode cX4_ownIndex 22 = .ok (.invokestatic 61, 3) := by decide +kernel
theorem dX4_ownIndex_25 : decode cX4_ownIndex 25 = .ok (.lreturn, 1) := by decide +kernel
theorem dX5_init_0 : decode cX5_init 0 = .ok (.aload_n 0, 1) := by decide +kernel
theorem dX5_init_1 : decode cX5_init 1 = .ok (.invokespecial 3, 3) := by decide +kernel
theorem dX5_init_4 : decode cX5_init 4 = .ok (.aload_n 0, 1) := by decide +kernel
theorem dX5_init_5 : decode cX5_init 5 = .ok (.new 9, 3) := by decide +kernel
theorem dX5_init_8 : decode cX5_init 8 = .ok (.dup, 1) := by decide +kernel
theorem dX5_init_9 : decode cX5_init 9 = .ok (.invokespecial 11, 3) := by decide +kernel
theorem dX5_init_12 : decode cX5_init 12 = .ok (.putfield 12, 3) := by decide +kernel
theorem dX5_init_15 : decode cX5_init 15 = .ok (.aload_n 0, 1) := by decide +kernel
theorem dX5_init_16 : decode cX5_init 16 = .ok (.new 9, 3) := by decide +kernel
theorem dX5_init_19 : decode cX5_init 19 = .ok (.dup, 1) := by decide +kernel
theorem dX5_init_20 : decode cX5_init 20 = .ok (.invokespecial 11, 3) := by decide +kernel
theorem dX5_init_23 : decode cX5_init 23 = .ok (.putfield 18, 3) := by decide +kernel
theorem dX5_init_26 : decode cX5_init 26 = .ok (.aload_n 0, 1) := by decide +kernel
theorem dX5_init_27 : decode cX5_init 27 = .ok (.new 9, 3) := by decide +kernel
theorem dX5_init_30 : decode cX5_init 30 = .ok (.dup, 1) := by decide +kernel
theorem dX5_init_31 : decode cX5_init 31 = .ok (.invokespecial 11, 3) := by decide +kernel
theorem dX5_init_34 : decode cX5_init 34 = .ok (.putfield 21, 3) := by decide +kernel
theorem dX5_init_37 : decode cX5_init 37 = .ok (.aload_n 0, 1) := by decide +kernel
theorem dX5_init_38 : decode cX5_init 38 = .ok (.new 24, 3) := by decide +kernel
theorem dX5_init_41 : decode cX5_init 41 = .ok (.dup, 1) := by decide +kernel
theorem dX5_init_42 : decode cX5_init 42 = .ok (.invokespecial 26, 3) := by decide +kernel
theorem dX5_init_45 : decode cX5_init 45 = .ok (.putfield 27, 3) := by decide +kernel
theorem dX5_init_48 : decode cX5_init 48 = .ok (.aload_n 0, 1) := by decide +kernel
theorem dX5_init_49 : decode cX5_init 49 = .ok (.new 31, 3) := by decide +kernel
theorem dX5_init_52 : decode cX5_init 52 = .ok (.dup, 1) := by decide +kernel
theorem dX5_init_53 : decode cX5_init 53 = .ok (.invokespecial 33, 3) := by decide +kernel
theorem dX5_init_56 : decode cX5_init 56 = .ok (.putfield 34, 3) := by decide +kernel
theorem dX5_init_59 : decode cX5_init 59 = .ok (.return_, 1) := by decide +kernel
theorem dX5_seek_0 : decode cX5_seek 0 = .ok (.aload_n 0, 1) := by decide +kernel
theorem dX5_seek_1 : decode cX5_seek 1 = .ok (.getfield 18, 3) := by decide +kernel
theorem dX5_seek_4 : decode cX5_seek 4 = .ok (.aload_n 1, 1) := by decide +kernel
theorem dX5_seek_5 : decode cX5_seek 5 = .ok (.invokevirtual 38, 3) := by decide +kernel
theorem dX5_seek_8 : decode cX5_seek 8 = .ok (.aload_n 0, 1) := by decide +kernel
theorem dX5_seek_9 : decode cX5_seek 9 = .ok (.getfield 21, 3) := by decide +kernel
theorem dX5_seek_12 : decode cX5_seek 12 = .ok (.aload_n 2, 1) := by decide +kernel
theorem dX5_seek_13 : decode cX5_seek 13 = .ok (.invokevirtual 38, 3) := by decide +kernel
theorem dX5_seek_16 : decode cX5_seek 16 = .ok (.iconst 0, 1) := by decide +kernel
theorem dX5_seek_17 : decode cX5_seek 17 = .ok (.istore 4, 2) := by decide +kernel
theorem dX5_seek_19 : decode cX5_seek 19 = .ok (.iload 4, 2) := by decide +kernel
theorem dX5_seek_21 : decode cX5_seek 21 = .ok (.ldc 42, 2) := by decide +kernel
theorem dX5_seek_23 : decode cX5_seek 23 = .ok (.if_icmp .ge 60, 3) := by decide +kernel
theorem dX5_seek_26 : decode cX5_seek 26 = .ok (.aload_n 0, 1) := by decide +kernel
theorem dX5_seek_27 : decode cX5_seek 27 = .ok (.getfield 21, 3) := by decide +kernel
theorem dX5_seek_30 : decode cX5_seek 30 = .ok (.invokevirtual 43, 3) := by decide +kernel
theorem dX5_seek_33 : decode cX5_seek 33 = .ok (.ifCond .ne 50, 3) := by decide +kernel
theorem dX5_seek_36 : decode cX5_seek 36 = .ok (.aload_n 0, 1) := by decide +kernel
theorem dX5_seek_37 : decode cX5_seek 37 = .ok (.getfield 27, 3) := by decide +kernel
theorem dX5_seek_40 : decode cX5_seek 40 = .ok (.aload_n 0, 1) := by decide +kernel
theorem dX5_seek_41 : decode cX5_seek 41 = .ok (.getfield 18, 3) := by decide +kernel
theorem dX5_seek_44 : decode cX5_seek 44 = .ok (.aload_n 0, 1) := by decide +kernel
theorem dX5_seek_45 : decode cX5_seek 45 = .ok (.getfield 21, 3) := by decide +kernel
theorem dX5_seek_48 : decode cX5_seek 48 = .ok (.iload_n 3, 1) := by decide +kernel
theorem dX5_seek_49 : decode cX5_seek 49 = .ok (.invokevirtual 47, 3) := by decide +kernel
theorem dX5_seek_52 : decode cX5_seek 52 = .ok (.aload_n 0, 1) := by decide +kernel
theorem dX5_seek_53 : decode cX5_seek 53 = .ok (.getfield 18, 3) := by decide +kernel
theorem dX5_seek_56 : decode cX5_seek 56 = .ok (.aload_n 0, 1) := by decide +kernel
theorem dX5_seek_57 : decode cX5_seek 57 = .ok (.getfield 21, 3) := by decide +kernel
theorem dX5_seek_60 : decode cX5_seek 60 = .ok (.invokevirtual 38, 3) := by decide +kernel
theorem dX5_seek_63 : decode cX5_seek 63 = .ok (.aload_n 0, 1) := by decide +kernel
theorem dX5_seek_64 : decode cX5_seek 64 = .ok (.getfield 21, 3) := by decide +kernel
theorem dX5_seek_67 : decode cX5_seek 67 = .ok (.aload_n 0, 1) := by decide +kernel
theorem dX5_seek_68 : decode cX5_seek 68 = .ok (.getfield 27, 3) := by decide +kernel
theorem dX5_seek_71 : decode cX5_seek 71 = .ok (.getfield 51, 3) := by decide +kernel
theorem dX5_seek_74 : decode cX5_seek 74 = .ok (.invokevirtual 38, 3) := by decide +kernel
theorem dX5_seek_77 : decode cX5_seek 77 = .ok (.iinc 4 1, 3) := by decide +kernel
theorem dX5_seek_80 : decode cX5_seek 80 = .ok (.goto (-61), 3) := by decide +kernel
theorem dX5_seek_83 : decode cX5_seek 83 = .ok (.aload_n 0, 1) := by decide +kernel
theorem dX5_seek_84 : decode cX5_seek 84 = .ok (.getfield 34, 3) := by decide +kernel
theorem dX5_seek_87 : decode cX5_seek 87 = .ok (.aload_n 0, 1) := by decide +kernel
theorem dX5_seek_88 : decode cX5_seek 88 = .ok (.getfield 18, 3) := by decide +kernel
theorem dX5_seek_91 : decode cX5_seek 91 = .ok (.iload_n 3, 1) := by decide +kernel
theorem dX5_seek_92 : decode cX5_seek 92 = .ok (.ifCond .ne 7, 3) := by decide +kernel
theorem dX5_seek_95 : decode cX5_seek 95 = .ok (.iconst 1, 1) := by decide +kernel
theorem dX5_seek_96 : decode cX5_seek 96 = .ok (.goto 4, 3) := by decide +kernel
theorem dX5_seek_99 : decode cX5_seek 99 = .ok (.iconst 0, 1) := by decide +kernel
theorem dX5_seek_100 : decode cX5_seek 100 = .ok (.invokevirtual 54, 3) := by decide +kernel
theorem dX5_seek_103 : decode cX5_seek 103 = .ok (.aload_n 0, 1) := by decide +kernel
theorem dX5_seek_104 : decode cX5_seek 104 = .ok (.getfield 12, 3) := by decide +kernel
theorem dX5_seek_107 : decode cX5_seek 107 = .ok (.aload_n 0, 1) := by decide +kernel
theorem dX5_seek_108 : decode cX5_seek 108 = .ok (.getfield 34, 3) := by decide +kernel
theorem dX5_seek_111 : decode cX5_seek 111 = .ok (.getfield 58, 3) := by decide +kernel
theorem dX5_seek_114 : decode cX5_seek 114 = .ok (.invokevirtual 38, 3) := by decide +kernel
theorem dX5_seek_117 : decode cX5_seek 117 = .ok (.return_, 1) := by decide +kernel
theorem dX6_init_0 : decode cX6_init 0 = .ok (.aload_n 0, 1) := by decide +kernel
theorem dX6_init_1 : decode cX6_init 1 = .ok (.invokespecial 3, 3) := by decide +kernel
theorem dX6_init_4 : decode cX6_init 4 = .ok (.aload_n 0, 1) := by decide +kernel
theorem dX6_init_5 : decode cX6_init 5 = .ok (.new 9, 3) := by decide +kernel
theorem dX6_init_8 : decode cX6_init 8 = .ok (.dup, 1) := by decide +kernel
theorem dX6_init_9 : decode cX6_init 9 = .ok (.invokespecial 11, 3) := by decide +kernel
theorem dX6_init_12 : decode cX6_init 12 = .ok (.putfield 12, 3) := by decide +kernel
theorem dX6_init_15 : decode cX6_init 15 = .ok (.aload_n 0, 1) := by decide +kernel
theorem dX6_init_16 : decode cX6_init 16 = .ok (.sipush 601, 3) := by decide +kernel
theorem dX6_init_19 : decode cX6_init 19 = .ok (.newarray .int, 2) := by decide +kernel
theorem dX6_init_21 : decode cX6_init 21 = .ok (.putfield 18, 3) := by decide +kernel
theorem dX6_init_24 : decode cX6_init 24 = .ok (.iconst 0, 1) := by decide +kernel
theorem dX6_init_25 : decode cX6_init 25 = .ok (.istore_n 1, 1) := by decide +kernel
theorem dX6_init_26 : decode cX6_init 26 = .ok (.iconst 0, 1) := by decide +kernel
theorem dX6_init_27 : decode cX6_init 27 = .ok (.istore_n 2, 1) := by decide +kernel
theorem dX6_init_28 : decode cX6_init 28 = .ok (.iload_n 2, 1) := by decide +kernel
theorem dX6_init_29 : decode cX6_init 29 = .ok (.aload_n 0, 1) := by decide +kernel
theorem dX6_init_30 : decode cX6_init 30 = .ok (.getfield 18, 3) := by decide +kernel
theorem dX6_init_33 : decode cX6_init 33 = .ok (.arraylength, 1) := by decide +kernel
theorem dX6_init_34 : decode cX6_init 34 = .ok (.if_icmp .ge 30, 3) := by decide +kernel
theorem dX6_init_37 : decode cX6_init 37 = .ok (.iload_n 1, 1) := by decide +kernel
theorem dX6_init_38 : decode cX6_init 38 = .ok (.iconst 1, 1) := by decide +kernel
theorem dX6_init_39 : decode cX6_init 39 = .ok (.iadd, 1) := by decide +kernel
theorem dX6_init_40 : decode cX6_init 40 = .ok (.iload_n 1, 1) := by decide +kernel
theorem dX6_init_41 : decode cX6_init 41 = .ok (.iconst 1, 1) := by decide +kernel
theorem dX6_init_42 : decode cX6_init 42 = .ok (.iadd, 1) := by decide +kernel
theorem dX6_init_43 : decode cX6_init 43 = .ok (.imul, 1) := by decide +kernel
theorem dX6_init_44 : decode cX6_init 44 = .ok (.iload_n 2, 1) := by decide +kernel
theorem dX6_init_45 : decode cX6_init 45 = .ok (.if_icmp .gt 6, 3) := by decide +kernel
theorem dX6_init_48 : decode cX6_init 48 = .ok (.iinc 1 1, 3) := by decide +kernel
theorem dX6_init_51 : decode cX6_init 51 = .ok (.aload_n 0, 1) := by decide +kernel
theorem dX6_init_52 : decode cX6_init 52 = .ok (.getfield 18, 3) := by decide +kernel
theorem dX6_init_55 : decode cX6_init 55 = .ok (.iload_n 2, 1) := by decide +kernel
theorem dX6_init_56 : decode cX6_init 56 = .ok (.iload_n 1, 1) := by decide +kernel
theorem dX6_init_57 : decode cX6_init 57 = .ok (.iastore, 1) := by decide +kernel
theorem dX6_init_58 : decode cX6_init 58 = .ok (.iinc 2 1, 3) := by decide +kernel
theorem dX6_init_61 : decode cX6_init 61 = .ok (.goto (-33), 3) := by decide +kernel
theorem dX6_init_64 : decode cX6_init 64 = .ok (.aload_n 0, 1) := by decide +kernel
theorem dX6_init_65 : decode cX6_init 65 = .ok (.iconst 0, 1) := by decide +kernel
theorem dX6_init_66 : decode cX6_init 66 = .ok (.putfield 22, 3) := by decide +kernel
theorem dX6_init_69 : decode cX6_init 69 = .ok (.return_, 1) := by decide +kernel
theorem dX6_seek_0 : decode cX6_seek 0 = .ok (.aload_n 0, 1) := by decide +kernel
theorem dX6_seek_1 : decode cX6_seek 1 = .ok (.iload_n 2, 1) := by decide +kernel
theorem dX6_seek_2 : decode cX6_seek 2 = .ok (.putfield 22, 3) := by decide +kernel
theorem dX6_seek_5 : decode cX6_seek 5 = .ok (.iconst 4, 1) := by decide +kernel
theorem dX6_seek_6 : decode cX6_seek 6 = .ok (.iload_n 1, 1) := by decide +kernel
theorem dX6_seek_7 : decode cX6_seek 7 = .ok (.imul, 1) := by decide +kernel
theorem dX6_seek_8 : decode cX6_seek 8 = .ok (.istore_n 3, 1) := by decide +kernel
theorem dX6_seek_9 : decode cX6_seek 9 = .ok (.aload_n 0, 1) := by decide +kernel
theorem dX6_seek_10 : decode cX6_seek 10 = .ok (.iload_n 3, 1) := by decide +kernel
theorem dX6_seek_11 : decode cX6_seek 11 = .ok (.invokevirtual 26, 3) := by decide +kernel
theorem dX6_seek_14 : decode cX6_seek 14 = .ok (.istore 4, 2) := by decide +kernel
theorem dX6_seek_16 : decode cX6_seek 16 = .ok (.iload 4, 2) := by decide +kernel
theorem dX6_seek_18 : decode cX6_seek 18 = .ok (.ineg, 1) := by decide +kernel
theorem dX6_seek_19 : decode cX6_seek 19 = .ok (.istore 5, 2) := by decide +kernel
theorem dX6_seek_21 : decode cX6_seek 21 = .ok (.iload 5, 2) := by decide +kernel
theorem dX6_seek_23 : decode cX6_seek 23 = .ok (.iload 4, 2) := by decide +kernel
theorem dX6_seek_25 : decode cX6_seek 25 = .ok (.if_icmp .gt 75, 3) := by decide +kernel
theorem dX6_seek_28 : decode cX6_seek 28 = .ok (.iload_n 3, 1) := by decide +kernel
theorem dX6_seek_29 : decode cX6_seek 29 = .ok (.iload 5, 2) := by decide +kernel
theorem dX6_seek_31 : decode cX6_seek 31 = .ok (.iload 5, 2) := by decide +kernel
theorem dX6_seek_33 : decode cX6_seek 33 = .ok (.imul, 1) := by decide +kernel
theorem dX6_seek_34 : decode cX6_seek 34 = .ok (.isub, 1) := by decide +kernel
theorem dX6_seek_35 : decode cX6_seek 35 = .ok (.istore 6, 2) := by decide +kernel
theorem dX6_seek_37 : decode cX6_seek 37 = .ok (.aload_n 0, 1) := by decide +kernel
theorem dX6_seek_38 : decode cX6_seek 38 = .ok (.iload 6, 2) := by decide +kernel
theorem dX6_seek_40 : decode cX6_seek 40 = .ok (.invokevirtual 26, 3) := by decide +kernel
theorem dX6_seek_43 : decode cX6_seek 43 = .ok (.istore 7, 2) := by decide +kernel
theorem dX6_seek_45 : decode cX6_seek 45 = .ok (.iload 7, 2) := by decide +kernel
theorem dX6_seek_47 : decode cX6_seek 47 = .ok (.ineg, 1) := by decide +kernel
theorem dX6_seek_48 : decode cX6_seek 48 = .ok (.istore 8, 2) := by decide +kernel
theorem dX6_seek_50 : decode cX6_seek 50 = .ok (.iload 8, 2) := by decide +kernel
theorem dX6_seek_52 : decode cX6_seek 52 = .ok (.iload 7, 2) := by decide +kernel
theorem dX6_seek_54 : decode cX6_seek 54 = .ok (.if_icmp .gt 40, 3) := by decide +kernel
theorem dX6_seek_57 : decode cX6_seek 57 = .ok (.iload 5, 2) := by decide +kernel
theorem dX6_seek_59 : decode cX6_seek 59 = .ok (.iload 8, 2) := by decide +kernel
theorem dX6_seek_61 : decode cX6_seek 61 = .ok (.iadd, 1) := by decide +kernel
theorem dX6_seek_62 : decode cX6_seek 62 = .ok (.iconst 1, 1) := by decide +kernel
theorem dX6_seek_63 : decode cX6_seek 63 = .ok (.iand, 1) := by decide +kernel
theorem dX6_seek_64 : decode cX6_seek 64 = .ok (.ifCond .ne 24, 3) := by decide +kernel
theorem dX6_seek_67 : decode cX6_seek 67 = .ok (.aload_n 0, 1) := by decide +kernel
theorem dX6_seek_68 : decode cX6_seek 68 = .ok (.iload 5, 2) := by decide +kernel
theorem dX6_seek_70 : decode cX6_seek 70 = .ok (.iload 8, 2) := by decide +kernel
theorem dX6_seek_72 : decode cX6_seek 72 = .ok (.iload 6, 2) := by decide +kernel
theorem dX6_seek_74 : decode cX6_seek 74 = .ok (.iload 8, 2) := by decide +kernel
theorem dX6_seek_76 : decode cX6_seek 76 = .ok (.iload 8, 2) := by decide +kernel
theorem dX6_seek_78 : decode cX6_seek 78 = .ok (.imul, 1) := by decide +kernel
theorem dX6_seek_79 : decode cX6_seek 79 = .ok (.isub, 1) := by decide +kernel
theorem dX6_seek_80 : decode cX6_seek 80 = .ok (.invokevirtual 30, 3) := by decide +kernel
theorem dX6_seek_83 : decode cX6_seek 83 = .ok (.ifCond .eq 5, 3) := by decide +kernel
theorem dX6_seek_86 : decode cX6_seek 86 = .ok (.iconst 1, 1) := by decide +kernel
theorem dX6_seek_87 : decode cX6_seek 87 = .ok (.ireturn, 1) := by decide +kernel
theorem dX6_seek_88 : decode cX6_seek 88 = .ok (.iinc 8 1, 3) := by decide +kernel
theorem dX6_seek_91 : decode cX6_seek 91 = .ok (.goto (-41), 3) := by decide +kernel
theorem dX6_seek_94 : decode cX6_seek 94 = .ok (.iinc 5 1, 3) := by decide +kernel
theorem dX6_seek_97 : decode cX6_seek 97 = .ok (.goto (-76), 3) := by decide +kernel
theorem dX6_seek_100 : decode cX6_seek 100 = .ok (.iconst 0, 1) := by decide +kernel
theorem dX6_seek_101 : decode cX6_seek 101 = .ok (.ireturn, 1) := by decide +kernel
theorem dX6_seekBehind_0 : decode cX6_seekBehind 0 = .ok (.aload_n 0, 1) := by decide +kernel
theorem dX6_seekBehind_1 : decode cX6_seekBehind 1 = .ok (.iload_n 3, 1) := by decide +kernel
theorem dX6_seekBehind_2 : decode cX6_seekBehind 2 = .ok (.invokevirtual 26, 3) := by decide +kernel
theorem dX6_seekBehind_5 : decode cX6_seekBehind 5 = .ok (.istore 4, 2) := by decide +kernel
theorem dX6_seekBehind_7 : decode cX6_seekBehind 7 = .ok (.iload 4, 2) := by decide +kernel
theorem dX6_seekBehind_9 : decode cX6_seekBehind 9 = .ok (.ineg, 1) := by decide +kernel
theorem dX6_seekBehind_10 : decode cX6_seekBehind 10 = .ok (.istore 5, 2) := by decide +kernel
theorem dX6_seekBehind_12 : decode cX6_seekBehind 12 = .ok (.iload 5, 2) := by decide +kernel
theorem dX6_seekBehind_14 : decode cX6_seekBehind 14 = .ok (.iload 4, 2) := by decide +kernel
theorem dX6_seekBehind_16 : decode cX6_seekBehind 16 = .ok (.if_icmp .gt 88, 3) := by decide +kernel
theorem dX6_seekBehind_19 : decode cX6_seekBehind 19 = .ok (.iload_n 2, 1) := by decide +kernel
theorem dX6_seekBehind_20 : decode cX6_seekBehind 20 = .ok (.iload 5, 2) := by decide +kernel
theorem dX6_seekBehind_22 : decode cX6_seekBehind 22 = .ok (.iadd, 1) := by decide +kernel
theorem dX6_seekBehind_23 : decode cX6_seekBehind 23 = .ok (.iconst 1, 1) := by decide +kernel
theorem dX6_seekBehind_24 : decode cX6_seekBehind 24 = .ok (.iand, 1) := by decide +kernel
theorem dX6_seekBehind_25 : decode cX6_seekBehind 25 = .ok (.ifCond .eq 6, 3) := by decide +kernel
theorem dX6_seekBehind_28 : decode cX6_seekBehind 28 = .ok (.goto 70, 3) := by decide +kernel
theorem dX6_seekBehind_31 : decode cX6_seekBehind 31 = .ok (.aload_n 0, 1) := by decide +kernel
theorem dX6_seekBehind_32 : decode cX6_seekBehind 32 = .ok (.iload_n 3, 1) := by decide +kernel
theorem dX6_seekBehind_33 : decode cX6_seekBehind 33 = .ok (.iload 5, 2) := by decide +kernel
theorem dX6_seekBehind_35 : decode cX6_seekBehind 35 = .ok (.iload 5, 2) := by decide +kernel
theorem dX6_seekBehind_37 : decode cX6_seekBehind 37 = .ok (.imul, 1) := by decide +kernel
theorem dX6_seekBehind_38 : decode cX6_seekBehind 38 = .ok (.isub, 1) := by decide +kernel
theorem dX6_seekBehind_39 : decode cX6_seekBehind 39 = .ok (.invokevirtual 26, 3) := by decide +kernel
theorem dX6_seekBehind_42 : decode cX6_seekBehind 42 = .ok (.istore 6, 2) := by decide +kernel
theorem dX6_seekBehind_44 : decode cX6_seekBehind 44 = .ok (.iload 6, 2) := by decide +kernel
theorem dX6_seekBehind_46 : decode cX6_seekBehind 46 = .ok (.iload 6, 2) := by decide +kernel
theorem dX6_seekBehind_48 : decode cX6_seekBehind 48 = .ok (.imul, 1) := by decide +kernel
theorem dX6_seekBehind_49 : decode cX6_seekBehind 49 = .ok (.iload_n 3, 1) := by decide +kernel
theorem dX6_seekBehind_50 : decode cX6_seekBehind 50 = .ok (.iload 5, 2) := by decide +kernel
theorem dX6_seekBehind_52 : decode cX6_seekBehind 52 = .ok (.iload 5, 2) := by decide +kernel
theorem dX6_seekBehind_54 : decode cX6_seekBehind 54 = .ok (.imul, 1) := by decide +kernel
theorem dX6_seekBehind_55 : decode cX6_seekBehind 55 = .ok (.isub, 1) := by decide +kernel
theorem dX6_seekBehind_56 : decode cX6_seekBehind 56 = .ok (.if_icmp .eq 6, 3) := by decide +kernel
theorem dX6_seekBehind_59 : decode cX6_seekBehind 59 = .ok (.goto 39, 3) := by decide +kernel
theorem dX6_seekBehind_62 : decode cX6_seekBehind 62 = .ok (.aload_n 0, 1) := by decide +kernel
theorem dX6_seekBehind_63 : decode cX6_seekBehind 63 = .ok (.iload_n 1, 1) := by decide +kernel
theorem dX6_seekBehind_64 : decode cX6_seekBehind 64 = .ok (.iload_n 2, 1) := by decide +kernel
theorem dX6_seekBehind_65 : decode cX6_seekBehind 65 = .ok (.iload 5, 2) := by decide +kernel
theorem dX6_seekBehind_67 : decode cX6_seekBehind 67 = .ok (.iload 6, 2) := by decide +kernel
theorem dX6_seekBehind_69 : decode cX6_seekBehind 69 = .ok (.ineg, 1) := by decide +kernel
theorem dX6_seekBehind_70 : decode cX6_seekBehind 70 = .ok (.invokevirtual 34, 3) := by decide +kernel
theorem dX6_seekBehind_73 : decode cX6_seekBehind 73 = .ok (.ifCond .eq 5, 3) := by decide +kernel
theorem dX6_seekBehind_76 : decode cX6_seekBehind 76 = .ok (.iconst 1, 1) := by decide +kernel
theorem dX6_seekBehind_77 : decode cX6_seekBehind 77 = .ok (.ireturn, 1) := by decide +kernel
theorem dX6_seekBehind_78 : decode cX6_seekBehind 78 = .ok (.iload 6, 2) := by decide +kernel
theorem dX6_seekBehind_80 : decode cX6_seekBehind 80 = .ok (.ifCond .eq 18, 3) := by decide +kernel
theorem dX6_seekBehind_83 : decode cX6_seekBehind 83 = .ok (.aload_n 0, 1) := by decide +kernel
theorem dX6_seekBehind_84 : decode cX6_seekBehind 84 = .ok (.iload_n 1, 1) := by decide +kernel
theorem dX6_seekBehind_85 : decode cX6_seekBehind 85 = .ok (.iload_n 2, 1) := by decide +kernel
theorem dX6_seekBehind_86 : decode cX6_seekBehind 86 = .ok (.iload 5, 2) := by decide +kernel
theorem dX6_seekBehind_88 : decode cX6_seekBehind 88 = .ok (.iload 6, 2) := by decide +kernel
theorem dX6_seekBehind_90 : decode cX6_seekBehind 90 = .ok (.invokevirtual 34, 3) := by decide +kernel
theorem dX6_seekBehind_93 : decode cX6_seekBehind 93 = .ok (.ifCond .eq 5, 3) := by decide +kernel
theorem dX6_seekBehind_96 : decode cX6_seekBehind 96 = .ok (.iconst 1, 1) := by decide +kernel
theorem dX6_seekBehind_97 : decode cX6_seekBehind 97 = .ok (.ireturn, 1) := by decide +kernel
theorem dX6_seekBehind_98 : decode cX6_seekBehind 98 = .ok (.iinc 5 1, 3) := by decide +kernel
theorem dX6_seekBehind_101 : decode cX6_seekBehind 101 = .ok (.goto (-89), 3) := by decide +kernel
theorem dX6_seekBehind_104 : decode cX6_seekBehind 104 = .ok (.iconst 0, 1) := by decide +kernel
theorem dX6_seekBehind_105 : decode cX6_seekBehind 105 = .ok (.ireturn, 1) := by decide +kernel
theorem dX6_isReached_0 : decode cX6_isReached 0 = .ok (.aload_n 0, 1) := by decide +kernel
theorem dX6_isReached_1 : decode cX6_isReached 1 = .ok (.getfield 22, 3) := by decide +kernel
theorem dX6_isReached_4 : decode cX6_isReached 4 = .ok (.ifCond .ne 21, 3) := by decide +kernel
theorem dX6_isReached_7 : decode cX6_isReached 7 = .ok (.aload_n 0, 1) := by decide +kernel
theorem dX6_isReached_8 : decode cX6_isReached 8 = .ok (.getfield 12, 3) := by decide +kernel
theorem dX6_isReached_11 : decode cX6_isReached 11 = .ok (.iload_n 1, 1) := by decide +kernel
theorem dX6_isReached_12 : decode cX6_isReached 12 = .ok (.i2l, 1) := by decide +kernel
theorem dX6_isReached_13 : decode cX6_isReached 13 = .ok (.iload_n 2, 1) := by decide +kernel
theorem dX6_isReached_14 : decode cX6_isReached 14 = .ok (.i2l, 1) := by decide +kernel
theorem dX6_isReached_15 : decode cX6_isReached 15 = .ok (.iload_n 3, 1) := by decide +kernel
theorem dX6_isReached_16 : decode cX6_isReached 16 = .ok (.i2l, 1) := by decide +kernel
theorem dX6_isReached_17 : decode cX6_isReached 17 = .ok (.iload 4, 2) := by decide +kernel
theorem dX6_isReached_19 : decode cX6_isReached 19 = .ok (.i2l, 1) := by decide +kernel
theorem dX6_isReached_20 : decode cX6_isReached 20 = .ok (.invokevirtual 38, 3) := by decide +kernel
theorem dX6_isReached_23 : decode cX6_isReached 23 = .ok (.iconst 1, 1) := by decide +kernel
theorem dX6_isReached_24 : decode cX6_isReached 24 = .ok (.ireturn, 1) := by decide +kernel
theorem dX6_isReached_25 : decode cX6_isReached 25 = .ok (.aload_n 0, 1) := by decide +kernel
theorem dX6_isReached_26 : decode cX6_isReached 26 = .ok (.dup, 1) := by decide +kernel
theorem dX6_isReached_27 : decode cX6_isReached 27 = .ok (.getfield 22, 3) := by decide +kernel
theorem dX6_isReached_30 : decode cX6_isReached 30 = .ok (.iconst 1, 1) := by decide +kernel
theorem dX6_isReached_31 : decode cX6_isReached 31 = .ok (.isub, 1) := by decide +kernel
theorem dX6_isReached_32 : decode cX6_isReached 32 = .ok (.putfield 22, 3) := by decide +kernel
theorem dX6_isReached_35 : decode cX6_isReached 35 = .ok (.iconst 0, 1) := by decide +kernel
theorem dX6_isReached_36 : decode cX6_isReached 36 = .ok (.ireturn, 1) := by decide +kernel
theorem dX6_root_0 : decode cX6_root 0 = .ok (.iload_n 1, 1) := by decide +kernel
theorem dX6_root_1 : decode cX6_root 1 = .ok (.ifCond .lt 12, 3) := by decide +kernel
theorem dX6_root_4 : decode cX6_root 4 = .ok (.iload_n 1, 1) := by decide +kernel
theorem dX6_root_5 : decode cX6_root 5 = .ok (.aload_n 0, 1) := by decide +kernel
theorem dX6_root_6 : decode cX6_root 6 = .ok (.getfield 18, 3) := by decide +kernel
theorem dX6_root_9 : decode cX6_root 9 = .ok (.arraylength, 1) := by decide +kernel
theorem dX6_root_10 : decode cX6_root 10 = .ok (.if_icmp .lt 7, 3) := by decide +kernel
theorem dX6_root_13 : decode cX6_root 13 = .ok (.iconst 0, 1) := by decide +kernel
theorem dX6_root_14 : decode cX6_root 14 = .ok (.goto 9, 3) := by decide +kernel
theorem dX6_root_17 : decode cX6_root 17 = .ok (.aload_n 0, 1) := by decide +kernel
theorem dX6_root_18 : decode cX6_root 18 = .ok (.getfield 18, 3) := by decide +kernel
theorem dX6_root_21 : decode cX6_root 21 = .ok (.iload_n 1, 1) := by decide +kernel
theorem dX6_root_22 : decode cX6_root 22 = .ok (.iaload, 1) := by decide +kernel
theorem dX6_root_23 : decode cX6_root 23 = .ok (.ireturn, 1) := by decide +kernel
theorem dX7_init_0 : decode cX7_init 0 = .ok (.aload_n 0, 1) := by decide +kernel
theorem dX7_init_1 : decode cX7_init 1 = .ok (.invokespecial 3, 3) := by decide +kernel
theorem dX7_init_4 : decode cX7_init 4 = .ok (.aload_n 0, 1) := by decide +kernel
theorem dX7_init_5 : decode cX7_init 5 = .ok (.new 9, 3) := by decide +kernel
theorem dX7_init_8 : decode cX7_init 8 = .ok (.dup, 1) := by decide +kernel
theorem dX7_init_9 : decode cX7_init 9 = .ok (.invokespecial 11, 3) := by decide +kernel
theorem dX7_init_12 : decode cX7_init 12 = .ok (.putfield 12, 3) := by decide +kernel
theorem dX7_init_15 : decode cX7_init 15 = .ok (.aload_n 0, 1) := by decide +kernel
theorem dX7_init_16 : decode cX7_init 16 = .ok (.new 9, 3) := by decide +kernel
theorem dX7_init_19 : decode cX7_init 19 = .ok (.dup, 1) := by decide +kernel
theorem dX7_init_20 : decode cX7_init 20 = .ok (.invokespecial 11, 3) := by decide +kernel
theorem dX7_init_23 : decode cX7_init 23 = .ok (.putfield 18, 3) := by decide +kernel
theorem dX7_init_26 : decode cX7_init 26 = .ok (.aload_n 0, 1) := by decide +kernel
theorem dX7_init_27 : decode cX7_init 27 = .ok (.new 9, 3) := by decide +kernel
theorem dX7_init_30 : decode cX7_init 30 = .ok (.dup, 1) := by decide +kernel
theorem dX7_init_31 : decode cX7_init 31 = .ok (.invokespecial 11, 3) := by decide +kernel
theorem dX7_init_34 : decode cX7_init 34 = .ok (.putfield 21, 3) := by decide +kernel
theorem dX7_init_37 : decode cX7_init 37 = .ok (.aload_n 0, 1) := by decide +kernel
theorem dX7_init_38 : decode cX7_init 38 = .ok (.new 9, 3) := by decide +kernel
theorem dX7_init_41 : decode cX7_init 41 = .ok (.dup, 1) := by decide +kernel
theorem dX7_init_42 : decode cX7_init 42 = .ok (.invokespecial 11, 3) := by decide +kernel
theorem dX7_init_45 : decode cX7_init 45 = .ok (.putfield 24, 3) := by decide +kernel
theorem dX7_init_48 : decode cX7_init 48 = .ok (.aload_n 0, 1) := by decide +kernel
theorem dX7_init_49 : decode cX7_init 49 = .ok (.new 27, 3) := by decide +kernel
theorem dX7_init_52 : decode cX7_init 52 = .ok (.dup, 1) := by decide +kernel
theorem dX7_init_53 : decode cX7_init 53 = .ok (.invokespecial 29, 3) := by decide +kernel
theorem dX7_init_56 : decode cX7_init 56 = .ok (.putfield 30, 3) := by decide +kernel
theorem dX7_init_59 : decode cX7_init 59 = .ok (.return_, 1) := by decide +kernel
theorem dX7_split_0 : decode cX7_split 0 = .ok (.aload_n 0, 1) := by decide +kernel
theorem dX7_split_1 : decode cX7_split 1 = .ok (.getfield 18, 3) := by decide +kernel
theorem dX7_split_4 : decode cX7_split 4 = .ok (.aload_n 1, 1) := by decide +kernel
theorem dX7_split_5 : decode cX7_split 5 = .ok (.invokevirtual 34, 3) := by decide +kernel
theorem dX7_split_8 : decode cX7_split 8 = .ok (.aload_n 1, 1) := by decide +kernel
theorem dX7_split_9 : decode cX7_split 9 = .ok (.invokevirtual 38, 3) := by decide +kernel
theorem dX7_split_12 : decode cX7_split 12 = .ok (.lstore_n 3, 1) := by decide +kernel
theorem dX7_split_13 : decode cX7_split 13 = .ok (.iconst 0, 1) := by decide +kernel
theorem dX7_split_14 : decode cX7_split 14 = .ok (.istore 5, 2) := by decide +kernel
theorem dX7_split_16 : decode cX7_split 16 = .ok (.iconst 0, 1) := by decide +kernel
theorem dX7_split_17 : decode cX7_split 17 = .ok (.istore 6, 2) := by decide +kernel
theorem dX7_split_19 : decode cX7_split 19 = .ok (.iload 6, 2) := by decide +kernel
theorem dX7_split_21 : decode cX7_split 21 = .ok (.bipush 64, 2) := by decide +kernel
theorem dX7_split_23 : decode cX7_split 23 = .ok (.if_icmp .ge 67, 3) := by decide +kernel
theorem dX7_split_26 : decode cX7_split 26 = .ok (.lload_n 3, 1) := by decide +kernel
theorem dX7_split_27 : decode cX7_split 27 = .ok (.lconst 1, 1) := by decide +kernel
theorem dX7_split_28 : decode cX7_split 28 = .ok (.lcmp, 1) := by decide +kernel
theorem dX7_split_29 : decode cX7_split 29 = .ok (.ifCond .le 61, 3) := by decide +kernel
theorem dX7_split_32 : decode cX7_split 32 = .ok (.lload_n 3, 1) := by decide +kernel
theorem dX7_split_33 : decode cX7_split 33 = .ok (.invokestatic 42, 3) := by decide +kernel
theorem dX7_split_36 : decode cX7_split 36 = .ok (.lstore 7, 2) := by decide +kernel
theorem dX7_split_38 : decode cX7_split 38 = .ok (.lload 7, 2) := by decide +kernel
theorem dX7_split_40 : decode cX7_split 40 = .ok (.ldc2_w 46, 3) := by decide +kernel
theorem dX7_split_43 : decode cX7_split 43 = .ok (.lcmp, 1) := by decide +kernel
theorem dX7_split_44 : decode cX7_split 44 = .ok (.ifCond .ge 6, 3) := by decide +kernel
theorem dX7_split_47 : decode cX7_split 47 = .ok (.goto 43, 3) := by decide +kernel
theorem dX7_split_50 : decode cX7_split 50 = .ok (.lload_n 3, 1) := by decide +kernel
theorem dX7_split_51 : decode cX7_split 51 = .ok (.lload 7, 2) := by decide +kernel
theorem dX7_split_53 : decode cX7_split 53 = .ok (.ldiv, 1) := by decide +kernel
theorem dX7_split_54 : decode cX7_split 54 = .ok (.lstore_n 3, 1) := by decide +kernel
theorem dX7_split_55 : decode cX7_split 55 = .ok (.aload_n 0, 1) := by decide +kernel
theorem dX7_split_56 : decode cX7_split 56 = .ok (.lload 7, 2) := by decide +kernel
theorem dX7_split_58 : decode cX7_split 58 = .ok (.invokevirtual 48, 3) := by decide +kernel
theorem dX7_split_61 : decode cX7_split 61 = .ok (.iload 5, 2) := by decide +kernel
theorem dX7_split_63 : decode cX7_split 63 = .ok (.iload_n 2, 1) := by decide +kernel
theorem dX7_split_64 : decode cX7_split 64 = .ok (.if_icmp .ne 17, 3) := by decide +kernel
theorem dX7_split_67 : decode cX7_split 67 = .ok (.aload_n 0, 1) := by decide +kernel
theorem dX7_split_68 : decode cX7_split 68 = .ok (.getfield 12, 3) := by decide +kernel
theorem dX7_split_71 : decode cX7_split 71 = .ok (.aload_n 0, 1) := by decide +kernel
theorem dX7_split_72 : decode cX7_split 72 = .ok (.getfield 30, 3) := by decide +kernel
theorem dX7_split_75 : decode cX7_split 75 = .ok (.getfield 52, 3) := by decide +kernel
theorem dX7_split_78 : decode cX7_split 78 = .ok (.invokevirtual 34, 3) := by decide +kernel
theorem dX7_split_81 : decode cX7_split 81 = .ok (.iinc 5 1, 3) := by decide +kernel
theorem dX7_split_84 : decode cX7_split 84 = .ok (.iinc 6 1, 3) := by decide +kernel
theorem dX7_split_87 : decode cX7_split 87 = .ok (.goto (-68), 3) := by decide +kernel
theorem dX7_split_90 : decode cX7_split 90 = .ok (.iload 5, 2) := by decide +kernel
theorem dX7_split_92 : decode cX7_split 92 = .ok (.iload_n 2, 1) := by decide +kernel
theorem dX7_split_93 : decode cX7_split 93 = .ok (.if_icmp .ne 14, 3) := by decide +kernel
theorem dX7_split_96 : decode cX7_split 96 = .ok (.aload_n 0, 1) := by decide +kernel
theorem dX7_split_97 : decode cX7_split 97 = .ok (.getfield 12, 3) := by decide +kernel
theorem dX7_split_100 : decode cX7_split 100 = .ok (.aload_n 0, 1) := by decide +kernel
theorem dX7_split_101 : decode cX7_split 101 = .ok (.getfield 18, 3) := by decide +kernel
theorem dX7_split_104 : decode cX7_split 104 = .ok (.invokevirtual 34, 3) := by decide +kernel
theorem dX7_split_107 : decode cX7_split 107 = .ok (.iload 5, 2) := by decide +kernel
theorem dX7_split_109 : decode cX7_split 109 = .ok (.iconst 1, 1) := by decide +kernel
theorem dX7_split_110 : decode cX7_split 110 = .ok (.iadd, 1) := by decide +kernel
theorem dX7_split_111 : decode cX7_split 111 = .ok (.ireturn, 1) := by decide +kernel
theorem dX7_splitOff_0 : decode cX7_splitOff 0 = .ok (.aload_n 0, 1) := by decide +kernel
theorem dX7_splitOff_1 : decode cX7_splitOff 1 = .ok (.getfield 21, 3) := by decide +kernel
theorem dX7_splitOff_4 : decode cX7_splitOff 4 = .ok (.ldc2_w 46, 3) := by decide +kernel
theorem dX7_splitOff_7 : decode cX7_splitOff 7 = .ok (.lload_n 1, 1) := by decide +kernel
theorem dX7_splitOff_8 : decode cX7_splitOff 8 = .ok (.lmul, 1) := by decide +kernel
theorem dX7_splitOff_9 : decode cX7_splitOff 9 = .ok (.lconst 0, 1) := by decide +kernel
theorem dX7_splitOff_10 : decode cX7_splitOff 10 = .ok (.lconst 0, 1) := by decide +kernel
theorem dX7_splitOff_11 : decode cX7_splitOff 11 = .ok (.lconst 0, 1) := by decide +kernel
theorem dX7_splitOff_12 : decode cX7_splitOff 12 = .ok (.invokevirtual 55, 3) := by decide +kernel
theorem dX7_splitOff_15 : decode cX7_splitOff 15 = .ok (.aload_n 0, 1) := by decide +kernel
theorem dX7_splitOff_16 : decode cX7_splitOff 16 = .ok (.getfield 30, 3) := by decide +kernel
theorem dX7_splitOff_19 : decode cX7_splitOff 19 = .ok (.aload_n 0, 1) := by decide +kernel
theorem dX7_splitOff_20 : decode cX7_splitOff 20 = .ok (.getfield 18, 3) := by decide +kernel
theorem dX7_splitOff_23 : decode cX7_splitOff 23 = .ok (.aload_n 0, 1) := by decide +kernel
theorem dX7_splitOff_24 : decode cX7_splitOff 24 = .ok (.getfield 21, 3) := by decide +kernel
theorem dX7_splitOff_27 : decode cX7_splitOff 27 = .ok (.iconst 0, 1) := by decide +kernel
end
section
theorem dX7_splitOff_28 : decode cX7_splitOff 28 = .ok (.invokevirtual 58, 3) := by decide +kernel
theorem dX7_splitOff_31 : decode cX7_splitOff 31 = .ok (.aload_n 0, 1) := by decide +kernel
theorem dX7_splitOff_32 : decode cX7_splitOff 32 = .ok (.getfield 24, 3) := by decide +kernel
theorem dX7_splitOff_35 : decode cX7_splitOff 35 = .ok (.aload_n 0, 1) := by decide +kernel
theorem dX7_splitOff_36 : decode cX7_splitOff 36 = .ok (.getfield 30, 3) := by decide +kernel
theorem dX7_splitOff_39 : decode cX7_splitOff 39 = .ok (.getfield 52, 3) := by decide +kernel
theorem dX7_splitOff_42 : decode cX7_splitOff 42 = .ok (.invokevirtual 62, 3) := by decide +kernel
theorem dX7_splitOff_45 : decode cX7_splitOff 45 = .ok (.aload_n 0, 1) := by decide +kernel
theorem dX7_splitOff_46 : decode cX7_splitOff 46 = .ok (.getfield 18, 3) := by decide +kernel
theorem dX7_splitOff_49 : decode cX7_splitOff 49 = .ok (.aload_n 0, 1) := by decide +kernel
theorem dX7_splitOff_50 : decode cX7_splitOff 50 = .ok (.getfield 24, 3) := by decide +kernel
theorem dX7_splitOff_53 : decode cX7_splitOff 53 = .ok (.aload_n 0, 1) := by decide +kernel
theorem dX7_splitOff_54 : decode cX7_splitOff 54 = .ok (.getfield 18, 3) := by decide +kernel
theorem dX7_splitOff_57 : decode cX7_splitOff 57 = .ok (.invokevirtual 65, 3) := by decide +kernel
theorem dX7_splitOff_60 : decode cX7_splitOff 60 = .ok (.aload_n 0, 1) := by decide +kernel
theorem dX7_splitOff_61 : decode cX7_splitOff 61 = .ok (.getfield 18, 3) := by decide +kernel
theorem dX7_splitOff_64 : decode cX7_splitOff 64 = .ok (.lload_n 1, 1) := by decide +kernel
theorem dX7_splitOff_65 : decode cX7_splitOff 65 = .ok (.invokevirtual 69, 3) := by decide +kernel
theorem dX7_splitOff_68 : decode cX7_splitOff 68 = .ok (.return_, 1) := by decide +kernel
theorem dX8_init_0 : decode cX8_init 0 = .ok (.aload_n 0, 1) := by decide +kernel
theorem dX8_init_1 : decode cX8_init 1 = .ok (.invokespecial 1, 3) := by decide +kernel
theorem dX8_init_4 : decode cX8_init 4 = .ok (.aload_n 0, 1) := by decide +kernel
theorem dX8_init_5 : decode cX8_init 5 = .ok (.bipush 9, 2) := by decide +kernel
theorem dX8_init_7 : decode cX8_init 7 = .ok (.newarray .long, 2) := by decide +kernel
theorem dX8_init_9 : decode cX8_init 9 = .ok (.putfield 7, 3) := by decide +kernel
theorem dX8_init_12 : decode cX8_init 12 = .ok (.aload_n 0, 1) := by decide +kernel
theorem dX8_init_13 : decode cX8_init 13 = .ok (.lconst 1, 1) := by decide +kernel
theorem dX8_init_14 : decode cX8_init 14 = .ok (.putfield 13, 3) := by decide +kernel
theorem dX8_init_17 : decode cX8_init 17 = .ok (.return_, 1) := by decide +kernel
theorem dX8_fill_0 : decode cX8_fill 0 = .ok (.aload_n 0, 1) := by decide +kernel
theorem dX8_fill_1 : decode cX8_fill 1 = .ok (.aload_n 1, 1) := by decide +kernel
theorem dX8_fill_2 : decode cX8_fill 2 = .ok (.invokevirtual 17, 3) := by decide +kernel
theorem dX8_fill_5 : decode cX8_fill 5 = .ok (.putfield 13, 3) := by decide +kernel
theorem dX8_fill_8 : decode cX8_fill 8 = .ok (.aload_n 1, 1) := by decide +kernel
theorem dX8_fill_9 : decode cX8_fill 9 = .ok (.getfield 23, 3) := by decide +kernel
theorem dX8_fill_12 : decode cX8_fill 12 = .ok (.aload_n 1, 1) := by decide +kernel
theorem dX8_fill_13 : decode cX8_fill 13 = .ok (.getfield 23, 3) := by decide +kernel
theorem dX8_fill_16 : decode cX8_fill 16 = .ok (.lmul, 1) := by decide +kernel
theorem dX8_fill_17 : decode cX8_fill 17 = .ok (.lstore_n 2, 1) := by decide +kernel
theorem dX8_fill_18 : decode cX8_fill 18 = .ok (.aload_n 1, 1) := by decide +kernel
theorem dX8_fill_19 : decode cX8_fill 19 = .ok (.getfield 26, 3) := by decide +kernel
theorem dX8_fill_22 : decode cX8_fill 22 = .ok (.aload_n 1, 1) := by decide +kernel
theorem dX8_fill_23 : decode cX8_fill 23 = .ok (.getfield 26, 3) := by decide +kernel
theorem dX8_fill_26 : decode cX8_fill 26 = .ok (.lmul, 1) := by decide +kernel
theorem dX8_fill_27 : decode cX8_fill 27 = .ok (.lstore 4, 2) := by decide +kernel
theorem dX8_fill_29 : decode cX8_fill 29 = .ok (.aload_n 1, 1) := by decide +kernel
theorem dX8_fill_30 : decode cX8_fill 30 = .ok (.getfield 29, 3) := by decide +kernel
theorem dX8_fill_33 : decode cX8_fill 33 = .ok (.aload_n 1, 1) := by decide +kernel
theorem dX8_fill_34 : decode cX8_fill 34 = .ok (.getfield 29, 3) := by decide +kernel
theorem dX8_fill_37 : decode cX8_fill 37 = .ok (.lmul, 1) := by decide +kernel
theorem dX8_fill_38 : decode cX8_fill 38 = .ok (.lstore 6, 2) := by decide +kernel
theorem dX8_fill_40 : decode cX8_fill 40 = .ok (.aload_n 1, 1) := by decide +kernel
theorem dX8_fill_41 : decode cX8_fill 41 = .ok (.getfield 32, 3) := by decide +kernel
theorem dX8_fill_44 : decode cX8_fill 44 = .ok (.aload_n 1, 1) := by decide +kernel
theorem dX8_fill_45 : decode cX8_fill 45 = .ok (.getfield 32, 3) := by decide +kernel
theorem dX8_fill_48 : decode cX8_fill 48 = .ok (.lmul, 1) := by decide +kernel
theorem dX8_fill_49 : decode cX8_fill 49 = .ok (.lstore 8, 2) := by decide +kernel
theorem dX8_fill_51 : decode cX8_fill 51 = .ok (.aload_n 1, 1) := by decide +kernel
theorem dX8_fill_52 : decode cX8_fill 52 = .ok (.getfield 23, 3) := by decide +kernel
theorem dX8_fill_55 : decode cX8_fill 55 = .ok (.aload_n 1, 1) := by decide +kernel
theorem dX8_fill_56 : decode cX8_fill 56 = .ok (.getfield 26, 3) := by decide +kernel
theorem dX8_fill_59 : decode cX8_fill 59 = .ok (.lmul, 1) := by decide +kernel
theorem dX8_fill_60 : decode cX8_fill 60 = .ok (.lstore 10, 2) := by decide +kernel
theorem dX8_fill_62 : decode cX8_fill 62 = .ok (.aload_n 1, 1) := by decide +kernel
theorem dX8_fill_63 : decode cX8_fill 63 = .ok (.getfield 23, 3) := by decide +kernel
theorem dX8_fill_66 : decode cX8_fill 66 = .ok (.aload_n 1, 1) := by decide +kernel
theorem dX8_fill_67 : decode cX8_fill 67 = .ok (.getfield 29, 3) := by decide +kernel
theorem dX8_fill_70 : decode cX8_fill 70 = .ok (.lmul, 1) := by decide +kernel
theorem dX8_fill_71 : decode cX8_fill 71 = .ok (.lstore 12, 2) := by decide +kernel
theorem dX8_fill_73 : decode cX8_fill 73 = .ok (.aload_n 1, 1) := by decide +kernel
theorem dX8_fill_74 : decode cX8_fill 74 = .ok (.getfield 23, 3) := by decide +kernel
theorem dX8_fill_77 : decode cX8_fill 77 = .ok (.aload_n 1, 1) := by decide +kernel
theorem dX8_fill_78 : decode cX8_fill 78 = .ok (.getfield 32, 3) := by decide +kernel
theorem dX8_fill_81 : decode cX8_fill 81 = .ok (.lmul, 1) := by decide +kernel
theorem dX8_fill_82 : decode cX8_fill 82 = .ok (.lstore 14, 2) := by decide +kernel
theorem dX8_fill_84 : decode cX8_fill 84 = .ok (.aload_n 1, 1) := by decide +kernel
theorem dX8_fill_85 : decode cX8_fill 85 = .ok (.getfield 26, 3) := by decide +kernel
theorem dX8_fill_88 : decode cX8_fill 88 = .ok (.aload_n 1, 1) := by decide +kernel
theorem dX8_fill_89 : decode cX8_fill 89 = .ok (.getfield 29, 3) := by decide +kernel
theorem dX8_fill_92 : decode cX8_fill 92 = .ok (.lmul, 1) := by decide +kernel
theorem dX8_fill_93 : decode cX8_fill 93 = .ok (.lstore 16, 2) := by decide +kernel
theorem dX8_fill_95 : decode cX8_fill 95 = .ok (.aload_n 1, 1) := by decide +kernel
theorem dX8_fill_96 : decode cX8_fill 96 = .ok (.getfield 26, 3) := by decide +kernel
theorem dX8_fill_99 : decode cX8_fill 99 = .ok (.aload_n 1, 1) := by decide +kernel
theorem dX8_fill_100 : decode cX8_fill 100 = .ok (.getfield 32, 3) := by decide +kernel
theorem dX8_fill_103 : decode cX8_fill 103 = .ok (.lmul, 1) := by decide +kernel
theorem dX8_fill_104 : decode cX8_fill 104 = .ok (.lstore 18, 2) := by decide +kernel
theorem dX8_fill_106 : decode cX8_fill 106 = .ok (.aload_n 1, 1) := by decide +kernel
theorem dX8_fill_107 : decode cX8_fill 107 = .ok (.getfield 29, 3) := by decide +kernel
theorem dX8_fill_110 : decode cX8_fill 110 = .ok (.aload_n 1, 1) := by decide +kernel
theorem dX8_fill_111 : decode cX8_fill 111 = .ok (.getfield 32, 3) := by decide +kernel
theorem dX8_fill_114 : decode cX8_fill 114 = .ok (.lmul, 1) := by decide +kernel
theorem dX8_fill_115 : decode cX8_fill 115 = .ok (.lstore 20, 2) := by decide +kernel
theorem dX8_fill_117 : decode cX8_fill 117 = .ok (.aload_n 0, 1) := by decide +kernel
theorem dX8_fill_118 : decode cX8_fill 118 = .ok (.getfield 7, 3) := by decide +kernel
theorem dX8_fill_121 : decode cX8_fill 121 = .ok (.iconst 0, 1) := by decide +kernel
theorem dX8_fill_122 : decode cX8_fill 122 = .ok (.lload_n 2, 1) := by decide +kernel
theorem dX8_fill_123 : decode cX8_fill 123 = .ok (.lload 4, 2) := by decide +kernel
theorem dX8_fill_125 : decode cX8_fill 125 = .ok (.ladd, 1) := by decide +kernel
theorem dX8_fill_126 : decode cX8_fill 126 = .ok (.lload 6, 2) := by decide +kernel
theorem dX8_fill_128 : decode cX8_fill 128 = .ok (.lsub, 1) := by decide +kernel
theorem dX8_fill_129 : decode cX8_fill 129 = .ok (.lload 8, 2) := by decide +kernel
theorem dX8_fill_131 : decode cX8_fill 131 = .ok (.lsub, 1) := by decide +kernel
theorem dX8_fill_132 : decode cX8_fill 132 = .ok (.lastore, 1) := by decide +kernel
theorem dX8_fill_133 : decode cX8_fill 133 = .ok (.aload_n 0, 1) := by decide +kernel
theorem dX8_fill_134 : decode cX8_fill 134 = .ok (.getfield 7, 3) := by decide +kernel
theorem dX8_fill_137 : decode cX8_fill 137 = .ok (.iconst 1, 1) := by decide +kernel
theorem dX8_fill_138 : decode cX8_fill 138 = .ok (.ldc2_w 35, 3) := by decide +kernel
theorem dX8_fill_141 : decode cX8_fill 141 = .ok (.lload 16, 2) := by decide +kernel
theorem dX8_fill_143 : decode cX8_fill 143 = .ok (.lload 14, 2) := by decide +kernel
theorem dX8_fill_145 : decode cX8_fill 145 = .ok (.lsub, 1) := by decide +kernel
theorem dX8_fill_146 : decode cX8_fill 146 = .ok (.lmul, 1) := by decide +kernel
theorem dX8_fill_147 : decode cX8_fill 147 = .ok (.lastore, 1) := by decide +kernel
theorem dX8_fill_148 : decode cX8_fill 148 = .ok (.aload_n 0, 1) := by decide +kernel
theorem dX8_fill_149 : decode cX8_fill 149 = .ok (.getfield 7, 3) := by decide +kernel
theorem dX8_fill_152 : decode cX8_fill 152 = .ok (.iconst 2, 1) := by decide +kernel
theorem dX8_fill_153 : decode cX8_fill 153 = .ok (.ldc2_w 35, 3) := by decide +kernel
theorem dX8_fill_156 : decode cX8_fill 156 = .ok (.lload 18, 2) := by decide +kernel
theorem dX8_fill_158 : decode cX8_fill 158 = .ok (.lload 12, 2) := by decide +kernel
theorem dX8_fill_160 : decode cX8_fill 160 = .ok (.ladd, 1) := by decide +kernel
theorem dX8_fill_161 : decode cX8_fill 161 = .ok (.lmul, 1) := by decide +kernel
theorem dX8_fill_162 : decode cX8_fill 162 = .ok (.lastore, 1) := by decide +kernel
theorem dX8_fill_163 : decode cX8_fill 163 = .ok (.aload_n 0, 1) := by decide +kernel
theorem dX8_fill_164 : decode cX8_fill 164 = .ok (.getfield 7, 3) := by decide +kernel
theorem dX8_fill_167 : decode cX8_fill 167 = .ok (.iconst 3, 1) := by decide +kernel
theorem dX8_fill_168 : decode cX8_fill 168 = .ok (.ldc2_w 35, 3) := by decide +kernel
theorem dX8_fill_171 : decode cX8_fill 171 = .ok (.lload 16, 2) := by decide +kernel
theorem dX8_fill_173 : decode cX8_fill 173 = .ok (.lload 14, 2) := by decide +kernel
theorem dX8_fill_175 : decode cX8_fill 175 = .ok (.ladd, 1) := by decide +kernel
theorem dX8_fill_176 : decode cX8_fill 176 = .ok (.lmul, 1) := by decide +kernel
theorem dX8_fill_177 : decode cX8_fill 177 = .ok (.lastore, 1) := by decide +kernel
theorem dX8_fill_178 : decode cX8_fill 178 = .ok (.aload_n 0, 1) := by decide +kernel
theorem dX8_fill_179 : decode cX8_fill 179 = .ok (.getfield 7, 3) := by decide +kernel
theorem dX8_fill_182 : decode cX8_fill 182 = .ok (.iconst 4, 1) := by decide +kernel
theorem dX8_fill_183 : decode cX8_fill 183 = .ok (.lload_n 2, 1) := by decide +kernel
theorem dX8_fill_184 : decode cX8_fill 184 = .ok (.lload 4, 2) := by decide +kernel
theorem dX8_fill_186 : decode cX8_fill 186 = .ok (.lsub, 1) := by decide +kernel
theorem dX8_fill_187 : decode cX8_fill 187 = .ok (.lload 6, 2) := by decide +kernel
theorem dX8_fill_189 : decode cX8_fill 189 = .ok (.ladd, 1) := by decide +kernel
theorem dX8_fill_190 : decode cX8_fill 190 = .ok (.lload 8, 2) := by decide +kernel
theorem dX8_fill_192 : decode cX8_fill 192 = .ok (.lsub, 1) := by decide +kernel
theorem dX8_fill_193 : decode cX8_fill 193 = .ok (.lastore, 1) := by decide +kernel
theorem dX8_fill_194 : decode cX8_fill 194 = .ok (.aload_n 0, 1) := by decide +kernel
theorem dX8_fill_195 : decode cX8_fill 195 = .ok (.getfield 7, 3) := by decide +kernel
theorem dX8_fill_198 : decode cX8_fill 198 = .ok (.iconst 5, 1) := by decide +kernel
theorem dX8_fill_199 : decode cX8_fill 199 = .ok (.ldc2_w 35, 3) := by decide +kernel
theorem dX8_fill_202 : decode cX8_fill 202 = .ok (.lload 20, 2) := by decide +kernel
theorem dX8_fill_204 : decode cX8_fill 204 = .ok (.lload 10, 2) := by decide +kernel
theorem dX8_fill_206 : decode cX8_fill 206 = .ok (.lsub, 1) := by decide +kernel
theorem dX8_fill_207 : decode cX8_fill 207 = .ok (.lmul, 1) := by decide +kernel
theorem dX8_fill_208 : decode cX8_fill 208 = .ok (.lastore, 1) := by decide +kernel
theorem dX8_fill_209 : decode cX8_fill 209 = .ok (.aload_n 0, 1) := by decide +kernel
theorem dX8_fill_210 : decode cX8_fill 210 = .ok (.getfield 7, 3) := by decide +kernel
theorem dX8_fill_213 : decode cX8_fill 213 = .ok (.bipush 6, 2) := by decide +kernel
theorem dX8_fill_215 : decode cX8_fill 215 = .ok (.ldc2_w 35, 3) := by decide +kernel
theorem dX8_fill_218 : decode cX8_fill 218 = .ok (.lload 18, 2) := by decide +kernel
theorem dX8_fill_220 : decode cX8_fill 220 = .ok (.lload 12, 2) := by decide +kernel
theorem dX8_fill_222 : decode cX8_fill 222 = .ok (.lsub, 1) := by decide +kernel
theorem dX8_fill_223 : decode cX8_fill 223 = .ok (.lmul, 1) := by decide +kernel
theorem dX8_fill_224 : decode cX8_fill 224 = .ok (.lastore, 1) := by decide +kernel
theorem dX8_fill_225 : decode cX8_fill 225 = .ok (.aload_n 0, 1) := by decide +kernel
theorem dX8_fill_226 : decode cX8_fill 226 = .ok (.getfield 7, 3) := by decide +kernel
theorem dX8_fill_229 : decode cX8_fill 229 = .ok (.bipush 7, 2) := by decide +kernel
theorem dX8_fill_231 : decode cX8_fill 231 = .ok (.ldc2_w 35, 3) := by decide +kernel
theorem dX8_fill_234 : decode cX8_fill 234 = .ok (.lload 20, 2) := by decide +kernel
theorem dX8_fill_236 : decode cX8_fill 236 = .ok (.lload 10, 2) := by decide +kernel
theorem dX8_fill_238 : decode cX8_fill 238 = .ok (.ladd, 1) := by decide +kernel
theorem dX8_fill_239 : decode cX8_fill 239 = .ok (.lmul, 1) := by decide +kernel
theorem dX8_fill_240 : decode cX8_fill 240 = .ok (.lastore, 1) := by decide +kernel
theorem dX8_fill_241 : decode cX8_fill 241 = .ok (.aload_n 0, 1) := by decide +kernel
theorem dX8_fill_242 : decode cX8_fill 242 = .ok (.getfield 7, 3) := by decide +kernel
theorem dX8_fill_245 : decode cX8_fill 245 = .ok (.bipush 8, 2) := by decide +kernel
theorem dX8_fill_247 : decode cX8_fill 247 = .ok (.lload_n 2, 1) := by decide +kernel
theorem dX8_fill_248 : decode cX8_fill 248 = .ok (.lload 4, 2) := by decide +kernel
theorem dX8_fill_250 : decode cX8_fill 250 = .ok (.lsub, 1) := by decide +kernel
theorem dX8_fill_251 : decode cX8_fill 251 = .ok (.lload 6, 2) := by decide +kernel
theorem dX8_fill_253 : decode cX8_fill 253 = .ok (.lsub, 1) := by decide +kernel
theorem dX8_fill_254 : decode cX8_fill 254 = .ok (.lload 8, 2) := by decide +kernel
theorem dX8_fill_256 : decode cX8_fill 256 = .ok (.ladd, 1) := by decide +kernel
theorem dX8_fill_257 : decode cX8_fill 257 = .ok (.lastore, 1) := by decide +kernel
theorem dX8_fill_258 : decode cX8_fill 258 = .ok (.return_, 1) := by decide +kernel
theorem dX8_upper_0 : decode cX8_upper 0 = .ok (.iload_n 1, 1) := by decide +kernel
theorem dX8_upper_1 : decode cX8_upper 1 = .ok (.iconst 3, 1) := by decide +kernel
theorem dX8_upper_2 : decode cX8_upper 2 = .ok (.invokestatic 37, 3) := by decide +kernel
theorem dX8_upper_5 : decode cX8_upper 5 = .ok (.ifCond .ne 11, 3) := by decide +kernel
theorem dX8_upper_8 : decode cX8_upper 8 = .ok (.iload_n 2, 1) := by decide +kernel
theorem dX8_upper_9 : decode cX8_upper 9 = .ok (.iconst 3, 1) := by decide +kernel
theorem dX8_upper_10 : decode cX8_upper 10 = .ok (.invokestatic 37, 3) := by decide +kernel
theorem dX8_upper_13 : decode cX8_upper 13 = .ok (.ifCond .eq 5, 3) := by decide +kernel
theorem dX8_upper_16 : decode cX8_upper 16 = .ok (.lconst 0, 1) := by decide +kernel
theorem dX8_upper_17 : decode cX8_upper 17 = .ok (.lreturn, 1) := by decide +kernel
theorem dX8_upper_18 : decode cX8_upper 18 = .ok (.aload_n 0, 1) := by decide +kernel
theorem dX8_upper_19 : decode cX8_upper 19 = .ok (.getfield 7, 3) := by decide +kernel
theorem dX8_upper_22 : decode cX8_upper 22 = .ok (.iconst 3, 1) := by decide +kernel
theorem dX8_upper_23 : decode cX8_upper 23 = .ok (.iload_n 1, 1) := by decide +kernel
theorem dX8_upper_24 : decode cX8_upper 24 = .ok (.imul, 1) := by decide +kernel
theorem dX8_upper_25 : decode cX8_upper 25 = .ok (.iload_n 2, 1) := by decide +kernel
theorem dX8_upper_26 : decode cX8_upper 26 = .ok (.iadd, 1) := by decide +kernel
theorem dX8_upper_27 : decode cX8_upper 27 = .ok (.laload, 1) := by decide +kernel
theorem dX8_upper_28 : decode cX8_upper 28 = .ok (.lreturn, 1) := by decide +kernel
theorem dX8_turned_0 : decode cX8_turned 0 = .ok (.aload_n 0, 1) := by decide +kernel
theorem dX8_turned_1 : decode cX8_turned 1 = .ok (.iload 7, 2) := by decide +kernel
theorem dX8_turned_3 : decode cX8_turned 3 = .ok (.iconst 0, 1) := by decide +kernel
theorem dX8_turned_4 : decode cX8_turned 4 = .ok (.invokevirtual 43, 3) := by decide +kernel
theorem dX8_turned_7 : decode cX8_turned 7 = .ok (.lload_n 1, 1) := by decide +kernel
theorem dX8_turned_8 : decode cX8_turned 8 = .ok (.lmul, 1) := by decide +kernel
theorem dX8_turned_9 : decode cX8_turned 9 = .ok (.aload_n 0, 1) := by decide +kernel
theorem dX8_turned_10 : decode cX8_turned 10 = .ok (.iload 7, 2) := by decide +kernel
theorem dX8_turned_12 : decode cX8_turned 12 = .ok (.iconst 1, 1) := by decide +kernel
theorem dX8_turned_13 : decode cX8_turned 13 = .ok (.invokevirtual 43, 3) := by decide +kernel
theorem dX8_turned_16 : decode cX8_turned 16 = .ok (.lload_n 3, 1) := by decide +kernel
theorem dX8_turned_17 : decode cX8_turned 17 = .ok (.lmul, 1) := by decide +kernel
theorem dX8_turned_18 : decode cX8_turned 18 = .ok (.ladd, 1) := by decide +kernel
theorem dX8_turned_19 : decode cX8_turned 19 = .ok (.aload_n 0, 1) := by decide +kernel
theorem dX8_turned_20 : decode cX8_turned 20 = .ok (.iload 7, 2) := by decide +kernel
theorem dX8_turned_22 : decode cX8_turned 22 = .ok (.iconst 2, 1) := by decide +kernel
theorem dX8_turned_23 : decode cX8_turned 23 = .ok (.invokevirtual 43, 3) := by decide +kernel
theorem dX8_turned_26 : decode cX8_turned 26 = .ok (.lload 5, 2) := by decide +kernel
theorem dX8_turned_28 : decode cX8_turned 28 = .ok (.lmul, 1) := by decide +kernel
theorem dX8_turned_29 : decode cX8_turned 29 = .ok (.ladd, 1) := by decide +kernel
theorem dX8_turned_30 : decode cX8_turned 30 = .ok (.lreturn, 1) := by decide +kernel
theorem dX8_isCommon_0 : decode cX8_isCommon 0 = .ok (.aload_n 0, 1) := by decide +kernel
theorem dX8_isCommon_1 : decode cX8_isCommon 1 = .ok (.getfield 13, 3) := by decide +kernel
theorem dX8_isCommon_4 : decode cX8_isCommon 4 = .ok (.lconst 0, 1) := by decide +kernel
theorem dX8_isCommon_5 : decode cX8_isCommon 5 = .ok (.lcmp, 1) := by decide +kernel
theorem dX8_isCommon_6 : decode cX8_isCommon 6 = .ok (.ifCond .ne 5, 3) := by decide +kernel
theorem dX8_isCommon_9 : decode cX8_isCommon 9 = .ok (.iconst 0, 1) := by decide +kernel
theorem dX8_isCommon_10 : decode cX8_isCommon 10 = .ok (.ireturn, 1) := by decide +kernel
theorem dX8_isCommon_11 : decode cX8_isCommon 11 = .ok (.iconst 0, 1) := by decide +kernel
theorem dX8_isCommon_12 : decode cX8_isCommon 12 = .ok (.istore 7, 2) := by decide +kernel
theorem dX8_isCommon_14 : decode cX8_isCommon 14 = .ok (.iload 7, 2) := by decide +kernel
theorem dX8_isCommon_16 : decode cX8_isCommon 16 = .ok (.iconst 3, 1) := by decide +kernel
theorem dX8_isCommon_17 : decode cX8_isCommon 17 = .ok (.if_icmp .ge 55, 3) := by decide +kernel
theorem dX8_isCommon_20 : decode cX8_isCommon 20 = .ok (.aload_n 0, 1) := by decide +kernel
theorem dX8_isCommon_21 : decode cX8_isCommon 21 = .ok (.iconst 0, 1) := by decide +kernel
theorem dX8_isCommon_22 : decode cX8_isCommon 22 = .ok (.iload 7, 2) := by decide +kernel
theorem dX8_isCommon_24 : decode cX8_isCommon 24 = .ok (.invokevirtual 43, 3) := by decide +kernel
theorem dX8_isCommon_27 : decode cX8_isCommon 27 = .ok (.lload_n 1, 1) := by decide +kernel
theorem dX8_isCommon_28 : decode cX8_isCommon 28 = .ok (.lmul, 1) := by decide +kernel
theorem dX8_isCommon_29 : decode cX8_isCommon 29 = .ok (.aload_n 0, 1) := by decide +kernel
theorem dX8_isCommon_30 : decode cX8_isCommon 30 = .ok (.iconst 1, 1) := by decide +kernel
theorem dX8_isCommon_31 : decode cX8_isCommon 31 = .ok (.iload 7, 2) := by decide +kernel
theorem dX8_isCommon_33 : decode cX8_isCommon 33 = .ok (.invokevirtual 43, 3) := by decide +kernel
theorem dX8_isCommon_36 : decode cX8_isCommon 36 = .ok (.lload_n 3, 1) := by decide +kernel
theorem dX8_isCommon_37 : decode cX8_isCommon 37 = .ok (.lmul, 1) := by decide +kernel
theorem dX8_isCommon_38 : decode cX8_isCommon 38 = .ok (.ladd, 1) := by decide +kernel
theorem dX8_isCommon_39 : decode cX8_isCommon 39 = .ok (.aload_n 0, 1) := by decide +kernel
theorem dX8_isCommon_40 : decode cX8_isCommon 40 = .ok (.iconst 2, 1) := by decide +kernel
theorem dX8_isCommon_41 : decode cX8_isCommon 41 = .ok (.iload 7, 2) := by decide +kernel
theorem dX8_isCommon_43 : decode cX8_isCommon 43 = .ok (.invokevirtual 43, 3) := by decide +kernel
theorem dX8_isCommon_46 : decode cX8_isCommon 46 = .ok (.lload 5, 2) := by decide +kernel
theorem dX8_isCommon_48 : decode cX8_isCommon 48 = .ok (.lmul, 1) := by decide +kernel
theorem dX8_isCommon_49 : decode cX8_isCommon 49 = .ok (.ladd, 1) := by decide +kernel
theorem dX8_isCommon_50 : decode cX8_isCommon 50 = .ok (.lstore 8, 2) := by decide +kernel
theorem dX8_isCommon_52 : decode cX8_isCommon 52 = .ok (.lload 8, 2) := by decide +kernel
theorem dX8_isCommon_54 : decode cX8_isCommon 54 = .ok (.aload_n 0, 1) := by decide +kernel
theorem dX8_isCommon_55 : decode cX8_isCommon 55 = .ok (.getfield 13, 3) := by decide +kernel
theorem dX8_isCommon_58 : decode cX8_isCommon 58 = .ok (.lrem, 1) := by decide +kernel
theorem dX8_isCommon_59 : decode cX8_isCommon 59 = .ok (.lconst 0, 1) := by decide +kernel
theorem dX8_isCommon_60 : decode cX8_isCommon 60 = .ok (.lcmp, 1) := by decide +kernel
theorem dX8_isCommon_61 : decode cX8_isCommon 61 = .ok (.ifCond .eq 5, 3) := by decide +kernel
theorem dX8_isCommon_64 : decode cX8_isCommon 64 = .ok (.iconst 0, 1) := by decide +kernel
theorem dX8_isCommon_65 : decode cX8_isCommon 65 = .ok (.ireturn, 1) := by decide +kernel
theorem dX8_isCommon_66 : decode cX8_isCommon 66 = .ok (.iinc 7 1, 3) := by decide +kernel
theorem dX8_isCommon_69 : decode cX8_isCommon 69 = .ok (.goto (-55), 3) := by decide +kernel
theorem dX8_isCommon_72 : decode cX8_isCommon 72 = .ok (.iconst 1, 1) := by decide +kernel
theorem dX8_isCommon_73 : decode cX8_isCommon 73 = .ok (.ireturn, 1) := by decide +kernel
theorem dX9_init_0 : decode cX9_init 0 = .ok (.aload_n 0, 1) := by decide +kernel
theorem dX9_init_1 : decode cX9_init 1 = .ok (.invokespecial 3, 3) := by decide +kernel
theorem dX9_init_4 : decode cX9_init 4 = .ok (.aload_n 0, 1) := by decide +kernel
theorem dX9_init_5 : decode cX9_init 5 = .ok (.bipush 100, 2) := by decide +kernel
theorem dX9_init_7 : decode cX9_init 7 = .ok (.newarray .long, 2) := by decide +kernel
theorem dX9_init_9 : decode cX9_init 9 = .ok (.putfield 9, 3) := by decide +kernel
theorem dX9_init_12 : decode cX9_init 12 = .ok (.aload_n 0, 1) := by decide +kernel
theorem dX9_init_13 : decode cX9_init 13 = .ok (.iconst (-1), 1) := by decide +kernel
theorem dX9_init_14 : decode cX9_init 14 = .ok (.putfield 15, 3) := by decide +kernel
theorem dX9_init_17 : decode cX9_init 17 = .ok (.aload_n 0, 1) := by decide +kernel
theorem dX9_init_18 : decode cX9_init 18 = .ok (.iconst 0, 1) := by decide +kernel
theorem dX9_init_19 : decode cX9_init 19 = .ok (.putfield 19, 3) := by decide +kernel
theorem dX9_init_22 : decode cX9_init 22 = .ok (.return_, 1) := by decide +kernel
theorem dX9_begin_0 : decode cX9_begin 0 = .ok (.aload_n 0, 1) := by decide +kernel
theorem dX9_begin_1 : decode cX9_begin 1 = .ok (.iload_n 1, 1) := by decide +kernel
theorem dX9_begin_2 : decode cX9_begin 2 = .ok (.putfield 15, 3) := by decide +kernel
theorem dX9_begin_5 : decode cX9_begin 5 = .ok (.aload_n 0, 1) := by decide +kernel
theorem dX9_begin_6 : decode cX9_begin 6 = .ok (.iload_n 2, 1) := by decide +kernel
theorem dX9_begin_7 : decode cX9_begin 7 = .ok (.putfield 19, 3) := by decide +kernel
theorem dX9_begin_10 : decode cX9_begin 10 = .ok (.iconst 0, 1) := by decide +kernel
theorem dX9_begin_11 : decode cX9_begin 11 = .ok (.istore_n 3, 1) := by decide +kernel
theorem dX9_begin_12 : decode cX9_begin 12 = .ok (.iload_n 3, 1) := by decide +kernel
theorem dX9_begin_13 : decode cX9_begin 13 = .ok (.aload_n 0, 1) := by decide +kernel
theorem dX9_begin_14 : decode cX9_begin 14 = .ok (.getfield 9, 3) := by decide +kernel
theorem dX9_begin_17 : decode cX9_begin 17 = .ok (.arraylength, 1) := by decide +kernel
theorem dX9_begin_18 : decode cX9_begin 18 = .ok (.if_icmp .ge 16, 3) := by decide +kernel
theorem dX9_begin_21 : decode cX9_begin 21 = .ok (.aload_n 0, 1) := by decide +kernel
theorem dX9_begin_22 : decode cX9_begin 22 = .ok (.getfield 9, 3) := by decide +kernel
theorem dX9_begin_25 : decode cX9_begin 25 = .ok (.iload_n 3, 1) := by decide +kernel
theorem dX9_begin_26 : decode cX9_begin 26 = .ok (.lconst 0, 1) := by decide +kernel
theorem dX9_begin_27 : decode cX9_begin 27 = .ok (.lastore, 1) := by decide +kernel
theorem dX9_begin_28 : decode cX9_begin 28 = .ok (.iinc 3 1, 3) := by decide +kernel
theorem dX9_begin_31 : decode cX9_begin 31 = .ok (.goto (-19), 3) := by decide +kernel
theorem dX9_begin_34 : decode cX9_begin 34 = .ok (.return_, 1) := by decide +kernel
theorem dX9_hasRun_0 : decode cX9_hasRun 0 = .ok (.iload_n 1, 1) := by decide +kernel
theorem dX9_hasRun_1 : decode cX9_hasRun 1 = .ok (.ifCond .lt 29, 3) := by decide +kernel
theorem dX9_hasRun_4 : decode cX9_hasRun 4 = .ok (.iload_n 2, 1) := by decide +kernel
theorem dX9_hasRun_5 : decode cX9_hasRun 5 = .ok (.ifCond .lt 25, 3) := by decide +kernel
theorem dX9_hasRun_8 : decode cX9_hasRun 8 = .ok (.iload_n 2, 1) := by decide +kernel
theorem dX9_hasRun_9 : decode cX9_hasRun 9 = .ok (.aload_n 0, 1) := by decide +kernel
theorem dX9_hasRun_10 : decode cX9_hasRun 10 = .ok (.getfield 19, 3) := by decide +kernel
theorem dX9_hasRun_13 : decode cX9_hasRun 13 = .ok (.if_icmp .gt 17, 3) := by decide +kernel
theorem dX9_hasRun_16 : decode cX9_hasRun 16 = .ok (.iload_n 1, 1) := by decide +kernel
theorem dX9_hasRun_17 : decode cX9_hasRun 17 = .ok (.aload_n 0, 1) := by decide +kernel
theorem dX9_hasRun_18 : decode cX9_hasRun 18 = .ok (.getfield 19, 3) := by decide +kernel
theorem dX9_hasRun_21 : decode cX9_hasRun 21 = .ok (.iload_n 2, 1) := by decide +kernel
theorem dX9_hasRun_22 : decode cX9_hasRun 22 = .ok (.isub, 1) := by decide +kernel
theorem dX9_hasRun_23 : decode cX9_hasRun 23 = .ok (.if_icmp .gt 7, 3) := by decide +kernel
theorem dX9_hasRun_26 : decode cX9_hasRun 26 = .ok (.iconst 1, 1) := by decide +kernel
theorem dX9_hasRun_27 : decode cX9_hasRun 27 = .ok (.goto 4, 3) := by decide +kernel
theorem dX9_hasRun_30 : decode cX9_hasRun 30 = .ok (.iconst 0, 1) := by decide +kernel
theorem dX9_hasRun_31 : decode cX9_hasRun 31 = .ok (.ireturn, 1) := by decide +kernel
theorem dX9_item_0 : decode cX9_item 0 = .ok (.iload_n 1, 1) := by decide +kernel
theorem dX9_item_1 : decode cX9_item 1 = .ok (.ifCond .lt 12, 3) := by decide +kernel
theorem dX9_item_4 : decode cX9_item 4 = .ok (.iload_n 1, 1) := by decide +kernel
theorem dX9_item_5 : decode cX9_item 5 = .ok (.aload_n 0, 1) := by decide +kernel
theorem dX9_item_6 : decode cX9_item 6 = .ok (.getfield 9, 3) := by decide +kernel
theorem dX9_item_9 : decode cX9_item 9 = .ok (.arraylength, 1) := by decide +kernel
theorem dX9_item_10 : decode cX9_item 10 = .ok (.if_icmp .lt 7, 3) := by decide +kernel
theorem dX9_item_13 : decode cX9_item 13 = .ok (.lconst 0, 1) := by decide +kernel
theorem dX9_item_14 : decode cX9_item 14 = .ok (.goto 9, 3) := by decide +kernel
theorem dX9_item_17 : decode cX9_item 17 = .ok (.aload_n 0, 1) := by decide +kernel
theorem dX9_item_18 : decode cX9_item 18 = .ok (.getfield 9, 3) := by decide +kernel
theorem dX9_item_21 : decode cX9_item 21 = .ok (.iload_n 1, 1) := by decide +kernel
theorem dX9_item_22 : decode cX9_item 22 = .ok (.laload, 1) := by decide +kernel
theorem dX9_item_23 : decode cX9_item 23 = .ok (.lreturn, 1) := by decide +kernel
theorem dX9_write_0 : decode cX9_write 0 = .ok (.iload_n 1, 1) := by decide +kernel
theorem dX9_write_1 : decode cX9_write 1 = .ok (.ifCond .lt 12, 3) := by decide +kernel
theorem dX9_write_4 : decode cX9_write 4 = .ok (.iload_n 1, 1) := by decide +kernel
theorem dX9_write_5 : decode cX9_write 5 = .ok (.aload_n 0, 1) := by decide +kernel
theorem dX9_write_6 : decode cX9_write 6 = .ok (.getfield 9, 3) := by decide +kernel
theorem dX9_write_9 : decode cX9_write 9 = .ok (.arraylength, 1) := by decide +kernel
theorem dX9_write_10 : decode cX9_write 10 = .ok (.if_icmp .lt 4, 3) := by decide +kernel
theorem dX9_write_13 : decode cX9_write 13 = .ok (.return_, 1) := by decide +kernel
theorem dX9_write_14 : decode cX9_write 14 = .ok (.aload_n 0, 1) := by decide +kernel
theorem dX9_write_15 : decode cX9_write 15 = .ok (.getfield 9, 3) := by decide +kernel
theorem dX9_write_18 : decode cX9_write 18 = .ok (.iload_n 1, 1) := by decide +kernel
theorem dX9_write_19 : decode cX9_write 19 = .ok (.aload_n 0, 1) := by decide +kernel
theorem dX9_write_20 : decode cX9_write 20 = .ok (.getfield 15, 3) := by decide +kernel
theorem dX9_write_23 : decode cX9_write 23 = .ok (.ifCond .ne 10, 3) := by decide +kernel
theorem dX9_write_26 : decode cX9_write 26 = .ok (.lload_n 2, 1) := by decide +kernel
theorem dX9_write_27 : decode cX9_write 27 = .ok (.l2i, 1) := by decide +kernel
theorem dX9_write_28 : decode cX9_write 28 = .ok (.i2b, 1) := by decide +kernel
theorem dX9_write_29 : decode cX9_write 29 = .ok (.i2l, 1) := by decide +kernel
theorem dX9_write_30 : decode cX9_write 30 = .ok (.goto 18, 3) := by decide +kernel
theorem dX9_write_33 : decode cX9_write 33 = .ok (.aload_n 0, 1) := by decide +kernel
theorem dX9_write_34 : decode cX9_write 34 = .ok (.getfield 15, 3) := by decide +kernel
theorem dX9_write_37 : decode cX9_write 37 = .ok (.iconst 1, 1) := by decide +kernel
theorem dX9_write_38 : decode cX9_write 38 = .ok (.if_icmp .ne 9, 3) := by decide +kernel
theorem dX9_write_41 : decode cX9_write 41 = .ok (.lload_n 2, 1) := by decide +kernel
theorem dX9_write_42 : decode cX9_write 42 = .ok (.l2i, 1) := by decide +kernel
theorem dX9_write_43 : decode cX9_write 43 = .ok (.i2l, 1) := by decide +kernel
theorem dX9_write_44 : decode cX9_write 44 = .ok (.goto 4, 3) := by decide +kernel
theorem dX9_write_47 : decode cX9_write 47 = .ok (.lload_n 2, 1) := by decide +kernel
theorem dX9_write_48 : decode cX9_write 48 = .ok (.lastore, 1) := by decide +kernel
theorem dX9_write_49 : decode cX9_write 49 = .ok (.return_, 1) := by decide +kernel
theorem dX10_init_0 : decode cX10_init 0 = .ok (.aload_n 0, 1) := by decide +kernel
theorem dX10_init_1 : decode cX10_init 1 = .ok (.invokespecial 1, 3) := by decide +kernel
theorem dX10_init_4 : decode cX10_init 4 = .ok (.aload_n 0, 1) := by decide +kernel
theorem dX10_init_5 : decode cX10_init 5 = .ok (.bipush 8, 2) := by decide +kernel
theorem dX10_init_7 : decode cX10_init 7 = .ok (.anewarray 9, 3) := by decide +kernel
theorem dX10_init_10 : decode cX10_init 10 = .ok (.putfield 11, 3) := by decide +kernel
theorem dX10_init_13 : decode cX10_init 13 = .ok (.iconst 0, 1) := by decide +kernel
theorem dX10_init_14 : decode cX10_init 14 = .ok (.istore_n 1, 1) := by decide +kernel
theorem dX10_init_15 : decode cX10_init 15 = .ok (.iload_n 1, 1) := by decide +kernel
theorem dX10_init_16 : decode cX10_init 16 = .ok (.bipush 8, 2) := by decide +kernel
theorem dX10_init_18 : decode cX10_init 18 = .ok (.if_icmp .ge 22, 3) := by decide +kernel
theorem dX10_init_21 : decode cX10_init 21 = .ok (.aload_n 0, 1) := by decide +kernel
theorem dX10_init_22 : decode cX10_init 22 = .ok (.getfield 11, 3) := by decide +kernel
theorem dX10_init_25 : decode cX10_init 25 = .ok (.iload_n 1, 1) := by decide +kernel
theorem dX10_init_26 : decode cX10_init 26 = .ok (.new 9, 3) := by decide +kernel
theorem dX10_init_29 : decode cX10_init 29 = .ok (.dup, 1) := by decide +kernel
theorem dX10_init_30 : decode cX10_init 30 = .ok (.invokespecial 15, 3) := by decide +kernel
theorem dX10_init_33 : decode cX10_init 33 = .ok (.aastore, 1) := by decide +kernel
theorem dX10_init_34 : decode cX10_init 34 = .ok (.iinc 1 1, 3) := by decide +kernel
theorem dX10_init_37 : decode cX10_init 37 = .ok (.goto (-22), 3) := by decide +kernel
theorem dX10_init_40 : decode cX10_init 40 = .ok (.aload_n 0, 1) := by decide +kernel
theorem dX10_init_41 : decode cX10_init 41 = .ok (.bipush 20, 2) := by decide +kernel
theorem dX10_init_43 : decode cX10_init 43 = .ok (.anewarray 16, 3) := by decide +kernel
theorem dX10_init_46 : decode cX10_init 46 = .ok (.putfield 18, 3) := by decide +kernel
theorem dX10_init_49 : decode cX10_init 49 = .ok (.aload_n 0, 1) := by decide +kernel
theorem dX10_init_50 : decode cX10_init 50 = .ok (.bipush 20, 2) := by decide +kernel
theorem dX10_init_52 : decode cX10_init 52 = .ok (.newarray .int, 2) := by decide +kernel
theorem dX10_init_54 : decode cX10_init 54 = .ok (.putfield 22, 3) := by decide +kernel
theorem dX10_init_57 : decode cX10_init 57 = .ok (.iconst 0, 1) := by decide +kernel
theorem dX10_init_58 : decode cX10_init 58 = .ok (.istore_n 1, 1) := by decide +kernel
theorem dX10_init_59 : decode cX10_init 59 = .ok (.iload_n 1, 1) := by decide +kernel
theorem dX10_init_60 : decode cX10_init 60 = .ok (.bipush 20, 2) := by decide +kernel
theorem dX10_init_62 : decode cX10_init 62 = .ok (.if_icmp .ge 29, 3) := by decide +kernel
theorem dX10_init_65 : decode cX10_init 65 = .ok (.aload_n 0, 1) := by decide +kernel
theorem dX10_init_66 : decode cX10_init 66 = .ok (.getfield 18, 3) := by decide +kernel
theorem dX10_init_69 : decode cX10_init 69 = .ok (.iload_n 1, 1) := by decide +kernel
theorem dX10_init_70 : decode cX10_init 70 = .ok (.new 16, 3) := by decide +kernel
theorem dX10_init_73 : decode cX10_init 73 = .ok (.dup, 1) := by decide +kernel
theorem dX10_init_74 : decode cX10_init 74 = .ok (.invokespecial 26, 3) := by decide +kernel
theorem dX10_init_77 : decode cX10_init 77 = .ok (.aastore, 1) := by decide +kernel
theorem dX10_init_78 : decode cX10_init 78 = .ok (.aload_n 0, 1) := by decide +kernel
theorem dX10_init_79 : decode cX10_init 79 = .ok (.getfield 22, 3) := by decide +kernel
theorem dX10_init_82 : decode cX10_init 82 = .ok (.iload_n 1, 1) := by decide +kernel
theorem dX10_init_83 : decode cX10_init 83 = .ok (.iconst (-1), 1) := by decide +kernel
theorem dX10_init_84 : decode cX10_init 84 = .ok (.iastore, 1) := by decide +kernel
theorem dX10_init_85 : decode cX10_init 85 = .ok (.iinc 1 1, 3) := by decide +kernel
theorem dX10_init_88 : decode cX10_init 88 = .ok (.goto (-29), 3) := by decide +kernel
theorem dX10_init_91 : decode cX10_init 91 = .ok (.aload_n 0, 1) := by decide +kernel
theorem dX10_init_92 : decode cX10_init 92 = .ok (.new 16, 3) := by decide +kernel
theorem dX10_init_95 : decode cX10_init 95 = .ok (.dup, 1) := by decide +kernel
theorem dX10_init_96 : decode cX10_init 96 = .ok (.invokespecial 26, 3) := by decide +kernel
theorem dX10_init_99 : decode cX10_init 99 = .ok (.putfield 27, 3) := by decide +kernel
theorem dX10_init_102 : decode cX10_init 102 = .ok (.aload_n 0, 1) := by decide +kernel
theorem dX10_init_103 : decode cX10_init 103 = .ok (.new 31, 3) := by decide +kernel
theorem dX10_init_106 : decode cX10_init 106 = .ok (.dup, 1) := by decide +kernel
theorem dX10_init_107 : decode cX10_init 107 = .ok (.invokespecial 33, 3) := by decide +kernel
theorem dX10_init_110 : decode cX10_init 110 = .ok (.putfield 34, 3) := by decide +kernel
theorem dX10_init_113 : decode cX10_init 113 = .ok (.aload_n 0, 1) := by decide +kernel
theorem dX10_init_114 : decode cX10_init 114 = .ok (.new 38, 3) := by decide +kernel
theorem dX10_init_117 : decode cX10_init 117 = .ok (.dup, 1) := by decide +kernel
theorem dX10_init_118 : decode cX10_init 118 = .ok (.invokespecial 40, 3) := by decide +kernel
theorem dX10_init_121 : decode cX10_init 121 = .ok (.putfield 41, 3) := by decide +kernel
theorem dX10_init_124 : decode cX10_init 124 = .ok (.aload_n 0, 1) := by decide +kernel
theorem dX10_init_125 : decode cX10_init 125 = .ok (.new 45, 3) := by decide +kernel
theorem dX10_init_128 : decode cX10_init 128 = .ok (.dup, 1) := by decide +kernel
theorem dX10_init_129 : decode cX10_init 129 = .ok (.invokespecial 47, 3) := by decide +kernel
theorem dX10_init_132 : decode cX10_init 132 = .ok (.putfield 48, 3) := by decide +kernel
theorem dX10_init_135 : decode cX10_init 135 = .ok (.aload_n 0, 1) := by decide +kernel
theorem dX10_init_136 : decode cX10_init 136 = .ok (.new 52, 3) := by decide +kernel
theorem dX10_init_139 : decode cX10_init 139 = .ok (.dup, 1) := by decide +kernel
theorem dX10_init_140 : decode cX10_init 140 = .ok (.invokespecial 54, 3) := by decide +kernel
theorem dX10_init_143 : decode cX10_init 143 = .ok (.putfield 55, 3) := by decide +kernel
theorem dX10_init_146 : decode cX10_init 146 = .ok (.aload_n 0, 1) := by decide +kernel
theorem dX10_init_147 : decode cX10_init 147 = .ok (.new 59, 3) := by decide +kernel
theorem dX10_init_150 : decode cX10_init 150 = .ok (.dup, 1) := by decide +kernel
theorem dX10_init_151 : decode cX10_init 151 = .ok (.invokespecial 61, 3) := by decide +kernel
theorem dX10_init_154 : decode cX10_init 154 = .ok (.putfield 62, 3) := by decide +kernel
theorem dX10_init_157 : decode cX10_init 157 = .ok (.aload_n 0, 1) := by decide +kernel
theorem dX10_init_158 : decode cX10_init 158 = .ok (.new 66, 3) := by decide +kernel
theorem dX10_init_161 : decode cX10_init 161 = .ok (.dup, 1) := by decide +kernel
theorem dX10_init_162 : decode cX10_init 162 = .ok (.invokespecial 68, 3) := by decide +kernel
theorem dX10_init_165 : decode cX10_init 165 = .ok (.putfield 69, 3) := by decide +kernel
theorem dX10_init_168 : decode cX10_init 168 = .ok (.aload_n 0, 1) := by decide +kernel
theorem dX10_init_169 : decode cX10_init 169 = .ok (.new 73, 3) := by decide +kernel
theorem dX10_init_172 : decode cX10_init 172 = .ok (.dup, 1) := by decide +kernel
theorem dX10_init_173 : decode cX10_init 173 = .ok (.invokespecial 75, 3) := by decide +kernel
theorem dX10_init_176 : decode cX10_init 176 = .ok (.putfield 76, 3) := by decide +kernel
theorem dX10_init_179 : decode cX10_init 179 = .ok (.aload_n 0, 1) := by decide +kernel
theorem dX10_init_180 : decode cX10_init 180 = .ok (.new 80, 3) := by decide +kernel
theorem dX10_init_183 : decode cX10_init 183 = .ok (.dup, 1) := by decide +kernel
theorem dX10_init_184 : decode cX10_init 184 = .ok (.invokespecial 82, 3) := by decide +kernel
theorem dX10_init_187 : decode cX10_init 187 = .ok (.putfield 83, 3) := by decide +kernel
theorem dX10_init_190 : decode cX10_init 190 = .ok (.aload_n 0, 1) := by decide +kernel
theorem dX10_init_191 : decode cX10_init 191 = .ok (.iconst 0, 1) := by decide +kernel
theorem dX10_init_192 : decode cX10_init 192 = .ok (.putfield 87, 3) := by decide +kernel
theorem dX10_init_195 : decode cX10_init 195 = .ok (.return_, 1) := by decide +kernel
theorem dX10_tray_0 : decode cX10_tray 0 = .ok (.iload_n 1, 1) := by decide +kernel
theorem dX10_tray_1 : decode cX10_tray 1 = .ok (.bipush 8, 2) := by decide +kernel
theorem dX10_tray_3 : decode cX10_tray 3 = .ok (.invokestatic 91, 3) := by decide +kernel
theorem dX10_tray_6 : decode cX10_tray 6 = .ok (.ifCond .ne 17, 3) := by decide +kernel
theorem dX10_tray_9 : decode cX10_tray 9 = .ok (.iload_n 2, 1) := by decide +kernel
theorem dX10_tray_10 : decode cX10_tray 10 = .ok (.iconst 3, 1) := by decide +kernel
theorem dX10_tray_11 : decode cX10_tray 11 = .ok (.invokestatic 91, 3) := by decide +kernel
theorem dX10_tray_14 : decode cX10_tray 14 = .ok (.ifCond .ne 9, 3) := by decide +kernel
theorem dX10_tray_17 : decode cX10_tray 17 = .ok (.iload_n 3, 1) := by decide +kernel
theorem dX10_tray_18 : decode cX10_tray 18 = .ok (.bipush 100, 2) := by decide +kernel
theorem dX10_tray_20 : decode cX10_tray 20 = .ok (.if_icmp .le 6, 3) := by decide +kernel
theorem dX10_tray_23 : decode cX10_tray 23 = .ok (.ldc 95, 2) := by decide +kernel
theorem dX10_tray_25 : decode cX10_tray 25 = .ok (.ireturn, 1) := by decide +kernel
theorem dX10_tray_26 : decode cX10_tray 26 = .ok (.iload_n 3, 1) := by decide +kernel
theorem dX10_tray_27 : decode cX10_tray 27 = .ok (.ifCond .ge 9, 3) := by decide +kernel
theorem dX10_tray_30 : decode cX10_tray 30 = .ok (.aload_n 0, 1) := by decide +kernel
theorem dX10_tray_31 : decode cX10_tray 31 = .ok (.iconst 4, 1) := by decide +kernel
theorem dX10_tray_32 : decode cX10_tray 32 = .ok (.invokevirtual 96, 3) := by decide +kernel
theorem dX10_tray_35 : decode cX10_tray 35 = .ok (.ireturn, 1) := by decide +kernel
theorem dX10_tray_36 : decode cX10_tray 36 = .ok (.aload_n 0, 1) := by decide +kernel
theorem dX10_tray_37 : decode cX10_tray 37 = .ok (.getfield 11, 3) := by decide +kernel
theorem dX10_tray_40 : decode cX10_tray 40 = .ok (.iload_n 1, 1) := by decide +kernel
theorem dX10_tray_41 : decode cX10_tray 41 = .ok (.aaload, 1) := by decide +kernel
theorem dX10_tray_42 : decode cX10_tray 42 = .ok (.astore 4, 2) := by decide +kernel
theorem dX10_tray_44 : decode cX10_tray 44 = .ok (.aload 4, 2) := by decide +kernel
theorem dX10_tray_46 : decode cX10_tray 46 = .ok (.ifnonnull 9, 3) := by decide +kernel
theorem dX10_tray_49 : decode cX10_tray 49 = .ok (.aload_n 0, 1) := by decide +kernel
theorem dX10_tray_50 : decode cX10_tray 50 = .ok (.iconst 1, 1) := by decide +kernel
theorem dX10_tray_51 : decode cX10_tray 51 = .ok (.invokevirtual 96, 3) := by decide +kernel
theorem dX10_tray_54 : decode cX10_tray 54 = .ok (.ireturn, 1) := by decide +kernel
theorem dX10_tray_55 : decode cX10_tray 55 = .ok (.aload 4, 2) := by decide +kernel
theorem dX10_tray_57 : decode cX10_tray 57 = .ok (.iload_n 2, 1) := by decide +kernel
theorem dX10_tray_58 : decode cX10_tray 58 = .ok (.iload_n 3, 1) := by decide +kernel
theorem dX10_tray_59 : decode cX10_tray 59 = .ok (.invokevirtual 100, 3) := by decide +kernel
theorem dX10_tray_62 : decode cX10_tray 62 = .ok (.aload_n 0, 1) := by decide +kernel
theorem dX10_tray_63 : decode cX10_tray 63 = .ok (.iload_n 3, 1) := by decide +kernel
theorem dX10_tray_64 : decode cX10_tray 64 = .ok (.invokevirtual 104, 3) := by decide +kernel
theorem dX10_tray_67 : decode cX10_tray 67 = .ok (.ireturn, 1) := by decide +kernel
theorem dX10_set_0 : decode cX10_set 0 = .ok (.iload_n 1, 1) := by decide +kernel
theorem dX10_set_1 : decode cX10_set 1 = .ok (.bipush 8, 2) := by decide +kernel
theorem dX10_set_3 : decode cX10_set 3 = .ok (.invokestatic 91, 3) := by decide +kernel
theorem dX10_set_6 : decode cX10_set 6 = .ok (.ifCond .eq 7, 3) := by decide +kernel
theorem dX10_set_9 : decode cX10_set 9 = .ok (.ldc2_w 107, 3) := by decide +kernel
theorem dX10_set_12 : decode cX10_set 12 = .ok (.lreturn, 1) := by decide +kernel
theorem dX10_set_13 : decode cX10_set 13 = .ok (.aload_n 0, 1) := by decide +kernel
theorem dX10_set_14 : decode cX10_set 14 = .ok (.iload_n 1, 1) := by decide +kernel
theorem dX10_set_15 : decode cX10_set 15 = .ok (.invokevirtual 109, 3) := by decide +kernel
theorem dX10_set_18 : decode cX10_set 18 = .ok (.astore 5, 2) := by decide +kernel
theorem dX10_set_20 : decode cX10_set 20 = .ok (.aload 5, 2) := by decide +kernel
theorem dX10_set_22 : decode cX10_set 22 = .ok (.ifnonnull 10, 3) := by decide +kernel
theorem dX10_set_25 : decode cX10_set 25 = .ok (.aload_n 0, 1) := by decide +kernel
theorem dX10_set_26 : decode cX10_set 26 = .ok (.iconst 1, 1) := by decide +kernel
theorem dX10_set_27 : decode cX10_set 27 = .ok (.invokevirtual 96, 3) := by decide +kernel
theorem dX10_set_30 : decode cX10_set 30 = .ok (.i2l, 1) := by decide +kernel
theorem dX10_set_31 : decode cX10_set 31 = .ok (.lreturn, 1) := by decide +kernel
theorem dX10_set_32 : decode cX10_set 32 = .ok (.iload_n 2, 1) := by decide +kernel
theorem dX10_set_33 : decode cX10_set 33 = .ok (.aload 5, 2) := by decide +kernel
theorem dX10_set_35 : decode cX10_set 35 = .ok (.getfield 113, 3) := by decide +kernel
theorem dX10_set_38 : decode cX10_set 38 = .ok (.invokestatic 91, 3) := by decide +kernel
theorem dX10_set_41 : decode cX10_set 41 = .ok (.ifCond .eq 10, 3) := by decide +kernel
theorem dX10_set_44 : decode cX10_set 44 = .ok (.aload_n 0, 1) := by decide +kernel
theorem dX10_set_45 : decode cX10_set 45 = .ok (.iconst 2, 1) := by decide +kernel
theorem dX10_set_46 : decode cX10_set 46 = .ok (.invokevirtual 96, 3) := by decide +kernel
theorem dX10_set_49 : decode cX10_set 49 = .ok (.i2l, 1) := by decide +kernel
theorem dX10_set_50 : decode cX10_set 50 = .ok (.lreturn, 1) := by decide +kernel
theorem dX10_set_51 : decode cX10_set 51 = .ok (.aload 5, 2) := by decide +kernel
theorem dX10_set_53 : decode cX10_set 53 = .ok (.iload_n 2, 1) := by decide +kernel
theorem dX10_set_54 : decode cX10_set 54 = .ok (.lload_n 3, 1) := by decide +kernel
theorem dX10_set_55 : decode cX10_set 55 = .ok (.invokevirtual 116, 3) := by decide +kernel
theorem dX10_set_58 : decode cX10_set 58 = .ok (.aload_n 0, 1) := by decide +kernel
theorem dX10_set_59 : decode cX10_set 59 = .ok (.iconst 0, 1) := by decide +kernel
theorem dX10_set_60 : decode cX10_set 60 = .ok (.putfield 87, 3) := by decide +kernel
theorem dX10_set_63 : decode cX10_set 63 = .ok (.aload 5, 2) := by decide +kernel
theorem dX10_set_65 : decode cX10_set 65 = .ok (.iload_n 2, 1) := by decide +kernel
theorem dX10_set_66 : decode cX10_set 66 = .ok (.invokevirtual 120, 3) := by decide +kernel
theorem dX10_set_69 : decode cX10_set 69 = .ok (.lreturn, 1) := by decide +kernel
theorem dX10_copy_0 : decode cX10_copy 0 = .ok (.iload_n 1, 1) := by decide +kernel
theorem dX10_copy_1 : decode cX10_copy 1 = .ok (.bipush 8, 2) := by decide +kernel
theorem dX10_copy_3 : decode cX10_copy 3 = .ok (.invokestatic 91, 3) := by decide +kernel
theorem dX10_copy_6 : decode cX10_copy 6 = .ok (.ifCond .ne 12, 3) := by decide +kernel
theorem dX10_copy_9 : decode cX10_copy 9 = .ok (.iload_n 3, 1) := by decide +kernel
theorem dX10_copy_10 : decode cX10_copy 10 = .ok (.bipush 8, 2) := by decide +kernel
theorem dX10_copy_12 : decode cX10_copy 12 = .ok (.invokestatic 91, 3) := by decide +kernel
theorem dX10_copy_15 : decode cX10_copy 15 = .ok (.ifCond .eq 6, 3) := by decide +kernel
theorem dX10_copy_18 : decode cX10_copy 18 = .ok (.ldc 95, 2) := by decide +kernel
theorem dX10_copy_20 : decode cX10_copy 20 = .ok (.ireturn, 1) := by decide +kernel
theorem dX10_copy_21 : decode cX10_copy 21 = .ok (.aload_n 0, 1) := by decide +kernel
theorem dX10_copy_22 : decode cX10_copy 22 = .ok (.iload_n 1, 1) := by decide +kernel
theorem dX10_copy_23 : decode cX10_copy 23 = .ok (.invokevirtual 109, 3) := by decide +kernel
theorem dX10_copy_26 : decode cX10_copy 26 = .ok (.astore 6, 2) := by decide +kernel
theorem dX10_copy_28 : decode cX10_copy 28 = .ok (.aload_n 0, 1) := by decide +kernel
theorem dX10_copy_29 : decode cX10_copy 29 = .ok (.iload_n 3, 1) := by decide +kernel
theorem dX10_copy_30 : decode cX10_copy 30 = .ok (.invokevirtual 109, 3) := by decide +kernel
theorem dX10_copy_33 : decode cX10_copy 33 = .ok (.astore 7, 2) := by decide +kernel
theorem dX10_copy_35 : decode cX10_copy 35 = .ok (.aload 6, 2) := by decide +kernel
theorem dX10_copy_37 : decode cX10_copy 37 = .ok (.ifnull 8, 3) := by decide +kernel
theorem dX10_copy_40 : decode cX10_copy 40 = .ok (.aload 7, 2) := by decide +kernel
theorem dX10_copy_42 : decode cX10_copy 42 = .ok (.ifnonnull 9, 3) := by decide +kernel
theorem dX10_copy_45 : decode cX10_copy 45 = .ok (.aload_n 0, 1) := by decide +kernel
theorem dX10_copy_46 : decode cX10_copy 46 = .ok (.iconst 1, 1) := by decide +kernel
theorem dX10_copy_47 : decode cX10_copy 47 = .ok (.invokevirtual 96, 3) := by decide +kernel
theorem dX10_copy_50 : decode cX10_copy 50 = .ok (.ireturn, 1) := by decide +kernel
theorem dX10_copy_51 : decode cX10_copy 51 = .ok (.aload 6, 2) := by decide +kernel
theorem dX10_copy_53 : decode cX10_copy 53 = .ok (.getfield 124, 3) := by decide +kernel
theorem dX10_copy_56 : decode cX10_copy 56 = .ok (.aload 7, 2) := by decide +kernel
theorem dX10_copy_58 : decode cX10_copy 58 = .ok (.getfield 124, 3) := by decide +kernel
theorem dX10_copy_61 : decode cX10_copy 61 = .ok (.if_icmp .eq 9, 3) := by decide +kernel
theorem dX10_copy_64 : decode cX10_copy 64 = .ok (.aload_n 0, 1) := by decide +kernel
theorem dX10_copy_65 : decode cX10_copy 65 = .ok (.iconst 5, 1) := by decide +kernel
theorem dX10_copy_66 : decode cX10_copy 66 = .ok (.invokevirtual 96, 3) := by decide +kernel
theorem dX10_copy_69 : decode cX10_copy 69 = .ok (.ireturn, 1) := by decide +kernel
theorem dX10_copy_70 : decode cX10_copy 70 = .ok (.aload 6, 2) := by decide +kernel
theorem dX10_copy_72 : decode cX10_copy 72 = .ok (.iload_n 2, 1) := by decide +kernel
theorem dX10_copy_73 : decode cX10_copy 73 = .ok (.iload 5, 2) := by decide +kernel
theorem dX10_copy_75 : decode cX10_copy 75 = .ok (.invokevirtual 127, 3) := by decide +kernel
theorem dX10_copy_78 : decode cX10_copy 78 = .ok (.ifCond .eq 15, 3) := by decide +kernel
theorem dX10_copy_81 : decode cX10_copy 81 = .ok (.aload 7, 2) := by decide +kernel
theorem dX10_copy_83 : decode cX10_copy 83 = .ok (.iload 4, 2) := by decide +kernel
theorem dX10_copy_85 : decode cX10_copy 85 = .ok (.iload 5, 2) := by decide +kernel
theorem dX10_copy_87 : decode cX10_copy 87 = .ok (.invokevirtual 127, 3) := by decide +kernel
theorem dX10_copy_90 : decode cX10_copy 90 = .ok (.ifCond .ne 9, 3) := by decide +kernel
theorem dX10_copy_93 : decode cX10_copy 93 = .ok (.aload_n 0, 1) := by decide +kernel
theorem dX10_copy_94 : decode cX10_copy 94 = .ok (.iconst 2, 1) := by decide +kernel
theorem dX10_copy_95 : decode cX10_copy 95 = .ok (.invokevirtual 96, 3) := by decide +kernel
theorem dX10_copy_98 : decode cX10_copy 98 = .ok (.ireturn, 1) := by decide +kernel
theorem dX10_copy_99 : decode cX10_copy 99 = .ok (.aload 6, 2) := by decide +kernel
theorem dX10_copy_101 : decode cX10_copy 101 = .ok (.getfield 130, 3) := by decide +kernel
theorem dX10_copy_104 : decode cX10_copy 104 = .ok (.iload_n 2, 1) := by decide +kernel
theorem dX10_copy_105 : decode cX10_copy 105 = .ok (.aload 7, 2) := by decide +kernel
theorem dX10_copy_107 : decode cX10_copy 107 = .ok (.getfield 130, 3) := by decide +kernel
theorem dX10_copy_110 : decode cX10_copy 110 = .ok (.iload 4, 2) := by decide +kernel
theorem dX10_copy_112 : decode cX10_copy 112 = .ok (.iload 5, 2) := by decide +kernel
theorem dX10_copy_114 : decode cX10_copy 114 = .ok (.invokestatic 134, 3) := by decide +kernel
theorem dX10_copy_117 : decode cX10_copy 117 = .ok (.aload_n 0, 1) := by decide +kernel
theorem dX10_copy_118 : decode cX10_copy 118 = .ok (.iload 5, 2) := by decide +kernel
theorem dX10_copy_120 : decode cX10_copy 120 = .ok (.invokevirtual 104, 3) := by decide +kernel
theorem dX10_copy_123 : decode cX10_copy 123 = .ok (.ireturn, 1) := by decide +kernel
theorem dX10_drop_0 : decode cX10_drop 0 = .ok (.iload_n 1, 1) := by decide +kernel
theorem dX10_drop_1 : decode cX10_drop 1 = .ok (.bipush 8, 2) := by decide +kernel
theorem dX10_drop_3 : decode cX10_drop 3 = .ok (.invokestatic 91, 3) := by decide +kernel
theorem dX10_drop_6 : decode cX10_drop 6 = .ok (.ifCond .eq 6, 3) := by decide +kernel
theorem dX10_drop_9 : decode cX10_drop 9 = .ok (.ldc 95, 2) := by decide +kernel
theorem dX10_drop_11 : decode cX10_drop 11 = .ok (.ireturn, 1) := by decide +kernel
theorem dX10_drop_12 : decode cX10_drop 12 = .ok (.aload_n 0, 1) := by decide +kernel
theorem dX10_drop_13 : decode cX10_drop 13 = .ok (.iload_n 1, 1) := by decide +kernel
theorem dX10_drop_14 : decode cX10_drop 14 = .ok (.invokevirtual 109, 3) := by decide +kernel
theorem dX10_drop_17 : decode cX10_drop 17 = .ok (.astore_n 2, 1) := by decide +kernel
theorem dX10_drop_18 : decode cX10_drop 18 = .ok (.aload_n 2, 1) := by decide +kernel
theorem dX10_drop_19 : decode cX10_drop 19 = .ok (.ifnonnull 9, 3) := by decide +kernel
theorem dX10_drop_22 : decode cX10_drop 22 = .ok (.aload_n 0, 1) := by decide +kernel
theorem dX10_drop_23 : decode cX10_drop 23 = .ok (.iconst 1, 1) := by decide +kernel
theorem dX10_drop_24 : decode cX10_drop 24 = .ok (.invokevirtual 96, 3) := by decide +kernel
theorem dX10_drop_27 : decode cX10_drop 27 = .ok (.ireturn, 1) := by decide +kernel
theorem dX10_drop_28 : decode cX10_drop 28 = .ok (.aload_n 2, 1) := by decide +kernel
theorem dX10_drop_29 : decode cX10_drop 29 = .ok (.iconst (-1), 1) := by decide +kernel
theorem dX10_drop_30 : decode cX10_drop 30 = .ok (.putfield 124, 3) := by decide +kernel
theorem dX10_drop_33 : decode cX10_drop 33 = .ok (.aload_n 0, 1) := by decide +kernel
theorem dX10_drop_34 : decode cX10_drop 34 = .ok (.aload_n 2, 1) := by decide +kernel
theorem dX10_drop_35 : decode cX10_drop 35 = .ok (.getfield 113, 3) := by decide +kernel
theorem dX10_drop_38 : decode cX10_drop 38 = .ok (.invokevirtual 104, 3) := by decide +kernel
theorem dX10_drop_41 : decode cX10_drop 41 = .ok (.ireturn, 1) := by decide +kernel
theorem dX10_take_0 : decode cX10_take 0 = .ok (.iload_n 1, 1) := by decide +kernel
theorem dX10_take_1 : decode cX10_take 1 = .ok (.bipush 20, 2) := by decide +kernel
theorem dX10_take_3 : decode cX10_take 3 = .ok (.invokestatic 91, 3) := by decide +kernel
theorem dX10_take_6 : decode cX10_take 6 = .ok (.ifCond .ne 12, 3) := by decide +kernel
theorem dX10_take_9 : decode cX10_take 9 = .ok (.iload_n 2, 1) := by decide +kernel
theorem dX10_take_10 : decode cX10_take 10 = .ok (.bipush 8, 2) := by decide +kernel
theorem dX10_take_12 : decode cX10_take 12 = .ok (.invokestatic 91, 3) := by decide +kernel
theorem dX10_take_15 : decode cX10_take 15 = .ok (.ifCond .eq 6, 3) := by decide +kernel
theorem dX10_take_18 : decode cX10_take 18 = .ok (.ldc 95, 2) := by decide +kernel
theorem dX10_take_20 : decode cX10_take 20 = .ok (.ireturn, 1) := by decide +kernel
theorem dX10_take_21 : decode cX10_take 21 = .ok (.aload_n 0, 1) := by decide +kernel
theorem dX10_take_22 : decode cX10_take 22 = .ok (.iload_n 2, 1) := by decide +kernel
theorem dX10_take_23 : decode cX10_take 23 = .ok (.invokevirtual 109, 3) := by decide +kernel
theorem dX10_take_26 : decode cX10_take 26 = .ok (.astore 4, 2) := by decide +kernel
theorem dX10_take_28 : decode cX10_take 28 = .ok (.aload 4, 2) := by decide +kernel
theorem dX10_take_30 : decode cX10_take 30 = .ok (.ifnonnull 9, 3) := by decide +kernel
theorem dX10_take_33 : decode cX10_take 33 = .ok (.aload_n 0, 1) := by decide +kernel
theorem dX10_take_34 : decode cX10_take 34 = .ok (.iconst 1, 1) := by decide +kernel
theorem dX10_take_35 : decode cX10_take 35 = .ok (.invokevirtual 96, 3) := by decide +kernel
theorem dX10_take_38 : decode cX10_take 38 = .ok (.ireturn, 1) := by decide +kernel
theorem dX10_take_39 : decode cX10_take 39 = .ok (.aload 4, 2) := by decide +kernel
theorem dX10_take_41 : decode cX10_take 41 = .ok (.iload_n 3, 1) := by decide +kernel
theorem dX10_take_42 : decode cX10_take 42 = .ok (.iconst 4, 1) := by decide +kernel
theorem dX10_take_43 : decode cX10_take 43 = .ok (.invokevirtual 127, 3) := by decide +kernel
theorem dX10_take_46 : decode cX10_take 46 = .ok (.ifCond .ne 9, 3) := by decide +kernel
theorem dX10_take_49 : decode cX10_take 49 = .ok (.aload_n 0, 1) := by decide +kernel
theorem dX10_take_50 : decode cX10_take 50 = .ok (.iconst 2, 1) := by decide +kernel
theorem dX10_take_51 : decode cX10_take 51 = .ok (.invokevirtual 96, 3) := by decide +kernel
theorem dX10_take_54 : decode cX10_take 54 = .ok (.ireturn, 1) := by decide +kernel
theorem dX10_take_55 : decode cX10_take 55 = .ok (.aload_n 0, 1) := by decide +kernel
theorem dX10_take_56 : decode cX10_take 56 = .ok (.getfield 27, 3) := by decide +kernel
theorem dX10_take_59 : decode cX10_take 59 = .ok (.aload 4, 2) := by decide +kernel
theorem dX10_take_61 : decode cX10_take 61 = .ok (.iload_n 3, 1) := by decide +kernel
theorem dX10_take_62 : decode cX10_take 62 = .ok (.invokevirtual 120, 3) := by decide +kernel
theorem dX10_take_65 : decode cX10_take 65 = .ok (.aload 4, 2) := by decide +kernel
theorem dX10_take_67 : decode cX10_take 67 = .ok (.iload_n 3, 1) := by decide +kernel
theorem dX10_take_68 : decode cX10_take 68 = .ok (.iconst 1, 1) := by decide +kernel
theorem dX10_take_69 : decode cX10_take 69 = .ok (.iadd, 1) := by decide +kernel
theorem dX10_take_70 : decode cX10_take 70 = .ok (.invokevirtual 120, 3) := by decide +kernel
theorem dX10_take_73 : decode cX10_take 73 = .ok (.aload 4, 2) := by decide +kernel
theorem dX10_take_75 : decode cX10_take 75 = .ok (.iload_n 3, 1) := by decide +kernel
theorem dX10_take_76 : decode cX10_take 76 = .ok (.iconst 2, 1) := by decide +kernel
theorem dX10_take_77 : decode cX10_take 77 = .ok (.iadd, 1) := by decide +kernel
theorem dX10_take_78 : decode cX10_take 78 = .ok (.invokevirtual 120, 3) := by decide +kernel
theorem dX10_take_81 : decode cX10_take 81 = .ok (.aload 4, 2) := by decide +kernel
theorem dX10_take_83 : decode cX10_take 83 = .ok (.iload_n 3, 1) := by decide +kernel
theorem dX10_take_84 : decode cX10_take 84 = .ok (.iconst 3, 1) := by decide +kernel
theorem dX10_take_85 : decode cX10_take 85 = .ok (.iadd, 1) := by decide +kernel
theorem dX10_take_86 : decode cX10_take 86 = .ok (.invokevirtual 120, 3) := by decide +kernel
theorem dX10_take_89 : decode cX10_take 89 = .ok (.invokevirtual 140, 3) := by decide +kernel
theorem dX10_take_92 : decode cX10_take 92 = .ok (.aload_n 0, 1) := by decide +kernel
theorem dX10_take_93 : decode cX10_take 93 = .ok (.getfield 27, 3) := by decide +kernel
theorem dX10_take_96 : decode cX10_take 96 = .ok (.invokevirtual 144, 3) := by decide +kernel
theorem dX10_take_99 : decode cX10_take 99 = .ok (.ifCond .ne 16, 3) := by decide +kernel
theorem dX10_take_102 : decode cX10_take 102 = .ok (.aload_n 0, 1) := by decide +kernel
theorem dX10_take_103 : decode cX10_take 103 = .ok (.getfield 27, 3) := by decide +kernel
theorem dX10_take_106 : decode cX10_take 106 = .ok (.invokevirtual 148, 3) := by decide +kernel
theorem dX10_take_109 : decode cX10_take 109 = .ok (.ifCond .ne 6, 3) := by decide +kernel
theorem dX10_take_112 : decode cX10_take 112 = .ok (.ldc 95, 2) := by decide +kernel
theorem dX10_take_114 : decode cX10_take 114 = .ok (.ireturn, 1) := by decide +kernel
theorem dX10_take_115 : decode cX10_take 115 = .ok (.aload_n 0, 1) := by decide +kernel
theorem dX10_take_116 : decode cX10_take 116 = .ok (.getfield 27, 3) := by decide +kernel
theorem dX10_take_119 : decode cX10_take 119 = .ok (.invokevirtual 151, 3) := by decide +kernel
theorem dX10_take_122 : decode cX10_take 122 = .ok (.ifCond .eq 6, 3) := by decide +kernel
theorem dX10_take_125 : decode cX10_take 125 = .ok (.ldc 154, 2) := by decide +kernel
theorem dX10_take_127 : decode cX10_take 127 = .ok (.ireturn, 1) := by decide +kernel
theorem dX10_take_128 : decode cX10_take 128 = .ok (.aload_n 0, 1) := by decide +kernel
theorem dX10_take_129 : decode cX10_take 129 = .ok (.aload_n 0, 1) := by decide +kernel
theorem dX10_take_130 : decode cX10_take 130 = .ok (.iload_n 1, 1) := by decide +kernel
theorem dX10_take_131 : decode cX10_take 131 = .ok (.aload_n 0, 1) := by decide +kernel
theorem dX10_take_132 : decode cX10_take 132 = .ok (.getfield 27, 3) := by decide +kernel
theorem dX10_take_135 : decode cX10_take 135 = .ok (.invokevirtual 155, 3) := by decide +kernel
theorem dX10_take_138 : decode cX10_take 138 = .ok (.invokevirtual 104, 3) := by decide +kernel
theorem dX10_take_141 : decode cX10_take 141 = .ok (.ireturn, 1) := by decide +kernel
theorem dX10_clear_0 : decode cX10_clear 0 = .ok (.iload_n 1, 1) := by decide +kernel
theorem dX10_clear_1 : decode cX10_clear 1 = .ok (.bipush 20, 2) := by decide +kernel
theorem dX10_clear_3 : decode cX10_clear 3 = .ok (.invokestatic 91, 3) := by decide +kernel
theorem dX10_clear_6 : decode cX10_clear 6 = .ok (.ifCond .eq 6, 3) := by decide +kernel
theorem dX10_clear_9 : decode cX10_clear 9 = .ok (.ldc 95, 2) := by decide +kernel
theorem dX10_clear_11 : decode cX10_clear 11 = .ok (.ireturn, 1) := by decide +kernel
theorem dX10_clear_12 : decode cX10_clear 12 = .ok (.aload_n 0, 1) := by decide +kernel
theorem dX10_clear_13 : decode cX10_clear 13 = .ok (.getfield 22, 3) := by decide +kernel
theorem dX10_clear_16 : decode cX10_clear 16 = .ok (.iload_n 1, 1) := by decide +kernel
theorem dX10_clear_17 : decode cX10_clear 17 = .ok (.iaload, 1) := by decide +kernel
theorem dX10_clear_18 : decode cX10_clear 18 = .ok (.iconst (-1), 1) := by decide +kernel
theorem dX10_clear_19 : decode cX10_clear 19 = .ok (.if_icmp .ne 7, 3) := by decide +kernel
theorem dX10_clear_22 : decode cX10_clear 22 = .ok (.iconst 0, 1) := by decide +kernel
theorem dX10_clear_23 : decode cX10_clear 23 = .ok (.goto 4, 3) := by decide +kernel
theorem dX10_clear_26 : decode cX10_clear 26 = .ok (.iconst 1, 1) := by decide +kernel
theorem dX10_clear_27 : decode cX10_clear 27 = .ok (.istore_n 2, 1) := by decide +kernel
theorem dX10_clear_28 : decode cX10_clear 28 = .ok (.aload_n 0, 1) := by decide +kernel
theorem dX10_clear_29 : decode cX10_clear 29 = .ok (.getfield 22, 3) := by decide +kernel
theorem dX10_clear_32 : decode cX10_clear 32 = .ok (.iload_n 1, 1) := by decide +kernel
theorem dX10_clear_33 : decode cX10_clear 33 = .ok (.iconst (-1), 1) := by decide +kernel
theorem dX10_clear_34 : decode cX10_clear 34 = .ok (.iastore, 1) := by decide +kernel
theorem dX10_clear_35 : decode cX10_clear 35 = .ok (.iload_n 2, 1) := by decide +kernel
theorem dX10_clear_36 : decode cX10_clear 36 = .ok (.ireturn, 1) := by decide +kernel
theorem dX10_number_0 : decode cX10_number 0 = .ok (.iload_n 1, 1) := by decide +kernel
theorem dX10_number_1 : decode cX10_number 1 = .ok (.bipush 20, 2) := by decide +kernel
theorem dX10_number_3 : decode cX10_number 3 = .ok (.invokestatic 91, 3) := by decide +kernel
theorem dX10_number_6 : decode cX10_number 6 = .ok (.ifCond .ne 11, 3) := by decide +kernel
theorem dX10_number_9 : decode cX10_number 9 = .ok (.iload_n 2, 1) := by decide +kernel
theorem dX10_number_10 : decode cX10_number 10 = .ok (.iconst 4, 1) := by decide +kernel
theorem dX10_number_11 : decode cX10_number 11 = .ok (.invokestatic 91, 3) := by decide +kernel
theorem dX10_number_14 : decode cX10_number 14 = .ok (.ifCond .eq 7, 3) := by decide +kernel
theorem dX10_number_17 : decode cX10_number 17 = .ok (.ldc2_w 107, 3) := by decide +kernel
theorem dX10_number_20 : decode cX10_number 20 = .ok (.lreturn, 1) := by decide +kernel
theorem dX10_number_21 : decode cX10_number 21 = .ok (.aload_n 0, 1) := by decide +kernel
theorem dX10_number_22 : decode cX10_number 22 = .ok (.iload_n 1, 1) := by decide +kernel
theorem dX10_number_23 : decode cX10_number 23 = .ok (.invokevirtual 159, 3) := by decide +kernel
theorem dX10_number_26 : decode cX10_number 26 = .ok (.astore_n 3, 1) := by decide +kernel
theorem dX10_number_27 : decode cX10_number 27 = .ok (.aload_n 3, 1) := by decide +kernel
theorem dX10_number_28 : decode cX10_number 28 = .ok (.ifnonnull 10, 3) := by decide +kernel
theorem dX10_number_31 : decode cX10_number 31 = .ok (.aload_n 0, 1) := by decide +kernel
theorem dX10_number_32 : decode cX10_number 32 = .ok (.iconst 1, 1) := by decide +kernel
theorem dX10_number_33 : decode cX10_number 33 = .ok (.invokevirtual 96, 3) := by decide +kernel
theorem dX10_number_36 : decode cX10_number 36 = .ok (.i2l, 1) := by decide +kernel
theorem dX10_number_37 : decode cX10_number 37 = .ok (.lreturn, 1) := by decide +kernel
theorem dX10_number_38 : decode cX10_number 38 = .ok (.aload_n 0, 1) := by decide +kernel
theorem dX10_number_39 : decode cX10_number 39 = .ok (.iconst 0, 1) := by decide +kernel
theorem dX10_number_40 : decode cX10_number 40 = .ok (.putfield 87, 3) := by decide +kernel
theorem dX10_number_43 : decode cX10_number 43 = .ok (.aload_n 3, 1) := by decide +kernel
theorem dX10_number_44 : decode cX10_number 44 = .ok (.iload_n 2, 1) := by decide +kernel
theorem dX10_number_45 : decode cX10_number 45 = .ok (.invokevirtual 163, 3) := by decide +kernel
theorem dX10_number_48 : decode cX10_number 48 = .ok (.lreturn, 1) := by decide +kernel
theorem dX10_norm_0 : decode cX10_norm 0 = .ok (.iload_n 1, 1) := by decide +kernel
theorem dX10_norm_1 : decode cX10_norm 1 = .ok (.bipush 20, 2) := by decide +kernel
theorem dX10_norm_3 : decode cX10_norm 3 = .ok (.invokestatic 91, 3) := by decide +kernel
theorem dX10_norm_6 : decode cX10_norm 6 = .ok (.ifCond .eq 6, 3) := by decide +kernel
theorem dX10_norm_9 : decode cX10_norm 9 = .ok (.ldc 95, 2) := by decide +kernel
theorem dX10_norm_11 : decode cX10_norm 11 = .ok (.ireturn, 1) := by decide +kernel
theorem dX10_norm_12 : decode cX10_norm 12 = .ok (.aload_n 0, 1) := by decide +kernel
theorem dX10_norm_13 : decode cX10_norm 13 = .ok (.iload_n 1, 1) := by decide +kernel
theorem dX10_norm_14 : decode cX10_norm 14 = .ok (.invokevirtual 159, 3) := by decide +kernel
theorem dX10_norm_17 : decode cX10_norm 17 = .ok (.astore_n 2, 1) := by decide +kernel
theorem dX10_norm_18 : decode cX10_norm 18 = .ok (.aload_n 2, 1) := by decide +kernel
theorem dX10_norm_19 : decode cX10_norm 19 = .ok (.ifnonnull 9, 3) := by decide +kernel
theorem dX10_norm_22 : decode cX10_norm 22 = .ok (.aload_n 0, 1) := by decide +kernel
theorem dX10_norm_23 : decode cX10_norm 23 = .ok (.iconst 1, 1) := by decide +kernel
theorem dX10_norm_24 : decode cX10_norm 24 = .ok (.invokevirtual 96, 3) := by decide +kernel
theorem dX10_norm_27 : decode cX10_norm 27 = .ok (.ireturn, 1) := by decide +kernel
theorem dX10_norm_28 : decode cX10_norm 28 = .ok (.aload_n 0, 1) := by decide +kernel
theorem dX10_norm_29 : decode cX10_norm 29 = .ok (.aload_n 2, 1) := by decide +kernel
theorem dX10_norm_30 : decode cX10_norm 30 = .ok (.invokevirtual 166, 3) := by decide +kernel
theorem dX10_norm_33 : decode cX10_norm 33 = .ok (.l2i, 1) := by decide +kernel
theorem dX10_norm_34 : decode cX10_norm 34 = .ok (.invokevirtual 104, 3) := by decide +kernel
theorem dX10_norm_37 : decode cX10_norm 37 = .ok (.ireturn, 1) := by decide +kernel
theorem dX10_kind_0 : decode cX10_kind 0 = .ok (.iload_n 1, 1) := by decide +kernel
theorem dX10_kind_1 : decode cX10_kind 1 = .ok (.bipush 20, 2) := by decide +kernel
theorem dX10_kind_3 : decode cX10_kind 3 = .ok (.invokestatic 91, 3) := by decide +kernel
theorem dX10_kind_6 : decode cX10_kind 6 = .ok (.ifCond .eq 6, 3) := by decide +kernel
theorem dX10_kind_9 : decode cX10_kind 9 = .ok (.ldc 95, 2) := by decide +kernel
theorem dX10_kind_11 : decode cX10_kind 11 = .ok (.ireturn, 1) := by decide +kernel
theorem dX10_kind_12 : decode cX10_kind 12 = .ok (.aload_n 0, 1) := by decide +kernel
theorem dX10_kind_13 : decode cX10_kind 13 = .ok (.iload_n 1, 1) := by decide +kernel
theorem dX10_kind_14 : decode cX10_kind 14 = .ok (.invokevirtual 159, 3) := by decide +kernel
theorem dX10_kind_17 : decode cX10_kind 17 = .ok (.ifnonnull 9, 3) := by decide +kernel
theorem dX10_kind_20 : decode cX10_kind 20 = .ok (.aload_n 0, 1) := by decide +kernel
theorem dX10_kind_21 : decode cX10_kind 21 = .ok (.iconst 1, 1) := by decide +kernel
theorem dX10_kind_22 : decode cX10_kind 22 = .ok (.invokevirtual 96, 3) := by decide +kernel
theorem dX10_kind_25 : decode cX10_kind 25 = .ok (.ireturn, 1) := by decide +kernel
theorem dX10_kind_26 : decode cX10_kind 26 = .ok (.aload_n 0, 1) := by decide +kernel
theorem dX10_kind_27 : decode cX10_kind 27 = .ok (.aload_n 0, 1) := by decide +kernel
theorem dX10_kind_28 : decode cX10_kind 28 = .ok (.getfield 22, 3) := by decide +kernel
theorem dX10_kind_31 : decode cX10_kind 31 = .ok (.iload_n 1, 1) := by decide +kernel
theorem dX10_kind_32 : decode cX10_kind 32 = .ok (.iaload, 1) := by decide +kernel
theorem dX10_kind_33 : decode cX10_kind 33 = .ok (.invokevirtual 104, 3) := by decide +kernel
theorem dX10_kind_36 : decode cX10_kind 36 = .ok (.ireturn, 1) := by decide +kernel
theorem dX10_is_0 : decode cX10_is 0 = .ok (.iload_n 1, 1) := by decide +kernel
theorem dX10_is_1 : decode cX10_is 1 = .ok (.bipush 20, 2) := by decide +kernel
theorem dX10_is_3 : decode cX10_is 3 = .ok (.invokestatic 91, 3) := by decide +kernel
theorem dX10_is_6 : decode cX10_is 6 = .ok (.ifCond .ne 11, 3) := by decide +kernel
theorem dX10_is_9 : decode cX10_is 9 = .ok (.iload_n 2, 1) := by decide +kernel
theorem dX10_is_10 : decode cX10_is 10 = .ok (.iconst 5, 1) := by decide +kernel
theorem dX10_is_11 : decode cX10_is 11 = .ok (.invokestatic 91, 3) := by decide +kernel
theorem dX10_is_14 : decode cX10_is 14 = .ok (.ifCond .eq 6, 3) := by decide +kernel
theorem dX10_is_17 : decode cX10_is 17 = .ok (.ldc 95, 2) := by decide +kernel
theorem dX10_is_19 : decode cX10_is 19 = .ok (.ireturn, 1) := by decide +kernel
theorem dX10_is_20 : decode cX10_is 20 = .ok (.aload_n 0, 1) := by decide +kernel
theorem dX10_is_21 : decode cX10_is 21 = .ok (.iload_n 1, 1) := by decide +kernel
theorem dX10_is_22 : decode cX10_is 22 = .ok (.invokevirtual 159, 3) := by decide +kernel
theorem dX10_is_25 : decode cX10_is 25 = .ok (.ifnonnull 9, 3) := by decide +kernel
theorem dX10_is_28 : decode cX10_is 28 = .ok (.aload_n 0, 1) := by decide +kernel
theorem dX10_is_29 : decode cX10_is 29 = .ok (.iconst 1, 1) := by decide +kernel
theorem dX10_is_30 : decode cX10_is 30 = .ok (.invokevirtual 96, 3) := by decide +kernel
theorem dX10_is_33 : decode cX10_is 33 = .ok (.ireturn, 1) := by decide +kernel
theorem dX10_is_34 : decode cX10_is 34 = .ok (.aload_n 0, 1) := by decide +kernel
theorem dX10_is_35 : decode cX10_is 35 = .ok (.aload_n 0, 1) := by decide +kernel
theorem dX10_is_36 : decode cX10_is 36 = .ok (.getfield 22, 3) := by decide +kernel
theorem dX10_is_39 : decode cX10_is 39 = .ok (.iload_n 1, 1) := by decide +kernel
theorem dX10_is_40 : decode cX10_is 40 = .ok (.iaload, 1) := by decide +kernel
theorem dX10_is_41 : decode cX10_is 41 = .ok (.iload_n 2, 1) := by decide +kernel
theorem dX10_is_42 : decode cX10_is 42 = .ok (.invokestatic 170, 3) := by decide +kernel
theorem dX10_is_45 : decode cX10_is 45 = .ok (.ifCond .eq 7, 3) := by decide +kernel
theorem dX10_is_48 : decode cX10_is 48 = .ok (.iconst 1, 1) := by decide +kernel
theorem dX10_is_49 : decode cX10_is 49 = .ok (.goto 4, 3) := by decide +kernel
theorem dX10_is_52 : decode cX10_is 52 = .ok (.iconst 0, 1) := by decide +kernel
theorem dX10_is_53 : decode cX10_is 53 = .ok (.invokevirtual 104, 3) := by decide +kernel
theorem dX10_is_56 : decode cX10_is 56 = .ok (.ireturn, 1) := by decide +kernel
theorem dX10_as_0 : decode cX10_as 0 = .ok (.iload_n 1, 1) := by decide +kernel
theorem dX10_as_1 : decode cX10_as 1 = .ok (.bipush 20, 2) := by decide +kernel
theorem dX10_as_3 : decode cX10_as 3 = .ok (.invokestatic 91, 3) := by decide +kernel
theorem dX10_as_6 : decode cX10_as 6 = .ok (.ifCond .ne 11, 3) := by decide +kernel
theorem dX10_as_9 : decode cX10_as 9 = .ok (.iload_n 2, 1) := by decide +kernel
theorem dX10_as_10 : decode cX10_as 10 = .ok (.iconst 5, 1) := by decide +kernel
theorem dX10_as_11 : decode cX10_as 11 = .ok (.invokestatic 91, 3) := by decide +kernel
theorem dX10_as_14 : decode cX10_as 14 = .ok (.ifCond .eq 6, 3) := by decide +kernel
theorem dX10_as_17 : decode cX10_as 17 = .ok (.ldc 95, 2) := by decide +kernel
theorem dX10_as_19 : decode cX10_as 19 = .ok (.ireturn, 1) := by decide +kernel
theorem dX10_as_20 : decode cX10_as 20 = .ok (.aload_n 0, 1) := by decide +kernel
theorem dX10_as_21 : decode cX10_as 21 = .ok (.iload_n 1, 1) := by decide +kernel
theorem dX10_as_22 : decode cX10_as 22 = .ok (.invokevirtual 159, 3) := by decide +kernel
theorem dX10_as_25 : decode cX10_as 25 = .ok (.astore_n 3, 1) := by decide +kernel
theorem dX10_as_26 : decode cX10_as 26 = .ok (.aload_n 3, 1) := by decide +kernel
theorem dX10_as_27 : decode cX10_as 27 = .ok (.ifnonnull 9, 3) := by decide +kernel
theorem dX10_as_30 : decode cX10_as 30 = .ok (.aload_n 0, 1) := by decide +kernel
theorem dX10_as_31 : decode cX10_as 31 = .ok (.iconst 1, 1) := by decide +kernel
theorem dX10_as_32 : decode cX10_as 32 = .ok (.invokevirtual 96, 3) := by decide +kernel
theorem dX10_as_35 : decode cX10_as 35 = .ok (.ireturn, 1) := by decide +kernel
theorem dX10_as_36 : decode cX10_as 36 = .ok (.aload_n 0, 1) := by decide +kernel
theorem dX10_as_37 : decode cX10_as 37 = .ok (.getfield 22, 3) := by decide +kernel
theorem dX10_as_40 : decode cX10_as 40 = .ok (.iload_n 1, 1) := by decide +kernel
theorem dX10_as_41 : decode cX10_as 41 = .ok (.iaload, 1) := by decide +kernel
theorem dX10_as_42 : decode cX10_as 42 = .ok (.iload_n 2, 1) := by decide +kernel
theorem dX10_as_43 : decode cX10_as 43 = .ok (.invokestatic 170, 3) := by decide +kernel
theorem dX10_as_46 : decode cX10_as 46 = .ok (.ifCond .ne 9, 3) := by decide +kernel
theorem dX10_as_49 : decode cX10_as 49 = .ok (.aload_n 0, 1) := by decide +kernel
theorem dX10_as_50 : decode cX10_as 50 = .ok (.iconst 3, 1) := by decide +kernel
theorem dX10_as_51 : decode cX10_as 51 = .ok (.invokevirtual 96, 3) := by decide +kernel
theorem dX10_as_54 : decode cX10_as 54 = .ok (.ireturn, 1) := by decide +kernel
theorem dX10_as_55 : decode cX10_as 55 = .ok (.aload_n 0, 1) := by decide +kernel
theorem dX10_as_56 : decode cX10_as 56 = .ok (.aload_n 3, 1) := by decide +kernel
theorem dX10_as_57 : decode cX10_as 57 = .ok (.invokevirtual 166, 3) := by decide +kernel
theorem dX10_as_60 : decode cX10_as 60 = .ok (.l2i, 1) := by decide +kernel
theorem dX10_as_61 : decode cX10_as 61 = .ok (.invokevirtual 104, 3) := by decide +kernel
theorem dX10_as_64 : decode cX10_as 64 = .ok (.ireturn, 1) := by decide +kernel
theorem dX10_ask_0 : decode cX10_ask 0 = .ok (.iload_n 1, 1) := by decide +kernel
theorem dX10_ask_1 : decode cX10_ask 1 = .ok (.bipush 20, 2) := by decide +kernel
theorem dX10_ask_3 : decode cX10_ask 3 = .ok (.invokestatic 91, 3) := by decide +kernel
theorem dX10_ask_6 : decode cX10_ask 6 = .ok (.ifCond .ne 11, 3) := by decide +kernel
theorem dX10_ask_9 : decode cX10_ask 9 = .ok (.iload_n 2, 1) := by decide +kernel
theorem dX10_ask_10 : decode cX10_ask 10 = .ok (.iconst 3, 1) := by decide +kernel
theorem dX10_ask_11 : decode cX10_ask 11 = .ok (.invokestatic 91, 3) := by decide +kernel
theorem dX10_ask_14 : decode cX10_ask 14 = .ok (.ifCond .eq 6, 3) := by decide +kernel
theorem dX10_ask_17 : decode cX10_ask 17 = .ok (.ldc 95, 2) := by decide +kernel
theorem dX10_ask_19 : decode cX10_ask 19 = .ok (.ireturn, 1) := by decide +kernel
theorem dX10_ask_20 : decode cX10_ask 20 = .ok (.aload_n 0, 1) := by decide +kernel
theorem dX10_ask_21 : decode cX10_ask 21 = .ok (.getfield 83, 3) := by decide +kernel
theorem dX10_ask_24 : decode cX10_ask 24 = .ok (.invokevirtual 173, 3) := by decide +kernel
theorem dX10_ask_27 : decode cX10_ask 27 = .ok (.aload_n 0, 1) := by decide +kernel
theorem dX10_ask_28 : decode cX10_ask 28 = .ok (.iload_n 1, 1) := by decide +kernel
theorem dX10_ask_29 : decode cX10_ask 29 = .ok (.invokevirtual 159, 3) := by decide +kernel
theorem dX10_ask_32 : decode cX10_ask 32 = .ok (.astore_n 3, 1) := by decide +kernel
theorem dX10_ask_33 : decode cX10_ask 33 = .ok (.aload_n 3, 1) := by decide +kernel
theorem dX10_ask_34 : decode cX10_ask 34 = .ok (.ifnonnull 9, 3) := by decide +kernel
theorem dX10_ask_37 : decode cX10_ask 37 = .ok (.aload_n 0, 1) := by decide +kernel
theorem dX10_ask_38 : decode cX10_ask 38 = .ok (.iconst 1, 1) := by decide +kernel
theorem dX10_ask_39 : decode cX10_ask 39 = .ok (.invokevirtual 96, 3) := by decide +kernel
theorem dX10_ask_42 : decode cX10_ask 42 = .ok (.ireturn, 1) := by decide +kernel
theorem dX10_ask_43 : decode cX10_ask 43 = .ok (.iload_n 2, 1) := by decide +kernel
theorem dX10_ask_44 : decode cX10_ask 44 = .ok (.ifCond .ne 22, 3) := by decide +kernel
theorem dX10_ask_47 : decode cX10_ask 47 = .ok (.aload_n 0, 1) := by decide +kernel
theorem dX10_ask_48 : decode cX10_ask 48 = .ok (.aload_n 0, 1) := by decide +kernel
theorem dX10_ask_49 : decode cX10_ask 49 = .ok (.getfield 83, 3) := by decide +kernel
theorem dX10_ask_52 : decode cX10_ask 52 = .ok (.aload_n 3, 1) := by decide +kernel
theorem dX10_ask_53 : decode cX10_ask 53 = .ok (.aload_n 0, 1) := by decide +kernel
theorem dX10_ask_54 : decode cX10_ask 54 = .ok (.getfield 22, 3) := by decide +kernel
theorem dX10_ask_57 : decode cX10_ask 57 = .ok (.iload_n 1, 1) := by decide +kernel
theorem dX10_ask_58 : decode cX10_ask 58 = .ok (.iaload, 1) := by decide +kernel
theorem dX10_ask_59 : decode cX10_ask 59 = .ok (.invokevirtual 176, 3) := by decide +kernel
theorem dX10_ask_62 : decode cX10_ask 62 = .ok (.invokevirtual 104, 3) := by decide +kernel
theorem dX10_ask_65 : decode cX10_ask 65 = .ok (.ireturn, 1) := by decide +kernel
theorem dX10_ask_66 : decode cX10_ask 66 = .ok (.iload_n 2, 1) := by decide +kernel
theorem dX10_ask_67 : decode cX10_ask 67 = .ok (.iconst 1, 1) := by decide +kernel
theorem dX10_ask_68 : decode cX10_ask 68 = .ok (.if_icmp .ne 22, 3) := by decide +kernel
theorem dX10_ask_71 : decode cX10_ask 71 = .ok (.aload_n 0, 1) := by decide +kernel
theorem dX10_ask_72 : decode cX10_ask 72 = .ok (.aload_n 0, 1) := by decide +kernel
theorem dX10_ask_73 : decode cX10_ask 73 = .ok (.getfield 83, 3) := by decide +kernel
theorem dX10_ask_76 : decode cX10_ask 76 = .ok (.aload_n 3, 1) := by decide +kernel
theorem dX10_ask_77 : decode cX10_ask 77 = .ok (.aload_n 0, 1) := by decide +kernel
theorem dX10_ask_78 : decode cX10_ask 78 = .ok (.getfield 22, 3) := by decide +kernel
theorem dX10_ask_81 : decode cX10_ask 81 = .ok (.iload_n 1, 1) := by decide +kernel
theorem dX10_ask_82 : decode cX10_ask 82 = .ok (.iaload, 1) := by decide +kernel
theorem dX10_ask_83 : decode cX10_ask 83 = .ok (.invokevirtual 180, 3) := by decide +kernel
theorem dX10_ask_86 : decode cX10_ask 86 = .ok (.invokevirtual 104, 3) := by decide +kernel
theorem dX10_ask_89 : decode cX10_ask 89 = .ok (.ireturn, 1) := by decide +kernel
theorem dX10_ask_90 : decode cX10_ask 90 = .ok (.aload_n 0, 1) := by decide +kernel
theorem dX10_ask_91 : decode cX10_ask 91 = .ok (.aload_n 0, 1) := by decide +kernel
theorem dX10_ask_92 : decode cX10_ask 92 = .ok (.getfield 83, 3) := by decide +kernel
theorem dX10_ask_95 : decode cX10_ask 95 = .ok (.aload_n 3, 1) := by decide +kernel
theorem dX10_ask_96 : decode cX10_ask 96 = .ok (.aload_n 0, 1) := by decide +kernel
theorem dX10_ask_97 : decode cX10_ask 97 = .ok (.getfield 22, 3) := by decide +kernel
theorem dX10_ask_100 : decode cX10_ask 100 = .ok (.iload_n 1, 1) := by decide +kernel
theorem dX10_ask_101 : decode cX10_ask 101 = .ok (.iaload, 1) := by decide +kernel
theorem dX10_ask_102 : decode cX10_ask 102 = .ok (.invokevirtual 183, 3) := by decide +kernel
theorem dX10_ask_105 : decode cX10_ask 105 = .ok (.invokevirtual 104, 3) := by decide +kernel
theorem dX10_ask_108 : decode cX10_ask 108 = .ok (.ireturn, 1) := by decide +kernel
theorem dX10_trace_0 : decode cX10_trace 0 = .ok (.aload_n 0, 1) := by decide +kernel
theorem dX10_trace_1 : decode cX10_trace 1 = .ok (.getfield 83, 3) := by decide +kernel
theorem dX10_trace_4 : decode cX10_trace 4 = .ok (.iload_n 1, 1) := by decide +kernel
theorem dX10_trace_5 : decode cX10_trace 5 = .ok (.invokevirtual 186, 3) := by decide +kernel
theorem dX10_trace_8 : decode cX10_trace 8 = .ok (.ireturn, 1) := by decide +kernel
theorem dX10_times_0 : decode cX10_times 0 = .ok (.iload_n 1, 1) := by decide +kernel
theorem dX10_times_1 : decode cX10_times 1 = .ok (.bipush 20, 2) := by decide +kernel
theorem dX10_times_3 : decode cX10_times 3 = .ok (.invokestatic 91, 3) := by decide +kernel
theorem dX10_times_6 : decode cX10_times 6 = .ok (.ifCond .ne 21, 3) := by decide +kernel
theorem dX10_times_9 : decode cX10_times 9 = .ok (.iload_n 2, 1) := by decide +kernel
theorem dX10_times_10 : decode cX10_times 10 = .ok (.bipush 20, 2) := by decide +kernel
theorem dX10_times_12 : decode cX10_times 12 = .ok (.invokestatic 91, 3) := by decide +kernel
theorem dX10_times_15 : decode cX10_times 15 = .ok (.ifCond .ne 12, 3) := by decide +kernel
theorem dX10_times_18 : decode cX10_times 18 = .ok (.iload_n 3, 1) := by decide +kernel
theorem dX10_times_19 : decode cX10_times 19 = .ok (.bipush 20, 2) := by decide +kernel
theorem dX10_times_21 : decode cX10_times 21 = .ok (.invokestatic 91, 3) := by decide +kernel
theorem dX10_times_24 : decode cX10_times 24 = .ok (.ifCond .eq 6, 3) := by decide +kernel
theorem dX10_times_27 : decode cX10_times 27 = .ok (.ldc 95, 2) := by decide +kernel
theorem dX10_times_29 : decode cX10_times 29 = .ok (.ireturn, 1) := by decide +kernel
theorem dX10_times_30 : decode cX10_times 30 = .ok (.aload_n 0, 1) := by decide +kernel
theorem dX10_times_31 : decode cX10_times 31 = .ok (.iload_n 2, 1) := by decide +kernel
theorem dX10_times_32 : decode cX10_times 32 = .ok (.invokevirtual 159, 3) := by decide +kernel
theorem dX10_times_35 : decode cX10_times 35 = .ok (.astore 4, 2) := by decide +kernel
theorem dX10_times_37 : decode cX10_times 37 = .ok (.aload_n 0, 1) := by decide +kernel
theorem dX10_times_38 : decode cX10_times 38 = .ok (.iload_n 3, 1) := by decide +kernel
theorem dX10_times_39 : decode cX10_times 39 = .ok (.invokevirtual 159, 3) := by decide +kernel
theorem dX10_times_42 : decode cX10_times 42 = .ok (.astore 5, 2) := by decide +kernel
theorem dX10_times_44 : decode cX10_times 44 = .ok (.aload 4, 2) := by decide +kernel
theorem dX10_times_46 : decode cX10_times 46 = .ok (.ifnull 8, 3) := by decide +kernel
theorem dX10_times_49 : decode cX10_times 49 = .ok (.aload 5, 2) := by decide +kernel
theorem dX10_times_51 : decode cX10_times 51 = .ok (.ifnonnull 9, 3) := by decide +kernel
theorem dX10_times_54 : decode cX10_times 54 = .ok (.aload_n 0, 1) := by decide +kernel
theorem dX10_times_55 : decode cX10_times 55 = .ok (.iconst 1, 1) := by decide +kernel
theorem dX10_times_56 : decode cX10_times 56 = .ok (.invokevirtual 96, 3) := by decide +kernel
theorem dX10_times_59 : decode cX10_times 59 = .ok (.ireturn, 1) := by decide +kernel
theorem dX10_times_60 : decode cX10_times 60 = .ok (.aload_n 0, 1) := by decide +kernel
theorem dX10_times_61 : decode cX10_times 61 = .ok (.getfield 27, 3) := by decide +kernel
theorem dX10_times_64 : decode cX10_times 64 = .ok (.aload 4, 2) := by decide +kernel
theorem dX10_times_66 : decode cX10_times 66 = .ok (.aload 5, 2) := by decide +kernel
theorem dX10_times_68 : decode cX10_times 68 = .ok (.invokevirtual 189, 3) := by decide +kernel
theorem dX10_times_71 : decode cX10_times 71 = .ok (.aload_n 0, 1) := by decide +kernel
theorem dX10_times_72 : decode cX10_times 72 = .ok (.getfield 27, 3) := by decide +kernel
theorem dX10_times_75 : decode cX10_times 75 = .ok (.invokevirtual 151, 3) := by decide +kernel
theorem dX10_times_78 : decode cX10_times 78 = .ok (.ifCond .eq 6, 3) := by decide +kernel
theorem dX10_times_81 : decode cX10_times 81 = .ok (.ldc 154, 2) := by decide +kernel
theorem dX10_times_83 : decode cX10_times 83 = .ok (.ireturn, 1) := by decide +kernel
theorem dX10_times_84 : decode cX10_times 84 = .ok (.aload_n 0, 1) := by decide +kernel
theorem dX10_times_85 : decode cX10_times 85 = .ok (.aload_n 0, 1) := by decide +kernel
theorem dX10_times_86 : decode cX10_times 86 = .ok (.iload_n 1, 1) := by decide +kernel
theorem dX10_times_87 : decode cX10_times 87 = .ok (.aload_n 0, 1) := by decide +kernel
theorem dX10_times_88 : decode cX10_times 88 = .ok (.getfield 27, 3) := by decide +kernel
theorem dX10_times_91 : decode cX10_times 91 = .ok (.invokevirtual 155, 3) := by decide +kernel
theorem dX10_times_94 : decode cX10_times 94 = .ok (.invokevirtual 104, 3) := by decide +kernel
theorem dX10_times_97 : decode cX10_times 97 = .ok (.ireturn, 1) := by decide +kernel
theorem dX10_sum_0 : decode cX10_sum 0 = .ok (.iload_n 1, 1) := by decide +kernel
theorem dX10_sum_1 : decode cX10_sum 1 = .ok (.bipush 20, 2) := by decide +kernel
theorem dX10_sum_3 : decode cX10_sum 3 = .ok (.invokestatic 91, 3) := by decide +kernel
theorem dX10_sum_6 : decode cX10_sum 6 = .ok (.ifCond .ne 21, 3) := by decide +kernel
theorem dX10_sum_9 : decode cX10_sum 9 = .ok (.iload_n 2, 1) := by decide +kernel
theorem dX10_sum_10 : decode cX10_sum 10 = .ok (.bipush 20, 2) := by decide +kernel
theorem dX10_sum_12 : decode cX10_sum 12 = .ok (.invokestatic 91, 3) := by decide +kernel
theorem dX10_sum_15 : decode cX10_sum 15 = .ok (.ifCond .ne 12, 3) := by decide +kernel
theorem dX10_sum_18 : decode cX10_sum 18 = .ok (.iload_n 3, 1) := by decide +kernel
theorem dX10_sum_19 : decode cX10_sum 19 = .ok (.bipush 20, 2) := by decide +kernel
theorem dX10_sum_21 : decode cX10_sum 21 = .ok (.invokestatic 91, 3) := by decide +kernel
theorem dX10_sum_24 : decode cX10_sum 24 = .ok (.ifCond .eq 6, 3) := by decide +kernel
theorem dX10_sum_27 : decode cX10_sum 27 = .ok (.ldc 95, 2) := by decide +kernel
theorem dX10_sum_29 : decode cX10_sum 29 = .ok (.ireturn, 1) := by decide +kernel
theorem dX10_sum_30 : decode cX10_sum 30 = .ok (.aload_n 0, 1) := by decide +kernel
theorem dX10_sum_31 : decode cX10_sum 31 = .ok (.iload_n 2, 1) := by decide +kernel
theorem dX10_sum_32 : decode cX10_sum 32 = .ok (.invokevirtual 159, 3) := by decide +kernel
theorem dX10_sum_35 : decode cX10_sum 35 = .ok (.astore 4, 2) := by decide +kernel
theorem dX10_sum_37 : decode cX10_sum 37 = .ok (.aload_n 0, 1) := by decide +kernel
theorem dX10_sum_38 : decode cX10_sum 38 = .ok (.iload_n 3, 1) := by decide +kernel
theorem dX10_sum_39 : decode cX10_sum 39 = .ok (.invokevirtual 159, 3) := by decide +kernel
theorem dX10_sum_42 : decode cX10_sum 42 = .ok (.astore 5, 2) := by decide +kernel
theorem dX10_sum_44 : decode cX10_sum 44 = .ok (.aload 4, 2) := by decide +kernel
theorem dX10_sum_46 : decode cX10_sum 46 = .ok (.ifnull 8, 3) := by decide +kernel
theorem dX10_sum_49 : decode cX10_sum 49 = .ok (.aload 5, 2) := by decide +kernel
theorem dX10_sum_51 : decode cX10_sum 51 = .ok (.ifnonnull 9, 3) := by decide +kernel
theorem dX10_sum_54 : decode cX10_sum 54 = .ok (.aload_n 0, 1) := by decide +kernel
theorem dX10_sum_55 : decode cX10_sum 55 = .ok (.iconst 1, 1) := by decide +kernel
theorem dX10_sum_56 : decode cX10_sum 56 = .ok (.invokevirtual 96, 3) := by decide +kernel
theorem dX10_sum_59 : decode cX10_sum 59 = .ok (.ireturn, 1) := by decide +kernel
theorem dX10_sum_60 : decode cX10_sum 60 = .ok (.aload_n 0, 1) := by decide +kernel
theorem dX10_sum_61 : decode cX10_sum 61 = .ok (.getfield 27, 3) := by decide +kernel
theorem dX10_sum_64 : decode cX10_sum 64 = .ok (.aload 4, 2) := by decide +kernel
theorem dX10_sum_66 : decode cX10_sum 66 = .ok (.aload 5, 2) := by decide +kernel
theorem dX10_sum_68 : decode cX10_sum 68 = .ok (.invokevirtual 193, 3) := by decide +kernel
theorem dX10_sum_71 : decode cX10_sum 71 = .ok (.aload_n 0, 1) := by decide +kernel
theorem dX10_sum_72 : decode cX10_sum 72 = .ok (.getfield 27, 3) := by decide +kernel
theorem dX10_sum_75 : decode cX10_sum 75 = .ok (.invokevirtual 151, 3) := by decide +kernel
theorem dX10_sum_78 : decode cX10_sum 78 = .ok (.ifCond .eq 6, 3) := by decide +kernel
theorem dX10_sum_81 : decode cX10_sum 81 = .ok (.ldc 154, 2) := by decide +kernel
theorem dX10_sum_83 : decode cX10_sum 83 = .ok (.ireturn, 1) := by decide +kernel
theorem dX10_sum_84 : decode cX10_sum 84 = .ok (.aload_n 0, 1) := by decide +kernel
theorem dX10_sum_85 : decode cX10_sum 85 = .ok (.aload_n 0, 1) := by decide +kernel
theorem dX10_sum_86 : decode cX10_sum 86 = .ok (.iload_n 1, 1) := by decide +kernel
theorem dX10_sum_87 : decode cX10_sum 87 = .ok (.aload_n 0, 1) := by decide +kernel
theorem dX10_sum_88 : decode cX10_sum 88 = .ok (.getfield 27, 3) := by decide +kernel
theorem dX10_sum_91 : decode cX10_sum 91 = .ok (.invokevirtual 155, 3) := by decide +kernel
theorem dX10_sum_94 : decode cX10_sum 94 = .ok (.invokevirtual 104, 3) := by decide +kernel
theorem dX10_sum_97 : decode cX10_sum 97 = .ok (.ireturn, 1) := by decide +kernel
theorem dX10_back_0 : decode cX10_back 0 = .ok (.iload_n 1, 1) := by decide +kernel
theorem dX10_back_1 : decode cX10_back 1 = .ok (.bipush 20, 2) := by decide +kernel
theorem dX10_back_3 : decode cX10_back 3 = .ok (.invokestatic 91, 3) := by decide +kernel
theorem dX10_back_6 : decode cX10_back 6 = .ok (.ifCond .ne 12, 3) := by decide +kernel
theorem dX10_back_9 : decode cX10_back 9 = .ok (.iload_n 2, 1) := by decide +kernel
theorem dX10_back_10 : decode cX10_back 10 = .ok (.bipush 20, 2) := by decide +kernel
theorem dX10_back_12 : decode cX10_back 12 = .ok (.invokestatic 91, 3) := by decide +kernel
theorem dX10_back_15 : decode cX10_back 15 = .ok (.ifCond .eq 6, 3) := by decide +kernel
theorem dX10_back_18 : decode cX10_back 18 = .ok (.ldc 95, 2) := by decide +kernel
theorem dX10_back_20 : decode cX10_back 20 = .ok (.ireturn, 1) := by decide +kernel
theorem dX10_back_21 : decode cX10_back 21 = .ok (.aload_n 0, 1) := by decide +kernel
theorem dX10_back_22 : decode cX10_back 22 = .ok (.iload_n 2, 1) := by decide +kernel
theorem dX10_back_23 : decode cX10_back 23 = .ok (.invokevirtual 159, 3) := by decide +kernel
theorem dX10_back_26 : decode cX10_back 26 = .ok (.astore_n 3, 1) := by decide +kernel
theorem dX10_back_27 : decode cX10_back 27 = .ok (.aload_n 3, 1) := by decide +kernel
theorem dX10_back_28 : decode cX10_back 28 = .ok (.ifnonnull 9, 3) := by decide +kernel
theorem dX10_back_31 : decode cX10_back 31 = .ok (.aload_n 0, 1) := by decide +kernel
theorem dX10_back_32 : decode cX10_back 32 = .ok (.iconst 1, 1) := by decide +kernel
theorem dX10_back_33 : decode cX10_back 33 = .ok (.invokevirtual 96, 3) := by decide +kernel
theorem dX10_back_36 : decode cX10_back 36 = .ok (.ireturn, 1) := by decide +kernel
theorem dX10_back_37 : decode cX10_back 37 = .ok (.aload_n 0, 1) := by decide +kernel
theorem dX10_back_38 : decode cX10_back 38 = .ok (.getfield 27, 3) := by decide +kernel
theorem dX10_back_41 : decode cX10_back 41 = .ok (.aload_n 3, 1) := by decide +kernel
theorem dX10_back_42 : decode cX10_back 42 = .ok (.invokevirtual 196, 3) := by decide +kernel
theorem dX10_back_45 : decode cX10_back 45 = .ok (.aload_n 0, 1) := by decide +kernel
theorem dX10_back_46 : decode cX10_back 46 = .ok (.aload_n 0, 1) := by decide +kernel
theorem dX10_back_47 : decode cX10_back 47 = .ok (.iload_n 1, 1) := by decide +kernel
theorem dX10_back_48 : decode cX10_back 48 = .ok (.aload_n 0, 1) := by decide +kernel
theorem dX10_back_49 : decode cX10_back 49 = .ok (.getfield 27, 3) := by decide +kernel
theorem dX10_back_52 : decode cX10_back 52 = .ok (.invokevirtual 155, 3) := by decide +kernel
theorem dX10_back_55 : decode cX10_back 55 = .ok (.invokevirtual 104, 3) := by decide +kernel
theorem dX10_back_58 : decode cX10_back 58 = .ok (.ireturn, 1) := by decide +kernel
theorem dX10_over_0 : decode cX10_over 0 = .ok (.iload_n 1, 1) := by decide +kernel
theorem dX10_over_1 : decode cX10_over 1 = .ok (.bipush 20, 2) := by decide +kernel
theorem dX10_over_3 : decode cX10_over 3 = .ok (.invokestatic 91, 3) := by decide +kernel
theorem dX10_over_6 : decode cX10_over 6 = .ok (.ifCond .ne 31, 3) := by decide +kernel
theorem dX10_over_9 : decode cX10_over 9 = .ok (.iload_n 2, 1) := by decide +kernel
theorem dX10_over_10 : decode cX10_over 10 = .ok (.bipush 20, 2) := by decide +kernel
theorem dX10_over_12 : decode cX10_over 12 = .ok (.invokestatic 91, 3) := by decide +kernel
theorem dX10_over_15 : decode cX10_over 15 = .ok (.ifCond .ne 22, 3) := by decide +kernel
theorem dX10_over_18 : decode cX10_over 18 = .ok (.iload_n 3, 1) := by decide +kernel
theorem dX10_over_19 : decode cX10_over 19 = .ok (.bipush 20, 2) := by decide +kernel
theorem dX10_over_21 : decode cX10_over 21 = .ok (.invokestatic 91, 3) := by decide +kernel
theorem dX10_over_24 : decode cX10_over 24 = .ok (.ifCond .ne 13, 3) := by decide +kernel
theorem dX10_over_27 : decode cX10_over 27 = .ok (.iload 4, 2) := by decide +kernel
theorem dX10_over_29 : decode cX10_over 29 = .ok (.bipush 20, 2) := by decide +kernel
theorem dX10_over_31 : decode cX10_over 31 = .ok (.invokestatic 91, 3) := by decide +kernel
theorem dX10_over_34 : decode cX10_over 34 = .ok (.ifCond .eq 6, 3) := by decide +kernel
theorem dX10_over_37 : decode cX10_over 37 = .ok (.ldc 95, 2) := by decide +kernel
theorem dX10_over_39 : decode cX10_over 39 = .ok (.ireturn, 1) := by decide +kernel
theorem dX10_over_40 : decode cX10_over 40 = .ok (.iload 5, 2) := by decide +kernel
theorem dX10_over_42 : decode cX10_over 42 = .ok (.iconst 2, 1) := by decide +kernel
theorem dX10_over_43 : decode cX10_over 43 = .ok (.invokestatic 91, 3) := by decide +kernel
theorem dX10_over_46 : decode cX10_over 46 = .ok (.ifCond .eq 6, 3) := by decide +kernel
theorem dX10_over_49 : decode cX10_over 49 = .ok (.ldc 95, 2) := by decide +kernel
theorem dX10_over_51 : decode cX10_over 51 = .ok (.ireturn, 1) := by decide +kernel
theorem dX10_over_52 : decode cX10_over 52 = .ok (.aload_n 0, 1) := by decide +kernel
theorem dX10_over_53 : decode cX10_over 53 = .ok (.iload_n 3, 1) := by decide +kernel
theorem dX10_over_54 : decode cX10_over 54 = .ok (.invokevirtual 159, 3) := by decide +kernel
theorem dX10_over_57 : decode cX10_over 57 = .ok (.astore 6, 2) := by decide +kernel
theorem dX10_over_59 : decode cX10_over 59 = .ok (.aload_n 0, 1) := by decide +kernel
theorem dX10_over_60 : decode cX10_over 60 = .ok (.iload 4, 2) := by decide +kernel
theorem dX10_over_62 : decode cX10_over 62 = .ok (.invokevirtual 159, 3) := by decide +kernel
theorem dX10_over_65 : decode cX10_over 65 = .ok (.astore 7, 2) := by decide +kernel
theorem dX10_over_67 : decode cX10_over 67 = .ok (.aload 6, 2) := by decide +kernel
theorem dX10_over_69 : decode cX10_over 69 = .ok (.ifnull 8, 3) := by decide +kernel
theorem dX10_over_72 : decode cX10_over 72 = .ok (.aload 7, 2) := by decide +kernel
theorem dX10_over_74 : decode cX10_over 74 = .ok (.ifnonnull 9, 3) := by decide +kernel
theorem dX10_over_77 : decode cX10_over 77 = .ok (.aload_n 0, 1) := by decide +kernel
theorem dX10_over_78 : decode cX10_over 78 = .ok (.iconst 1, 1) := by decide +kernel
theorem dX10_over_79 : decode cX10_over 79 = .ok (.invokevirtual 96, 3) := by decide +kernel
theorem dX10_over_82 : decode cX10_over 82 = .ok (.ireturn, 1) := by decide +kernel
theorem dX10_over_83 : decode cX10_over 83 = .ok (.aload 7, 2) := by decide +kernel
theorem dX10_over_85 : decode cX10_over 85 = .ok (.invokevirtual 200, 3) := by decide +kernel
theorem dX10_over_88 : decode cX10_over 88 = .ok (.ifCond .eq 6, 3) := by decide +kernel
theorem dX10_over_91 : decode cX10_over 91 = .ok (.ldc 203, 2) := by decide +kernel
theorem dX10_over_93 : decode cX10_over 93 = .ok (.ireturn, 1) := by decide +kernel
theorem dX10_over_94 : decode cX10_over 94 = .ok (.aload_n 0, 1) := by decide +kernel
theorem dX10_over_95 : decode cX10_over 95 = .ok (.getfield 34, 3) := by decide +kernel
theorem dX10_over_98 : decode cX10_over 98 = .ok (.aload 6, 2) := by decide +kernel
theorem dX10_over_100 : decode cX10_over 100 = .ok (.aload 7, 2) := by decide +kernel
theorem dX10_over_102 : decode cX10_over 102 = .ok (.iload 5, 2) := by decide +kernel
theorem dX10_over_104 : decode cX10_over 104 = .ok (.invokevirtual 204, 3) := by decide +kernel
theorem dX10_over_107 : decode cX10_over 107 = .ok (.aload_n 0, 1) := by decide +kernel
theorem dX10_over_108 : decode cX10_over 108 = .ok (.iload_n 2, 1) := by decide +kernel
theorem dX10_over_109 : decode cX10_over 109 = .ok (.aload_n 0, 1) := by decide +kernel
theorem dX10_over_110 : decode cX10_over 110 = .ok (.getfield 34, 3) := by decide +kernel
theorem dX10_over_113 : decode cX10_over 113 = .ok (.getfield 208, 3) := by decide +kernel
theorem dX10_over_116 : decode cX10_over 116 = .ok (.invokevirtual 155, 3) := by decide +kernel
theorem dX10_over_119 : decode cX10_over 119 = .ok (.pop, 1) := by decide +kernel
theorem dX10_over_120 : decode cX10_over 120 = .ok (.aload_n 0, 1) := by decide +kernel
theorem dX10_over_121 : decode cX10_over 121 = .ok (.iload_n 1, 1) := by decide +kernel
theorem dX10_over_122 : decode cX10_over 122 = .ok (.aload_n 0, 1) := by decide +kernel
theorem dX10_over_123 : decode cX10_over 123 = .ok (.getfield 34, 3) := by decide +kernel
theorem dX10_over_126 : decode cX10_over 126 = .ok (.getfield 211, 3) := by decide +kernel
theorem dX10_over_129 : decode cX10_over 129 = .ok (.invokevirtual 155, 3) := by decide +kernel
theorem dX10_over_132 : decode cX10_over 132 = .ok (.pop, 1) := by decide +kernel
theorem dX10_over_133 : decode cX10_over 133 = .ok (.aload_n 0, 1) := by decide +kernel
theorem dX10_over_134 : decode cX10_over 134 = .ok (.aload_n 0, 1) := by decide +kernel
theorem dX10_over_135 : decode cX10_over 135 = .ok (.getfield 34, 3) := by decide +kernel
theorem dX10_over_138 : decode cX10_over 138 = .ok (.getfield 208, 3) := by decide +kernel
theorem dX10_over_141 : decode cX10_over 141 = .ok (.invokevirtual 166, 3) := by decide +kernel
theorem dX10_over_144 : decode cX10_over 144 = .ok (.l2i, 1) := by decide +kernel
theorem dX10_over_145 : decode cX10_over 145 = .ok (.invokevirtual 104, 3) := by decide +kernel
theorem dX10_over_148 : decode cX10_over 148 = .ok (.ireturn, 1) := by decide +kernel
theorem dX10_greatest_0 : decode cX10_greatest 0 = .ok (.iload_n 1, 1) := by decide +kernel
theorem dX10_greatest_1 : decode cX10_greatest 1 = .ok (.bipush 20, 2) := by decide +kernel
theorem dX10_greatest_3 : decode cX10_greatest 3 = .ok (.invokestatic 91, 3) := by decide +kernel
theorem dX10_greatest_6 : decode cX10_greatest 6 = .ok (.ifCond .ne 30, 3) := by decide +kernel
theorem dX10_greatest_9 : decode cX10_greatest 9 = .ok (.iload_n 2, 1) := by decide +kernel
theorem dX10_greatest_10 : decode cX10_greatest 10 = .ok (.bipush 20, 2) := by decide +kernel
theorem dX10_greatest_12 : decode cX10_greatest 12 = .ok (.invokestatic 91, 3) := by decide +kernel
theorem dX10_greatest_15 : decode cX10_greatest 15 = .ok (.ifCond .ne 21, 3) := by decide +kernel
theorem dX10_greatest_18 : decode cX10_greatest 18 = .ok (.iload_n 3, 1) := by decide +kernel
theorem dX10_greatest_19 : decode cX10_greatest 19 = .ok (.bipush 20, 2) := by decide +kernel
theorem dX10_greatest_21 : decode cX10_greatest 21 = .ok (.invokestatic 91, 3) := by decide +kernel
theorem dX10_greatest_24 : decode cX10_greatest 24 = .ok (.ifCond .ne 12, 3) := by decide +kernel
theorem dX10_greatest_27 : decode cX10_greatest 27 = .ok (.iload 4, 2) := by decide +kernel
theorem dX10_greatest_29 : decode cX10_greatest 29 = .ok (.iconst 2, 1) := by decide +kernel
theorem dX10_greatest_30 : decode cX10_greatest 30 = .ok (.invokestatic 91, 3) := by decide +kernel
theorem dX10_greatest_33 : decode cX10_greatest 33 = .ok (.ifCond .eq 6, 3) := by decide +kernel
theorem dX10_greatest_36 : decode cX10_greatest 36 = .ok (.ldc 95, 2) := by decide +kernel
theorem dX10_greatest_38 : decode cX10_greatest 38 = .ok (.ireturn, 1) := by decide +kernel
theorem dX10_greatest_39 : decode cX10_greatest 39 = .ok (.aload_n 0, 1) := by decide +kernel
theorem dX10_greatest_40 : decode cX10_greatest 40 = .ok (.iload_n 2, 1) := by decide +kernel
theorem dX10_greatest_41 : decode cX10_greatest 41 = .ok (.invokevirtual 159, 3) := by decide +kernel
theorem dX10_greatest_44 : decode cX10_greatest 44 = .ok (.astore 5, 2) := by decide +kernel
theorem dX10_greatest_46 : decode cX10_greatest 46 = .ok (.aload_n 0, 1) := by decide +kernel
theorem dX10_greatest_47 : decode cX10_greatest 47 = .ok (.iload_n 3, 1) := by decide +kernel
theorem dX10_greatest_48 : decode cX10_greatest 48 = .ok (.invokevirtual 159, 3) := by decide +kernel
theorem dX10_greatest_51 : decode cX10_greatest 51 = .ok (.astore 6, 2) := by decide +kernel
theorem dX10_greatest_53 : decode cX10_greatest 53 = .ok (.aload 5, 2) := by decide +kernel
theorem dX10_greatest_55 : decode cX10_greatest 55 = .ok (.ifnull 8, 3) := by decide +kernel
theorem dX10_greatest_58 : decode cX10_greatest 58 = .ok (.aload 6, 2) := by decide +kernel
theorem dX10_greatest_60 : decode cX10_greatest 60 = .ok (.ifnonnull 9, 3) := by decide +kernel
theorem dX10_greatest_63 : decode cX10_greatest 63 = .ok (.aload_n 0, 1) := by decide +kernel
theorem dX10_greatest_64 : decode cX10_greatest 64 = .ok (.iconst 1, 1) := by decide +kernel
theorem dX10_greatest_65 : decode cX10_greatest 65 = .ok (.invokevirtual 96, 3) := by decide +kernel
theorem dX10_greatest_68 : decode cX10_greatest 68 = .ok (.ireturn, 1) := by decide +kernel
theorem dX10_greatest_69 : decode cX10_greatest 69 = .ok (.aload 5, 2) := by decide +kernel
theorem dX10_greatest_71 : decode cX10_greatest 71 = .ok (.invokevirtual 200, 3) := by decide +kernel
theorem dX10_greatest_74 : decode cX10_greatest 74 = .ok (.ifCond .eq 14, 3) := by decide +kernel
theorem dX10_greatest_77 : decode cX10_greatest 77 = .ok (.aload 6, 2) := by decide +kernel
theorem dX10_greatest_79 : decode cX10_greatest 79 = .ok (.invokevirtual 200, 3) := by decide +kernel
theorem dX10_greatest_82 : decode cX10_greatest 82 = .ok (.ifCond .eq 6, 3) := by decide +kernel
theorem dX10_greatest_85 : decode cX10_greatest 85 = .ok (.ldc 203, 2) := by decide +kernel
theorem dX10_greatest_87 : decode cX10_greatest 87 = .ok (.ireturn, 1) := by decide +kernel
theorem dX10_greatest_88 : decode cX10_greatest 88 = .ok (.aload_n 0, 1) := by decide +kernel
theorem dX10_greatest_89 : decode cX10_greatest 89 = .ok (.getfield 48, 3) := by decide +kernel
theorem dX10_greatest_92 : decode cX10_greatest 92 = .ok (.aload 5, 2) := by decide +kernel
theorem dX10_greatest_94 : decode cX10_greatest 94 = .ok (.aload 6, 2) := by decide +kernel
theorem dX10_greatest_96 : decode cX10_greatest 96 = .ok (.iload 4, 2) := by decide +kernel
theorem dX10_greatest_98 : decode cX10_greatest 98 = .ok (.invokevirtual 214, 3) := by decide +kernel
theorem dX10_greatest_101 : decode cX10_greatest 101 = .ok (.aload_n 0, 1) := by decide +kernel
theorem dX10_greatest_102 : decode cX10_greatest 102 = .ok (.iload_n 1, 1) := by decide +kernel
theorem dX10_greatest_103 : decode cX10_greatest 103 = .ok (.aload_n 0, 1) := by decide +kernel
theorem dX10_greatest_104 : decode cX10_greatest 104 = .ok (.getfield 48, 3) := by decide +kernel
theorem dX10_greatest_107 : decode cX10_greatest 107 = .ok (.getfield 217, 3) := by decide +kernel
theorem dX10_greatest_110 : decode cX10_greatest 110 = .ok (.invokevirtual 155, 3) := by decide +kernel
theorem dX10_greatest_113 : decode cX10_greatest 113 = .ok (.pop, 1) := by decide +kernel
theorem dX10_greatest_114 : decode cX10_greatest 114 = .ok (.aload_n 0, 1) := by decide +kernel
theorem dX10_greatest_115 : decode cX10_greatest 115 = .ok (.aload_n 0, 1) := by decide +kernel
theorem dX10_greatest_116 : decode cX10_greatest 116 = .ok (.getfield 48, 3) := by decide +kernel
theorem dX10_greatest_119 : decode cX10_greatest 119 = .ok (.getfield 217, 3) := by decide +kernel
theorem dX10_greatest_122 : decode cX10_greatest 122 = .ok (.invokevirtual 166, 3) := by decide +kernel
theorem dX10_greatest_125 : decode cX10_greatest 125 = .ok (.l2i, 1) := by decide +kernel
theorem dX10_greatest_126 : decode cX10_greatest 126 = .ok (.invokevirtual 104, 3) := by decide +kernel
theorem dX10_greatest_129 : decode cX10_greatest 129 = .ok (.ireturn, 1) := by decide +kernel
theorem dX10_associate_0 : decode cX10_associate 0 = .ok (.iload_n 1, 1) := by decide +kernel
theorem dX10_associate_1 : decode cX10_associate 1 = .ok (.bipush 20, 2) := by decide +kernel
theorem dX10_associate_3 : decode cX10_associate 3 = .ok (.invokestatic 91, 3) := by decide +kernel
theorem dX10_associate_6 : decode cX10_associate 6 = .ok (.ifCond .ne 20, 3) := by decide +kernel
theorem dX10_associate_9 : decode cX10_associate 9 = .ok (.iload_n 2, 1) := by decide +kernel
theorem dX10_associate_10 : decode cX10_associate 10 = .ok (.bipush 20, 2) := by decide +kernel
theorem dX10_associate_12 : decode cX10_associate 12 = .ok (.invokestatic 91, 3) := by decide +kernel
theorem dX10_associate_15 : decode cX10_associate 15 = .ok (.ifCond .ne 11, 3) := by decide +kernel
theorem dX10_associate_18 : decode cX10_associate 18 = .ok (.iload_n 3, 1) := by decide +kernel
theorem dX10_associate_19 : decode cX10_associate 19 = .ok (.iconst 2, 1) := by decide +kernel
theorem dX10_associate_20 : decode cX10_associate 20 = .ok (.invokestatic 91, 3) := by decide +kernel
theorem dX10_associate_23 : decode cX10_associate 23 = .ok (.ifCond .eq 6, 3) := by decide +kernel
theorem dX10_associate_26 : decode cX10_associate 26 = .ok (.ldc 95, 2) := by decide +kernel
theorem dX10_associate_28 : decode cX10_associate 28 = .ok (.ireturn, 1) := by decide +kernel
theorem dX10_associate_29 : decode cX10_associate 29 = .ok (.aload_n 0, 1) := by decide +kernel
theorem dX10_associate_30 : decode cX10_associate 30 = .ok (.iload_n 2, 1) := by decide +kernel
theorem dX10_associate_31 : decode cX10_associate 31 = .ok (.invokevirtual 159, 3) := by decide +kernel
theorem dX10_associate_34 : decode cX10_associate 34 = .ok (.astore 4, 2) := by decide +kernel
theorem dX10_associate_36 : decode cX10_associate 36 = .ok (.aload 4, 2) := by decide +kernel
theorem dX10_associate_38 : decode cX10_associate 38 = .ok (.ifnonnull 9, 3) := by decide +kernel
theorem dX10_associate_41 : decode cX10_associate 41 = .ok (.aload_n 0, 1) := by decide +kernel
theorem dX10_associate_42 : decode cX10_associate 42 = .ok (.iconst 1, 1) := by decide +kernel
theorem dX10_associate_43 : decode cX10_associate 43 = .ok (.invokevirtual 96, 3) := by decide +kernel
theorem dX10_associate_46 : decode cX10_associate 46 = .ok (.ireturn, 1) := by decide +kernel
theorem dX10_associate_47 : decode cX10_associate 47 = .ok (.aload_n 0, 1) := by decide +kernel
theorem dX10_associate_48 : decode cX10_associate 48 = .ok (.getfield 41, 3) := by decide +kernel
theorem dX10_associate_51 : decode cX10_associate 51 = .ok (.aload 4, 2) := by decide +kernel
theorem dX10_associate_53 : decode cX10_associate 53 = .ok (.iload_n 3, 1) := by decide +kernel
theorem dX10_associate_54 : decode cX10_associate 54 = .ok (.invokevirtual 220, 3) := by decide +kernel
theorem dX10_associate_57 : decode cX10_associate 57 = .ok (.aload_n 0, 1) := by decide +kernel
theorem dX10_associate_58 : decode cX10_associate 58 = .ok (.aload_n 0, 1) := by decide +kernel
theorem dX10_associate_59 : decode cX10_associate 59 = .ok (.iload_n 1, 1) := by decide +kernel
theorem dX10_associate_60 : decode cX10_associate 60 = .ok (.aload_n 0, 1) := by decide +kernel
theorem dX10_associate_61 : decode cX10_associate 61 = .ok (.getfield 41, 3) := by decide +kernel
theorem dX10_associate_64 : decode cX10_associate 64 = .ok (.getfield 223, 3) := by decide +kernel
theorem dX10_associate_67 : decode cX10_associate 67 = .ok (.invokevirtual 155, 3) := by decide +kernel
theorem dX10_associate_70 : decode cX10_associate 70 = .ok (.invokevirtual 104, 3) := by decide +kernel
theorem dX10_associate_73 : decode cX10_associate 73 = .ok (.ireturn, 1) := by decide +kernel
theorem dX10_plain_0 : decode cX10_plain 0 = .ok (.iload_n 1, 1) := by decide +kernel
theorem dX10_plain_1 : decode cX10_plain 1 = .ok (.bipush 20, 2) := by decide +kernel
theorem dX10_plain_3 : decode cX10_plain 3 = .ok (.invokestatic 91, 3) := by decide +kernel
theorem dX10_plain_6 : decode cX10_plain 6 = .ok (.ifCond .ne 12, 3) := by decide +kernel
theorem dX10_plain_9 : decode cX10_plain 9 = .ok (.iload_n 2, 1) := by decide +kernel
theorem dX10_plain_10 : decode cX10_plain 10 = .ok (.bipush 20, 2) := by decide +kernel
theorem dX10_plain_12 : decode cX10_plain 12 = .ok (.invokestatic 91, 3) := by decide +kernel
theorem dX10_plain_15 : decode cX10_plain 15 = .ok (.ifCond .eq 6, 3) := by decide +kernel
theorem dX10_plain_18 : decode cX10_plain 18 = .ok (.ldc 95, 2) := by decide +kernel
theorem dX10_plain_20 : decode cX10_plain 20 = .ok (.ireturn, 1) := by decide +kernel
theorem dX10_plain_21 : decode cX10_plain 21 = .ok (.aload_n 0, 1) := by decide +kernel
theorem dX10_plain_22 : decode cX10_plain 22 = .ok (.iload_n 2, 1) := by decide +kernel
theorem dX10_plain_23 : decode cX10_plain 23 = .ok (.invokevirtual 159, 3) := by decide +kernel
theorem dX10_plain_26 : decode cX10_plain 26 = .ok (.astore_n 3, 1) := by decide +kernel
theorem dX10_plain_27 : decode cX10_plain 27 = .ok (.aload_n 3, 1) := by decide +kernel
theorem dX10_plain_28 : decode cX10_plain 28 = .ok (.ifnonnull 9, 3) := by decide +kernel
theorem dX10_plain_31 : decode cX10_plain 31 = .ok (.aload_n 0, 1) := by decide +kernel
theorem dX10_plain_32 : decode cX10_plain 32 = .ok (.iconst 1, 1) := by decide +kernel
theorem dX10_plain_33 : decode cX10_plain 33 = .ok (.invokevirtual 96, 3) := by decide +kernel
theorem dX10_plain_36 : decode cX10_plain 36 = .ok (.ireturn, 1) := by decide +kernel
theorem dX10_plain_37 : decode cX10_plain 37 = .ok (.aload_n 3, 1) := by decide +kernel
theorem dX10_plain_38 : decode cX10_plain 38 = .ok (.invokevirtual 200, 3) := by decide +kernel
theorem dX10_plain_41 : decode cX10_plain 41 = .ok (.ifCond .eq 6, 3) := by decide +kernel
theorem dX10_plain_44 : decode cX10_plain 44 = .ok (.ldc 203, 2) := by decide +kernel
theorem dX10_plain_46 : decode cX10_plain 46 = .ok (.ireturn, 1) := by decide +kernel
theorem dX10_plain_47 : decode cX10_plain 47 = .ok (.aload_n 3, 1) := by decide +kernel
theorem dX10_plain_48 : decode cX10_plain 48 = .ok (.invokevirtual 224, 3) := by decide +kernel
theorem dX10_plain_51 : decode cX10_plain 51 = .ok (.lstore 4, 2) := by decide +kernel
theorem dX10_plain_53 : decode cX10_plain 53 = .ok (.aload_n 0, 1) := by decide +kernel
theorem dX10_plain_54 : decode cX10_plain 54 = .ok (.getfield 27, 3) := by decide +kernel
theorem dX10_plain_57 : decode cX10_plain 57 = .ok (.aload_n 3, 1) := by decide +kernel
theorem dX10_plain_58 : decode cX10_plain 58 = .ok (.invokevirtual 227, 3) := by decide +kernel
theorem dX10_plain_61 : decode cX10_plain 61 = .ok (.aload_n 0, 1) := by decide +kernel
theorem dX10_plain_62 : decode cX10_plain 62 = .ok (.getfield 27, 3) := by decide +kernel
theorem dX10_plain_65 : decode cX10_plain 65 = .ok (.lload 4, 2) := by decide +kernel
theorem dX10_plain_67 : decode cX10_plain 67 = .ok (.invokevirtual 229, 3) := by decide +kernel
theorem dX10_plain_70 : decode cX10_plain 70 = .ok (.aload_n 0, 1) := by decide +kernel
theorem dX10_plain_71 : decode cX10_plain 71 = .ok (.iload_n 1, 1) := by decide +kernel
theorem dX10_plain_72 : decode cX10_plain 72 = .ok (.aload_n 0, 1) := by decide +kernel
theorem dX10_plain_73 : decode cX10_plain 73 = .ok (.getfield 27, 3) := by decide +kernel
theorem dX10_plain_76 : decode cX10_plain 76 = .ok (.invokevirtual 155, 3) := by decide +kernel
theorem dX10_plain_79 : decode cX10_plain 79 = .ok (.pop, 1) := by decide +kernel
theorem dX10_plain_80 : decode cX10_plain 80 = .ok (.aload_n 0, 1) := by decide +kernel
theorem dX10_plain_81 : decode cX10_plain 81 = .ok (.lload 4, 2) := by decide +kernel
theorem dX10_plain_83 : decode cX10_plain 83 = .ok (.l2i, 1) := by decide +kernel
theorem dX10_plain_84 : decode cX10_plain 84 = .ok (.invokevirtual 104, 3) := by decide +kernel
theorem dX10_plain_87 : decode cX10_plain 87 = .ok (.ireturn, 1) := by decide +kernel
theorem dX10_part_0 : decode cX10_part 0 = .ok (.iload_n 1, 1) := by decide +kernel
theorem dX10_part_1 : decode cX10_part 1 = .ok (.bipush 20, 2) := by decide +kernel
theorem dX10_part_3 : decode cX10_part 3 = .ok (.invokestatic 91, 3) := by decide +kernel
theorem dX10_part_6 : decode cX10_part 6 = .ok (.ifCond .ne 12, 3) := by decide +kernel
theorem dX10_part_9 : decode cX10_part 9 = .ok (.iload_n 2, 1) := by decide +kernel
theorem dX10_part_10 : decode cX10_part 10 = .ok (.bipush 20, 2) := by decide +kernel
theorem dX10_part_12 : decode cX10_part 12 = .ok (.invokestatic 91, 3) := by decide +kernel
theorem dX10_part_15 : decode cX10_part 15 = .ok (.ifCond .eq 6, 3) := by decide +kernel
theorem dX10_part_18 : decode cX10_part 18 = .ok (.ldc 95, 2) := by decide +kernel
theorem dX10_part_20 : decode cX10_part 20 = .ok (.ireturn, 1) := by decide +kernel
theorem dX10_part_21 : decode cX10_part 21 = .ok (.aload_n 0, 1) := by decide +kernel
theorem dX10_part_22 : decode cX10_part 22 = .ok (.iload_n 2, 1) := by decide +kernel
theorem dX10_part_23 : decode cX10_part 23 = .ok (.invokevirtual 159, 3) := by decide +kernel
theorem dX10_part_26 : decode cX10_part 26 = .ok (.astore 4, 2) := by decide +kernel
theorem dX10_part_28 : decode cX10_part 28 = .ok (.aload 4, 2) := by decide +kernel
theorem dX10_part_30 : decode cX10_part 30 = .ok (.ifnonnull 9, 3) := by decide +kernel
theorem dX10_part_33 : decode cX10_part 33 = .ok (.aload_n 0, 1) := by decide +kernel
theorem dX10_part_34 : decode cX10_part 34 = .ok (.iconst 1, 1) := by decide +kernel
theorem dX10_part_35 : decode cX10_part 35 = .ok (.invokevirtual 96, 3) := by decide +kernel
theorem dX10_part_38 : decode cX10_part 38 = .ok (.ireturn, 1) := by decide +kernel
theorem dX10_part_39 : decode cX10_part 39 = .ok (.aload_n 0, 1) := by decide +kernel
theorem dX10_part_40 : decode cX10_part 40 = .ok (.getfield 22, 3) := by decide +kernel
theorem dX10_part_43 : decode cX10_part 43 = .ok (.iload_n 2, 1) := by decide +kernel
theorem dX10_part_44 : decode cX10_part 44 = .ok (.iaload, 1) := by decide +kernel
theorem dX10_part_45 : decode cX10_part 45 = .ok (.iconst 2, 1) := by decide +kernel
theorem dX10_part_46 : decode cX10_part 46 = .ok (.if_icmp .eq 16, 3) := by decide +kernel
theorem dX10_part_49 : decode cX10_part 49 = .ok (.aload_n 0, 1) := by decide +kernel
theorem dX10_part_50 : decode cX10_part 50 = .ok (.getfield 22, 3) := by decide +kernel
theorem dX10_part_53 : decode cX10_part 53 = .ok (.iload_n 2, 1) := by decide +kernel
theorem dX10_part_54 : decode cX10_part 54 = .ok (.iaload, 1) := by decide +kernel
theorem dX10_part_55 : decode cX10_part 55 = .ok (.iconst 3, 1) := by decide +kernel
theorem dX10_part_56 : decode cX10_part 56 = .ok (.if_icmp .eq 6, 3) := by decide +kernel
theorem dX10_part_59 : decode cX10_part 59 = .ok (.ldc 203, 2) := by decide +kernel
theorem dX10_part_61 : decode cX10_part 61 = .ok (.ireturn, 1) := by decide +kernel
theorem dX10_part_62 : decode cX10_part 62 = .ok (.aload_n 0, 1) := by decide +kernel
theorem dX10_part_63 : decode cX10_part 63 = .ok (.getfield 55, 3) := by decide +kernel
theorem dX10_part_66 : decode cX10_part 66 = .ok (.aload 4, 2) := by decide +kernel
theorem dX10_part_68 : decode cX10_part 68 = .ok (.iload_n 3, 1) := by decide +kernel
theorem dX10_part_69 : decode cX10_part 69 = .ok (.invokevirtual 233, 3) := by decide +kernel
theorem dX10_part_72 : decode cX10_part 72 = .ok (.istore 5, 2) := by decide +kernel
theorem dX10_part_74 : decode cX10_part 74 = .ok (.iload_n 3, 1) := by decide +kernel
theorem dX10_part_75 : decode cX10_part 75 = .ok (.iload 5, 2) := by decide +kernel
theorem dX10_part_77 : decode cX10_part 77 = .ok (.invokestatic 91, 3) := by decide +kernel
theorem dX10_part_80 : decode cX10_part 80 = .ok (.ifCond .eq 10, 3) := by decide +kernel
theorem dX10_part_83 : decode cX10_part 83 = .ok (.aload_n 0, 1) := by decide +kernel
theorem dX10_part_84 : decode cX10_part 84 = .ok (.ldc 236, 2) := by decide +kernel
theorem dX10_part_86 : decode cX10_part 86 = .ok (.invokevirtual 104, 3) := by decide +kernel
theorem dX10_part_89 : decode cX10_part 89 = .ok (.ireturn, 1) := by decide +kernel
theorem dX10_part_90 : decode cX10_part 90 = .ok (.aload_n 0, 1) := by decide +kernel
theorem dX10_part_91 : decode cX10_part 91 = .ok (.iload_n 1, 1) := by decide +kernel
theorem dX10_part_92 : decode cX10_part 92 = .ok (.aload_n 0, 1) := by decide +kernel
theorem dX10_part_93 : decode cX10_part 93 = .ok (.getfield 55, 3) := by decide +kernel
theorem dX10_part_96 : decode cX10_part 96 = .ok (.getfield 237, 3) := by decide +kernel
theorem dX10_part_99 : decode cX10_part 99 = .ok (.invokevirtual 155, 3) := by decide +kernel
theorem dX10_part_102 : decode cX10_part 102 = .ok (.pop, 1) := by decide +kernel
theorem dX10_part_103 : decode cX10_part 103 = .ok (.aload_n 0, 1) := by decide +kernel
theorem dX10_part_104 : decode cX10_part 104 = .ok (.iload 5, 2) := by decide +kernel
theorem dX10_part_106 : decode cX10_part 106 = .ok (.invokevirtual 104, 3) := by decide +kernel
theorem dX10_part_109 : decode cX10_part 109 = .ok (.ireturn, 1) := by decide +kernel
theorem dX10_many_0 : decode cX10_many 0 = .ok (.iload_n 1, 1) := by decide +kernel
theorem dX10_many_1 : decode cX10_many 1 = .ok (.iconst 1, 1) := by decide +kernel
theorem dX10_many_2 : decode cX10_many 2 = .ok (.if_icmp .lt 9, 3) := by decide +kernel
theorem dX10_many_5 : decode cX10_many 5 = .ok (.iload_n 1, 1) := by decide +kernel
theorem dX10_many_6 : decode cX10_many 6 = .ok (.ldc 240, 2) := by decide +kernel
theorem dX10_many_8 : decode cX10_many 8 = .ok (.if_icmp .le 6, 3) := by decide +kernel
theorem dX10_many_11 : decode cX10_many 11 = .ok (.ldc 95, 2) := by decide +kernel
theorem dX10_many_13 : decode cX10_many 13 = .ok (.ireturn, 1) := by decide +kernel
theorem dX10_many_14 : decode cX10_many 14 = .ok (.bipush 24, 2) := by decide +kernel
theorem dX10_many_16 : decode cX10_many 16 = .ok (.iload_n 1, 1) := by decide +kernel
theorem dX10_many_17 : decode cX10_many 17 = .ok (.iconst 2, 1) := by decide +kernel
theorem dX10_many_18 : decode cX10_many 18 = .ok (.invokestatic 241, 3) := by decide +kernel
theorem dX10_many_21 : decode cX10_many 21 = .ok (.imul, 1) := by decide +kernel
theorem dX10_many_22 : decode cX10_many 22 = .ok (.ireturn, 1) := by decide +kernel
theorem dX10_list_0 : decode cX10_list 0 = .ok (.iload_n 1, 1) := by decide +kernel
theorem dX10_list_1 : decode cX10_list 1 = .ok (.bipush 20, 2) := by decide +kernel
theorem dX10_list_3 : decode cX10_list 3 = .ok (.invokestatic 91, 3) := by decide +kernel
theorem dX10_list_6 : decode cX10_list 6 = .ok (.ifCond .ne 15, 3) := by decide +kernel
theorem dX10_list_9 : decode cX10_list 9 = .ok (.iload_n 2, 1) := by decide +kernel
theorem dX10_list_10 : decode cX10_list 10 = .ok (.iconst 1, 1) := by decide +kernel
theorem dX10_list_11 : decode cX10_list 11 = .ok (.if_icmp .lt 10, 3) := by decide +kernel
theorem dX10_list_14 : decode cX10_list 14 = .ok (.iload_n 2, 1) := by decide +kernel
theorem dX10_list_15 : decode cX10_list 15 = .ok (.sipush 150, 3) := by decide +kernel
theorem dX10_list_18 : decode cX10_list 18 = .ok (.if_icmp .le 6, 3) := by decide +kernel
theorem dX10_list_21 : decode cX10_list 21 = .ok (.ldc 95, 2) := by decide +kernel
theorem dX10_list_23 : decode cX10_list 23 = .ok (.ireturn, 1) := by decide +kernel
theorem dX10_list_24 : decode cX10_list 24 = .ok (.iload_n 3, 1) := by decide +kernel
theorem dX10_list_25 : decode cX10_list 25 = .ok (.bipush 24, 2) := by decide +kernel
theorem dX10_list_27 : decode cX10_list 27 = .ok (.iload_n 2, 1) := by decide +kernel
theorem dX10_list_28 : decode cX10_list 28 = .ok (.iconst 2, 1) := by decide +kernel
theorem dX10_list_29 : decode cX10_list 29 = .ok (.invokestatic 241, 3) := by decide +kernel
theorem dX10_list_32 : decode cX10_list 32 = .ok (.imul, 1) := by decide +kernel
theorem dX10_list_33 : decode cX10_list 33 = .ok (.invokestatic 91, 3) := by decide +kernel
theorem dX10_list_36 : decode cX10_list 36 = .ok (.ifCond .eq 6, 3) := by decide +kernel
theorem dX10_list_39 : decode cX10_list 39 = .ok (.ldc 236, 2) := by decide +kernel
theorem dX10_list_41 : decode cX10_list 41 = .ok (.ireturn, 1) := by decide +kernel
theorem dX10_list_42 : decode cX10_list 42 = .ok (.aload_n 0, 1) := by decide +kernel
theorem dX10_list_43 : decode cX10_list 43 = .ok (.getfield 62, 3) := by decide +kernel
theorem dX10_list_46 : decode cX10_list 46 = .ok (.iload_n 2, 1) := by decide +kernel
theorem dX10_list_47 : decode cX10_list 47 = .ok (.iload_n 3, 1) := by decide +kernel
theorem dX10_list_48 : decode cX10_list 48 = .ok (.invokevirtual 245, 3) := by decide +kernel
theorem dX10_list_51 : decode cX10_list 51 = .ok (.ifCond .ne 6, 3) := by decide +kernel
theorem dX10_list_54 : decode cX10_list 54 = .ok (.ldc 236, 2) := by decide +kernel
theorem dX10_list_56 : decode cX10_list 56 = .ok (.ireturn, 1) := by decide +kernel
theorem dX10_list_57 : decode cX10_list 57 = .ok (.aload_n 0, 1) := by decide +kernel
theorem dX10_list_58 : decode cX10_list 58 = .ok (.iload_n 1, 1) := by decide +kernel
theorem dX10_list_59 : decode cX10_list 59 = .ok (.aload_n 0, 1) := by decide +kernel
theorem dX10_list_60 : decode cX10_list 60 = .ok (.getfield 62, 3) := by decide +kernel
theorem dX10_list_63 : decode cX10_list 63 = .ok (.getfield 247, 3) := by decide +kernel
theorem dX10_list_66 : decode cX10_list 66 = .ok (.invokevirtual 155, 3) := by decide +kernel
theorem dX10_list_69 : decode cX10_list 69 = .ok (.ireturn, 1) := by decide +kernel
theorem dX10_squares_0 : decode cX10_squares 0 = .ok (.iload_n 1, 1) := by decide +kernel
theorem dX10_squares_1 : decode cX10_squares 1 = .ok (.ifCond .lt 9, 3) := by decide +kernel
theorem dX10_squares_4 : decode cX10_squares 4 = .ok (.iload_n 1, 1) := by decide +kernel
theorem dX10_squares_5 : decode cX10_squares 5 = .ok (.ldc 240, 2) := by decide +kernel
theorem dX10_squares_7 : decode cX10_squares 7 = .ok (.if_icmp .le 6, 3) := by decide +kernel
theorem dX10_squares_10 : decode cX10_squares 10 = .ok (.ldc 95, 2) := by decide +kernel
theorem dX10_squares_12 : decode cX10_squares 12 = .ok (.ireturn, 1) := by decide +kernel
theorem dX10_squares_13 : decode cX10_squares 13 = .ok (.iload_n 1, 1) := by decide +kernel
theorem dX10_squares_14 : decode cX10_squares 14 = .ok (.ifCond .ne 5, 3) := by decide +kernel
theorem dX10_squares_17 : decode cX10_squares 17 = .ok (.iconst 1, 1) := by decide +kernel
theorem dX10_squares_18 : decode cX10_squares 18 = .ok (.ireturn, 1) := by decide +kernel
theorem dX10_squares_19 : decode cX10_squares 19 = .ok (.bipush 8, 2) := by decide +kernel
theorem dX10_squares_21 : decode cX10_squares 21 = .ok (.iload_n 1, 1) := by decide +kernel
theorem dX10_squares_22 : decode cX10_squares 22 = .ok (.iconst 4, 1) := by decide +kernel
theorem dX10_squares_23 : decode cX10_squares 23 = .ok (.invokestatic 241, 3) := by decide +kernel
theorem dX10_squares_26 : decode cX10_squares 26 = .ok (.imul, 1) := by decide +kernel
theorem dX10_squares_27 : decode cX10_squares 27 = .ok (.ireturn, 1) := by decide +kernel
theorem dX10_three_0 : decode cX10_three 0 = .ok (.iload_n 1, 1) := by decide +kernel
theorem dX10_three_1 : decode cX10_three 1 = .ok (.ifCond .lt 9, 3) := by decide +kernel
theorem dX10_three_4 : decode cX10_three 4 = .ok (.iload_n 1, 1) := by decide +kernel
theorem dX10_three_5 : decode cX10_three 5 = .ok (.ldc 240, 2) := by decide +kernel
theorem dX10_three_7 : decode cX10_three 7 = .ok (.if_icmp .le 6, 3) := by decide +kernel
theorem dX10_three_10 : decode cX10_three 10 = .ok (.ldc 95, 2) := by decide +kernel
theorem dX10_three_12 : decode cX10_three 12 = .ok (.ireturn, 1) := by decide +kernel
theorem dX10_three_13 : decode cX10_three 13 = .ok (.iload_n 1, 1) := by decide +kernel
theorem dX10_three_14 : decode cX10_three 14 = .ok (.i2l, 1) := by decide +kernel
theorem dX10_three_15 : decode cX10_three 15 = .ok (.iconst 4, 1) := by decide +kernel
theorem dX10_three_16 : decode cX10_three 16 = .ok (.invokestatic 248, 3) := by decide +kernel
theorem dX10_three_19 : decode cX10_three 19 = .ok (.ldc2_w 252, 3) := by decide +kernel
theorem dX10_three_22 : decode cX10_three 22 = .ok (.lrem, 1) := by decide +kernel
theorem dX10_three_23 : decode cX10_three 23 = .ok (.ldc2_w 254, 3) := by decide +kernel
theorem dX10_three_26 : decode cX10_three 26 = .ok (.lcmp, 1) := by decide +kernel
theorem dX10_three_27 : decode cX10_three 27 = .ok (.ifCond .ne 7, 3) := by decide +kernel
theorem dX10_three_30 : decode cX10_three 30 = .ok (.iconst 0, 1) := by decide +kernel
theorem dX10_three_31 : decode cX10_three 31 = .ok (.goto 4, 3) := by decide +kernel
theorem dX10_three_34 : decode cX10_three 34 = .ok (.iconst 1, 1) := by decide +kernel
theorem dX10_three_35 : decode cX10_three 35 = .ok (.ireturn, 1) := by decide +kernel
theorem dX10_table_0 : decode cX10_table 0 = .ok (.iload_n 1, 1) := by decide +kernel
theorem dX10_table_1 : decode cX10_table 1 = .ok (.bipush 20, 2) := by decide +kernel
theorem dX10_table_3 : decode cX10_table 3 = .ok (.invokestatic 91, 3) := by decide +kernel
theorem dX10_table_6 : decode cX10_table 6 = .ok (.ifCond .ne 28, 3) := by decide +kernel
theorem dX10_table_9 : decode cX10_table 9 = .ok (.iload_n 2, 1) := by decide +kernel
theorem dX10_table_10 : decode cX10_table 10 = .ok (.iconst 3, 1) := by decide +kernel
theorem dX10_table_11 : decode cX10_table 11 = .ok (.invokestatic 91, 3) := by decide +kernel
theorem dX10_table_14 : decode cX10_table 14 = .ok (.ifCond .ne 20, 3) := by decide +kernel
theorem dX10_table_17 : decode cX10_table 17 = .ok (.iload_n 3, 1) := by decide +kernel
theorem dX10_table_18 : decode cX10_table 18 = .ok (.iconst 3, 1) := by decide +kernel
theorem dX10_table_19 : decode cX10_table 19 = .ok (.invokestatic 91, 3) := by decide +kernel
theorem dX10_table_22 : decode cX10_table 22 = .ok (.ifCond .ne 12, 3) := by decide +kernel
theorem dX10_table_25 : decode cX10_table 25 = .ok (.iload 4, 2) := by decide +kernel
theorem dX10_table_27 : decode cX10_table 27 = .ok (.iconst 2, 1) := by decide +kernel
theorem dX10_table_28 : decode cX10_table 28 = .ok (.invokestatic 91, 3) := by decide +kernel
theorem dX10_table_31 : decode cX10_table 31 = .ok (.ifCond .eq 7, 3) := by decide +kernel
theorem dX10_table_34 : decode cX10_table 34 = .ok (.ldc2_w 107, 3) := by decide +kernel
theorem dX10_table_37 : decode cX10_table 37 = .ok (.lreturn, 1) := by decide +kernel
theorem dX10_table_38 : decode cX10_table 38 = .ok (.aload_n 0, 1) := by decide +kernel
theorem dX10_table_39 : decode cX10_table 39 = .ok (.iload_n 1, 1) := by decide +kernel
theorem dX10_table_40 : decode cX10_table 40 = .ok (.invokevirtual 159, 3) := by decide +kernel
theorem dX10_table_43 : decode cX10_table 43 = .ok (.astore 5, 2) := by decide +kernel
theorem dX10_table_45 : decode cX10_table 45 = .ok (.aload 5, 2) := by decide +kernel
theorem dX10_table_47 : decode cX10_table 47 = .ok (.ifnonnull 10, 3) := by decide +kernel
theorem dX10_table_50 : decode cX10_table 50 = .ok (.aload_n 0, 1) := by decide +kernel
theorem dX10_table_51 : decode cX10_table 51 = .ok (.iconst 1, 1) := by decide +kernel
theorem dX10_table_52 : decode cX10_table 52 = .ok (.invokevirtual 96, 3) := by decide +kernel
theorem dX10_table_55 : decode cX10_table 55 = .ok (.i2l, 1) := by decide +kernel
theorem dX10_table_56 : decode cX10_table 56 = .ok (.lreturn, 1) := by decide +kernel
theorem dX10_table_57 : decode cX10_table 57 = .ok (.aload 5, 2) := by decide +kernel
theorem dX10_table_59 : decode cX10_table 59 = .ok (.invokevirtual 200, 3) := by decide +kernel
theorem dX10_table_62 : decode cX10_table 62 = .ok (.ifCond .eq 7, 3) := by decide +kernel
theorem dX10_table_65 : decode cX10_table 65 = .ok (.ldc2_w 256, 3) := by decide +kernel
theorem dX10_table_68 : decode cX10_table 68 = .ok (.lreturn, 1) := by decide +kernel
theorem dX10_table_69 : decode cX10_table 69 = .ok (.aload_n 0, 1) := by decide +kernel
theorem dX10_table_70 : decode cX10_table 70 = .ok (.getfield 69, 3) := by decide +kernel
theorem dX10_table_73 : decode cX10_table 73 = .ok (.aload 5, 2) := by decide +kernel
theorem dX10_table_75 : decode cX10_table 75 = .ok (.invokevirtual 258, 3) := by decide +kernel
theorem dX10_table_78 : decode cX10_table 78 = .ok (.aload_n 0, 1) := by decide +kernel
theorem dX10_table_79 : decode cX10_table 79 = .ok (.iconst 0, 1) := by decide +kernel
theorem dX10_table_80 : decode cX10_table 80 = .ok (.putfield 87, 3) := by decide +kernel
theorem dX10_table_83 : decode cX10_table 83 = .ok (.aload_n 0, 1) := by decide +kernel
theorem dX10_table_84 : decode cX10_table 84 = .ok (.getfield 69, 3) := by decide +kernel
theorem dX10_table_87 : decode cX10_table 87 = .ok (.iload_n 2, 1) := by decide +kernel
theorem dX10_table_88 : decode cX10_table 88 = .ok (.iload_n 3, 1) := by decide +kernel
theorem dX10_table_89 : decode cX10_table 89 = .ok (.invokevirtual 261, 3) := by decide +kernel
theorem dX10_table_92 : decode cX10_table 92 = .ok (.aload_n 0, 1) := by decide +kernel
theorem dX10_table_93 : decode cX10_table 93 = .ok (.getfield 69, 3) := by decide +kernel
theorem dX10_table_96 : decode cX10_table 96 = .ok (.getfield 265, 3) := by decide +kernel
theorem dX10_table_99 : decode cX10_table 99 = .ok (.iload 4, 2) := by decide +kernel
theorem dX10_table_101 : decode cX10_table 101 = .ok (.invokestatic 269, 3) := by decide +kernel
theorem dX10_table_104 : decode cX10_table 104 = .ok (.lreturn, 1) := by decide +kernel
theorem dX10_turn_0 : decode cX10_turn 0 = .ok (.iload_n 1, 1) := by decide +kernel
theorem dX10_turn_1 : decode cX10_turn 1 = .ok (.bipush 20, 2) := by decide +kernel
theorem dX10_turn_3 : decode cX10_turn 3 = .ok (.invokestatic 91, 3) := by decide +kernel
theorem dX10_turn_6 : decode cX10_turn 6 = .ok (.ifCond .ne 21, 3) := by decide +kernel
theorem dX10_turn_9 : decode cX10_turn 9 = .ok (.iload 5, 2) := by decide +kernel
theorem dX10_turn_11 : decode cX10_turn 11 = .ok (.iconst 3, 1) := by decide +kernel
theorem dX10_turn_12 : decode cX10_turn 12 = .ok (.invokestatic 91, 3) := by decide +kernel
theorem dX10_turn_15 : decode cX10_turn 15 = .ok (.ifCond .ne 12, 3) := by decide +kernel
theorem dX10_turn_18 : decode cX10_turn 18 = .ok (.iload 6, 2) := by decide +kernel
theorem dX10_turn_20 : decode cX10_turn 20 = .ok (.iconst 2, 1) := by decide +kernel
theorem dX10_turn_21 : decode cX10_turn 21 = .ok (.invokestatic 91, 3) := by decide +kernel
theorem dX10_turn_24 : decode cX10_turn 24 = .ok (.ifCond .eq 7, 3) := by decide +kernel
theorem dX10_turn_27 : decode cX10_turn 27 = .ok (.ldc2_w 107, 3) := by decide +kernel
theorem dX10_turn_30 : decode cX10_turn 30 = .ok (.lreturn, 1) := by decide +kernel
theorem dX10_turn_31 : decode cX10_turn 31 = .ok (.iload_n 2, 1) := by decide +kernel
theorem dX10_turn_32 : decode cX10_turn 32 = .ok (.invokestatic 273, 3) := by decide +kernel
theorem dX10_turn_35 : decode cX10_turn 35 = .ok (.ifCond .ne 18, 3) := by decide +kernel
theorem dX10_turn_38 : decode cX10_turn 38 = .ok (.iload_n 3, 1) := by decide +kernel
theorem dX10_turn_39 : decode cX10_turn 39 = .ok (.invokestatic 273, 3) := by decide +kernel
theorem dX10_turn_42 : decode cX10_turn 42 = .ok (.ifCond .ne 11, 3) := by decide +kernel
theorem dX10_turn_45 : decode cX10_turn 45 = .ok (.iload 4, 2) := by decide +kernel
theorem dX10_turn_47 : decode cX10_turn 47 = .ok (.invokestatic 273, 3) := by decide +kernel
theorem dX10_turn_50 : decode cX10_turn 50 = .ok (.ifCond .eq 7, 3) := by decide +kernel
theorem dX10_turn_53 : decode cX10_turn 53 = .ok (.ldc2_w 107, 3) := by decide +kernel
theorem dX10_turn_56 : decode cX10_turn 56 = .ok (.lreturn, 1) := by decide +kernel
theorem dX10_turn_57 : decode cX10_turn 57 = .ok (.aload_n 0, 1) := by decide +kernel
theorem dX10_turn_58 : decode cX10_turn 58 = .ok (.iload_n 1, 1) := by decide +kernel
theorem dX10_turn_59 : decode cX10_turn 59 = .ok (.invokevirtual 159, 3) := by decide +kernel
theorem dX10_turn_62 : decode cX10_turn 62 = .ok (.astore 7, 2) := by decide +kernel
theorem dX10_turn_64 : decode cX10_turn 64 = .ok (.aload 7, 2) := by decide +kernel
theorem dX10_turn_66 : decode cX10_turn 66 = .ok (.ifnonnull 10, 3) := by decide +kernel
theorem dX10_turn_69 : decode cX10_turn 69 = .ok (.aload_n 0, 1) := by decide +kernel
theorem dX10_turn_70 : decode cX10_turn 70 = .ok (.iconst 1, 1) := by decide +kernel
theorem dX10_turn_71 : decode cX10_turn 71 = .ok (.invokevirtual 96, 3) := by decide +kernel
theorem dX10_turn_74 : decode cX10_turn 74 = .ok (.i2l, 1) := by decide +kernel
theorem dX10_turn_75 : decode cX10_turn 75 = .ok (.lreturn, 1) := by decide +kernel
theorem dX10_turn_76 : decode cX10_turn 76 = .ok (.aload 7, 2) := by decide +kernel
theorem dX10_turn_78 : decode cX10_turn 78 = .ok (.invokevirtual 200, 3) := by decide +kernel
theorem dX10_turn_81 : decode cX10_turn 81 = .ok (.ifCond .eq 7, 3) := by decide +kernel
theorem dX10_turn_84 : decode cX10_turn 84 = .ok (.ldc2_w 256, 3) := by decide +kernel
theorem dX10_turn_87 : decode cX10_turn 87 = .ok (.lreturn, 1) := by decide +kernel
theorem dX10_turn_88 : decode cX10_turn 88 = .ok (.aload_n 0, 1) := by decide +kernel
theorem dX10_turn_89 : decode cX10_turn 89 = .ok (.getfield 69, 3) := by decide +kernel
theorem dX10_turn_92 : decode cX10_turn 92 = .ok (.aload 7, 2) := by decide +kernel
theorem dX10_turn_94 : decode cX10_turn 94 = .ok (.invokevirtual 258, 3) := by decide +kernel
theorem dX10_turn_97 : decode cX10_turn 97 = .ok (.aload_n 0, 1) := by decide +kernel
theorem dX10_turn_98 : decode cX10_turn 98 = .ok (.iconst 0, 1) := by decide +kernel
theorem dX10_turn_99 : decode cX10_turn 99 = .ok (.putfield 87, 3) := by decide +kernel
theorem dX10_turn_102 : decode cX10_turn 102 = .ok (.aload_n 0, 1) := by decide +kernel
theorem dX10_turn_103 : decode cX10_turn 103 = .ok (.getfield 69, 3) := by decide +kernel
theorem dX10_turn_106 : decode cX10_turn 106 = .ok (.iload_n 2, 1) := by decide +kernel
theorem dX10_turn_107 : decode cX10_turn 107 = .ok (.i2l, 1) := by decide +kernel
theorem dX10_turn_108 : decode cX10_turn 108 = .ok (.iload_n 3, 1) := by decide +kernel
theorem dX10_turn_109 : decode cX10_turn 109 = .ok (.i2l, 1) := by decide +kernel
theorem dX10_turn_110 : decode cX10_turn 110 = .ok (.iload 4, 2) := by decide +kernel
theorem dX10_turn_112 : decode cX10_turn 112 = .ok (.i2l, 1) := by decide +kernel
theorem dX10_turn_113 : decode cX10_turn 113 = .ok (.iload 5, 2) := by decide +kernel
theorem dX10_turn_115 : decode cX10_turn 115 = .ok (.invokevirtual 277, 3) := by decide +kernel
theorem dX10_turn_118 : decode cX10_turn 118 = .ok (.aload_n 0, 1) := by decide +kernel
theorem dX10_turn_119 : decode cX10_turn 119 = .ok (.getfield 69, 3) := by decide +kernel
theorem dX10_turn_122 : decode cX10_turn 122 = .ok (.getfield 265, 3) := by decide +kernel
theorem dX10_turn_125 : decode cX10_turn 125 = .ok (.iload 6, 2) := by decide +kernel
theorem dX10_turn_127 : decode cX10_turn 127 = .ok (.invokestatic 269, 3) := by decide +kernel
theorem dX10_turn_130 : decode cX10_turn 130 = .ok (.lreturn, 1) := by decide +kernel
theorem dX10_order_0 : decode cX10_order 0 = .ok (.iload_n 1, 1) := by decide +kernel
theorem dX10_order_1 : decode cX10_order 1 = .ok (.bipush 20, 2) := by decide +kernel
theorem dX10_order_3 : decode cX10_order 3 = .ok (.invokestatic 91, 3) := by decide +kernel
theorem dX10_order_6 : decode cX10_order 6 = .ok (.ifCond .eq 6, 3) := by decide +kernel
theorem dX10_order_9 : decode cX10_order 9 = .ok (.ldc 95, 2) := by decide +kernel
theorem dX10_order_11 : decode cX10_order 11 = .ok (.ireturn, 1) := by decide +kernel
theorem dX10_order_12 : decode cX10_order 12 = .ok (.aload_n 0, 1) := by decide +kernel
theorem dX10_order_13 : decode cX10_order 13 = .ok (.iload_n 1, 1) := by decide +kernel
theorem dX10_order_14 : decode cX10_order 14 = .ok (.invokevirtual 159, 3) := by decide +kernel
theorem dX10_order_17 : decode cX10_order 17 = .ok (.astore_n 2, 1) := by decide +kernel
theorem dX10_order_18 : decode cX10_order 18 = .ok (.aload_n 2, 1) := by decide +kernel
theorem dX10_order_19 : decode cX10_order 19 = .ok (.ifnonnull 9, 3) := by decide +kernel
theorem dX10_order_22 : decode cX10_order 22 = .ok (.aload_n 0, 1) := by decide +kernel
theorem dX10_order_23 : decode cX10_order 23 = .ok (.iconst 1, 1) := by decide +kernel
theorem dX10_order_24 : decode cX10_order 24 = .ok (.invokevirtual 96, 3) := by decide +kernel
theorem dX10_order_27 : decode cX10_order 27 = .ok (.ireturn, 1) := by decide +kernel
theorem dX10_order_28 : decode cX10_order 28 = .ok (.aload_n 2, 1) := by decide +kernel
theorem dX10_order_29 : decode cX10_order 29 = .ok (.invokevirtual 200, 3) := by decide +kernel
theorem dX10_order_32 : decode cX10_order 32 = .ok (.ifCond .eq 6, 3) := by decide +kernel
theorem dX10_order_35 : decode cX10_order 35 = .ok (.ldc 203, 2) := by decide +kernel
theorem dX10_order_37 : decode cX10_order 37 = .ok (.ireturn, 1) := by decide +kernel
theorem dX10_order_38 : decode cX10_order 38 = .ok (.aload_n 0, 1) := by decide +kernel
theorem dX10_order_39 : decode cX10_order 39 = .ok (.aload_n 2, 1) := by decide +kernel
theorem dX10_order_40 : decode cX10_order 40 = .ok (.invokestatic 281, 3) := by decide +kernel
theorem dX10_order_43 : decode cX10_order 43 = .ok (.invokevirtual 104, 3) := by decide +kernel
theorem dX10_order_46 : decode cX10_order 46 = .ok (.ireturn, 1) := by decide +kernel
theorem dX10_axis_0 : decode cX10_axis 0 = .ok (.iload_n 1, 1) := by decide +kernel
theorem dX10_axis_1 : decode cX10_axis 1 = .ok (.bipush 20, 2) := by decide +kernel
theorem dX10_axis_3 : decode cX10_axis 3 = .ok (.invokestatic 91, 3) := by decide +kernel
theorem dX10_axis_6 : decode cX10_axis 6 = .ok (.ifCond .ne 11, 3) := by decide +kernel
theorem dX10_axis_9 : decode cX10_axis 9 = .ok (.iload_n 2, 1) := by decide +kernel
theorem dX10_axis_10 : decode cX10_axis 10 = .ok (.iconst 3, 1) := by decide +kernel
theorem dX10_axis_11 : decode cX10_axis 11 = .ok (.invokestatic 91, 3) := by decide +kernel
theorem dX10_axis_14 : decode cX10_axis 14 = .ok (.ifCond .eq 6, 3) := by decide +kernel
theorem dX10_axis_17 : decode cX10_axis 17 = .ok (.ldc 95, 2) := by decide +kernel
theorem dX10_axis_19 : decode cX10_axis 19 = .ok (.ireturn, 1) := by decide +kernel
theorem dX10_axis_20 : decode cX10_axis 20 = .ok (.aload_n 0, 1) := by decide +kernel
theorem dX10_axis_21 : decode cX10_axis 21 = .ok (.iload_n 1, 1) := by decide +kernel
theorem dX10_axis_22 : decode cX10_axis 22 = .ok (.invokevirtual 159, 3) := by decide +kernel
theorem dX10_axis_25 : decode cX10_axis 25 = .ok (.astore_n 3, 1) := by decide +kernel
theorem dX10_axis_26 : decode cX10_axis 26 = .ok (.aload_n 3, 1) := by decide +kernel
theorem dX10_axis_27 : decode cX10_axis 27 = .ok (.ifnonnull 9, 3) := by decide +kernel
theorem dX10_axis_30 : decode cX10_axis 30 = .ok (.aload_n 0, 1) := by decide +kernel
theorem dX10_axis_31 : decode cX10_axis 31 = .ok (.iconst 1, 1) := by decide +kernel
theorem dX10_axis_32 : decode cX10_axis 32 = .ok (.invokevirtual 96, 3) := by decide +kernel
theorem dX10_axis_35 : decode cX10_axis 35 = .ok (.ireturn, 1) := by decide +kernel
theorem dX10_axis_36 : decode cX10_axis 36 = .ok (.aload_n 3, 1) := by decide +kernel
theorem dX10_axis_37 : decode cX10_axis 37 = .ok (.invokevirtual 200, 3) := by decide +kernel
theorem dX10_axis_40 : decode cX10_axis 40 = .ok (.ifCond .eq 6, 3) := by decide +kernel
theorem dX10_axis_43 : decode cX10_axis 43 = .ok (.ldc 203, 2) := by decide +kernel
theorem dX10_axis_45 : decode cX10_axis 45 = .ok (.ireturn, 1) := by decide +kernel
theorem dX10_axis_46 : decode cX10_axis 46 = .ok (.aload_n 0, 1) := by decide +kernel
theorem dX10_axis_47 : decode cX10_axis 47 = .ok (.aload_n 3, 1) := by decide +kernel
theorem dX10_axis_48 : decode cX10_axis 48 = .ok (.iload_n 2, 1) := by decide +kernel
theorem dX10_axis_49 : decode cX10_axis 49 = .ok (.invokestatic 285, 3) := by decide +kernel
theorem dX10_axis_52 : decode cX10_axis 52 = .ok (.invokevirtual 104, 3) := by decide +kernel
theorem dX10_axis_55 : decode cX10_axis 55 = .ok (.ireturn, 1) := by decide +kernel
theorem dX10_alike_0 : decode cX10_alike 0 = .ok (.iload_n 1, 1) := by decide +kernel
theorem dX10_alike_1 : decode cX10_alike 1 = .ok (.bipush 20, 2) := by decide +kernel
theorem dX10_alike_3 : decode cX10_alike 3 = .ok (.invokestatic 91, 3) := by decide +kernel
theorem dX10_alike_6 : decode cX10_alike 6 = .ok (.ifCond .ne 12, 3) := by decide +kernel
theorem dX10_alike_9 : decode cX10_alike 9 = .ok (.iload_n 2, 1) := by decide +kernel
theorem dX10_alike_10 : decode cX10_alike 10 = .ok (.bipush 20, 2) := by decide +kernel
theorem dX10_alike_12 : decode cX10_alike 12 = .ok (.invokestatic 91, 3) := by decide +kernel
theorem dX10_alike_15 : decode cX10_alike 15 = .ok (.ifCond .eq 6, 3) := by decide +kernel
theorem dX10_alike_18 : decode cX10_alike 18 = .ok (.ldc 95, 2) := by decide +kernel
theorem dX10_alike_20 : decode cX10_alike 20 = .ok (.ireturn, 1) := by decide +kernel
theorem dX10_alike_21 : decode cX10_alike 21 = .ok (.aload_n 0, 1) := by decide +kernel
theorem dX10_alike_22 : decode cX10_alike 22 = .ok (.iload_n 1, 1) := by decide +kernel
theorem dX10_alike_23 : decode cX10_alike 23 = .ok (.invokevirtual 159, 3) := by decide +kernel
theorem dX10_alike_26 : decode cX10_alike 26 = .ok (.astore_n 3, 1) := by decide +kernel
theorem dX10_alike_27 : decode cX10_alike 27 = .ok (.aload_n 0, 1) := by decide +kernel
theorem dX10_alike_28 : decode cX10_alike 28 = .ok (.iload_n 2, 1) := by decide +kernel
theorem dX10_alike_29 : decode cX10_alike 29 = .ok (.invokevirtual 159, 3) := by decide +kernel
theorem dX10_alike_32 : decode cX10_alike 32 = .ok (.astore 4, 2) := by decide +kernel
theorem dX10_alike_34 : decode cX10_alike 34 = .ok (.aload_n 3, 1) := by decide +kernel
theorem dX10_alike_35 : decode cX10_alike 35 = .ok (.ifnull 8, 3) := by decide +kernel
theorem dX10_alike_38 : decode cX10_alike 38 = .ok (.aload 4, 2) := by decide +kernel
theorem dX10_alike_40 : decode cX10_alike 40 = .ok (.ifnonnull 9, 3) := by decide +kernel
theorem dX10_alike_43 : decode cX10_alike 43 = .ok (.aload_n 0, 1) := by decide +kernel
theorem dX10_alike_44 : decode cX10_alike 44 = .ok (.iconst 1, 1) := by decide +kernel
theorem dX10_alike_45 : decode cX10_alike 45 = .ok (.invokevirtual 96, 3) := by decide +kernel
theorem dX10_alike_48 : decode cX10_alike 48 = .ok (.ireturn, 1) := by decide +kernel
theorem dX10_alike_49 : decode cX10_alike 49 = .ok (.aload_n 3, 1) := by decide +kernel
theorem dX10_alike_50 : decode cX10_alike 50 = .ok (.invokevirtual 200, 3) := by decide +kernel
theorem dX10_alike_53 : decode cX10_alike 53 = .ok (.ifCond .ne 11, 3) := by decide +kernel
theorem dX10_alike_56 : decode cX10_alike 56 = .ok (.aload 4, 2) := by decide +kernel
theorem dX10_alike_58 : decode cX10_alike 58 = .ok (.invokevirtual 200, 3) := by decide +kernel
theorem dX10_alike_61 : decode cX10_alike 61 = .ok (.ifCond .eq 6, 3) := by decide +kernel
theorem dX10_alike_64 : decode cX10_alike 64 = .ok (.ldc 203, 2) := by decide +kernel
theorem dX10_alike_66 : decode cX10_alike 66 = .ok (.ireturn, 1) := by decide +kernel
theorem dX10_alike_67 : decode cX10_alike 67 = .ok (.aload_n 0, 1) := by decide +kernel
theorem dX10_alike_68 : decode cX10_alike 68 = .ok (.aload_n 3, 1) := by decide +kernel
theorem dX10_alike_69 : decode cX10_alike 69 = .ok (.aload 4, 2) := by decide +kernel
theorem dX10_alike_71 : decode cX10_alike 71 = .ok (.invokevirtual 288, 3) := by decide +kernel
theorem dX10_alike_74 : decode cX10_alike 74 = .ok (.ifCond .eq 7, 3) := by decide +kernel
theorem dX10_alike_77 : decode cX10_alike 77 = .ok (.iconst 1, 1) := by decide +kernel
theorem dX10_alike_78 : decode cX10_alike 78 = .ok (.goto 4, 3) := by decide +kernel
theorem dX10_alike_81 : decode cX10_alike 81 = .ok (.iconst 0, 1) := by decide +kernel
theorem dX10_alike_82 : decode cX10_alike 82 = .ok (.invokevirtual 104, 3) := by decide +kernel
theorem dX10_alike_85 : decode cX10_alike 85 = .ok (.ireturn, 1) := by decide +kernel
theorem dX10_index_0 : decode cX10_index 0 = .ok (.iload_n 1, 1) := by decide +kernel
theorem dX10_index_1 : decode cX10_index 1 = .ok (.bipush 20, 2) := by decide +kernel
theorem dX10_index_3 : decode cX10_index 3 = .ok (.invokestatic 91, 3) := by decide +kernel
theorem dX10_index_6 : decode cX10_index 6 = .ok (.ifCond .eq 6, 3) := by decide +kernel
theorem dX10_index_9 : decode cX10_index 9 = .ok (.ldc 95, 2) := by decide +kernel
theorem dX10_index_11 : decode cX10_index 11 = .ok (.ireturn, 1) := by decide +kernel
theorem dX10_index_12 : decode cX10_index 12 = .ok (.aload_n 0, 1) := by decide +kernel
theorem dX10_index_13 : decode cX10_index 13 = .ok (.iload_n 1, 1) := by decide +kernel
theorem dX10_index_14 : decode cX10_index 14 = .ok (.invokevirtual 159, 3) := by decide +kernel
theorem dX10_index_17 : decode cX10_index 17 = .ok (.astore_n 2, 1) := by decide +kernel
theorem dX10_index_18 : decode cX10_index 18 = .ok (.aload_n 2, 1) := by decide +kernel
theorem dX10_index_19 : decode cX10_index 19 = .ok (.ifnonnull 9, 3) := by decide +kernel
theorem dX10_index_22 : decode cX10_index 22 = .ok (.aload_n 0, 1) := by decide +kernel
theorem dX10_index_23 : decode cX10_index 23 = .ok (.iconst 1, 1) := by decide +kernel
theorem dX10_index_24 : decode cX10_index 24 = .ok (.invokevirtual 96, 3) := by decide +kernel
theorem dX10_index_27 : decode cX10_index 27 = .ok (.ireturn, 1) := by decide +kernel
theorem dX10_index_28 : decode cX10_index 28 = .ok (.aload_n 2, 1) := by decide +kernel
theorem dX10_index_29 : decode cX10_index 29 = .ok (.invokevirtual 200, 3) := by decide +kernel
theorem dX10_index_32 : decode cX10_index 32 = .ok (.ifCond .eq 6, 3) := by decide +kernel
theorem dX10_index_35 : decode cX10_index 35 = .ok (.ldc 203, 2) := by decide +kernel
theorem dX10_index_37 : decode cX10_index 37 = .ok (.ireturn, 1) := by decide +kernel
theorem dX10_index_38 : decode cX10_index 38 = .ok (.aload_n 0, 1) := by decide +kernel
theorem dX10_index_39 : decode cX10_index 39 = .ok (.aload_n 2, 1) := by decide +kernel
theorem dX10_index_40 : decode cX10_index 40 = .ok (.invokevirtual 292, 3) := by decide +kernel
theorem dX10_index_43 : decode cX10_index 43 = .ok (.l2i, 1) := by decide +kernel
theorem dX10_index_44 : decode cX10_index 44 = .ok (.invokevirtual 104, 3) := by decide +kernel
theorem dX10_index_47 : decode cX10_index 47 = .ok (.ireturn, 1) := by decide +kernel
theorem dX10_cell_0 : decode cX10_cell 0 = .ok (.iload_n 1, 1) := by decide +kernel
theorem dX10_cell_1 : decode cX10_cell 1 = .ok (.bipush 20, 2) := by decide +kernel
theorem dX10_cell_3 : decode cX10_cell 3 = .ok (.invokestatic 91, 3) := by decide +kernel
theorem dX10_cell_6 : decode cX10_cell 6 = .ok (.ifCond .ne 12, 3) := by decide +kernel
theorem dX10_cell_9 : decode cX10_cell 9 = .ok (.iload_n 2, 1) := by decide +kernel
theorem dX10_cell_10 : decode cX10_cell 10 = .ok (.bipush 6, 2) := by decide +kernel
theorem dX10_cell_12 : decode cX10_cell 12 = .ok (.invokestatic 91, 3) := by decide +kernel
theorem dX10_cell_15 : decode cX10_cell 15 = .ok (.ifCond .eq 6, 3) := by decide +kernel
theorem dX10_cell_18 : decode cX10_cell 18 = .ok (.ldc 95, 2) := by decide +kernel
theorem dX10_cell_20 : decode cX10_cell 20 = .ok (.ireturn, 1) := by decide +kernel
theorem dX10_cell_21 : decode cX10_cell 21 = .ok (.aload_n 0, 1) := by decide +kernel
theorem dX10_cell_22 : decode cX10_cell 22 = .ok (.iload_n 1, 1) := by decide +kernel
theorem dX10_cell_23 : decode cX10_cell 23 = .ok (.invokevirtual 159, 3) := by decide +kernel
theorem dX10_cell_26 : decode cX10_cell 26 = .ok (.astore_n 3, 1) := by decide +kernel
theorem dX10_cell_27 : decode cX10_cell 27 = .ok (.aload_n 3, 1) := by decide +kernel
theorem dX10_cell_28 : decode cX10_cell 28 = .ok (.ifnonnull 9, 3) := by decide +kernel
theorem dX10_cell_31 : decode cX10_cell 31 = .ok (.aload_n 0, 1) := by decide +kernel
theorem dX10_cell_32 : decode cX10_cell 32 = .ok (.iconst 1, 1) := by decide +kernel
theorem dX10_cell_33 : decode cX10_cell 33 = .ok (.invokevirtual 96, 3) := by decide +kernel
theorem dX10_cell_36 : decode cX10_cell 36 = .ok (.ireturn, 1) := by decide +kernel
theorem dX10_cell_37 : decode cX10_cell 37 = .ok (.aload_n 3, 1) := by decide +kernel
theorem dX10_cell_38 : decode cX10_cell 38 = .ok (.invokevirtual 200, 3) := by decide +kernel
theorem dX10_cell_41 : decode cX10_cell 41 = .ok (.ifCond .eq 6, 3) := by decide +kernel
theorem dX10_cell_44 : decode cX10_cell 44 = .ok (.ldc 203, 2) := by decide +kernel
theorem dX10_cell_46 : decode cX10_cell 46 = .ok (.ireturn, 1) := by decide +kernel
theorem dX10_cell_47 : decode cX10_cell 47 = .ok (.aload_n 3, 1) := by decide +kernel
theorem dX10_cell_48 : decode cX10_cell 48 = .ok (.invokevirtual 292, 3) := by decide +kernel
theorem dX10_cell_51 : decode cX10_cell 51 = .ok (.ldc2_w 295, 3) := by decide +kernel
theorem dX10_cell_54 : decode cX10_cell 54 = .ok (.lcmp, 1) := by decide +kernel
theorem dX10_cell_55 : decode cX10_cell 55 = .ok (.ifCond .le 6, 3) := by decide +kernel
theorem dX10_cell_58 : decode cX10_cell 58 = .ok (.ldc 154, 2) := by decide +kernel
theorem dX10_cell_60 : decode cX10_cell 60 = .ok (.ireturn, 1) := by decide +kernel
theorem dX10_cell_61 : decode cX10_cell 61 = .ok (.aload_n 0, 1) := by decide +kernel
theorem dX10_cell_62 : decode cX10_cell 62 = .ok (.getfield 76, 3) := by decide +kernel
theorem dX10_cell_65 : decode cX10_cell 65 = .ok (.aload_n 3, 1) := by decide +kernel
theorem dX10_cell_66 : decode cX10_cell 66 = .ok (.invokevirtual 297, 3) := by decide +kernel
end
section
theorem dX10_cell_69 : decode cX10_cell 69 = .ok (.aload_n 0, 1) := by decide +kernel
theorem dX10_cell_70 : decode cX10_cell 70 = .ok (.aload_n 0, 1) := by decide +kernel
theorem dX10_cell_71 : decode cX10_cell 71 = .ok (.getfield 76, 3) := by decide +kernel
theorem dX10_cell_74 : decode cX10_cell 74 = .ok (.iload_n 2, 1) := by decide +kernel
theorem dX10_cell_75 : decode cX10_cell 75 = .ok (.invokevirtual 298, 3) := by decide +kernel
theorem dX10_cell_78 : decode cX10_cell 78 = .ok (.invokevirtual 104, 3) := by decide +kernel
theorem dX10_cell_81 : decode cX10_cell 81 = .ok (.ireturn, 1) := by decide +kernel
theorem dX10_status_0 : decode cX10_status 0 = .ok (.aload_n 0, 1) := by decide +kernel
theorem dX10_status_1 : decode cX10_status 1 = .ok (.getfield 87, 3) := by decide +kernel
theorem dX10_status_4 : decode cX10_status 4 = .ok (.ireturn, 1) := by decide +kernel
theorem dX10_outside_0 : decode cX10_outside 0 = .ok (.iload_n 0, 1) := by decide +kernel
theorem dX10_outside_1 : decode cX10_outside 1 = .ok (.ifCond .lt 8, 3) := by decide +kernel
theorem dX10_outside_4 : decode cX10_outside 4 = .ok (.iload_n 0, 1) := by decide +kernel
theorem dX10_outside_5 : decode cX10_outside 5 = .ok (.iload_n 1, 1) := by decide +kernel
theorem dX10_outside_6 : decode cX10_outside 6 = .ok (.if_icmp .lt 7, 3) := by decide +kernel
theorem dX10_outside_9 : decode cX10_outside 9 = .ok (.iconst 1, 1) := by decide +kernel
theorem dX10_outside_10 : decode cX10_outside 10 = .ok (.goto 4, 3) := by decide +kernel
theorem dX10_outside_13 : decode cX10_outside 13 = .ok (.iconst 0, 1) := by decide +kernel
theorem dX10_outside_14 : decode cX10_outside 14 = .ok (.ireturn, 1) := by decide +kernel
theorem dX10_tooFar_0 : decode cX10_tooFar 0 = .ok (.iload_n 0, 1) := by decide +kernel
theorem dX10_tooFar_1 : decode cX10_tooFar 1 = .ok (.sipush (-1000), 3) := by decide +kernel
theorem dX10_tooFar_4 : decode cX10_tooFar 4 = .ok (.if_icmp .lt 10, 3) := by decide +kernel
theorem dX10_tooFar_7 : decode cX10_tooFar 7 = .ok (.iload_n 0, 1) := by decide +kernel
theorem dX10_tooFar_8 : decode cX10_tooFar 8 = .ok (.sipush 1000, 3) := by decide +kernel
theorem dX10_tooFar_11 : decode cX10_tooFar 11 = .ok (.if_icmp .le 7, 3) := by decide +kernel
theorem dX10_tooFar_14 : decode cX10_tooFar 14 = .ok (.iconst 1, 1) := by decide +kernel
theorem dX10_tooFar_15 : decode cX10_tooFar 15 = .ok (.goto 4, 3) := by decide +kernel
theorem dX10_tooFar_18 : decode cX10_tooFar 18 = .ok (.iconst 0, 1) := by decide +kernel
theorem dX10_tooFar_19 : decode cX10_tooFar 19 = .ok (.ireturn, 1) := by decide +kernel
theorem dX10_found_0 : decode cX10_found 0 = .ok (.aload_n 0, 1) := by decide +kernel
theorem dX10_found_1 : decode cX10_found 1 = .ok (.iload_n 1, 1) := by decide +kernel
theorem dX10_found_2 : decode cX10_found 2 = .ok (.putfield 87, 3) := by decide +kernel
theorem dX10_found_5 : decode cX10_found 5 = .ok (.ldc_w 300, 3) := by decide +kernel
theorem dX10_found_8 : decode cX10_found 8 = .ok (.iload_n 1, 1) := by decide +kernel
theorem dX10_found_9 : decode cX10_found 9 = .ok (.isub, 1) := by decide +kernel
theorem dX10_found_10 : decode cX10_found 10 = .ok (.ireturn, 1) := by decide +kernel
theorem dX10_answered_0 : decode cX10_answered 0 = .ok (.aload_n 0, 1) := by decide +kernel
theorem dX10_answered_1 : decode cX10_answered 1 = .ok (.iconst 0, 1) := by decide +kernel
theorem dX10_answered_2 : decode cX10_answered 2 = .ok (.putfield 87, 3) := by decide +kernel
theorem dX10_answered_5 : decode cX10_answered 5 = .ok (.iload_n 1, 1) := by decide +kernel
theorem dX10_answered_6 : decode cX10_answered 6 = .ok (.ireturn, 1) := by decide +kernel
theorem dX10_standing_0 : decode cX10_standing 0 = .ok (.iload_n 1, 1) := by decide +kernel
theorem dX10_standing_1 : decode cX10_standing 1 = .ok (.bipush 8, 2) := by decide +kernel
theorem dX10_standing_3 : decode cX10_standing 3 = .ok (.invokestatic 91, 3) := by decide +kernel
theorem dX10_standing_6 : decode cX10_standing 6 = .ok (.ifCond .eq 5, 3) := by decide +kernel
theorem dX10_standing_9 : decode cX10_standing 9 = .ok (.aconst_null, 1) := by decide +kernel
theorem dX10_standing_10 : decode cX10_standing 10 = .ok (.areturn, 1) := by decide +kernel
theorem dX10_standing_11 : decode cX10_standing 11 = .ok (.aload_n 0, 1) := by decide +kernel
theorem dX10_standing_12 : decode cX10_standing 12 = .ok (.getfield 11, 3) := by decide +kernel
theorem dX10_standing_15 : decode cX10_standing 15 = .ok (.iload_n 1, 1) := by decide +kernel
theorem dX10_standing_16 : decode cX10_standing 16 = .ok (.aaload, 1) := by decide +kernel
theorem dX10_standing_17 : decode cX10_standing 17 = .ok (.astore_n 2, 1) := by decide +kernel
theorem dX10_standing_18 : decode cX10_standing 18 = .ok (.aload_n 2, 1) := by decide +kernel
theorem dX10_standing_19 : decode cX10_standing 19 = .ok (.ifnull 11, 3) := by decide +kernel
theorem dX10_standing_22 : decode cX10_standing 22 = .ok (.aload_n 2, 1) := by decide +kernel
theorem dX10_standing_23 : decode cX10_standing 23 = .ok (.getfield 124, 3) := by decide +kernel
theorem dX10_standing_26 : decode cX10_standing 26 = .ok (.iconst (-1), 1) := by decide +kernel
theorem dX10_standing_27 : decode cX10_standing 27 = .ok (.if_icmp .ne 5, 3) := by decide +kernel
theorem dX10_standing_30 : decode cX10_standing 30 = .ok (.aconst_null, 1) := by decide +kernel
theorem dX10_standing_31 : decode cX10_standing 31 = .ok (.areturn, 1) := by decide +kernel
theorem dX10_standing_32 : decode cX10_standing 32 = .ok (.aload_n 2, 1) := by decide +kernel
theorem dX10_standing_33 : decode cX10_standing 33 = .ok (.areturn, 1) := by decide +kernel
theorem dX10_held_0 : decode cX10_held 0 = .ok (.iload_n 1, 1) := by decide +kernel
theorem dX10_held_1 : decode cX10_held 1 = .ok (.bipush 20, 2) := by decide +kernel
theorem dX10_held_3 : decode cX10_held 3 = .ok (.invokestatic 91, 3) := by decide +kernel
theorem dX10_held_6 : decode cX10_held 6 = .ok (.ifCond .ne 13, 3) := by decide +kernel
theorem dX10_held_9 : decode cX10_held 9 = .ok (.aload_n 0, 1) := by decide +kernel
theorem dX10_held_10 : decode cX10_held 10 = .ok (.getfield 22, 3) := by decide +kernel
theorem dX10_held_13 : decode cX10_held 13 = .ok (.iload_n 1, 1) := by decide +kernel
theorem dX10_held_14 : decode cX10_held 14 = .ok (.iaload, 1) := by decide +kernel
theorem dX10_held_15 : decode cX10_held 15 = .ok (.iconst (-1), 1) := by decide +kernel
theorem dX10_held_16 : decode cX10_held 16 = .ok (.if_icmp .ne 5, 3) := by decide +kernel
theorem dX10_held_19 : decode cX10_held 19 = .ok (.aconst_null, 1) := by decide +kernel
theorem dX10_held_20 : decode cX10_held 20 = .ok (.areturn, 1) := by decide +kernel
theorem dX10_held_21 : decode cX10_held 21 = .ok (.aload_n 0, 1) := by decide +kernel
theorem dX10_held_22 : decode cX10_held 22 = .ok (.getfield 18, 3) := by decide +kernel
theorem dX10_held_25 : decode cX10_held 25 = .ok (.iload_n 1, 1) := by decide +kernel
theorem dX10_held_26 : decode cX10_held 26 = .ok (.aaload, 1) := by decide +kernel
theorem dX10_held_27 : decode cX10_held 27 = .ok (.areturn, 1) := by decide +kernel
theorem dX10_keep_0 : decode cX10_keep 0 = .ok (.iload_n 1, 1) := by decide +kernel
theorem dX10_keep_1 : decode cX10_keep 1 = .ok (.bipush 20, 2) := by decide +kernel
theorem dX10_keep_3 : decode cX10_keep 3 = .ok (.invokestatic 91, 3) := by decide +kernel
theorem dX10_keep_6 : decode cX10_keep 6 = .ok (.ifCond .ne 12, 3) := by decide +kernel
theorem dX10_keep_9 : decode cX10_keep 9 = .ok (.aload_n 0, 1) := by decide +kernel
theorem dX10_keep_10 : decode cX10_keep 10 = .ok (.getfield 18, 3) := by decide +kernel
theorem dX10_keep_13 : decode cX10_keep 13 = .ok (.iload_n 1, 1) := by decide +kernel
theorem dX10_keep_14 : decode cX10_keep 14 = .ok (.aaload, 1) := by decide +kernel
theorem dX10_keep_15 : decode cX10_keep 15 = .ok (.ifnonnull 6, 3) := by decide +kernel
theorem dX10_keep_18 : decode cX10_keep 18 = .ok (.ldc 95, 2) := by decide +kernel
theorem dX10_keep_20 : decode cX10_keep 20 = .ok (.ireturn, 1) := by decide +kernel
theorem dX10_keep_21 : decode cX10_keep 21 = .ok (.aload_n 0, 1) := by decide +kernel
theorem dX10_keep_22 : decode cX10_keep 22 = .ok (.getfield 18, 3) := by decide +kernel
theorem dX10_keep_25 : decode cX10_keep 25 = .ok (.iload_n 1, 1) := by decide +kernel
theorem dX10_keep_26 : decode cX10_keep 26 = .ok (.aaload, 1) := by decide +kernel
theorem dX10_keep_27 : decode cX10_keep 27 = .ok (.aload_n 2, 1) := by decide +kernel
theorem dX10_keep_28 : decode cX10_keep 28 = .ok (.invokevirtual 227, 3) := by decide +kernel
theorem dX10_keep_31 : decode cX10_keep 31 = .ok (.aload_n 0, 1) := by decide +kernel
theorem dX10_keep_32 : decode cX10_keep 32 = .ok (.getfield 22, 3) := by decide +kernel
theorem dX10_keep_35 : decode cX10_keep 35 = .ok (.iload_n 1, 1) := by decide +kernel
theorem dX10_keep_36 : decode cX10_keep 36 = .ok (.aload_n 2, 1) := by decide +kernel
theorem dX10_keep_37 : decode cX10_keep 37 = .ok (.invokestatic 301, 3) := by decide +kernel
theorem dX10_keep_40 : decode cX10_keep 40 = .ok (.iastore, 1) := by decide +kernel
theorem dX10_keep_41 : decode cX10_keep 41 = .ok (.aload_n 0, 1) := by decide +kernel
theorem dX10_keep_42 : decode cX10_keep 42 = .ok (.getfield 22, 3) := by decide +kernel
theorem dX10_keep_45 : decode cX10_keep 45 = .ok (.iload_n 1, 1) := by decide +kernel
theorem dX10_keep_46 : decode cX10_keep 46 = .ok (.iaload, 1) := by decide +kernel
theorem dX10_keep_47 : decode cX10_keep 47 = .ok (.ireturn, 1) := by decide +kernel
theorem dX10_kindOf_0 : decode cX10_kindOf 0 = .ok (.aload_n 0, 1) := by decide +kernel
theorem dX10_kindOf_1 : decode cX10_kindOf 1 = .ok (.invokevirtual 200, 3) := by decide +kernel
theorem dX10_kindOf_4 : decode cX10_kindOf 4 = .ok (.ifCond .eq 5, 3) := by decide +kernel
theorem dX10_kindOf_7 : decode cX10_kindOf 7 = .ok (.iconst 0, 1) := by decide +kernel
theorem dX10_kindOf_8 : decode cX10_kindOf 8 = .ok (.ireturn, 1) := by decide +kernel
theorem dX10_kindOf_9 : decode cX10_kindOf 9 = .ok (.aload_n 0, 1) := by decide +kernel
theorem dX10_kindOf_10 : decode cX10_kindOf 10 = .ok (.invokevirtual 166, 3) := by decide +kernel
theorem dX10_kindOf_13 : decode cX10_kindOf 13 = .ok (.lstore_n 1, 1) := by decide +kernel
theorem dX10_kindOf_14 : decode cX10_kindOf 14 = .ok (.lload_n 1, 1) := by decide +kernel
theorem dX10_kindOf_15 : decode cX10_kindOf 15 = .ok (.lconst 1, 1) := by decide +kernel
theorem dX10_kindOf_16 : decode cX10_kindOf 16 = .ok (.lcmp, 1) := by decide +kernel
theorem dX10_kindOf_17 : decode cX10_kindOf 17 = .ok (.ifCond .ne 5, 3) := by decide +kernel
theorem dX10_kindOf_20 : decode cX10_kindOf 20 = .ok (.iconst 4, 1) := by decide +kernel
theorem dX10_kindOf_21 : decode cX10_kindOf 21 = .ok (.ireturn, 1) := by decide +kernel
theorem dX10_kindOf_22 : decode cX10_kindOf 22 = .ok (.lload_n 1, 1) := by decide +kernel
theorem dX10_kindOf_23 : decode cX10_kindOf 23 = .ok (.invokestatic 304, 3) := by decide +kernel
theorem dX10_kindOf_26 : decode cX10_kindOf 26 = .ok (.lload_n 1, 1) := by decide +kernel
theorem dX10_kindOf_27 : decode cX10_kindOf 27 = .ok (.lcmp, 1) := by decide +kernel
theorem dX10_kindOf_28 : decode cX10_kindOf 28 = .ok (.ifCond .ne 5, 3) := by decide +kernel
theorem dX10_kindOf_31 : decode cX10_kindOf 31 = .ok (.iconst 3, 1) := by decide +kernel
theorem dX10_kindOf_32 : decode cX10_kindOf 32 = .ok (.ireturn, 1) := by decide +kernel
theorem dX10_kindOf_33 : decode cX10_kindOf 33 = .ok (.aload_n 0, 1) := by decide +kernel
theorem dX10_kindOf_34 : decode cX10_kindOf 34 = .ok (.invokevirtual 224, 3) := by decide +kernel
theorem dX10_kindOf_37 : decode cX10_kindOf 37 = .ok (.lconst 1, 1) := by decide +kernel
theorem dX10_kindOf_38 : decode cX10_kindOf 38 = .ok (.lcmp, 1) := by decide +kernel
theorem dX10_kindOf_39 : decode cX10_kindOf 39 = .ok (.ifCond .ne 5, 3) := by decide +kernel
theorem dX10_kindOf_42 : decode cX10_kindOf 42 = .ok (.iconst 2, 1) := by decide +kernel
theorem dX10_kindOf_43 : decode cX10_kindOf 43 = .ok (.ireturn, 1) := by decide +kernel
theorem dX10_kindOf_44 : decode cX10_kindOf 44 = .ok (.aload_n 0, 1) := by decide +kernel
theorem dX10_kindOf_45 : decode cX10_kindOf 45 = .ok (.invokevirtual 148, 3) := by decide +kernel
theorem dX10_kindOf_48 : decode cX10_kindOf 48 = .ok (.ifCond .eq 7, 3) := by decide +kernel
theorem dX10_kindOf_51 : decode cX10_kindOf 51 = .ok (.iconst 1, 1) := by decide +kernel
theorem dX10_kindOf_52 : decode cX10_kindOf 52 = .ok (.goto 4, 3) := by decide +kernel
theorem dX10_kindOf_55 : decode cX10_kindOf 55 = .ok (.iconst 0, 1) := by decide +kernel
theorem dX10_kindOf_56 : decode cX10_kindOf 56 = .ok (.ireturn, 1) := by decide +kernel
theorem dX10_isToo_0 : decode cX10_isToo 0 = .ok (.iload_n 1, 1) := by decide +kernel
theorem dX10_isToo_1 : decode cX10_isToo 1 = .ok (.iload_n 0, 1) := by decide +kernel
theorem dX10_isToo_2 : decode cX10_isToo 2 = .ok (.if_icmp .eq 7, 3) := by decide +kernel
theorem dX10_isToo_5 : decode cX10_isToo 5 = .ok (.iload_n 1, 1) := by decide +kernel
theorem dX10_isToo_6 : decode cX10_isToo 6 = .ok (.ifCond .ne 5, 3) := by decide +kernel
theorem dX10_isToo_9 : decode cX10_isToo 9 = .ok (.iconst 1, 1) := by decide +kernel
theorem dX10_isToo_10 : decode cX10_isToo 10 = .ok (.ireturn, 1) := by decide +kernel
theorem dX10_isToo_11 : decode cX10_isToo 11 = .ok (.iload_n 1, 1) := by decide +kernel
theorem dX10_isToo_12 : decode cX10_isToo 12 = .ok (.iconst 2, 1) := by decide +kernel
theorem dX10_isToo_13 : decode cX10_isToo 13 = .ok (.if_icmp .ne 17, 3) := by decide +kernel
theorem dX10_isToo_16 : decode cX10_isToo 16 = .ok (.iload_n 0, 1) := by decide +kernel
theorem dX10_isToo_17 : decode cX10_isToo 17 = .ok (.iconst 3, 1) := by decide +kernel
theorem dX10_isToo_18 : decode cX10_isToo 18 = .ok (.if_icmp .eq 8, 3) := by decide +kernel
theorem dX10_isToo_21 : decode cX10_isToo 21 = .ok (.iload_n 0, 1) := by decide +kernel
theorem dX10_isToo_22 : decode cX10_isToo 22 = .ok (.iconst 4, 1) := by decide +kernel
theorem dX10_isToo_23 : decode cX10_isToo 23 = .ok (.if_icmp .ne 7, 3) := by decide +kernel
theorem dX10_isToo_26 : decode cX10_isToo 26 = .ok (.iconst 1, 1) := by decide +kernel
theorem dX10_isToo_27 : decode cX10_isToo 27 = .ok (.goto 4, 3) := by decide +kernel
theorem dX10_isToo_30 : decode cX10_isToo 30 = .ok (.iconst 0, 1) := by decide +kernel
theorem dX10_isToo_31 : decode cX10_isToo 31 = .ok (.ireturn, 1) := by decide +kernel
theorem dX10_orderOf_0 : decode cX10_orderOf 0 = .ok (.aload_n 0, 1) := by decide +kernel
theorem dX10_orderOf_1 : decode cX10_orderOf 1 = .ok (.invokevirtual 308, 3) := by decide +kernel
theorem dX10_orderOf_4 : decode cX10_orderOf 4 = .ok (.lstore_n 1, 1) := by decide +kernel
theorem dX10_orderOf_5 : decode cX10_orderOf 5 = .ok (.aload_n 0, 1) := by decide +kernel
theorem dX10_orderOf_6 : decode cX10_orderOf 6 = .ok (.getfield 311, 3) := by decide +kernel
theorem dX10_orderOf_9 : decode cX10_orderOf 9 = .ok (.aload_n 0, 1) := by decide +kernel
theorem dX10_orderOf_10 : decode cX10_orderOf 10 = .ok (.getfield 311, 3) := by decide +kernel
theorem dX10_orderOf_13 : decode cX10_orderOf 13 = .ok (.lmul, 1) := by decide +kernel
theorem dX10_orderOf_14 : decode cX10_orderOf 14 = .ok (.lstore_n 3, 1) := by decide +kernel
theorem dX10_orderOf_15 : decode cX10_orderOf 15 = .ok (.lload_n 3, 1) := by decide +kernel
theorem dX10_orderOf_16 : decode cX10_orderOf 16 = .ok (.lload_n 1, 1) := by decide +kernel
theorem dX10_orderOf_17 : decode cX10_orderOf 17 = .ok (.lcmp, 1) := by decide +kernel
theorem dX10_orderOf_18 : decode cX10_orderOf 18 = .ok (.ifCond .ne 5, 3) := by decide +kernel
theorem dX10_orderOf_21 : decode cX10_orderOf 21 = .ok (.iconst 1, 1) := by decide +kernel
theorem dX10_orderOf_22 : decode cX10_orderOf 22 = .ok (.ireturn, 1) := by decide +kernel
theorem dX10_orderOf_23 : decode cX10_orderOf 23 = .ok (.lload_n 3, 1) := by decide +kernel
theorem dX10_orderOf_24 : decode cX10_orderOf 24 = .ok (.lconst 0, 1) := by decide +kernel
theorem dX10_orderOf_25 : decode cX10_orderOf 25 = .ok (.lcmp, 1) := by decide +kernel
theorem dX10_orderOf_26 : decode cX10_orderOf 26 = .ok (.ifCond .ne 5, 3) := by decide +kernel
theorem dX10_orderOf_29 : decode cX10_orderOf 29 = .ok (.iconst 2, 1) := by decide +kernel
theorem dX10_orderOf_30 : decode cX10_orderOf 30 = .ok (.ireturn, 1) := by decide +kernel
theorem dX10_orderOf_31 : decode cX10_orderOf 31 = .ok (.ldc2_w 314, 3) := by decide +kernel
theorem dX10_orderOf_34 : decode cX10_orderOf 34 = .ok (.lload_n 3, 1) := by decide +kernel
theorem dX10_orderOf_35 : decode cX10_orderOf 35 = .ok (.lmul, 1) := by decide +kernel
theorem dX10_orderOf_36 : decode cX10_orderOf 36 = .ok (.lload_n 1, 1) := by decide +kernel
theorem dX10_orderOf_37 : decode cX10_orderOf 37 = .ok (.lcmp, 1) := by decide +kernel
theorem dX10_orderOf_38 : decode cX10_orderOf 38 = .ok (.ifCond .ne 5, 3) := by decide +kernel
theorem dX10_orderOf_41 : decode cX10_orderOf 41 = .ok (.iconst 3, 1) := by decide +kernel
theorem dX10_orderOf_42 : decode cX10_orderOf 42 = .ok (.ireturn, 1) := by decide +kernel
theorem dX10_orderOf_43 : decode cX10_orderOf 43 = .ok (.ldc2_w 316, 3) := by decide +kernel
theorem dX10_orderOf_46 : decode cX10_orderOf 46 = .ok (.lload_n 3, 1) := by decide +kernel
theorem dX10_orderOf_47 : decode cX10_orderOf 47 = .ok (.lmul, 1) := by decide +kernel
theorem dX10_orderOf_48 : decode cX10_orderOf 48 = .ok (.lload_n 1, 1) := by decide +kernel
theorem dX10_orderOf_49 : decode cX10_orderOf 49 = .ok (.lcmp, 1) := by decide +kernel
theorem dX10_orderOf_50 : decode cX10_orderOf 50 = .ok (.ifCond .ne 5, 3) := by decide +kernel
theorem dX10_orderOf_53 : decode cX10_orderOf 53 = .ok (.iconst 4, 1) := by decide +kernel
theorem dX10_orderOf_54 : decode cX10_orderOf 54 = .ok (.ireturn, 1) := by decide +kernel
theorem dX10_orderOf_55 : decode cX10_orderOf 55 = .ok (.ldc2_w 314, 3) := by decide +kernel
theorem dX10_orderOf_58 : decode cX10_orderOf 58 = .ok (.lload_n 3, 1) := by decide +kernel
theorem dX10_orderOf_59 : decode cX10_orderOf 59 = .ok (.lmul, 1) := by decide +kernel
theorem dX10_orderOf_60 : decode cX10_orderOf 60 = .ok (.ldc2_w 318, 3) := by decide +kernel
theorem dX10_orderOf_63 : decode cX10_orderOf 63 = .ok (.lload_n 1, 1) := by decide +kernel
theorem dX10_orderOf_64 : decode cX10_orderOf 64 = .ok (.lmul, 1) := by decide +kernel
theorem dX10_orderOf_65 : decode cX10_orderOf 65 = .ok (.lcmp, 1) := by decide +kernel
theorem dX10_orderOf_66 : decode cX10_orderOf 66 = .ok (.ifCond .ne 6, 3) := by decide +kernel
theorem dX10_orderOf_69 : decode cX10_orderOf 69 = .ok (.bipush 6, 2) := by decide +kernel
theorem dX10_orderOf_71 : decode cX10_orderOf 71 = .ok (.ireturn, 1) := by decide +kernel
theorem dX10_orderOf_72 : decode cX10_orderOf 72 = .ok (.ldc 236, 2) := by decide +kernel
theorem dX10_orderOf_74 : decode cX10_orderOf 74 = .ok (.ireturn, 1) := by decide +kernel
theorem dX10_axisNumber_0 : decode cX10_axisNumber 0 = .ok (.aload_n 0, 1) := by decide +kernel
theorem dX10_axisNumber_1 : decode cX10_axisNumber 1 = .ok (.getfield 320, 3) := by decide +kernel
theorem dX10_axisNumber_4 : decode cX10_axisNumber 4 = .ok (.aload_n 0, 1) := by decide +kernel
theorem dX10_axisNumber_5 : decode cX10_axisNumber 5 = .ok (.getfield 323, 3) := by decide +kernel
theorem dX10_axisNumber_8 : decode cX10_axisNumber 8 = .ok (.invokestatic 326, 3) := by decide +kernel
theorem dX10_axisNumber_11 : decode cX10_axisNumber 11 = .ok (.aload_n 0, 1) := by decide +kernel
theorem dX10_axisNumber_12 : decode cX10_axisNumber 12 = .ok (.getfield 330, 3) := by decide +kernel
theorem dX10_axisNumber_15 : decode cX10_axisNumber 15 = .ok (.invokestatic 326, 3) := by decide +kernel
theorem dX10_axisNumber_18 : decode cX10_axisNumber 18 = .ok (.lstore_n 2, 1) := by decide +kernel
theorem dX10_axisNumber_19 : decode cX10_axisNumber 19 = .ok (.lload_n 2, 1) := by decide +kernel
theorem dX10_axisNumber_20 : decode cX10_axisNumber 20 = .ok (.lconst 0, 1) := by decide +kernel
theorem dX10_axisNumber_21 : decode cX10_axisNumber 21 = .ok (.lcmp, 1) := by decide +kernel
theorem dX10_axisNumber_22 : decode cX10_axisNumber 22 = .ok (.ifCond .ne 6, 3) := by decide +kernel
theorem dX10_axisNumber_25 : decode cX10_axisNumber 25 = .ok (.ldc 236, 2) := by decide +kernel
theorem dX10_axisNumber_27 : decode cX10_axisNumber 27 = .ok (.ireturn, 1) := by decide +kernel
theorem dX10_axisNumber_28 : decode cX10_axisNumber 28 = .ok (.aload_n 0, 1) := by decide +kernel
theorem dX10_axisNumber_29 : decode cX10_axisNumber 29 = .ok (.getfield 320, 3) := by decide +kernel
theorem dX10_axisNumber_32 : decode cX10_axisNumber 32 = .ok (.lconst 0, 1) := by decide +kernel
theorem dX10_axisNumber_33 : decode cX10_axisNumber 33 = .ok (.lcmp, 1) := by decide +kernel
theorem dX10_axisNumber_34 : decode cX10_axisNumber 34 = .ok (.ifCond .eq 10, 3) := by decide +kernel
theorem dX10_axisNumber_37 : decode cX10_axisNumber 37 = .ok (.aload_n 0, 1) := by decide +kernel
theorem dX10_axisNumber_38 : decode cX10_axisNumber 38 = .ok (.getfield 320, 3) := by decide +kernel
theorem dX10_axisNumber_41 : decode cX10_axisNumber 41 = .ok (.goto 23, 3) := by decide +kernel
theorem dX10_axisNumber_44 : decode cX10_axisNumber 44 = .ok (.aload_n 0, 1) := by decide +kernel
theorem dX10_axisNumber_45 : decode cX10_axisNumber 45 = .ok (.getfield 323, 3) := by decide +kernel
theorem dX10_axisNumber_48 : decode cX10_axisNumber 48 = .ok (.lconst 0, 1) := by decide +kernel
theorem dX10_axisNumber_49 : decode cX10_axisNumber 49 = .ok (.lcmp, 1) := by decide +kernel
theorem dX10_axisNumber_50 : decode cX10_axisNumber 50 = .ok (.ifCond .eq 10, 3) := by decide +kernel
theorem dX10_axisNumber_53 : decode cX10_axisNumber 53 = .ok (.aload_n 0, 1) := by decide +kernel
theorem dX10_axisNumber_54 : decode cX10_axisNumber 54 = .ok (.getfield 323, 3) := by decide +kernel
theorem dX10_axisNumber_57 : decode cX10_axisNumber 57 = .ok (.goto 7, 3) := by decide +kernel
theorem dX10_axisNumber_60 : decode cX10_axisNumber 60 = .ok (.aload_n 0, 1) := by decide +kernel
theorem dX10_axisNumber_61 : decode cX10_axisNumber 61 = .ok (.getfield 330, 3) := by decide +kernel
theorem dX10_axisNumber_64 : decode cX10_axisNumber 64 = .ok (.lstore 4, 2) := by decide +kernel
theorem dX10_axisNumber_66 : decode cX10_axisNumber 66 = .ok (.aload_n 0, 1) := by decide +kernel
theorem dX10_axisNumber_67 : decode cX10_axisNumber 67 = .ok (.iload_n 1, 1) := by decide +kernel
theorem dX10_axisNumber_68 : decode cX10_axisNumber 68 = .ok (.iconst 1, 1) := by decide +kernel
theorem dX10_axisNumber_69 : decode cX10_axisNumber 69 = .ok (.iadd, 1) := by decide +kernel
theorem dX10_axisNumber_70 : decode cX10_axisNumber 70 = .ok (.invokevirtual 163, 3) := by decide +kernel
theorem dX10_axisNumber_73 : decode cX10_axisNumber 73 = .ok (.lload_n 2, 1) := by decide +kernel
theorem dX10_axisNumber_74 : decode cX10_axisNumber 74 = .ok (.ldiv, 1) := by decide +kernel
theorem dX10_axisNumber_75 : decode cX10_axisNumber 75 = .ok (.lstore 6, 2) := by decide +kernel
theorem dX10_axisNumber_77 : decode cX10_axisNumber 77 = .ok (.lload 4, 2) := by decide +kernel
theorem dX10_axisNumber_79 : decode cX10_axisNumber 79 = .ok (.lconst 0, 1) := by decide +kernel
theorem dX10_axisNumber_80 : decode cX10_axisNumber 80 = .ok (.lcmp, 1) := by decide +kernel
theorem dX10_axisNumber_81 : decode cX10_axisNumber 81 = .ok (.ifCond .ge 9, 3) := by decide +kernel
theorem dX10_axisNumber_84 : decode cX10_axisNumber 84 = .ok (.lload 6, 2) := by decide +kernel
theorem dX10_axisNumber_86 : decode cX10_axisNumber 86 = .ok (.lneg, 1) := by decide +kernel
theorem dX10_axisNumber_87 : decode cX10_axisNumber 87 = .ok (.goto 5, 3) := by decide +kernel
theorem dX10_axisNumber_90 : decode cX10_axisNumber 90 = .ok (.lload 6, 2) := by decide +kernel
theorem dX10_axisNumber_92 : decode cX10_axisNumber 92 = .ok (.l2i, 1) := by decide +kernel
theorem dX10_axisNumber_93 : decode cX10_axisNumber 93 = .ok (.ireturn, 1) := by decide +kernel
theorem dX10_inLeastTerms_0 : decode cX10_inLeastTerms 0 = .ok (.lload_n 0, 1) := by decide +kernel
theorem dX10_inLeastTerms_1 : decode cX10_inLeastTerms 1 = .ok (.lload_n 2, 1) := by decide +kernel
theorem dX10_inLeastTerms_2 : decode cX10_inLeastTerms 2 = .ok (.invokestatic 326, 3) := by decide +kernel
theorem dX10_inLeastTerms_5 : decode cX10_inLeastTerms 5 = .ok (.lstore 5, 2) := by decide +kernel
theorem dX10_inLeastTerms_7 : decode cX10_inLeastTerms 7 = .ok (.lload 5, 2) := by decide +kernel
theorem dX10_inLeastTerms_9 : decode cX10_inLeastTerms 9 = .ok (.lconst 0, 1) := by decide +kernel
theorem dX10_inLeastTerms_10 : decode cX10_inLeastTerms 10 = .ok (.lcmp, 1) := by decide +kernel
theorem dX10_inLeastTerms_11 : decode cX10_inLeastTerms 11 = .ok (.ifCond .ne 5, 3) := by decide +kernel
theorem dX10_inLeastTerms_14 : decode cX10_inLeastTerms 14 = .ok (.lconst 0, 1) := by decide +kernel
theorem dX10_inLeastTerms_15 : decode cX10_inLeastTerms 15 = .ok (.lreturn, 1) := by decide +kernel
theorem dX10_inLeastTerms_16 : decode cX10_inLeastTerms 16 = .ok (.iload 4, 2) := by decide +kernel
theorem dX10_inLeastTerms_18 : decode cX10_inLeastTerms 18 = .ok (.ifCond .ne 7, 3) := by decide +kernel
theorem dX10_inLeastTerms_21 : decode cX10_inLeastTerms 21 = .ok (.lload_n 0, 1) := by decide +kernel
theorem dX10_inLeastTerms_22 : decode cX10_inLeastTerms 22 = .ok (.goto 4, 3) := by decide +kernel
theorem dX10_inLeastTerms_25 : decode cX10_inLeastTerms 25 = .ok (.lload_n 2, 1) := by decide +kernel
theorem dX10_inLeastTerms_26 : decode cX10_inLeastTerms 26 = .ok (.lload 5, 2) := by decide +kernel
theorem dX10_inLeastTerms_28 : decode cX10_inLeastTerms 28 = .ok (.ldiv, 1) := by decide +kernel
theorem dX10_inLeastTerms_29 : decode cX10_inLeastTerms 29 = .ok (.lreturn, 1) := by decide +kernel
theorem dX10_commonDivisor_0 : decode cX10_commonDivisor 0 = .ok (.lload_n 0, 1) := by decide +kernel
theorem dX10_commonDivisor_1 : decode cX10_commonDivisor 1 = .ok (.invokestatic 333, 3) := by decide +kernel
theorem dX10_commonDivisor_4 : decode cX10_commonDivisor 4 = .ok (.lstore 4, 2) := by decide +kernel
theorem dX10_commonDivisor_6 : decode cX10_commonDivisor 6 = .ok (.lload_n 2, 1) := by decide +kernel
theorem dX10_commonDivisor_7 : decode cX10_commonDivisor 7 = .ok (.invokestatic 333, 3) := by decide +kernel
theorem dX10_commonDivisor_10 : decode cX10_commonDivisor 10 = .ok (.lstore 6, 2) := by decide +kernel
theorem dX10_commonDivisor_12 : decode cX10_commonDivisor 12 = .ok (.iconst 0, 1) := by decide +kernel
theorem dX10_commonDivisor_13 : decode cX10_commonDivisor 13 = .ok (.istore 8, 2) := by decide +kernel
theorem dX10_commonDivisor_15 : decode cX10_commonDivisor 15 = .ok (.iload 8, 2) := by decide +kernel
theorem dX10_commonDivisor_17 : decode cX10_commonDivisor 17 = .ok (.ldc 240, 2) := by decide +kernel
theorem dX10_commonDivisor_19 : decode cX10_commonDivisor 19 = .ok (.if_icmp .ge 31, 3) := by decide +kernel
theorem dX10_commonDivisor_22 : decode cX10_commonDivisor 22 = .ok (.lload 6, 2) := by decide +kernel
theorem dX10_commonDivisor_24 : decode cX10_commonDivisor 24 = .ok (.lconst 0, 1) := by decide +kernel
theorem dX10_commonDivisor_25 : decode cX10_commonDivisor 25 = .ok (.lcmp, 1) := by decide +kernel
theorem dX10_commonDivisor_26 : decode cX10_commonDivisor 26 = .ok (.ifCond .eq 24, 3) := by decide +kernel
theorem dX10_commonDivisor_29 : decode cX10_commonDivisor 29 = .ok (.lload 4, 2) := by decide +kernel
theorem dX10_commonDivisor_31 : decode cX10_commonDivisor 31 = .ok (.lload 6, 2) := by decide +kernel
theorem dX10_commonDivisor_33 : decode cX10_commonDivisor 33 = .ok (.lrem, 1) := by decide +kernel
theorem dX10_commonDivisor_34 : decode cX10_commonDivisor 34 = .ok (.lstore 9, 2) := by decide +kernel
theorem dX10_commonDivisor_36 : decode cX10_commonDivisor 36 = .ok (.lload 6, 2) := by decide +kernel
theorem dX10_commonDivisor_38 : decode cX10_commonDivisor 38 = .ok (.lstore 4, 2) := by decide +kernel
theorem dX10_commonDivisor_40 : decode cX10_commonDivisor 40 = .ok (.lload 9, 2) := by decide +kernel
theorem dX10_commonDivisor_42 : decode cX10_commonDivisor 42 = .ok (.lstore 6, 2) := by decide +kernel
theorem dX10_commonDivisor_44 : decode cX10_commonDivisor 44 = .ok (.iinc 8 1, 3) := by decide +kernel
theorem dX10_commonDivisor_47 : decode cX10_commonDivisor 47 = .ok (.goto (-32), 3) := by decide +kernel
theorem dX10_commonDivisor_50 : decode cX10_commonDivisor 50 = .ok (.lload 4, 2) := by decide +kernel
theorem dX10_commonDivisor_52 : decode cX10_commonDivisor 52 = .ok (.lreturn, 1) := by decide +kernel
theorem dX10_leastPrime_0 : decode cX10_leastPrime 0 = .ok (.lload_n 0, 1) := by decide +kernel
theorem dX10_leastPrime_1 : decode cX10_leastPrime 1 = .ok (.ldc2_w 316, 3) := by decide +kernel
theorem dX10_leastPrime_4 : decode cX10_leastPrime 4 = .ok (.lrem, 1) := by decide +kernel
theorem dX10_leastPrime_5 : decode cX10_leastPrime 5 = .ok (.lconst 0, 1) := by decide +kernel
theorem dX10_leastPrime_6 : decode cX10_leastPrime 6 = .ok (.lcmp, 1) := by decide +kernel
theorem dX10_leastPrime_7 : decode cX10_leastPrime 7 = .ok (.ifCond .ne 7, 3) := by decide +kernel
theorem dX10_leastPrime_10 : decode cX10_leastPrime 10 = .ok (.ldc2_w 316, 3) := by decide +kernel
theorem dX10_leastPrime_13 : decode cX10_leastPrime 13 = .ok (.lreturn, 1) := by decide +kernel
theorem dX10_leastPrime_14 : decode cX10_leastPrime 14 = .ok (.ldc2_w 318, 3) := by decide +kernel
theorem dX10_leastPrime_17 : decode cX10_leastPrime 17 = .ok (.lstore_n 2, 1) := by decide +kernel
theorem dX10_leastPrime_18 : decode cX10_leastPrime 18 = .ok (.lload_n 2, 1) := by decide +kernel
theorem dX10_leastPrime_19 : decode cX10_leastPrime 19 = .ok (.lload_n 2, 1) := by decide +kernel
theorem dX10_leastPrime_20 : decode cX10_leastPrime 20 = .ok (.lmul, 1) := by decide +kernel
theorem dX10_leastPrime_21 : decode cX10_leastPrime 21 = .ok (.lload_n 0, 1) := by decide +kernel
theorem dX10_leastPrime_22 : decode cX10_leastPrime 22 = .ok (.lcmp, 1) := by decide +kernel
theorem dX10_leastPrime_23 : decode cX10_leastPrime 23 = .ok (.ifCond .gt 22, 3) := by decide +kernel
theorem dX10_leastPrime_26 : decode cX10_leastPrime 26 = .ok (.lload_n 0, 1) := by decide +kernel
theorem dX10_leastPrime_27 : decode cX10_leastPrime 27 = .ok (.lload_n 2, 1) := by decide +kernel
theorem dX10_leastPrime_28 : decode cX10_leastPrime 28 = .ok (.lrem, 1) := by decide +kernel
theorem dX10_leastPrime_29 : decode cX10_leastPrime 29 = .ok (.lconst 0, 1) := by decide +kernel
theorem dX10_leastPrime_30 : decode cX10_leastPrime 30 = .ok (.lcmp, 1) := by decide +kernel
theorem dX10_leastPrime_31 : decode cX10_leastPrime 31 = .ok (.ifCond .ne 5, 3) := by decide +kernel
theorem dX10_leastPrime_34 : decode cX10_leastPrime 34 = .ok (.lload_n 2, 1) := by decide +kernel
theorem dX10_leastPrime_35 : decode cX10_leastPrime 35 = .ok (.lreturn, 1) := by decide +kernel
theorem dX10_leastPrime_36 : decode cX10_leastPrime 36 = .ok (.lload_n 2, 1) := by decide +kernel
theorem dX10_leastPrime_37 : decode cX10_leastPrime 37 = .ok (.ldc2_w 316, 3) := by decide +kernel
theorem dX10_leastPrime_40 : decode cX10_leastPrime 40 = .ok (.ladd, 1) := by decide +kernel
theorem dX10_leastPrime_41 : decode cX10_leastPrime 41 = .ok (.lstore_n 2, 1) := by decide +kernel
theorem dX10_leastPrime_42 : decode cX10_leastPrime 42 = .ok (.goto (-24), 3) := by decide +kernel
theorem dX10_leastPrime_45 : decode cX10_leastPrime 45 = .ok (.lload_n 0, 1) := by decide +kernel
theorem dX10_leastPrime_46 : decode cX10_leastPrime 46 = .ok (.lreturn, 1) := by decide +kernel
theorem dX10_withoutFactor_0 : decode cX10_withoutFactor 0 = .ok (.iload_n 2, 1) := by decide +kernel
theorem dX10_withoutFactor_1 : decode cX10_withoutFactor 1 = .ok (.ifCond .ne 5, 3) := by decide +kernel
theorem dX10_withoutFactor_4 : decode cX10_withoutFactor 4 = .ok (.lload_n 0, 1) := by decide +kernel
theorem dX10_withoutFactor_5 : decode cX10_withoutFactor 5 = .ok (.lreturn, 1) := by decide +kernel
theorem dX10_withoutFactor_6 : decode cX10_withoutFactor 6 = .ok (.lload_n 0, 1) := by decide +kernel
theorem dX10_withoutFactor_7 : decode cX10_withoutFactor 7 = .ok (.lstore_n 3, 1) := by decide +kernel
theorem dX10_withoutFactor_8 : decode cX10_withoutFactor 8 = .ok (.iconst 0, 1) := by decide +kernel
theorem dX10_withoutFactor_9 : decode cX10_withoutFactor 9 = .ok (.istore 5, 2) := by decide +kernel
theorem dX10_withoutFactor_11 : decode cX10_withoutFactor 11 = .ok (.iload 5, 2) := by decide +kernel
theorem dX10_withoutFactor_13 : decode cX10_withoutFactor 13 = .ok (.bipush 64, 2) := by decide +kernel
theorem dX10_withoutFactor_15 : decode cX10_withoutFactor 15 = .ok (.if_icmp .ge 29, 3) := by decide +kernel
theorem dX10_withoutFactor_18 : decode cX10_withoutFactor 18 = .ok (.lload_n 3, 1) := by decide +kernel
theorem dX10_withoutFactor_19 : decode cX10_withoutFactor 19 = .ok (.lconst 0, 1) := by decide +kernel
theorem dX10_withoutFactor_20 : decode cX10_withoutFactor 20 = .ok (.lcmp, 1) := by decide +kernel
theorem dX10_withoutFactor_21 : decode cX10_withoutFactor 21 = .ok (.ifCond .eq 23, 3) := by decide +kernel
theorem dX10_withoutFactor_24 : decode cX10_withoutFactor 24 = .ok (.lload_n 3, 1) := by decide +kernel
theorem dX10_withoutFactor_25 : decode cX10_withoutFactor 25 = .ok (.iload_n 2, 1) := by decide +kernel
theorem dX10_withoutFactor_26 : decode cX10_withoutFactor 26 = .ok (.i2l, 1) := by decide +kernel
theorem dX10_withoutFactor_27 : decode cX10_withoutFactor 27 = .ok (.lrem, 1) := by decide +kernel
theorem dX10_withoutFactor_28 : decode cX10_withoutFactor 28 = .ok (.lconst 0, 1) := by decide +kernel
theorem dX10_withoutFactor_29 : decode cX10_withoutFactor 29 = .ok (.lcmp, 1) := by decide +kernel
theorem dX10_withoutFactor_30 : decode cX10_withoutFactor 30 = .ok (.ifCond .ne 14, 3) := by decide +kernel
theorem dX10_withoutFactor_33 : decode cX10_withoutFactor 33 = .ok (.lload_n 3, 1) := by decide +kernel
theorem dX10_withoutFactor_34 : decode cX10_withoutFactor 34 = .ok (.iload_n 2, 1) := by decide +kernel
theorem dX10_withoutFactor_35 : decode cX10_withoutFactor 35 = .ok (.i2l, 1) := by decide +kernel
theorem dX10_withoutFactor_36 : decode cX10_withoutFactor 36 = .ok (.ldiv, 1) := by decide +kernel
theorem dX10_withoutFactor_37 : decode cX10_withoutFactor 37 = .ok (.lstore_n 3, 1) := by decide +kernel
theorem dX10_withoutFactor_38 : decode cX10_withoutFactor 38 = .ok (.iinc 5 1, 3) := by decide +kernel
theorem dX10_withoutFactor_41 : decode cX10_withoutFactor 41 = .ok (.goto (-30), 3) := by decide +kernel
theorem dX10_withoutFactor_44 : decode cX10_withoutFactor 44 = .ok (.lload_n 3, 1) := by decide +kernel
theorem dX10_withoutFactor_45 : decode cX10_withoutFactor 45 = .ok (.lreturn, 1) := by decide +kernel
theorem dX10_sumOfDivisors_0 : decode cX10_sumOfDivisors 0 = .ok (.iload_n 1, 1) := by decide +kernel
theorem dX10_sumOfDivisors_1 : decode cX10_sumOfDivisors 1 = .ok (.ifCond .ne 5, 3) := by decide +kernel
theorem dX10_sumOfDivisors_4 : decode cX10_sumOfDivisors 4 = .ok (.iconst 0, 1) := by decide +kernel
theorem dX10_sumOfDivisors_5 : decode cX10_sumOfDivisors 5 = .ok (.ireturn, 1) := by decide +kernel
theorem dX10_sumOfDivisors_6 : decode cX10_sumOfDivisors 6 = .ok (.iconst 0, 1) := by decide +kernel
theorem dX10_sumOfDivisors_7 : decode cX10_sumOfDivisors 7 = .ok (.istore_n 2, 1) := by decide +kernel
theorem dX10_sumOfDivisors_8 : decode cX10_sumOfDivisors 8 = .ok (.iconst 1, 1) := by decide +kernel
theorem dX10_sumOfDivisors_9 : decode cX10_sumOfDivisors 9 = .ok (.istore_n 3, 1) := by decide +kernel
theorem dX10_sumOfDivisors_10 : decode cX10_sumOfDivisors 10 = .ok (.iload_n 3, 1) := by decide +kernel
theorem dX10_sumOfDivisors_11 : decode cX10_sumOfDivisors 11 = .ok (.iload_n 3, 1) := by decide +kernel
theorem dX10_sumOfDivisors_12 : decode cX10_sumOfDivisors 12 = .ok (.imul, 1) := by decide +kernel
theorem dX10_sumOfDivisors_13 : decode cX10_sumOfDivisors 13 = .ok (.iload_n 0, 1) := by decide +kernel
theorem dX10_sumOfDivisors_14 : decode cX10_sumOfDivisors 14 = .ok (.if_icmp .gt 51, 3) := by decide +kernel
theorem dX10_sumOfDivisors_17 : decode cX10_sumOfDivisors 17 = .ok (.iload_n 0, 1) := by decide +kernel
theorem dX10_sumOfDivisors_18 : decode cX10_sumOfDivisors 18 = .ok (.iload_n 3, 1) := by decide +kernel
theorem dX10_sumOfDivisors_19 : decode cX10_sumOfDivisors 19 = .ok (.irem, 1) := by decide +kernel
theorem dX10_sumOfDivisors_20 : decode cX10_sumOfDivisors 20 = .ok (.ifCond .eq 6, 3) := by decide +kernel
theorem dX10_sumOfDivisors_23 : decode cX10_sumOfDivisors 23 = .ok (.goto 36, 3) := by decide +kernel
theorem dX10_sumOfDivisors_26 : decode cX10_sumOfDivisors 26 = .ok (.iload_n 0, 1) := by decide +kernel
theorem dX10_sumOfDivisors_27 : decode cX10_sumOfDivisors 27 = .ok (.iload_n 3, 1) := by decide +kernel
theorem dX10_sumOfDivisors_28 : decode cX10_sumOfDivisors 28 = .ok (.idiv, 1) := by decide +kernel
theorem dX10_sumOfDivisors_29 : decode cX10_sumOfDivisors 29 = .ok (.istore 4, 2) := by decide +kernel
theorem dX10_sumOfDivisors_31 : decode cX10_sumOfDivisors 31 = .ok (.iload_n 3, 1) := by decide +kernel
theorem dX10_sumOfDivisors_32 : decode cX10_sumOfDivisors 32 = .ok (.iload_n 1, 1) := by decide +kernel
theorem dX10_sumOfDivisors_33 : decode cX10_sumOfDivisors 33 = .ok (.irem, 1) := by decide +kernel
theorem dX10_sumOfDivisors_34 : decode cX10_sumOfDivisors 34 = .ok (.ifCond .eq 7, 3) := by decide +kernel
theorem dX10_sumOfDivisors_37 : decode cX10_sumOfDivisors 37 = .ok (.iload_n 2, 1) := by decide +kernel
theorem dX10_sumOfDivisors_38 : decode cX10_sumOfDivisors 38 = .ok (.iload_n 3, 1) := by decide +kernel
theorem dX10_sumOfDivisors_39 : decode cX10_sumOfDivisors 39 = .ok (.iadd, 1) := by decide +kernel
theorem dX10_sumOfDivisors_40 : decode cX10_sumOfDivisors 40 = .ok (.istore_n 2, 1) := by decide +kernel
theorem dX10_sumOfDivisors_41 : decode cX10_sumOfDivisors 41 = .ok (.iload 4, 2) := by decide +kernel
theorem dX10_sumOfDivisors_43 : decode cX10_sumOfDivisors 43 = .ok (.iload_n 3, 1) := by decide +kernel
theorem dX10_sumOfDivisors_44 : decode cX10_sumOfDivisors 44 = .ok (.if_icmp .eq 15, 3) := by decide +kernel
theorem dX10_sumOfDivisors_47 : decode cX10_sumOfDivisors 47 = .ok (.iload 4, 2) := by decide +kernel
theorem dX10_sumOfDivisors_49 : decode cX10_sumOfDivisors 49 = .ok (.iload_n 1, 1) := by decide +kernel
theorem dX10_sumOfDivisors_50 : decode cX10_sumOfDivisors 50 = .ok (.irem, 1) := by decide +kernel
theorem dX10_sumOfDivisors_51 : decode cX10_sumOfDivisors 51 = .ok (.ifCond .eq 8, 3) := by decide +kernel
theorem dX10_sumOfDivisors_54 : decode cX10_sumOfDivisors 54 = .ok (.iload_n 2, 1) := by decide +kernel
theorem dX10_sumOfDivisors_55 : decode cX10_sumOfDivisors 55 = .ok (.iload 4, 2) := by decide +kernel
theorem dX10_sumOfDivisors_57 : decode cX10_sumOfDivisors 57 = .ok (.iadd, 1) := by decide +kernel
theorem dX10_sumOfDivisors_58 : decode cX10_sumOfDivisors 58 = .ok (.istore_n 2, 1) := by decide +kernel
theorem dX10_sumOfDivisors_59 : decode cX10_sumOfDivisors 59 = .ok (.iinc 3 1, 3) := by decide +kernel
theorem dX10_sumOfDivisors_62 : decode cX10_sumOfDivisors 62 = .ok (.goto (-52), 3) := by decide +kernel
theorem dX10_sumOfDivisors_65 : decode cX10_sumOfDivisors 65 = .ok (.iload_n 2, 1) := by decide +kernel
theorem dX10_sumOfDivisors_66 : decode cX10_sumOfDivisors 66 = .ok (.ireturn, 1) := by decide +kernel
theorem dX11_init_0 : decode cX11_init 0 = .ok (.aload_n 0, 1) := by decide +kernel
theorem dX11_init_1 : decode cX11_init 1 = .ok (.invokespecial 1, 3) := by decide +kernel
theorem dX11_init_4 : decode cX11_init 4 = .ok (.aload_n 0, 1) := by decide +kernel
theorem dX11_init_5 : decode cX11_init 5 = .ok (.bipush 20, 2) := by decide +kernel
theorem dX11_init_7 : decode cX11_init 7 = .ok (.newarray .boolean, 2) := by decide +kernel
theorem dX11_init_9 : decode cX11_init 9 = .ok (.putfield 7, 3) := by decide +kernel
theorem dX11_init_12 : decode cX11_init 12 = .ok (.aload_n 0, 1) := by decide +kernel
theorem dX11_init_13 : decode cX11_init 13 = .ok (.bipush 80, 2) := by decide +kernel
theorem dX11_init_15 : decode cX11_init 15 = .ok (.newarray .long, 2) := by decide +kernel
theorem dX11_init_17 : decode cX11_init 17 = .ok (.putfield 13, 3) := by decide +kernel
theorem dX11_init_20 : decode cX11_init 20 = .ok (.aload_n 0, 1) := by decide +kernel
theorem dX11_init_21 : decode cX11_init 21 = .ok (.bipush 8, 2) := by decide +kernel
theorem dX11_init_23 : decode cX11_init 23 = .ok (.newarray .int, 2) := by decide +kernel
theorem dX11_init_25 : decode cX11_init 25 = .ok (.putfield 17, 3) := by decide +kernel
theorem dX11_init_28 : decode cX11_init 28 = .ok (.aload_n 0, 1) := by decide +kernel
theorem dX11_init_29 : decode cX11_init 29 = .ok (.bipush 8, 2) := by decide +kernel
theorem dX11_init_31 : decode cX11_init 31 = .ok (.newarray .int, 2) := by decide +kernel
theorem dX11_init_33 : decode cX11_init 33 = .ok (.putfield 21, 3) := by decide +kernel
theorem dX11_init_36 : decode cX11_init 36 = .ok (.aload_n 0, 1) := by decide +kernel
theorem dX11_init_37 : decode cX11_init 37 = .ok (.sipush 800, 3) := by decide +kernel
theorem dX11_init_40 : decode cX11_init 40 = .ok (.newarray .long, 2) := by decide +kernel
theorem dX11_init_42 : decode cX11_init 42 = .ok (.putfield 24, 3) := by decide +kernel
theorem dX11_init_45 : decode cX11_init 45 = .ok (.aload_n 0, 1) := by decide +kernel
theorem dX11_init_46 : decode cX11_init 46 = .ok (.bipush 100, 2) := by decide +kernel
theorem dX11_init_48 : decode cX11_init 48 = .ok (.newarray .long, 2) := by decide +kernel
theorem dX11_init_50 : decode cX11_init 50 = .ok (.putfield 27, 3) := by decide +kernel
theorem dX11_init_53 : decode cX11_init 53 = .ok (.aload_n 0, 1) := by decide +kernel
theorem dX11_init_54 : decode cX11_init 54 = .ok (.bipush 16, 2) := by decide +kernel
theorem dX11_init_56 : decode cX11_init 56 = .ok (.newarray .int, 2) := by decide +kernel
theorem dX11_init_58 : decode cX11_init 58 = .ok (.putfield 30, 3) := by decide +kernel
theorem dX11_init_61 : decode cX11_init 61 = .ok (.aload_n 0, 1) := by decide +kernel
theorem dX11_init_62 : decode cX11_init 62 = .ok (.bipush 80, 2) := by decide +kernel
theorem dX11_init_64 : decode cX11_init 64 = .ok (.newarray .long, 2) := by decide +kernel
theorem dX11_init_66 : decode cX11_init 66 = .ok (.putfield 33, 3) := by decide +kernel
theorem dX11_init_69 : decode cX11_init 69 = .ok (.aload_n 0, 1) := by decide +kernel
theorem dX11_init_70 : decode cX11_init 70 = .ok (.bipush 9, 2) := by decide +kernel
theorem dX11_init_72 : decode cX11_init 72 = .ok (.newarray .long, 2) := by decide +kernel
theorem dX11_init_74 : decode cX11_init 74 = .ok (.putfield 36, 3) := by decide +kernel
theorem dX11_init_77 : decode cX11_init 77 = .ok (.return_, 1) := by decide +kernel
theorem dX11_in_0 : decode cX11_in 0 = .ok (.lload_n 0, 1) := by decide +kernel
theorem dX11_in_1 : decode cX11_in 1 = .ok (.lload_n 2, 1) := by decide +kernel
theorem dX11_in_2 : decode cX11_in 2 = .ok (.lcmp, 1) := by decide +kernel
theorem dX11_in_3 : decode cX11_in 3 = .ok (.ifCond .lt 14, 3) := by decide +kernel
theorem dX11_in_6 : decode cX11_in 6 = .ok (.lload_n 0, 1) := by decide +kernel
theorem dX11_in_7 : decode cX11_in 7 = .ok (.lload 4, 2) := by decide +kernel
theorem dX11_in_9 : decode cX11_in 9 = .ok (.lcmp, 1) := by decide +kernel
theorem dX11_in_10 : decode cX11_in 10 = .ok (.ifCond .gt 7, 3) := by decide +kernel
theorem dX11_in_13 : decode cX11_in 13 = .ok (.iconst 1, 1) := by decide +kernel
theorem dX11_in_14 : decode cX11_in 14 = .ok (.goto 4, 3) := by decide +kernel
theorem dX11_in_17 : decode cX11_in 17 = .ok (.iconst 0, 1) := by decide +kernel
theorem dX11_in_18 : decode cX11_in 18 = .ok (.ireturn, 1) := by decide +kernel
theorem dX11_finds_0 : decode cX11_finds 0 = .ok (.aload_n 0, 1) := by decide +kernel
theorem dX11_finds_1 : decode cX11_finds 1 = .ok (.iload_n 1, 1) := by decide +kernel
theorem dX11_finds_2 : decode cX11_finds 2 = .ok (.putfield 39, 3) := by decide +kernel
theorem dX11_finds_5 : decode cX11_finds 5 = .ok (.ldc 43, 2) := by decide +kernel
theorem dX11_finds_7 : decode cX11_finds 7 = .ok (.iload_n 1, 1) := by decide +kernel
theorem dX11_finds_8 : decode cX11_finds 8 = .ok (.isub, 1) := by decide +kernel
theorem dX11_finds_9 : decode cX11_finds 9 = .ok (.ireturn, 1) := by decide +kernel
theorem dX11_well_0 : decode cX11_well 0 = .ok (.aload_n 0, 1) := by decide +kernel
theorem dX11_well_1 : decode cX11_well 1 = .ok (.iconst 0, 1) := by decide +kernel
theorem dX11_well_2 : decode cX11_well 2 = .ok (.putfield 39, 3) := by decide +kernel
theorem dX11_well_5 : decode cX11_well 5 = .ok (.iload_n 1, 1) := by decide +kernel
theorem dX11_well_6 : decode cX11_well 6 = .ok (.ireturn, 1) := by decide +kernel
theorem dX11_isTray_0 : decode cX11_isTray 0 = .ok (.iload_n 0, 1) := by decide +kernel
theorem dX11_isTray_1 : decode cX11_isTray 1 = .ok (.i2l, 1) := by decide +kernel
theorem dX11_isTray_2 : decode cX11_isTray 2 = .ok (.lconst 0, 1) := by decide +kernel
theorem dX11_isTray_3 : decode cX11_isTray 3 = .ok (.ldc2_w 44, 3) := by decide +kernel
theorem dX11_isTray_6 : decode cX11_isTray 6 = .ok (.invokestatic 46, 3) := by decide +kernel
theorem dX11_isTray_9 : decode cX11_isTray 9 = .ok (.ireturn, 1) := by decide +kernel
theorem dX11_tray_0 : decode cX11_tray 0 = .ok (.iload_n 1, 1) := by decide +kernel
theorem dX11_tray_1 : decode cX11_tray 1 = .ok (.invokestatic 50, 3) := by decide +kernel
theorem dX11_tray_4 : decode cX11_tray 4 = .ok (.ifCond .eq 21, 3) := by decide +kernel
theorem dX11_tray_7 : decode cX11_tray 7 = .ok (.iload_n 2, 1) := by decide +kernel
theorem dX11_tray_8 : decode cX11_tray 8 = .ok (.i2l, 1) := by decide +kernel
theorem dX11_tray_9 : decode cX11_tray 9 = .ok (.lconst 0, 1) := by decide +kernel
theorem dX11_tray_10 : decode cX11_tray 10 = .ok (.ldc2_w 54, 3) := by decide +kernel
theorem dX11_tray_13 : decode cX11_tray 13 = .ok (.invokestatic 46, 3) := by decide +kernel
theorem dX11_tray_16 : decode cX11_tray 16 = .ok (.ifCond .eq 9, 3) := by decide +kernel
theorem dX11_tray_19 : decode cX11_tray 19 = .ok (.iload_n 3, 1) := by decide +kernel
theorem dX11_tray_20 : decode cX11_tray 20 = .ok (.bipush 100, 2) := by decide +kernel
theorem dX11_tray_22 : decode cX11_tray 22 = .ok (.if_icmp .le 6, 3) := by decide +kernel
theorem dX11_tray_25 : decode cX11_tray 25 = .ok (.ldc 56, 2) := by decide +kernel
theorem dX11_tray_27 : decode cX11_tray 27 = .ok (.ireturn, 1) := by decide +kernel
theorem dX11_tray_28 : decode cX11_tray 28 = .ok (.iload_n 3, 1) := by decide +kernel
theorem dX11_tray_29 : decode cX11_tray 29 = .ok (.ifCond .ge 9, 3) := by decide +kernel
theorem dX11_tray_32 : decode cX11_tray 32 = .ok (.aload_n 0, 1) := by decide +kernel
theorem dX11_tray_33 : decode cX11_tray 33 = .ok (.iconst 4, 1) := by decide +kernel
theorem dX11_tray_34 : decode cX11_tray 34 = .ok (.invokevirtual 57, 3) := by decide +kernel
theorem dX11_tray_37 : decode cX11_tray 37 = .ok (.ireturn, 1) := by decide +kernel
theorem dX11_tray_38 : decode cX11_tray 38 = .ok (.aload_n 0, 1) := by decide +kernel
theorem dX11_tray_39 : decode cX11_tray 39 = .ok (.getfield 17, 3) := by decide +kernel
theorem dX11_tray_42 : decode cX11_tray 42 = .ok (.iload_n 1, 1) := by decide +kernel
theorem dX11_tray_43 : decode cX11_tray 43 = .ok (.iload_n 2, 1) := by decide +kernel
theorem dX11_tray_44 : decode cX11_tray 44 = .ok (.iconst 1, 1) := by decide +kernel
theorem dX11_tray_45 : decode cX11_tray 45 = .ok (.iadd, 1) := by decide +kernel
theorem dX11_tray_46 : decode cX11_tray 46 = .ok (.iastore, 1) := by decide +kernel
theorem dX11_tray_47 : decode cX11_tray 47 = .ok (.aload_n 0, 1) := by decide +kernel
theorem dX11_tray_48 : decode cX11_tray 48 = .ok (.getfield 21, 3) := by decide +kernel
theorem dX11_tray_51 : decode cX11_tray 51 = .ok (.iload_n 1, 1) := by decide +kernel
theorem dX11_tray_52 : decode cX11_tray 52 = .ok (.iload_n 3, 1) := by decide +kernel
theorem dX11_tray_53 : decode cX11_tray 53 = .ok (.iastore, 1) := by decide +kernel
theorem dX11_tray_54 : decode cX11_tray 54 = .ok (.iconst 0, 1) := by decide +kernel
theorem dX11_tray_55 : decode cX11_tray 55 = .ok (.istore 4, 2) := by decide +kernel
theorem dX11_tray_57 : decode cX11_tray 57 = .ok (.iload 4, 2) := by decide +kernel
theorem dX11_tray_59 : decode cX11_tray 59 = .ok (.iload_n 3, 1) := by decide +kernel
theorem dX11_tray_60 : decode cX11_tray 60 = .ok (.if_icmp .ge 22, 3) := by decide +kernel
theorem dX11_tray_63 : decode cX11_tray 63 = .ok (.aload_n 0, 1) := by decide +kernel
theorem dX11_tray_64 : decode cX11_tray 64 = .ok (.getfield 24, 3) := by decide +kernel
theorem dX11_tray_67 : decode cX11_tray 67 = .ok (.bipush 100, 2) := by decide +kernel
theorem dX11_tray_69 : decode cX11_tray 69 = .ok (.iload_n 1, 1) := by decide +kernel
theorem dX11_tray_70 : decode cX11_tray 70 = .ok (.imul, 1) := by decide +kernel
theorem dX11_tray_71 : decode cX11_tray 71 = .ok (.iload 4, 2) := by decide +kernel
theorem dX11_tray_73 : decode cX11_tray 73 = .ok (.iadd, 1) := by decide +kernel
theorem dX11_tray_74 : decode cX11_tray 74 = .ok (.lconst 0, 1) := by decide +kernel
theorem dX11_tray_75 : decode cX11_tray 75 = .ok (.lastore, 1) := by decide +kernel
theorem dX11_tray_76 : decode cX11_tray 76 = .ok (.iinc 4 1, 3) := by decide +kernel
theorem dX11_tray_79 : decode cX11_tray 79 = .ok (.goto (-22), 3) := by decide +kernel
theorem dX11_tray_82 : decode cX11_tray 82 = .ok (.aload_n 0, 1) := by decide +kernel
theorem dX11_tray_83 : decode cX11_tray 83 = .ok (.iload_n 3, 1) := by decide +kernel
theorem dX11_tray_84 : decode cX11_tray 84 = .ok (.invokevirtual 61, 3) := by decide +kernel
theorem dX11_tray_87 : decode cX11_tray 87 = .ok (.ireturn, 1) := by decide +kernel
theorem dX11_set_0 : decode cX11_set 0 = .ok (.iload_n 1, 1) := by decide +kernel
theorem dX11_set_1 : decode cX11_set 1 = .ok (.invokestatic 50, 3) := by decide +kernel
theorem dX11_set_4 : decode cX11_set 4 = .ok (.ifCond .ne 7, 3) := by decide +kernel
theorem dX11_set_7 : decode cX11_set 7 = .ok (.ldc2_w 64, 3) := by decide +kernel
theorem dX11_set_10 : decode cX11_set 10 = .ok (.lreturn, 1) := by decide +kernel
theorem dX11_set_11 : decode cX11_set 11 = .ok (.aload_n 0, 1) := by decide +kernel
theorem dX11_set_12 : decode cX11_set 12 = .ok (.getfield 17, 3) := by decide +kernel
theorem dX11_set_15 : decode cX11_set 15 = .ok (.iload_n 1, 1) := by decide +kernel
theorem dX11_set_16 : decode cX11_set 16 = .ok (.iaload, 1) := by decide +kernel
theorem dX11_set_17 : decode cX11_set 17 = .ok (.ifCond .ne 10, 3) := by decide +kernel
theorem dX11_set_20 : decode cX11_set 20 = .ok (.aload_n 0, 1) := by decide +kernel
theorem dX11_set_21 : decode cX11_set 21 = .ok (.iconst 1, 1) := by decide +kernel
theorem dX11_set_22 : decode cX11_set 22 = .ok (.invokevirtual 57, 3) := by decide +kernel
theorem dX11_set_25 : decode cX11_set 25 = .ok (.i2l, 1) := by decide +kernel
theorem dX11_set_26 : decode cX11_set 26 = .ok (.lreturn, 1) := by decide +kernel
theorem dX11_set_27 : decode cX11_set 27 = .ok (.iload_n 2, 1) := by decide +kernel
theorem dX11_set_28 : decode cX11_set 28 = .ok (.i2l, 1) := by decide +kernel
theorem dX11_set_29 : decode cX11_set 29 = .ok (.lconst 0, 1) := by decide +kernel
theorem dX11_set_30 : decode cX11_set 30 = .ok (.aload_n 0, 1) := by decide +kernel
theorem dX11_set_31 : decode cX11_set 31 = .ok (.getfield 21, 3) := by decide +kernel
theorem dX11_set_34 : decode cX11_set 34 = .ok (.iload_n 1, 1) := by decide +kernel
theorem dX11_set_35 : decode cX11_set 35 = .ok (.iaload, 1) := by decide +kernel
theorem dX11_set_36 : decode cX11_set 36 = .ok (.iconst 1, 1) := by decide +kernel
theorem dX11_set_37 : decode cX11_set 37 = .ok (.isub, 1) := by decide +kernel
theorem dX11_set_38 : decode cX11_set 38 = .ok (.i2l, 1) := by decide +kernel
theorem dX11_set_39 : decode cX11_set 39 = .ok (.invokestatic 46, 3) := by decide +kernel
theorem dX11_set_42 : decode cX11_set 42 = .ok (.ifCond .ne 10, 3) := by decide +kernel
theorem dX11_set_45 : decode cX11_set 45 = .ok (.aload_n 0, 1) := by decide +kernel
theorem dX11_set_46 : decode cX11_set 46 = .ok (.iconst 2, 1) := by decide +kernel
theorem dX11_set_47 : decode cX11_set 47 = .ok (.invokevirtual 57, 3) := by decide +kernel
theorem dX11_set_50 : decode cX11_set 50 = .ok (.i2l, 1) := by decide +kernel
theorem dX11_set_51 : decode cX11_set 51 = .ok (.lreturn, 1) := by decide +kernel
theorem dX11_set_52 : decode cX11_set 52 = .ok (.aload_n 0, 1) := by decide +kernel
theorem dX11_set_53 : decode cX11_set 53 = .ok (.getfield 17, 3) := by decide +kernel
theorem dX11_set_56 : decode cX11_set 56 = .ok (.iload_n 1, 1) := by decide +kernel
theorem dX11_set_57 : decode cX11_set 57 = .ok (.iaload, 1) := by decide +kernel
theorem dX11_set_58 : decode cX11_set 58 = .ok (.iconst 1, 1) := by decide +kernel
theorem dX11_set_59 : decode cX11_set 59 = .ok (.if_icmp .ne 10, 3) := by decide +kernel
theorem dX11_set_62 : decode cX11_set 62 = .ok (.lload_n 3, 1) := by decide +kernel
theorem dX11_set_63 : decode cX11_set 63 = .ok (.l2i, 1) := by decide +kernel
theorem dX11_set_64 : decode cX11_set 64 = .ok (.i2b, 1) := by decide +kernel
theorem dX11_set_65 : decode cX11_set 65 = .ok (.i2l, 1) := by decide +kernel
theorem dX11_set_66 : decode cX11_set 66 = .ok (.goto 20, 3) := by decide +kernel
theorem dX11_set_69 : decode cX11_set 69 = .ok (.aload_n 0, 1) := by decide +kernel
theorem dX11_set_70 : decode cX11_set 70 = .ok (.getfield 17, 3) := by decide +kernel
theorem dX11_set_73 : decode cX11_set 73 = .ok (.iload_n 1, 1) := by decide +kernel
theorem dX11_set_74 : decode cX11_set 74 = .ok (.iaload, 1) := by decide +kernel
theorem dX11_set_75 : decode cX11_set 75 = .ok (.iconst 2, 1) := by decide +kernel
theorem dX11_set_76 : decode cX11_set 76 = .ok (.if_icmp .ne 9, 3) := by decide +kernel
theorem dX11_set_79 : decode cX11_set 79 = .ok (.lload_n 3, 1) := by decide +kernel
theorem dX11_set_80 : decode cX11_set 80 = .ok (.l2i, 1) := by decide +kernel
theorem dX11_set_81 : decode cX11_set 81 = .ok (.i2l, 1) := by decide +kernel
theorem dX11_set_82 : decode cX11_set 82 = .ok (.goto 4, 3) := by decide +kernel
theorem dX11_set_85 : decode cX11_set 85 = .ok (.lload_n 3, 1) := by decide +kernel
theorem dX11_set_86 : decode cX11_set 86 = .ok (.lstore 5, 2) := by decide +kernel
theorem dX11_set_88 : decode cX11_set 88 = .ok (.aload_n 0, 1) := by decide +kernel
theorem dX11_set_89 : decode cX11_set 89 = .ok (.getfield 24, 3) := by decide +kernel
theorem dX11_set_92 : decode cX11_set 92 = .ok (.bipush 100, 2) := by decide +kernel
theorem dX11_set_94 : decode cX11_set 94 = .ok (.iload_n 1, 1) := by decide +kernel
theorem dX11_set_95 : decode cX11_set 95 = .ok (.imul, 1) := by decide +kernel
theorem dX11_set_96 : decode cX11_set 96 = .ok (.iload_n 2, 1) := by decide +kernel
theorem dX11_set_97 : decode cX11_set 97 = .ok (.iadd, 1) := by decide +kernel
theorem dX11_set_98 : decode cX11_set 98 = .ok (.lload 5, 2) := by decide +kernel
theorem dX11_set_100 : decode cX11_set 100 = .ok (.lastore, 1) := by decide +kernel
theorem dX11_set_101 : decode cX11_set 101 = .ok (.aload_n 0, 1) := by decide +kernel
theorem dX11_set_102 : decode cX11_set 102 = .ok (.iconst 0, 1) := by decide +kernel
theorem dX11_set_103 : decode cX11_set 103 = .ok (.putfield 39, 3) := by decide +kernel
theorem dX11_set_106 : decode cX11_set 106 = .ok (.lload 5, 2) := by decide +kernel
theorem dX11_set_108 : decode cX11_set 108 = .ok (.lreturn, 1) := by decide +kernel
theorem dX11_copy_0 : decode cX11_copy 0 = .ok (.iload_n 1, 1) := by decide +kernel
theorem dX11_copy_1 : decode cX11_copy 1 = .ok (.invokestatic 50, 3) := by decide +kernel
theorem dX11_copy_4 : decode cX11_copy 4 = .ok (.ifCond .eq 10, 3) := by decide +kernel
theorem dX11_copy_7 : decode cX11_copy 7 = .ok (.iload_n 3, 1) := by decide +kernel
theorem dX11_copy_8 : decode cX11_copy 8 = .ok (.invokestatic 50, 3) := by decide +kernel
theorem dX11_copy_11 : decode cX11_copy 11 = .ok (.ifCond .ne 6, 3) := by decide +kernel
theorem dX11_copy_14 : decode cX11_copy 14 = .ok (.ldc 56, 2) := by decide +kernel
theorem dX11_copy_16 : decode cX11_copy 16 = .ok (.ireturn, 1) := by decide +kernel
theorem dX11_copy_17 : decode cX11_copy 17 = .ok (.aload_n 0, 1) := by decide +kernel
theorem dX11_copy_18 : decode cX11_copy 18 = .ok (.getfield 17, 3) := by decide +kernel
theorem dX11_copy_21 : decode cX11_copy 21 = .ok (.iload_n 1, 1) := by decide +kernel
theorem dX11_copy_22 : decode cX11_copy 22 = .ok (.iaload, 1) := by decide +kernel
theorem dX11_copy_23 : decode cX11_copy 23 = .ok (.ifCond .eq 12, 3) := by decide +kernel
theorem dX11_copy_26 : decode cX11_copy 26 = .ok (.aload_n 0, 1) := by decide +kernel
theorem dX11_copy_27 : decode cX11_copy 27 = .ok (.getfield 17, 3) := by decide +kernel
theorem dX11_copy_30 : decode cX11_copy 30 = .ok (.iload_n 3, 1) := by decide +kernel
theorem dX11_copy_31 : decode cX11_copy 31 = .ok (.iaload, 1) := by decide +kernel
theorem dX11_copy_32 : decode cX11_copy 32 = .ok (.ifCond .ne 9, 3) := by decide +kernel
theorem dX11_copy_35 : decode cX11_copy 35 = .ok (.aload_n 0, 1) := by decide +kernel
theorem dX11_copy_36 : decode cX11_copy 36 = .ok (.iconst 1, 1) := by decide +kernel
theorem dX11_copy_37 : decode cX11_copy 37 = .ok (.invokevirtual 57, 3) := by decide +kernel
theorem dX11_copy_40 : decode cX11_copy 40 = .ok (.ireturn, 1) := by decide +kernel
theorem dX11_copy_41 : decode cX11_copy 41 = .ok (.aload_n 0, 1) := by decide +kernel
theorem dX11_copy_42 : decode cX11_copy 42 = .ok (.getfield 17, 3) := by decide +kernel
theorem dX11_copy_45 : decode cX11_copy 45 = .ok (.iload_n 1, 1) := by decide +kernel
theorem dX11_copy_46 : decode cX11_copy 46 = .ok (.iaload, 1) := by decide +kernel
theorem dX11_copy_47 : decode cX11_copy 47 = .ok (.aload_n 0, 1) := by decide +kernel
theorem dX11_copy_48 : decode cX11_copy 48 = .ok (.getfield 17, 3) := by decide +kernel
theorem dX11_copy_51 : decode cX11_copy 51 = .ok (.iload_n 3, 1) := by decide +kernel
theorem dX11_copy_52 : decode cX11_copy 52 = .ok (.iaload, 1) := by decide +kernel
theorem dX11_copy_53 : decode cX11_copy 53 = .ok (.if_icmp .eq 9, 3) := by decide +kernel
theorem dX11_copy_56 : decode cX11_copy 56 = .ok (.aload_n 0, 1) := by decide +kernel
theorem dX11_copy_57 : decode cX11_copy 57 = .ok (.iconst 5, 1) := by decide +kernel
theorem dX11_copy_58 : decode cX11_copy 58 = .ok (.invokevirtual 57, 3) := by decide +kernel
theorem dX11_copy_61 : decode cX11_copy 61 = .ok (.ireturn, 1) := by decide +kernel
theorem dX11_copy_62 : decode cX11_copy 62 = .ok (.iload_n 2, 1) := by decide +kernel
theorem dX11_copy_63 : decode cX11_copy 63 = .ok (.ifCond .lt 48, 3) := by decide +kernel
theorem dX11_copy_66 : decode cX11_copy 66 = .ok (.iload 4, 2) := by decide +kernel
theorem dX11_copy_68 : decode cX11_copy 68 = .ok (.ifCond .lt 43, 3) := by decide +kernel
theorem dX11_copy_71 : decode cX11_copy 71 = .ok (.iload 5, 2) := by decide +kernel
theorem dX11_copy_73 : decode cX11_copy 73 = .ok (.ifCond .lt 38, 3) := by decide +kernel
theorem dX11_copy_76 : decode cX11_copy 76 = .ok (.iload_n 2, 1) := by decide +kernel
theorem dX11_copy_77 : decode cX11_copy 77 = .ok (.i2l, 1) := by decide +kernel
theorem dX11_copy_78 : decode cX11_copy 78 = .ok (.iload 5, 2) := by decide +kernel
theorem dX11_copy_80 : decode cX11_copy 80 = .ok (.i2l, 1) := by decide +kernel
theorem dX11_copy_81 : decode cX11_copy 81 = .ok (.ladd, 1) := by decide +kernel
theorem dX11_copy_82 : decode cX11_copy 82 = .ok (.aload_n 0, 1) := by decide +kernel
theorem dX11_copy_83 : decode cX11_copy 83 = .ok (.getfield 21, 3) := by decide +kernel
theorem dX11_copy_86 : decode cX11_copy 86 = .ok (.iload_n 1, 1) := by decide +kernel
theorem dX11_copy_87 : decode cX11_copy 87 = .ok (.iaload, 1) := by decide +kernel
theorem dX11_copy_88 : decode cX11_copy 88 = .ok (.i2l, 1) := by decide +kernel
theorem dX11_copy_89 : decode cX11_copy 89 = .ok (.lcmp, 1) := by decide +kernel
theorem dX11_copy_90 : decode cX11_copy 90 = .ok (.ifCond .gt 21, 3) := by decide +kernel
theorem dX11_copy_93 : decode cX11_copy 93 = .ok (.iload 4, 2) := by decide +kernel
theorem dX11_copy_95 : decode cX11_copy 95 = .ok (.i2l, 1) := by decide +kernel
theorem dX11_copy_96 : decode cX11_copy 96 = .ok (.iload 5, 2) := by decide +kernel
theorem dX11_copy_98 : decode cX11_copy 98 = .ok (.i2l, 1) := by decide +kernel
theorem dX11_copy_99 : decode cX11_copy 99 = .ok (.ladd, 1) := by decide +kernel
theorem dX11_copy_100 : decode cX11_copy 100 = .ok (.aload_n 0, 1) := by decide +kernel
theorem dX11_copy_101 : decode cX11_copy 101 = .ok (.getfield 21, 3) := by decide +kernel
theorem dX11_copy_104 : decode cX11_copy 104 = .ok (.iload_n 3, 1) := by decide +kernel
theorem dX11_copy_105 : decode cX11_copy 105 = .ok (.iaload, 1) := by decide +kernel
theorem dX11_copy_106 : decode cX11_copy 106 = .ok (.i2l, 1) := by decide +kernel
theorem dX11_copy_107 : decode cX11_copy 107 = .ok (.lcmp, 1) := by decide +kernel
theorem dX11_copy_108 : decode cX11_copy 108 = .ok (.ifCond .le 9, 3) := by decide +kernel
theorem dX11_copy_111 : decode cX11_copy 111 = .ok (.aload_n 0, 1) := by decide +kernel
theorem dX11_copy_112 : decode cX11_copy 112 = .ok (.iconst 2, 1) := by decide +kernel
theorem dX11_copy_113 : decode cX11_copy 113 = .ok (.invokevirtual 57, 3) := by decide +kernel
theorem dX11_copy_116 : decode cX11_copy 116 = .ok (.ireturn, 1) := by decide +kernel
theorem dX11_copy_117 : decode cX11_copy 117 = .ok (.iconst 0, 1) := by decide +kernel
theorem dX11_copy_118 : decode cX11_copy 118 = .ok (.istore 6, 2) := by decide +kernel
theorem dX11_copy_120 : decode cX11_copy 120 = .ok (.iload 6, 2) := by decide +kernel
theorem dX11_copy_122 : decode cX11_copy 122 = .ok (.iload 5, 2) := by decide +kernel
theorem dX11_copy_124 : decode cX11_copy 124 = .ok (.if_icmp .ge 30, 3) := by decide +kernel
theorem dX11_copy_127 : decode cX11_copy 127 = .ok (.aload_n 0, 1) := by decide +kernel
theorem dX11_copy_128 : decode cX11_copy 128 = .ok (.getfield 27, 3) := by decide +kernel
theorem dX11_copy_131 : decode cX11_copy 131 = .ok (.iload 6, 2) := by decide +kernel
theorem dX11_copy_133 : decode cX11_copy 133 = .ok (.aload_n 0, 1) := by decide +kernel
theorem dX11_copy_134 : decode cX11_copy 134 = .ok (.getfield 24, 3) := by decide +kernel
theorem dX11_copy_137 : decode cX11_copy 137 = .ok (.bipush 100, 2) := by decide +kernel
theorem dX11_copy_139 : decode cX11_copy 139 = .ok (.iload_n 1, 1) := by decide +kernel
theorem dX11_copy_140 : decode cX11_copy 140 = .ok (.imul, 1) := by decide +kernel
theorem dX11_copy_141 : decode cX11_copy 141 = .ok (.iload_n 2, 1) := by decide +kernel
theorem dX11_copy_142 : decode cX11_copy 142 = .ok (.iadd, 1) := by decide +kernel
theorem dX11_copy_143 : decode cX11_copy 143 = .ok (.iload 6, 2) := by decide +kernel
theorem dX11_copy_145 : decode cX11_copy 145 = .ok (.iadd, 1) := by decide +kernel
theorem dX11_copy_146 : decode cX11_copy 146 = .ok (.laload, 1) := by decide +kernel
theorem dX11_copy_147 : decode cX11_copy 147 = .ok (.lastore, 1) := by decide +kernel
theorem dX11_copy_148 : decode cX11_copy 148 = .ok (.iinc 6 1, 3) := by decide +kernel
theorem dX11_copy_151 : decode cX11_copy 151 = .ok (.goto (-31), 3) := by decide +kernel
theorem dX11_copy_154 : decode cX11_copy 154 = .ok (.iconst 0, 1) := by decide +kernel
theorem dX11_copy_155 : decode cX11_copy 155 = .ok (.istore 6, 2) := by decide +kernel
theorem dX11_copy_157 : decode cX11_copy 157 = .ok (.iload 6, 2) := by decide +kernel
theorem dX11_copy_159 : decode cX11_copy 159 = .ok (.iload 5, 2) := by decide +kernel
theorem dX11_copy_161 : decode cX11_copy 161 = .ok (.if_icmp .ge 31, 3) := by decide +kernel
theorem dX11_copy_164 : decode cX11_copy 164 = .ok (.aload_n 0, 1) := by decide +kernel
theorem dX11_copy_165 : decode cX11_copy 165 = .ok (.getfield 24, 3) := by decide +kernel
theorem dX11_copy_168 : decode cX11_copy 168 = .ok (.bipush 100, 2) := by decide +kernel
theorem dX11_copy_170 : decode cX11_copy 170 = .ok (.iload_n 3, 1) := by decide +kernel
theorem dX11_copy_171 : decode cX11_copy 171 = .ok (.imul, 1) := by decide +kernel
theorem dX11_copy_172 : decode cX11_copy 172 = .ok (.iload 4, 2) := by decide +kernel
theorem dX11_copy_174 : decode cX11_copy 174 = .ok (.iadd, 1) := by decide +kernel
theorem dX11_copy_175 : decode cX11_copy 175 = .ok (.iload 6, 2) := by decide +kernel
theorem dX11_copy_177 : decode cX11_copy 177 = .ok (.iadd, 1) := by decide +kernel
theorem dX11_copy_178 : decode cX11_copy 178 = .ok (.aload_n 0, 1) := by decide +kernel
theorem dX11_copy_179 : decode cX11_copy 179 = .ok (.getfield 27, 3) := by decide +kernel
theorem dX11_copy_182 : decode cX11_copy 182 = .ok (.iload 6, 2) := by decide +kernel
theorem dX11_copy_184 : decode cX11_copy 184 = .ok (.laload, 1) := by decide +kernel
theorem dX11_copy_185 : decode cX11_copy 185 = .ok (.lastore, 1) := by decide +kernel
theorem dX11_copy_186 : decode cX11_copy 186 = .ok (.iinc 6 1, 3) := by decide +kernel
theorem dX11_copy_189 : decode cX11_copy 189 = .ok (.goto (-32), 3) := by decide +kernel
theorem dX11_copy_192 : decode cX11_copy 192 = .ok (.aload_n 0, 1) := by decide +kernel
theorem dX11_copy_193 : decode cX11_copy 193 = .ok (.iload 5, 2) := by decide +kernel
theorem dX11_copy_195 : decode cX11_copy 195 = .ok (.invokevirtual 61, 3) := by decide +kernel
theorem dX11_copy_198 : decode cX11_copy 198 = .ok (.ireturn, 1) := by decide +kernel
theorem dX11_drop_0 : decode cX11_drop 0 = .ok (.iload_n 1, 1) := by decide +kernel
theorem dX11_drop_1 : decode cX11_drop 1 = .ok (.invokestatic 50, 3) := by decide +kernel
theorem dX11_drop_4 : decode cX11_drop 4 = .ok (.ifCond .ne 6, 3) := by decide +kernel
theorem dX11_drop_7 : decode cX11_drop 7 = .ok (.ldc 56, 2) := by decide +kernel
theorem dX11_drop_9 : decode cX11_drop 9 = .ok (.ireturn, 1) := by decide +kernel
theorem dX11_drop_10 : decode cX11_drop 10 = .ok (.aload_n 0, 1) := by decide +kernel
theorem dX11_drop_11 : decode cX11_drop 11 = .ok (.getfield 17, 3) := by decide +kernel
theorem dX11_drop_14 : decode cX11_drop 14 = .ok (.iload_n 1, 1) := by decide +kernel
theorem dX11_drop_15 : decode cX11_drop 15 = .ok (.iaload, 1) := by decide +kernel
theorem dX11_drop_16 : decode cX11_drop 16 = .ok (.ifCond .ne 9, 3) := by decide +kernel
theorem dX11_drop_19 : decode cX11_drop 19 = .ok (.aload_n 0, 1) := by decide +kernel
theorem dX11_drop_20 : decode cX11_drop 20 = .ok (.iconst 1, 1) := by decide +kernel
theorem dX11_drop_21 : decode cX11_drop 21 = .ok (.invokevirtual 57, 3) := by decide +kernel
theorem dX11_drop_24 : decode cX11_drop 24 = .ok (.ireturn, 1) := by decide +kernel
theorem dX11_drop_25 : decode cX11_drop 25 = .ok (.aload_n 0, 1) := by decide +kernel
theorem dX11_drop_26 : decode cX11_drop 26 = .ok (.getfield 17, 3) := by decide +kernel
theorem dX11_drop_29 : decode cX11_drop 29 = .ok (.iload_n 1, 1) := by decide +kernel
theorem dX11_drop_30 : decode cX11_drop 30 = .ok (.iconst 0, 1) := by decide +kernel
theorem dX11_drop_31 : decode cX11_drop 31 = .ok (.iastore, 1) := by decide +kernel
theorem dX11_drop_32 : decode cX11_drop 32 = .ok (.aload_n 0, 1) := by decide +kernel
theorem dX11_drop_33 : decode cX11_drop 33 = .ok (.aload_n 0, 1) := by decide +kernel
theorem dX11_drop_34 : decode cX11_drop 34 = .ok (.getfield 21, 3) := by decide +kernel
theorem dX11_drop_37 : decode cX11_drop 37 = .ok (.iload_n 1, 1) := by decide +kernel
theorem dX11_drop_38 : decode cX11_drop 38 = .ok (.iaload, 1) := by decide +kernel
theorem dX11_drop_39 : decode cX11_drop 39 = .ok (.invokevirtual 61, 3) := by decide +kernel
theorem dX11_drop_42 : decode cX11_drop 42 = .ok (.ireturn, 1) := by decide +kernel
theorem dX11_load_0 : decode cX11_load 0 = .ok (.iconst 0, 1) := by decide +kernel
theorem dX11_load_1 : decode cX11_load 1 = .ok (.istore_n 3, 1) := by decide +kernel
theorem dX11_load_2 : decode cX11_load 2 = .ok (.iload_n 3, 1) := by decide +kernel
theorem dX11_load_3 : decode cX11_load 3 = .ok (.iconst 4, 1) := by decide +kernel
theorem dX11_load_4 : decode cX11_load 4 = .ok (.if_icmp .ge 27, 3) := by decide +kernel
theorem dX11_load_7 : decode cX11_load 7 = .ok (.aload_n 0, 1) := by decide +kernel
theorem dX11_load_8 : decode cX11_load 8 = .ok (.getfield 33, 3) := by decide +kernel
theorem dX11_load_11 : decode cX11_load 11 = .ok (.iload_n 1, 1) := by decide +kernel
theorem dX11_load_12 : decode cX11_load 12 = .ok (.iload_n 3, 1) := by decide +kernel
theorem dX11_load_13 : decode cX11_load 13 = .ok (.iadd, 1) := by decide +kernel
theorem dX11_load_14 : decode cX11_load 14 = .ok (.aload_n 0, 1) := by decide +kernel
theorem dX11_load_15 : decode cX11_load 15 = .ok (.getfield 13, 3) := by decide +kernel
theorem dX11_load_18 : decode cX11_load 18 = .ok (.iconst 4, 1) := by decide +kernel
theorem dX11_load_19 : decode cX11_load 19 = .ok (.iload_n 2, 1) := by decide +kernel
theorem dX11_load_20 : decode cX11_load 20 = .ok (.imul, 1) := by decide +kernel
theorem dX11_load_21 : decode cX11_load 21 = .ok (.iload_n 3, 1) := by decide +kernel
theorem dX11_load_22 : decode cX11_load 22 = .ok (.iadd, 1) := by decide +kernel
theorem dX11_load_23 : decode cX11_load 23 = .ok (.laload, 1) := by decide +kernel
theorem dX11_load_24 : decode cX11_load 24 = .ok (.lastore, 1) := by decide +kernel
theorem dX11_load_25 : decode cX11_load 25 = .ok (.iinc 3 1, 3) := by decide +kernel
theorem dX11_load_28 : decode cX11_load 28 = .ok (.goto (-26), 3) := by decide +kernel
theorem dX11_load_31 : decode cX11_load 31 = .ok (.return_, 1) := by decide +kernel
theorem dX11_copyOf_0 : decode cX11_copyOf 0 = .ok (.iconst 0, 1) := by decide +kernel
theorem dX11_copyOf_1 : decode cX11_copyOf 1 = .ok (.istore_n 3, 1) := by decide +kernel
theorem dX11_copyOf_2 : decode cX11_copyOf 2 = .ok (.iload_n 3, 1) := by decide +kernel
theorem dX11_copyOf_3 : decode cX11_copyOf 3 = .ok (.iconst 4, 1) := by decide +kernel
theorem dX11_copyOf_4 : decode cX11_copyOf 4 = .ok (.if_icmp .ge 25, 3) := by decide +kernel
theorem dX11_copyOf_7 : decode cX11_copyOf 7 = .ok (.aload_n 0, 1) := by decide +kernel
theorem dX11_copyOf_8 : decode cX11_copyOf 8 = .ok (.getfield 33, 3) := by decide +kernel
theorem dX11_copyOf_11 : decode cX11_copyOf 11 = .ok (.iload_n 1, 1) := by decide +kernel
theorem dX11_copyOf_12 : decode cX11_copyOf 12 = .ok (.iload_n 3, 1) := by decide +kernel
theorem dX11_copyOf_13 : decode cX11_copyOf 13 = .ok (.iadd, 1) := by decide +kernel
theorem dX11_copyOf_14 : decode cX11_copyOf 14 = .ok (.aload_n 0, 1) := by decide +kernel
theorem dX11_copyOf_15 : decode cX11_copyOf 15 = .ok (.getfield 33, 3) := by decide +kernel
theorem dX11_copyOf_18 : decode cX11_copyOf 18 = .ok (.iload_n 2, 1) := by decide +kernel
theorem dX11_copyOf_19 : decode cX11_copyOf 19 = .ok (.iload_n 3, 1) := by decide +kernel
theorem dX11_copyOf_20 : decode cX11_copyOf 20 = .ok (.iadd, 1) := by decide +kernel
theorem dX11_copyOf_21 : decode cX11_copyOf 21 = .ok (.laload, 1) := by decide +kernel
theorem dX11_copyOf_22 : decode cX11_copyOf 22 = .ok (.lastore, 1) := by decide +kernel
theorem dX11_copyOf_23 : decode cX11_copyOf 23 = .ok (.iinc 3 1, 3) := by decide +kernel
theorem dX11_copyOf_26 : decode cX11_copyOf 26 = .ok (.goto (-24), 3) := by decide +kernel
theorem dX11_copyOf_29 : decode cX11_copyOf 29 = .ok (.return_, 1) := by decide +kernel
theorem dX11_put_0 : decode cX11_put 0 = .ok (.aload_n 0, 1) := by decide +kernel
theorem dX11_put_1 : decode cX11_put 1 = .ok (.getfield 33, 3) := by decide +kernel
theorem dX11_put_4 : decode cX11_put 4 = .ok (.iload_n 1, 1) := by decide +kernel
theorem dX11_put_5 : decode cX11_put 5 = .ok (.lload_n 2, 1) := by decide +kernel
theorem dX11_put_6 : decode cX11_put 6 = .ok (.lastore, 1) := by decide +kernel
theorem dX11_put_7 : decode cX11_put 7 = .ok (.aload_n 0, 1) := by decide +kernel
theorem dX11_put_8 : decode cX11_put 8 = .ok (.getfield 33, 3) := by decide +kernel
theorem dX11_put_11 : decode cX11_put 11 = .ok (.iload_n 1, 1) := by decide +kernel
theorem dX11_put_12 : decode cX11_put 12 = .ok (.iconst 1, 1) := by decide +kernel
theorem dX11_put_13 : decode cX11_put 13 = .ok (.iadd, 1) := by decide +kernel
theorem dX11_put_14 : decode cX11_put 14 = .ok (.lload 4, 2) := by decide +kernel
theorem dX11_put_16 : decode cX11_put 16 = .ok (.lastore, 1) := by decide +kernel
theorem dX11_put_17 : decode cX11_put 17 = .ok (.aload_n 0, 1) := by decide +kernel
theorem dX11_put_18 : decode cX11_put 18 = .ok (.getfield 33, 3) := by decide +kernel
theorem dX11_put_21 : decode cX11_put 21 = .ok (.iload_n 1, 1) := by decide +kernel
theorem dX11_put_22 : decode cX11_put 22 = .ok (.iconst 2, 1) := by decide +kernel
theorem dX11_put_23 : decode cX11_put 23 = .ok (.iadd, 1) := by decide +kernel
theorem dX11_put_24 : decode cX11_put 24 = .ok (.lload 6, 2) := by decide +kernel
theorem dX11_put_26 : decode cX11_put 26 = .ok (.lastore, 1) := by decide +kernel
theorem dX11_put_27 : decode cX11_put 27 = .ok (.aload_n 0, 1) := by decide +kernel
theorem dX11_put_28 : decode cX11_put 28 = .ok (.getfield 33, 3) := by decide +kernel
theorem dX11_put_31 : decode cX11_put 31 = .ok (.iload_n 1, 1) := by decide +kernel
theorem dX11_put_32 : decode cX11_put 32 = .ok (.iconst 3, 1) := by decide +kernel
theorem dX11_put_33 : decode cX11_put 33 = .ok (.iadd, 1) := by decide +kernel
theorem dX11_put_34 : decode cX11_put 34 = .ok (.lload 8, 2) := by decide +kernel
theorem dX11_put_36 : decode cX11_put 36 = .ok (.lastore, 1) := by decide +kernel
theorem dX11_put_37 : decode cX11_put 37 = .ok (.return_, 1) := by decide +kernel
theorem dX11_hold_0 : decode cX11_hold 0 = .ok (.aload_n 0, 1) := by decide +kernel
theorem dX11_hold_1 : decode cX11_hold 1 = .ok (.getfield 7, 3) := by decide +kernel
theorem dX11_hold_4 : decode cX11_hold 4 = .ok (.iload_n 1, 1) := by decide +kernel
theorem dX11_hold_5 : decode cX11_hold 5 = .ok (.iconst 1, 1) := by decide +kernel
theorem dX11_hold_6 : decode cX11_hold 6 = .ok (.bastore, 1) := by decide +kernel
theorem dX11_hold_7 : decode cX11_hold 7 = .ok (.iconst 0, 1) := by decide +kernel
theorem dX11_hold_8 : decode cX11_hold 8 = .ok (.istore_n 3, 1) := by decide +kernel
theorem dX11_hold_9 : decode cX11_hold 9 = .ok (.iload_n 3, 1) := by decide +kernel
theorem dX11_hold_10 : decode cX11_hold 10 = .ok (.iconst 4, 1) := by decide +kernel
theorem dX11_hold_11 : decode cX11_hold 11 = .ok (.if_icmp .ge 27, 3) := by decide +kernel
theorem dX11_hold_14 : decode cX11_hold 14 = .ok (.aload_n 0, 1) := by decide +kernel
theorem dX11_hold_15 : decode cX11_hold 15 = .ok (.getfield 13, 3) := by decide +kernel
theorem dX11_hold_18 : decode cX11_hold 18 = .ok (.iconst 4, 1) := by decide +kernel
theorem dX11_hold_19 : decode cX11_hold 19 = .ok (.iload_n 1, 1) := by decide +kernel
theorem dX11_hold_20 : decode cX11_hold 20 = .ok (.imul, 1) := by decide +kernel
theorem dX11_hold_21 : decode cX11_hold 21 = .ok (.iload_n 3, 1) := by decide +kernel
theorem dX11_hold_22 : decode cX11_hold 22 = .ok (.iadd, 1) := by decide +kernel
theorem dX11_hold_23 : decode cX11_hold 23 = .ok (.aload_n 0, 1) := by decide +kernel
theorem dX11_hold_24 : decode cX11_hold 24 = .ok (.getfield 33, 3) := by decide +kernel
theorem dX11_hold_27 : decode cX11_hold 27 = .ok (.iload_n 2, 1) := by decide +kernel
theorem dX11_hold_28 : decode cX11_hold 28 = .ok (.iload_n 3, 1) := by decide +kernel
theorem dX11_hold_29 : decode cX11_hold 29 = .ok (.iadd, 1) := by decide +kernel
theorem dX11_hold_30 : decode cX11_hold 30 = .ok (.laload, 1) := by decide +kernel
theorem dX11_hold_31 : decode cX11_hold 31 = .ok (.lastore, 1) := by decide +kernel
theorem dX11_hold_32 : decode cX11_hold 32 = .ok (.iinc 3 1, 3) := by decide +kernel
theorem dX11_hold_35 : decode cX11_hold 35 = .ok (.goto (-26), 3) := by decide +kernel
theorem dX11_hold_38 : decode cX11_hold 38 = .ok (.return_, 1) := by decide +kernel
theorem dX11_norm4_0 : decode cX11_norm4 0 = .ok (.aload_n 0, 1) := by decide +kernel
theorem dX11_norm4_1 : decode cX11_norm4 1 = .ok (.getfield 33, 3) := by decide +kernel
theorem dX11_norm4_4 : decode cX11_norm4 4 = .ok (.iload_n 1, 1) := by decide +kernel
theorem dX11_norm4_5 : decode cX11_norm4 5 = .ok (.laload, 1) := by decide +kernel
theorem dX11_norm4_6 : decode cX11_norm4 6 = .ok (.aload_n 0, 1) := by decide +kernel
theorem dX11_norm4_7 : decode cX11_norm4 7 = .ok (.getfield 33, 3) := by decide +kernel
theorem dX11_norm4_10 : decode cX11_norm4 10 = .ok (.iload_n 1, 1) := by decide +kernel
theorem dX11_norm4_11 : decode cX11_norm4 11 = .ok (.laload, 1) := by decide +kernel
theorem dX11_norm4_12 : decode cX11_norm4 12 = .ok (.lmul, 1) := by decide +kernel
theorem dX11_norm4_13 : decode cX11_norm4 13 = .ok (.aload_n 0, 1) := by decide +kernel
theorem dX11_norm4_14 : decode cX11_norm4 14 = .ok (.getfield 33, 3) := by decide +kernel
theorem dX11_norm4_17 : decode cX11_norm4 17 = .ok (.iload_n 1, 1) := by decide +kernel
theorem dX11_norm4_18 : decode cX11_norm4 18 = .ok (.iconst 1, 1) := by decide +kernel
theorem dX11_norm4_19 : decode cX11_norm4 19 = .ok (.iadd, 1) := by decide +kernel
theorem dX11_norm4_20 : decode cX11_norm4 20 = .ok (.laload, 1) := by decide +kernel
theorem dX11_norm4_21 : decode cX11_norm4 21 = .ok (.aload_n 0, 1) := by decide +kernel
theorem dX11_norm4_22 : decode cX11_norm4 22 = .ok (.getfield 33, 3) := by decide +kernel
theorem dX11_norm4_25 : decode cX11_norm4 25 = .ok (.iload_n 1, 1) := by decide +kernel
theorem dX11_norm4_26 : decode cX11_norm4 26 = .ok (.iconst 1, 1) := by decide +kernel
theorem dX11_norm4_27 : decode cX11_norm4 27 = .ok (.iadd, 1) := by decide +kernel
theorem dX11_norm4_28 : decode cX11_norm4 28 = .ok (.laload, 1) := by decide +kernel
theorem dX11_norm4_29 : decode cX11_norm4 29 = .ok (.lmul, 1) := by decide +kernel
theorem dX11_norm4_30 : decode cX11_norm4 30 = .ok (.ladd, 1) := by decide +kernel
theorem dX11_norm4_31 : decode cX11_norm4 31 = .ok (.aload_n 0, 1) := by decide +kernel
theorem dX11_norm4_32 : decode cX11_norm4 32 = .ok (.getfield 33, 3) := by decide +kernel
theorem dX11_norm4_35 : decode cX11_norm4 35 = .ok (.iload_n 1, 1) := by decide +kernel
theorem dX11_norm4_36 : decode cX11_norm4 36 = .ok (.iconst 2, 1) := by decide +kernel
theorem dX11_norm4_37 : decode cX11_norm4 37 = .ok (.iadd, 1) := by decide +kernel
theorem dX11_norm4_38 : decode cX11_norm4 38 = .ok (.laload, 1) := by decide +kernel
theorem dX11_norm4_39 : decode cX11_norm4 39 = .ok (.aload_n 0, 1) := by decide +kernel
theorem dX11_norm4_40 : decode cX11_norm4 40 = .ok (.getfield 33, 3) := by decide +kernel
theorem dX11_norm4_43 : decode cX11_norm4 43 = .ok (.iload_n 1, 1) := by decide +kernel
theorem dX11_norm4_44 : decode cX11_norm4 44 = .ok (.iconst 2, 1) := by decide +kernel
theorem dX11_norm4_45 : decode cX11_norm4 45 = .ok (.iadd, 1) := by decide +kernel
theorem dX11_norm4_46 : decode cX11_norm4 46 = .ok (.laload, 1) := by decide +kernel
theorem dX11_norm4_47 : decode cX11_norm4 47 = .ok (.lmul, 1) := by decide +kernel
theorem dX11_norm4_48 : decode cX11_norm4 48 = .ok (.ladd, 1) := by decide +kernel
theorem dX11_norm4_49 : decode cX11_norm4 49 = .ok (.aload_n 0, 1) := by decide +kernel
theorem dX11_norm4_50 : decode cX11_norm4 50 = .ok (.getfield 33, 3) := by decide +kernel
theorem dX11_norm4_53 : decode cX11_norm4 53 = .ok (.iload_n 1, 1) := by decide +kernel
theorem dX11_norm4_54 : decode cX11_norm4 54 = .ok (.iconst 3, 1) := by decide +kernel
theorem dX11_norm4_55 : decode cX11_norm4 55 = .ok (.iadd, 1) := by decide +kernel
theorem dX11_norm4_56 : decode cX11_norm4 56 = .ok (.laload, 1) := by decide +kernel
theorem dX11_norm4_57 : decode cX11_norm4 57 = .ok (.aload_n 0, 1) := by decide +kernel
theorem dX11_norm4_58 : decode cX11_norm4 58 = .ok (.getfield 33, 3) := by decide +kernel
theorem dX11_norm4_61 : decode cX11_norm4 61 = .ok (.iload_n 1, 1) := by decide +kernel
theorem dX11_norm4_62 : decode cX11_norm4 62 = .ok (.iconst 3, 1) := by decide +kernel
theorem dX11_norm4_63 : decode cX11_norm4 63 = .ok (.iadd, 1) := by decide +kernel
theorem dX11_norm4_64 : decode cX11_norm4 64 = .ok (.laload, 1) := by decide +kernel
theorem dX11_norm4_65 : decode cX11_norm4 65 = .ok (.lmul, 1) := by decide +kernel
theorem dX11_norm4_66 : decode cX11_norm4 66 = .ok (.ladd, 1) := by decide +kernel
theorem dX11_norm4_67 : decode cX11_norm4 67 = .ok (.ldc2_w 66, 3) := by decide +kernel
theorem dX11_norm4_70 : decode cX11_norm4 70 = .ok (.ldiv, 1) := by decide +kernel
theorem dX11_norm4_71 : decode cX11_norm4 71 = .ok (.lreturn, 1) := by decide +kernel
theorem dX11_isNought_0 : decode cX11_isNought 0 = .ok (.aload_n 0, 1) := by decide +kernel
theorem dX11_isNought_1 : decode cX11_isNought 1 = .ok (.getfield 33, 3) := by decide +kernel
theorem dX11_isNought_4 : decode cX11_isNought 4 = .ok (.iload_n 1, 1) := by decide +kernel
theorem dX11_isNought_5 : decode cX11_isNought 5 = .ok (.laload, 1) := by decide +kernel
theorem dX11_isNought_6 : decode cX11_isNought 6 = .ok (.lconst 0, 1) := by decide +kernel
theorem dX11_isNought_7 : decode cX11_isNought 7 = .ok (.lcmp, 1) := by decide +kernel
theorem dX11_isNought_8 : decode cX11_isNought 8 = .ok (.ifCond .ne 46, 3) := by decide +kernel
theorem dX11_isNought_11 : decode cX11_isNought 11 = .ok (.aload_n 0, 1) := by decide +kernel
theorem dX11_isNought_12 : decode cX11_isNought 12 = .ok (.getfield 33, 3) := by decide +kernel
theorem dX11_isNought_15 : decode cX11_isNought 15 = .ok (.iload_n 1, 1) := by decide +kernel
theorem dX11_isNought_16 : decode cX11_isNought 16 = .ok (.iconst 1, 1) := by decide +kernel
theorem dX11_isNought_17 : decode cX11_isNought 17 = .ok (.iadd, 1) := by decide +kernel
theorem dX11_isNought_18 : decode cX11_isNought 18 = .ok (.laload, 1) := by decide +kernel
theorem dX11_isNought_19 : decode cX11_isNought 19 = .ok (.lconst 0, 1) := by decide +kernel
theorem dX11_isNought_20 : decode cX11_isNought 20 = .ok (.lcmp, 1) := by decide +kernel
theorem dX11_isNought_21 : decode cX11_isNought 21 = .ok (.ifCond .ne 33, 3) := by decide +kernel
theorem dX11_isNought_24 : decode cX11_isNought 24 = .ok (.aload_n 0, 1) := by decide +kernel
theorem dX11_isNought_25 : decode cX11_isNought 25 = .ok (.getfield 33, 3) := by decide +kernel
theorem dX11_isNought_28 : decode cX11_isNought 28 = .ok (.iload_n 1, 1) := by decide +kernel
theorem dX11_isNought_29 : decode cX11_isNought 29 = .ok (.iconst 2, 1) := by decide +kernel
theorem dX11_isNought_30 : decode cX11_isNought 30 = .ok (.iadd, 1) := by decide +kernel
theorem dX11_isNought_31 : decode cX11_isNought 31 = .ok (.laload, 1) := by decide +kernel
theorem dX11_isNought_32 : decode cX11_isNought 32 = .ok (.lconst 0, 1) := by decide +kernel
theorem dX11_isNought_33 : decode cX11_isNought 33 = .ok (.lcmp, 1) := by decide +kernel
theorem dX11_isNought_34 : decode cX11_isNought 34 = .ok (.ifCond .ne 20, 3) := by decide +kernel
theorem dX11_isNought_37 : decode cX11_isNought 37 = .ok (.aload_n 0, 1) := by decide +kernel
theorem dX11_isNought_38 : decode cX11_isNought 38 = .ok (.getfield 33, 3) := by decide +kernel
theorem dX11_isNought_41 : decode cX11_isNought 41 = .ok (.iload_n 1, 1) := by decide +kernel
theorem dX11_isNought_42 : decode cX11_isNought 42 = .ok (.iconst 3, 1) := by decide +kernel
theorem dX11_isNought_43 : decode cX11_isNought 43 = .ok (.iadd, 1) := by decide +kernel
theorem dX11_isNought_44 : decode cX11_isNought 44 = .ok (.laload, 1) := by decide +kernel
theorem dX11_isNought_45 : decode cX11_isNought 45 = .ok (.lconst 0, 1) := by decide +kernel
theorem dX11_isNought_46 : decode cX11_isNought 46 = .ok (.lcmp, 1) := by decide +kernel
theorem dX11_isNought_47 : decode cX11_isNought 47 = .ok (.ifCond .ne 7, 3) := by decide +kernel
theorem dX11_isNought_50 : decode cX11_isNought 50 = .ok (.iconst 1, 1) := by decide +kernel
theorem dX11_isNought_51 : decode cX11_isNought 51 = .ok (.goto 4, 3) := by decide +kernel
theorem dX11_isNought_54 : decode cX11_isNought 54 = .ok (.iconst 0, 1) := by decide +kernel
theorem dX11_isNought_55 : decode cX11_isNought 55 = .ok (.ireturn, 1) := by decide +kernel
theorem dX11_multiply_0 : decode cX11_multiply 0 = .ok (.aload_n 0, 1) := by decide +kernel
theorem dX11_multiply_1 : decode cX11_multiply 1 = .ok (.getfield 33, 3) := by decide +kernel
theorem dX11_multiply_4 : decode cX11_multiply 4 = .ok (.iload_n 2, 1) := by decide +kernel
theorem dX11_multiply_5 : decode cX11_multiply 5 = .ok (.laload, 1) := by decide +kernel
theorem dX11_multiply_6 : decode cX11_multiply 6 = .ok (.aload_n 0, 1) := by decide +kernel
theorem dX11_multiply_7 : decode cX11_multiply 7 = .ok (.getfield 33, 3) := by decide +kernel
theorem dX11_multiply_10 : decode cX11_multiply 10 = .ok (.iload_n 3, 1) := by decide +kernel
theorem dX11_multiply_11 : decode cX11_multiply 11 = .ok (.laload, 1) := by decide +kernel
theorem dX11_multiply_12 : decode cX11_multiply 12 = .ok (.lmul, 1) := by decide +kernel
theorem dX11_multiply_13 : decode cX11_multiply 13 = .ok (.aload_n 0, 1) := by decide +kernel
theorem dX11_multiply_14 : decode cX11_multiply 14 = .ok (.getfield 33, 3) := by decide +kernel
theorem dX11_multiply_17 : decode cX11_multiply 17 = .ok (.iload_n 2, 1) := by decide +kernel
theorem dX11_multiply_18 : decode cX11_multiply 18 = .ok (.iconst 1, 1) := by decide +kernel
theorem dX11_multiply_19 : decode cX11_multiply 19 = .ok (.iadd, 1) := by decide +kernel
theorem dX11_multiply_20 : decode cX11_multiply 20 = .ok (.laload, 1) := by decide +kernel
theorem dX11_multiply_21 : decode cX11_multiply 21 = .ok (.aload_n 0, 1) := by decide +kernel
theorem dX11_multiply_22 : decode cX11_multiply 22 = .ok (.getfield 33, 3) := by decide +kernel
theorem dX11_multiply_25 : decode cX11_multiply 25 = .ok (.iload_n 3, 1) := by decide +kernel
theorem dX11_multiply_26 : decode cX11_multiply 26 = .ok (.iconst 1, 1) := by decide +kernel
theorem dX11_multiply_27 : decode cX11_multiply 27 = .ok (.iadd, 1) := by decide +kernel
theorem dX11_multiply_28 : decode cX11_multiply 28 = .ok (.laload, 1) := by decide +kernel
theorem dX11_multiply_29 : decode cX11_multiply 29 = .ok (.lmul, 1) := by decide +kernel
theorem dX11_multiply_30 : decode cX11_multiply 30 = .ok (.lsub, 1) := by decide +kernel
theorem dX11_multiply_31 : decode cX11_multiply 31 = .ok (.aload_n 0, 1) := by decide +kernel
theorem dX11_multiply_32 : decode cX11_multiply 32 = .ok (.getfield 33, 3) := by decide +kernel
theorem dX11_multiply_35 : decode cX11_multiply 35 = .ok (.iload_n 2, 1) := by decide +kernel
theorem dX11_multiply_36 : decode cX11_multiply 36 = .ok (.iconst 2, 1) := by decide +kernel
theorem dX11_multiply_37 : decode cX11_multiply 37 = .ok (.iadd, 1) := by decide +kernel
theorem dX11_multiply_38 : decode cX11_multiply 38 = .ok (.laload, 1) := by decide +kernel
theorem dX11_multiply_39 : decode cX11_multiply 39 = .ok (.aload_n 0, 1) := by decide +kernel
theorem dX11_multiply_40 : decode cX11_multiply 40 = .ok (.getfield 33, 3) := by decide +kernel
theorem dX11_multiply_43 : decode cX11_multiply 43 = .ok (.iload_n 3, 1) := by decide +kernel
theorem dX11_multiply_44 : decode cX11_multiply 44 = .ok (.iconst 2, 1) := by decide +kernel
theorem dX11_multiply_45 : decode cX11_multiply 45 = .ok (.iadd, 1) := by decide +kernel
theorem dX11_multiply_46 : decode cX11_multiply 46 = .ok (.laload, 1) := by decide +kernel
theorem dX11_multiply_47 : decode cX11_multiply 47 = .ok (.lmul, 1) := by decide +kernel
theorem dX11_multiply_48 : decode cX11_multiply 48 = .ok (.lsub, 1) := by decide +kernel
theorem dX11_multiply_49 : decode cX11_multiply 49 = .ok (.aload_n 0, 1) := by decide +kernel
theorem dX11_multiply_50 : decode cX11_multiply 50 = .ok (.getfield 33, 3) := by decide +kernel
theorem dX11_multiply_53 : decode cX11_multiply 53 = .ok (.iload_n 2, 1) := by decide +kernel
theorem dX11_multiply_54 : decode cX11_multiply 54 = .ok (.iconst 3, 1) := by decide +kernel
theorem dX11_multiply_55 : decode cX11_multiply 55 = .ok (.iadd, 1) := by decide +kernel
theorem dX11_multiply_56 : decode cX11_multiply 56 = .ok (.laload, 1) := by decide +kernel
theorem dX11_multiply_57 : decode cX11_multiply 57 = .ok (.aload_n 0, 1) := by decide +kernel
theorem dX11_multiply_58 : decode cX11_multiply 58 = .ok (.getfield 33, 3) := by decide +kernel
theorem dX11_multiply_61 : decode cX11_multiply 61 = .ok (.iload_n 3, 1) := by decide +kernel
theorem dX11_multiply_62 : decode cX11_multiply 62 = .ok (.iconst 3, 1) := by decide +kernel
theorem dX11_multiply_63 : decode cX11_multiply 63 = .ok (.iadd, 1) := by decide +kernel
theorem dX11_multiply_64 : decode cX11_multiply 64 = .ok (.laload, 1) := by decide +kernel
theorem dX11_multiply_65 : decode cX11_multiply 65 = .ok (.lmul, 1) := by decide +kernel
theorem dX11_multiply_66 : decode cX11_multiply 66 = .ok (.lsub, 1) := by decide +kernel
theorem dX11_multiply_67 : decode cX11_multiply 67 = .ok (.lstore 4, 2) := by decide +kernel
theorem dX11_multiply_69 : decode cX11_multiply 69 = .ok (.aload_n 0, 1) := by decide +kernel
theorem dX11_multiply_70 : decode cX11_multiply 70 = .ok (.getfield 33, 3) := by decide +kernel
theorem dX11_multiply_73 : decode cX11_multiply 73 = .ok (.iload_n 2, 1) := by decide +kernel
theorem dX11_multiply_74 : decode cX11_multiply 74 = .ok (.laload, 1) := by decide +kernel
theorem dX11_multiply_75 : decode cX11_multiply 75 = .ok (.aload_n 0, 1) := by decide +kernel
theorem dX11_multiply_76 : decode cX11_multiply 76 = .ok (.getfield 33, 3) := by decide +kernel
theorem dX11_multiply_79 : decode cX11_multiply 79 = .ok (.iload_n 3, 1) := by decide +kernel
theorem dX11_multiply_80 : decode cX11_multiply 80 = .ok (.iconst 1, 1) := by decide +kernel
theorem dX11_multiply_81 : decode cX11_multiply 81 = .ok (.iadd, 1) := by decide +kernel
theorem dX11_multiply_82 : decode cX11_multiply 82 = .ok (.laload, 1) := by decide +kernel
theorem dX11_multiply_83 : decode cX11_multiply 83 = .ok (.lmul, 1) := by decide +kernel
theorem dX11_multiply_84 : decode cX11_multiply 84 = .ok (.aload_n 0, 1) := by decide +kernel
theorem dX11_multiply_85 : decode cX11_multiply 85 = .ok (.getfield 33, 3) := by decide +kernel
theorem dX11_multiply_88 : decode cX11_multiply 88 = .ok (.iload_n 2, 1) := by decide +kernel
theorem dX11_multiply_89 : decode cX11_multiply 89 = .ok (.iconst 1, 1) := by decide +kernel
theorem dX11_multiply_90 : decode cX11_multiply 90 = .ok (.iadd, 1) := by decide +kernel
theorem dX11_multiply_91 : decode cX11_multiply 91 = .ok (.laload, 1) := by decide +kernel
theorem dX11_multiply_92 : decode cX11_multiply 92 = .ok (.aload_n 0, 1) := by decide +kernel
theorem dX11_multiply_93 : decode cX11_multiply 93 = .ok (.getfield 33, 3) := by decide +kernel
theorem dX11_multiply_96 : decode cX11_multiply 96 = .ok (.iload_n 3, 1) := by decide +kernel
theorem dX11_multiply_97 : decode cX11_multiply 97 = .ok (.laload, 1) := by decide +kernel
theorem dX11_multiply_98 : decode cX11_multiply 98 = .ok (.lmul, 1) := by decide +kernel
theorem dX11_multiply_99 : decode cX11_multiply 99 = .ok (.ladd, 1) := by decide +kernel
theorem dX11_multiply_100 : decode cX11_multiply 100 = .ok (.aload_n 0, 1) := by decide +kernel
theorem dX11_multiply_101 : decode cX11_multiply 101 = .ok (.getfield 33, 3) := by decide +kernel
theorem dX11_multiply_104 : decode cX11_multiply 104 = .ok (.iload_n 2, 1) := by decide +kernel
theorem dX11_multiply_105 : decode cX11_multiply 105 = .ok (.iconst 2, 1) := by decide +kernel
theorem dX11_multiply_106 : decode cX11_multiply 106 = .ok (.iadd, 1) := by decide +kernel
theorem dX11_multiply_107 : decode cX11_multiply 107 = .ok (.laload, 1) := by decide +kernel
theorem dX11_multiply_108 : decode cX11_multiply 108 = .ok (.aload_n 0, 1) := by decide +kernel
theorem dX11_multiply_109 : decode cX11_multiply 109 = .ok (.getfield 33, 3) := by decide +kernel
theorem dX11_multiply_112 : decode cX11_multiply 112 = .ok (.iload_n 3, 1) := by decide +kernel
theorem dX11_multiply_113 : decode cX11_multiply 113 = .ok (.iconst 3, 1) := by decide +kernel
theorem dX11_multiply_114 : decode cX11_multiply 114 = .ok (.iadd, 1) := by decide +kernel
theorem dX11_multiply_115 : decode cX11_multiply 115 = .ok (.laload, 1) := by decide +kernel
theorem dX11_multiply_116 : decode cX11_multiply 116 = .ok (.lmul, 1) := by decide +kernel
theorem dX11_multiply_117 : decode cX11_multiply 117 = .ok (.ladd, 1) := by decide +kernel
theorem dX11_multiply_118 : decode cX11_multiply 118 = .ok (.aload_n 0, 1) := by decide +kernel
theorem dX11_multiply_119 : decode cX11_multiply 119 = .ok (.getfield 33, 3) := by decide +kernel
theorem dX11_multiply_122 : decode cX11_multiply 122 = .ok (.iload_n 2, 1) := by decide +kernel
theorem dX11_multiply_123 : decode cX11_multiply 123 = .ok (.iconst 3, 1) := by decide +kernel
theorem dX11_multiply_124 : decode cX11_multiply 124 = .ok (.iadd, 1) := by decide +kernel
theorem dX11_multiply_125 : decode cX11_multiply 125 = .ok (.laload, 1) := by decide +kernel
theorem dX11_multiply_126 : decode cX11_multiply 126 = .ok (.aload_n 0, 1) := by decide +kernel
theorem dX11_multiply_127 : decode cX11_multiply 127 = .ok (.getfield 33, 3) := by decide +kernel
theorem dX11_multiply_130 : decode cX11_multiply 130 = .ok (.iload_n 3, 1) := by decide +kernel
theorem dX11_multiply_131 : decode cX11_multiply 131 = .ok (.iconst 2, 1) := by decide +kernel
theorem dX11_multiply_132 : decode cX11_multiply 132 = .ok (.iadd, 1) := by decide +kernel
theorem dX11_multiply_133 : decode cX11_multiply 133 = .ok (.laload, 1) := by decide +kernel
theorem dX11_multiply_134 : decode cX11_multiply 134 = .ok (.lmul, 1) := by decide +kernel
theorem dX11_multiply_135 : decode cX11_multiply 135 = .ok (.lsub, 1) := by decide +kernel
theorem dX11_multiply_136 : decode cX11_multiply 136 = .ok (.lstore 6, 2) := by decide +kernel
theorem dX11_multiply_138 : decode cX11_multiply 138 = .ok (.aload_n 0, 1) := by decide +kernel
theorem dX11_multiply_139 : decode cX11_multiply 139 = .ok (.getfield 33, 3) := by decide +kernel
theorem dX11_multiply_142 : decode cX11_multiply 142 = .ok (.iload_n 2, 1) := by decide +kernel
theorem dX11_multiply_143 : decode cX11_multiply 143 = .ok (.laload, 1) := by decide +kernel
theorem dX11_multiply_144 : decode cX11_multiply 144 = .ok (.aload_n 0, 1) := by decide +kernel
theorem dX11_multiply_145 : decode cX11_multiply 145 = .ok (.getfield 33, 3) := by decide +kernel
theorem dX11_multiply_148 : decode cX11_multiply 148 = .ok (.iload_n 3, 1) := by decide +kernel
theorem dX11_multiply_149 : decode cX11_multiply 149 = .ok (.iconst 2, 1) := by decide +kernel
theorem dX11_multiply_150 : decode cX11_multiply 150 = .ok (.iadd, 1) := by decide +kernel
theorem dX11_multiply_151 : decode cX11_multiply 151 = .ok (.laload, 1) := by decide +kernel
theorem dX11_multiply_152 : decode cX11_multiply 152 = .ok (.lmul, 1) := by decide +kernel
theorem dX11_multiply_153 : decode cX11_multiply 153 = .ok (.aload_n 0, 1) := by decide +kernel
theorem dX11_multiply_154 : decode cX11_multiply 154 = .ok (.getfield 33, 3) := by decide +kernel
theorem dX11_multiply_157 : decode cX11_multiply 157 = .ok (.iload_n 2, 1) := by decide +kernel
theorem dX11_multiply_158 : decode cX11_multiply 158 = .ok (.iconst 1, 1) := by decide +kernel
theorem dX11_multiply_159 : decode cX11_multiply 159 = .ok (.iadd, 1) := by decide +kernel
theorem dX11_multiply_160 : decode cX11_multiply 160 = .ok (.laload, 1) := by decide +kernel
theorem dX11_multiply_161 : decode cX11_multiply 161 = .ok (.aload_n 0, 1) := by decide +kernel
theorem dX11_multiply_162 : decode cX11_multiply 162 = .ok (.getfield 33, 3) := by decide +kernel
theorem dX11_multiply_165 : decode cX11_multiply 165 = .ok (.iload_n 3, 1) := by decide +kernel
theorem dX11_multiply_166 : decode cX11_multiply 166 = .ok (.iconst 3, 1) := by decide +kernel
theorem dX11_multiply_167 : decode cX11_multiply 167 = .ok (.iadd, 1) := by decide +kernel
theorem dX11_multiply_168 : decode cX11_multiply 168 = .ok (.laload, 1) := by decide +kernel
theorem dX11_multiply_169 : decode cX11_multiply 169 = .ok (.lmul, 1) := by decide +kernel
theorem dX11_multiply_170 : decode cX11_multiply 170 = .ok (.lsub, 1) := by decide +kernel
theorem dX11_multiply_171 : decode cX11_multiply 171 = .ok (.aload_n 0, 1) := by decide +kernel
theorem dX11_multiply_172 : decode cX11_multiply 172 = .ok (.getfield 33, 3) := by decide +kernel
theorem dX11_multiply_175 : decode cX11_multiply 175 = .ok (.iload_n 2, 1) := by decide +kernel
theorem dX11_multiply_176 : decode cX11_multiply 176 = .ok (.iconst 2, 1) := by decide +kernel
theorem dX11_multiply_177 : decode cX11_multiply 177 = .ok (.iadd, 1) := by decide +kernel
theorem dX11_multiply_178 : decode cX11_multiply 178 = .ok (.laload, 1) := by decide +kernel
theorem dX11_multiply_179 : decode cX11_multiply 179 = .ok (.aload_n 0, 1) := by decide +kernel
theorem dX11_multiply_180 : decode cX11_multiply 180 = .ok (.getfield 33, 3) := by decide +kernel
theorem dX11_multiply_183 : decode cX11_multiply 183 = .ok (.iload_n 3, 1) := by decide +kernel
theorem dX11_multiply_184 : decode cX11_multiply 184 = .ok (.laload, 1) := by decide +kernel
theorem dX11_multiply_185 : decode cX11_multiply 185 = .ok (.lmul, 1) := by decide +kernel
theorem dX11_multiply_186 : decode cX11_multiply 186 = .ok (.ladd, 1) := by decide +kernel
theorem dX11_multiply_187 : decode cX11_multiply 187 = .ok (.aload_n 0, 1) := by decide +kernel
theorem dX11_multiply_188 : decode cX11_multiply 188 = .ok (.getfield 33, 3) := by decide +kernel
theorem dX11_multiply_191 : decode cX11_multiply 191 = .ok (.iload_n 2, 1) := by decide +kernel
theorem dX11_multiply_192 : decode cX11_multiply 192 = .ok (.iconst 3, 1) := by decide +kernel
theorem dX11_multiply_193 : decode cX11_multiply 193 = .ok (.iadd, 1) := by decide +kernel
theorem dX11_multiply_194 : decode cX11_multiply 194 = .ok (.laload, 1) := by decide +kernel
theorem dX11_multiply_195 : decode cX11_multiply 195 = .ok (.aload_n 0, 1) := by decide +kernel
theorem dX11_multiply_196 : decode cX11_multiply 196 = .ok (.getfield 33, 3) := by decide +kernel
theorem dX11_multiply_199 : decode cX11_multiply 199 = .ok (.iload_n 3, 1) := by decide +kernel
theorem dX11_multiply_200 : decode cX11_multiply 200 = .ok (.iconst 1, 1) := by decide +kernel
theorem dX11_multiply_201 : decode cX11_multiply 201 = .ok (.iadd, 1) := by decide +kernel
theorem dX11_multiply_202 : decode cX11_multiply 202 = .ok (.laload, 1) := by decide +kernel
theorem dX11_multiply_203 : decode cX11_multiply 203 = .ok (.lmul, 1) := by decide +kernel
theorem dX11_multiply_204 : decode cX11_multiply 204 = .ok (.ladd, 1) := by decide +kernel
theorem dX11_multiply_205 : decode cX11_multiply 205 = .ok (.lstore 8, 2) := by decide +kernel
theorem dX11_multiply_207 : decode cX11_multiply 207 = .ok (.aload_n 0, 1) := by decide +kernel
theorem dX11_multiply_208 : decode cX11_multiply 208 = .ok (.getfield 33, 3) := by decide +kernel
theorem dX11_multiply_211 : decode cX11_multiply 211 = .ok (.iload_n 2, 1) := by decide +kernel
theorem dX11_multiply_212 : decode cX11_multiply 212 = .ok (.laload, 1) := by decide +kernel
theorem dX11_multiply_213 : decode cX11_multiply 213 = .ok (.aload_n 0, 1) := by decide +kernel
theorem dX11_multiply_214 : decode cX11_multiply 214 = .ok (.getfield 33, 3) := by decide +kernel
theorem dX11_multiply_217 : decode cX11_multiply 217 = .ok (.iload_n 3, 1) := by decide +kernel
theorem dX11_multiply_218 : decode cX11_multiply 218 = .ok (.iconst 3, 1) := by decide +kernel
theorem dX11_multiply_219 : decode cX11_multiply 219 = .ok (.iadd, 1) := by decide +kernel
theorem dX11_multiply_220 : decode cX11_multiply 220 = .ok (.laload, 1) := by decide +kernel
theorem dX11_multiply_221 : decode cX11_multiply 221 = .ok (.lmul, 1) := by decide +kernel
theorem dX11_multiply_222 : decode cX11_multiply 222 = .ok (.aload_n 0, 1) := by decide +kernel
theorem dX11_multiply_223 : decode cX11_multiply 223 = .ok (.getfield 33, 3) := by decide +kernel
theorem dX11_multiply_226 : decode cX11_multiply 226 = .ok (.iload_n 2, 1) := by decide +kernel
theorem dX11_multiply_227 : decode cX11_multiply 227 = .ok (.iconst 1, 1) := by decide +kernel
theorem dX11_multiply_228 : decode cX11_multiply 228 = .ok (.iadd, 1) := by decide +kernel
theorem dX11_multiply_229 : decode cX11_multiply 229 = .ok (.laload, 1) := by decide +kernel
theorem dX11_multiply_230 : decode cX11_multiply 230 = .ok (.aload_n 0, 1) := by decide +kernel
theorem dX11_multiply_231 : decode cX11_multiply 231 = .ok (.getfield 33, 3) := by decide +kernel
theorem dX11_multiply_234 : decode cX11_multiply 234 = .ok (.iload_n 3, 1) := by decide +kernel
theorem dX11_multiply_235 : decode cX11_multiply 235 = .ok (.iconst 2, 1) := by decide +kernel
theorem dX11_multiply_236 : decode cX11_multiply 236 = .ok (.iadd, 1) := by decide +kernel
theorem dX11_multiply_237 : decode cX11_multiply 237 = .ok (.laload, 1) := by decide +kernel
theorem dX11_multiply_238 : decode cX11_multiply 238 = .ok (.lmul, 1) := by decide +kernel
theorem dX11_multiply_239 : decode cX11_multiply 239 = .ok (.ladd, 1) := by decide +kernel
theorem dX11_multiply_240 : decode cX11_multiply 240 = .ok (.aload_n 0, 1) := by decide +kernel
theorem dX11_multiply_241 : decode cX11_multiply 241 = .ok (.getfield 33, 3) := by decide +kernel
theorem dX11_multiply_244 : decode cX11_multiply 244 = .ok (.iload_n 2, 1) := by decide +kernel
theorem dX11_multiply_245 : decode cX11_multiply 245 = .ok (.iconst 2, 1) := by decide +kernel
theorem dX11_multiply_246 : decode cX11_multiply 246 = .ok (.iadd, 1) := by decide +kernel
theorem dX11_multiply_247 : decode cX11_multiply 247 = .ok (.laload, 1) := by decide +kernel
theorem dX11_multiply_248 : decode cX11_multiply 248 = .ok (.aload_n 0, 1) := by decide +kernel
theorem dX11_multiply_249 : decode cX11_multiply 249 = .ok (.getfield 33, 3) := by decide +kernel
theorem dX11_multiply_252 : decode cX11_multiply 252 = .ok (.iload_n 3, 1) := by decide +kernel
theorem dX11_multiply_253 : decode cX11_multiply 253 = .ok (.iconst 1, 1) := by decide +kernel
theorem dX11_multiply_254 : decode cX11_multiply 254 = .ok (.iadd, 1) := by decide +kernel
theorem dX11_multiply_255 : decode cX11_multiply 255 = .ok (.laload, 1) := by decide +kernel
theorem dX11_multiply_256 : decode cX11_multiply 256 = .ok (.lmul, 1) := by decide +kernel
theorem dX11_multiply_257 : decode cX11_multiply 257 = .ok (.lsub, 1) := by decide +kernel
theorem dX11_multiply_258 : decode cX11_multiply 258 = .ok (.aload_n 0, 1) := by decide +kernel
theorem dX11_multiply_259 : decode cX11_multiply 259 = .ok (.getfield 33, 3) := by decide +kernel
theorem dX11_multiply_262 : decode cX11_multiply 262 = .ok (.iload_n 2, 1) := by decide +kernel
theorem dX11_multiply_263 : decode cX11_multiply 263 = .ok (.iconst 3, 1) := by decide +kernel
theorem dX11_multiply_264 : decode cX11_multiply 264 = .ok (.iadd, 1) := by decide +kernel
theorem dX11_multiply_265 : decode cX11_multiply 265 = .ok (.laload, 1) := by decide +kernel
theorem dX11_multiply_266 : decode cX11_multiply 266 = .ok (.aload_n 0, 1) := by decide +kernel
theorem dX11_multiply_267 : decode cX11_multiply 267 = .ok (.getfield 33, 3) := by decide +kernel
theorem dX11_multiply_270 : decode cX11_multiply 270 = .ok (.iload_n 3, 1) := by decide +kernel
theorem dX11_multiply_271 : decode cX11_multiply 271 = .ok (.laload, 1) := by decide +kernel
theorem dX11_multiply_272 : decode cX11_multiply 272 = .ok (.lmul, 1) := by decide +kernel
theorem dX11_multiply_273 : decode cX11_multiply 273 = .ok (.ladd, 1) := by decide +kernel
theorem dX11_multiply_274 : decode cX11_multiply 274 = .ok (.lstore 10, 2) := by decide +kernel
theorem dX11_multiply_276 : decode cX11_multiply 276 = .ok (.aload_n 0, 1) := by decide +kernel
theorem dX11_multiply_277 : decode cX11_multiply 277 = .ok (.iload_n 1, 1) := by decide +kernel
theorem dX11_multiply_278 : decode cX11_multiply 278 = .ok (.lload 4, 2) := by decide +kernel
theorem dX11_multiply_280 : decode cX11_multiply 280 = .ok (.ldc2_w 54, 3) := by decide +kernel
theorem dX11_multiply_283 : decode cX11_multiply 283 = .ok (.ldiv, 1) := by decide +kernel
theorem dX11_multiply_284 : decode cX11_multiply 284 = .ok (.lload 6, 2) := by decide +kernel
theorem dX11_multiply_286 : decode cX11_multiply 286 = .ok (.ldc2_w 54, 3) := by decide +kernel
theorem dX11_multiply_289 : decode cX11_multiply 289 = .ok (.ldiv, 1) := by decide +kernel
theorem dX11_multiply_290 : decode cX11_multiply 290 = .ok (.lload 8, 2) := by decide +kernel
theorem dX11_multiply_292 : decode cX11_multiply 292 = .ok (.ldc2_w 54, 3) := by decide +kernel
theorem dX11_multiply_295 : decode cX11_multiply 295 = .ok (.ldiv, 1) := by decide +kernel
theorem dX11_multiply_296 : decode cX11_multiply 296 = .ok (.lload 10, 2) := by decide +kernel
theorem dX11_multiply_298 : decode cX11_multiply 298 = .ok (.ldc2_w 54, 3) := by decide +kernel
theorem dX11_multiply_301 : decode cX11_multiply 301 = .ok (.ldiv, 1) := by decide +kernel
theorem dX11_multiply_302 : decode cX11_multiply 302 = .ok (.invokevirtual 68, 3) := by decide +kernel
theorem dX11_multiply_305 : decode cX11_multiply 305 = .ok (.return_, 1) := by decide +kernel
theorem dX11_turnBack_0 : decode cX11_turnBack 0 = .ok (.aload_n 0, 1) := by decide +kernel
theorem dX11_turnBack_1 : decode cX11_turnBack 1 = .ok (.iload_n 1, 1) := by decide +kernel
theorem dX11_turnBack_2 : decode cX11_turnBack 2 = .ok (.aload_n 0, 1) := by decide +kernel
theorem dX11_turnBack_3 : decode cX11_turnBack 3 = .ok (.getfield 33, 3) := by decide +kernel
theorem dX11_turnBack_6 : decode cX11_turnBack 6 = .ok (.iload_n 2, 1) := by decide +kernel
theorem dX11_turnBack_7 : decode cX11_turnBack 7 = .ok (.laload, 1) := by decide +kernel
theorem dX11_turnBack_8 : decode cX11_turnBack 8 = .ok (.aload_n 0, 1) := by decide +kernel
theorem dX11_turnBack_9 : decode cX11_turnBack 9 = .ok (.getfield 33, 3) := by decide +kernel
theorem dX11_turnBack_12 : decode cX11_turnBack 12 = .ok (.iload_n 2, 1) := by decide +kernel
theorem dX11_turnBack_13 : decode cX11_turnBack 13 = .ok (.iconst 1, 1) := by decide +kernel
theorem dX11_turnBack_14 : decode cX11_turnBack 14 = .ok (.iadd, 1) := by decide +kernel
theorem dX11_turnBack_15 : decode cX11_turnBack 15 = .ok (.laload, 1) := by decide +kernel
theorem dX11_turnBack_16 : decode cX11_turnBack 16 = .ok (.lneg, 1) := by decide +kernel
theorem dX11_turnBack_17 : decode cX11_turnBack 17 = .ok (.aload_n 0, 1) := by decide +kernel
theorem dX11_turnBack_18 : decode cX11_turnBack 18 = .ok (.getfield 33, 3) := by decide +kernel
theorem dX11_turnBack_21 : decode cX11_turnBack 21 = .ok (.iload_n 2, 1) := by decide +kernel
theorem dX11_turnBack_22 : decode cX11_turnBack 22 = .ok (.iconst 2, 1) := by decide +kernel
theorem dX11_turnBack_23 : decode cX11_turnBack 23 = .ok (.iadd, 1) := by decide +kernel
theorem dX11_turnBack_24 : decode cX11_turnBack 24 = .ok (.laload, 1) := by decide +kernel
theorem dX11_turnBack_25 : decode cX11_turnBack 25 = .ok (.lneg, 1) := by decide +kernel
theorem dX11_turnBack_26 : decode cX11_turnBack 26 = .ok (.aload_n 0, 1) := by decide +kernel
theorem dX11_turnBack_27 : decode cX11_turnBack 27 = .ok (.getfield 33, 3) := by decide +kernel
theorem dX11_turnBack_30 : decode cX11_turnBack 30 = .ok (.iload_n 2, 1) := by decide +kernel
theorem dX11_turnBack_31 : decode cX11_turnBack 31 = .ok (.iconst 3, 1) := by decide +kernel
theorem dX11_turnBack_32 : decode cX11_turnBack 32 = .ok (.iadd, 1) := by decide +kernel
theorem dX11_turnBack_33 : decode cX11_turnBack 33 = .ok (.laload, 1) := by decide +kernel
theorem dX11_turnBack_34 : decode cX11_turnBack 34 = .ok (.lneg, 1) := by decide +kernel
theorem dX11_turnBack_35 : decode cX11_turnBack 35 = .ok (.invokevirtual 68, 3) := by decide +kernel
theorem dX11_turnBack_38 : decode cX11_turnBack 38 = .ok (.return_, 1) := by decide +kernel
theorem dX11_divisor_0 : decode cX11_divisor 0 = .ok (.lload_n 0, 1) := by decide +kernel
theorem dX11_divisor_1 : decode cX11_divisor 1 = .ok (.lconst 0, 1) := by decide +kernel
theorem dX11_divisor_2 : decode cX11_divisor 2 = .ok (.lcmp, 1) := by decide +kernel
theorem dX11_divisor_3 : decode cX11_divisor 3 = .ok (.ifCond .ge 8, 3) := by decide +kernel
theorem dX11_divisor_6 : decode cX11_divisor 6 = .ok (.lload_n 0, 1) := by decide +kernel
theorem dX11_divisor_7 : decode cX11_divisor 7 = .ok (.lneg, 1) := by decide +kernel
theorem dX11_divisor_8 : decode cX11_divisor 8 = .ok (.goto 4, 3) := by decide +kernel
theorem dX11_divisor_11 : decode cX11_divisor 11 = .ok (.lload_n 0, 1) := by decide +kernel
theorem dX11_divisor_12 : decode cX11_divisor 12 = .ok (.lstore 4, 2) := by decide +kernel
theorem dX11_divisor_14 : decode cX11_divisor 14 = .ok (.lload_n 2, 1) := by decide +kernel
theorem dX11_divisor_15 : decode cX11_divisor 15 = .ok (.lconst 0, 1) := by decide +kernel
theorem dX11_divisor_16 : decode cX11_divisor 16 = .ok (.lcmp, 1) := by decide +kernel
theorem dX11_divisor_17 : decode cX11_divisor 17 = .ok (.ifCond .ge 8, 3) := by decide +kernel
theorem dX11_divisor_20 : decode cX11_divisor 20 = .ok (.lload_n 2, 1) := by decide +kernel
theorem dX11_divisor_21 : decode cX11_divisor 21 = .ok (.lneg, 1) := by decide +kernel
theorem dX11_divisor_22 : decode cX11_divisor 22 = .ok (.goto 4, 3) := by decide +kernel
theorem dX11_divisor_25 : decode cX11_divisor 25 = .ok (.lload_n 2, 1) := by decide +kernel
theorem dX11_divisor_26 : decode cX11_divisor 26 = .ok (.lstore 6, 2) := by decide +kernel
theorem dX11_divisor_28 : decode cX11_divisor 28 = .ok (.lload 6, 2) := by decide +kernel
theorem dX11_divisor_30 : decode cX11_divisor 30 = .ok (.lconst 0, 1) := by decide +kernel
theorem dX11_divisor_31 : decode cX11_divisor 31 = .ok (.lcmp, 1) := by decide +kernel
theorem dX11_divisor_32 : decode cX11_divisor 32 = .ok (.ifCond .le 21, 3) := by decide +kernel
theorem dX11_divisor_35 : decode cX11_divisor 35 = .ok (.lload 4, 2) := by decide +kernel
theorem dX11_divisor_37 : decode cX11_divisor 37 = .ok (.lload 6, 2) := by decide +kernel
theorem dX11_divisor_39 : decode cX11_divisor 39 = .ok (.lrem, 1) := by decide +kernel
theorem dX11_divisor_40 : decode cX11_divisor 40 = .ok (.lstore 8, 2) := by decide +kernel
theorem dX11_divisor_42 : decode cX11_divisor 42 = .ok (.lload 6, 2) := by decide +kernel
theorem dX11_divisor_44 : decode cX11_divisor 44 = .ok (.lstore 4, 2) := by decide +kernel
theorem dX11_divisor_46 : decode cX11_divisor 46 = .ok (.lload 8, 2) := by decide +kernel
theorem dX11_divisor_48 : decode cX11_divisor 48 = .ok (.lstore 6, 2) := by decide +kernel
theorem dX11_divisor_50 : decode cX11_divisor 50 = .ok (.goto (-22), 3) := by decide +kernel
theorem dX11_divisor_53 : decode cX11_divisor 53 = .ok (.lload 4, 2) := by decide +kernel
theorem dX11_divisor_55 : decode cX11_divisor 55 = .ok (.lreturn, 1) := by decide +kernel
theorem dX11_down_0 : decode cX11_down 0 = .ok (.lload_n 0, 1) := by decide +kernel
theorem dX11_down_1 : decode cX11_down 1 = .ok (.lload_n 2, 1) := by decide +kernel
theorem dX11_down_2 : decode cX11_down 2 = .ok (.ldiv, 1) := by decide +kernel
theorem dX11_down_3 : decode cX11_down 3 = .ok (.lstore 4, 2) := by decide +kernel
theorem dX11_down_5 : decode cX11_down 5 = .ok (.lload_n 0, 1) := by decide +kernel
theorem dX11_down_6 : decode cX11_down 6 = .ok (.lload_n 2, 1) := by decide +kernel
theorem dX11_down_7 : decode cX11_down 7 = .ok (.lrem, 1) := by decide +kernel
theorem dX11_down_8 : decode cX11_down 8 = .ok (.lconst 0, 1) := by decide +kernel
theorem dX11_down_9 : decode cX11_down 9 = .ok (.lcmp, 1) := by decide +kernel
theorem dX11_down_10 : decode cX11_down 10 = .ok (.ifCond .ge 10, 3) := by decide +kernel
theorem dX11_down_13 : decode cX11_down 13 = .ok (.lload 4, 2) := by decide +kernel
theorem dX11_down_15 : decode cX11_down 15 = .ok (.lconst 1, 1) := by decide +kernel
theorem dX11_down_16 : decode cX11_down 16 = .ok (.lsub, 1) := by decide +kernel
theorem dX11_down_17 : decode cX11_down 17 = .ok (.goto 5, 3) := by decide +kernel
theorem dX11_down_20 : decode cX11_down 20 = .ok (.lload 4, 2) := by decide +kernel
theorem dX11_down_22 : decode cX11_down 22 = .ok (.lreturn, 1) := by decide +kernel
theorem dX11_greatestWhole_0 : decode cX11_greatestWhole 0 = .ok (.aload_n 0, 1) := by decide +kernel
theorem dX11_greatestWhole_1 : decode cX11_greatestWhole 1 = .ok (.getfield 33, 3) := by decide +kernel
theorem dX11_greatestWhole_4 : decode cX11_greatestWhole 4 = .ok (.iload_n 1, 1) := by decide +kernel
theorem dX11_greatestWhole_5 : decode cX11_greatestWhole 5 = .ok (.laload, 1) := by decide +kernel
theorem dX11_greatestWhole_6 : decode cX11_greatestWhole 6 = .ok (.aload_n 0, 1) := by decide +kernel
theorem dX11_greatestWhole_7 : decode cX11_greatestWhole 7 = .ok (.getfield 33, 3) := by decide +kernel
theorem dX11_greatestWhole_10 : decode cX11_greatestWhole 10 = .ok (.iload_n 1, 1) := by decide +kernel
theorem dX11_greatestWhole_11 : decode cX11_greatestWhole 11 = .ok (.iconst 1, 1) := by decide +kernel
theorem dX11_greatestWhole_12 : decode cX11_greatestWhole 12 = .ok (.iadd, 1) := by decide +kernel
theorem dX11_greatestWhole_13 : decode cX11_greatestWhole 13 = .ok (.laload, 1) := by decide +kernel
theorem dX11_greatestWhole_14 : decode cX11_greatestWhole 14 = .ok (.invokestatic 72, 3) := by decide +kernel
theorem dX11_greatestWhole_17 : decode cX11_greatestWhole 17 = .ok (.aload_n 0, 1) := by decide +kernel
theorem dX11_greatestWhole_18 : decode cX11_greatestWhole 18 = .ok (.getfield 33, 3) := by decide +kernel
theorem dX11_greatestWhole_21 : decode cX11_greatestWhole 21 = .ok (.iload_n 1, 1) := by decide +kernel
theorem dX11_greatestWhole_22 : decode cX11_greatestWhole 22 = .ok (.iconst 2, 1) := by decide +kernel
theorem dX11_greatestWhole_23 : decode cX11_greatestWhole 23 = .ok (.iadd, 1) := by decide +kernel
theorem dX11_greatestWhole_24 : decode cX11_greatestWhole 24 = .ok (.laload, 1) := by decide +kernel
theorem dX11_greatestWhole_25 : decode cX11_greatestWhole 25 = .ok (.aload_n 0, 1) := by decide +kernel
theorem dX11_greatestWhole_26 : decode cX11_greatestWhole 26 = .ok (.getfield 33, 3) := by decide +kernel
theorem dX11_greatestWhole_29 : decode cX11_greatestWhole 29 = .ok (.iload_n 1, 1) := by decide +kernel
theorem dX11_greatestWhole_30 : decode cX11_greatestWhole 30 = .ok (.iconst 3, 1) := by decide +kernel
theorem dX11_greatestWhole_31 : decode cX11_greatestWhole 31 = .ok (.iadd, 1) := by decide +kernel
theorem dX11_greatestWhole_32 : decode cX11_greatestWhole 32 = .ok (.laload, 1) := by decide +kernel
theorem dX11_greatestWhole_33 : decode cX11_greatestWhole 33 = .ok (.invokestatic 72, 3) := by decide +kernel
theorem dX11_greatestWhole_36 : decode cX11_greatestWhole 36 = .ok (.invokestatic 72, 3) := by decide +kernel
theorem dX11_greatestWhole_39 : decode cX11_greatestWhole 39 = .ok (.lstore_n 2, 1) := by decide +kernel
theorem dX11_greatestWhole_40 : decode cX11_greatestWhole 40 = .ok (.iconst 1, 1) := by decide +kernel
theorem dX11_greatestWhole_41 : decode cX11_greatestWhole 41 = .ok (.istore 4, 2) := by decide +kernel
theorem dX11_greatestWhole_43 : decode cX11_greatestWhole 43 = .ok (.iconst 0, 1) := by decide +kernel
theorem dX11_greatestWhole_44 : decode cX11_greatestWhole 44 = .ok (.istore 5, 2) := by decide +kernel
theorem dX11_greatestWhole_46 : decode cX11_greatestWhole 46 = .ok (.iload 5, 2) := by decide +kernel
theorem dX11_greatestWhole_48 : decode cX11_greatestWhole 48 = .ok (.iconst 4, 1) := by decide +kernel
theorem dX11_greatestWhole_49 : decode cX11_greatestWhole 49 = .ok (.if_icmp .ge 41, 3) := by decide +kernel
theorem dX11_greatestWhole_52 : decode cX11_greatestWhole 52 = .ok (.iload 4, 2) := by decide +kernel
theorem dX11_greatestWhole_54 : decode cX11_greatestWhole 54 = .ok (.ifCond .eq 27, 3) := by decide +kernel
theorem dX11_greatestWhole_57 : decode cX11_greatestWhole 57 = .ok (.aload_n 0, 1) := by decide +kernel
theorem dX11_greatestWhole_58 : decode cX11_greatestWhole 58 = .ok (.getfield 33, 3) := by decide +kernel
theorem dX11_greatestWhole_61 : decode cX11_greatestWhole 61 = .ok (.iload_n 1, 1) := by decide +kernel
theorem dX11_greatestWhole_62 : decode cX11_greatestWhole 62 = .ok (.iload 5, 2) := by decide +kernel
theorem dX11_greatestWhole_64 : decode cX11_greatestWhole 64 = .ok (.iadd, 1) := by decide +kernel
theorem dX11_greatestWhole_65 : decode cX11_greatestWhole 65 = .ok (.laload, 1) := by decide +kernel
theorem dX11_greatestWhole_66 : decode cX11_greatestWhole 66 = .ok (.lload_n 2, 1) := by decide +kernel
theorem dX11_greatestWhole_67 : decode cX11_greatestWhole 67 = .ok (.ldiv, 1) := by decide +kernel
theorem dX11_greatestWhole_68 : decode cX11_greatestWhole 68 = .ok (.ldc2_w 54, 3) := by decide +kernel
theorem dX11_greatestWhole_71 : decode cX11_greatestWhole 71 = .ok (.lrem, 1) := by decide +kernel
theorem dX11_greatestWhole_72 : decode cX11_greatestWhole 72 = .ok (.lconst 0, 1) := by decide +kernel
theorem dX11_greatestWhole_73 : decode cX11_greatestWhole 73 = .ok (.lcmp, 1) := by decide +kernel
theorem dX11_greatestWhole_74 : decode cX11_greatestWhole 74 = .ok (.ifCond .eq 7, 3) := by decide +kernel
theorem dX11_greatestWhole_77 : decode cX11_greatestWhole 77 = .ok (.iconst 1, 1) := by decide +kernel
theorem dX11_greatestWhole_78 : decode cX11_greatestWhole 78 = .ok (.goto 4, 3) := by decide +kernel
theorem dX11_greatestWhole_81 : decode cX11_greatestWhole 81 = .ok (.iconst 0, 1) := by decide +kernel
theorem dX11_greatestWhole_82 : decode cX11_greatestWhole 82 = .ok (.istore 4, 2) := by decide +kernel
theorem dX11_greatestWhole_84 : decode cX11_greatestWhole 84 = .ok (.iinc 5 1, 3) := by decide +kernel
theorem dX11_greatestWhole_87 : decode cX11_greatestWhole 87 = .ok (.goto (-41), 3) := by decide +kernel
theorem dX11_greatestWhole_90 : decode cX11_greatestWhole 90 = .ok (.iload 4, 2) := by decide +kernel
theorem dX11_greatestWhole_92 : decode cX11_greatestWhole 92 = .ok (.ifCond .eq 7, 3) := by decide +kernel
theorem dX11_greatestWhole_95 : decode cX11_greatestWhole 95 = .ok (.lload_n 2, 1) := by decide +kernel
theorem dX11_greatestWhole_96 : decode cX11_greatestWhole 96 = .ok (.goto 8, 3) := by decide +kernel
theorem dX11_greatestWhole_99 : decode cX11_greatestWhole 99 = .ok (.lload_n 2, 1) := by decide +kernel
theorem dX11_greatestWhole_100 : decode cX11_greatestWhole 100 = .ok (.ldc2_w 54, 3) := by decide +kernel
theorem dX11_greatestWhole_103 : decode cX11_greatestWhole 103 = .ok (.ldiv, 1) := by decide +kernel
theorem dX11_greatestWhole_104 : decode cX11_greatestWhole 104 = .ok (.lreturn, 1) := by decide +kernel
theorem dX11_isPrime_0 : decode cX11_isPrime 0 = .ok (.lload_n 0, 1) := by decide +kernel
theorem dX11_isPrime_1 : decode cX11_isPrime 1 = .ok (.ldc2_w 54, 3) := by decide +kernel
theorem dX11_isPrime_4 : decode cX11_isPrime 4 = .ok (.lcmp, 1) := by decide +kernel
theorem dX11_isPrime_5 : decode cX11_isPrime 5 = .ok (.ifCond .ge 5, 3) := by decide +kernel
theorem dX11_isPrime_8 : decode cX11_isPrime 8 = .ok (.iconst 0, 1) := by decide +kernel
theorem dX11_isPrime_9 : decode cX11_isPrime 9 = .ok (.ireturn, 1) := by decide +kernel
theorem dX11_isPrime_10 : decode cX11_isPrime 10 = .ok (.ldc2_w 54, 3) := by decide +kernel
theorem dX11_isPrime_13 : decode cX11_isPrime 13 = .ok (.lstore_n 2, 1) := by decide +kernel
theorem dX11_isPrime_14 : decode cX11_isPrime 14 = .ok (.lload_n 2, 1) := by decide +kernel
theorem dX11_isPrime_15 : decode cX11_isPrime 15 = .ok (.lload_n 2, 1) := by decide +kernel
theorem dX11_isPrime_16 : decode cX11_isPrime 16 = .ok (.lmul, 1) := by decide +kernel
theorem dX11_isPrime_17 : decode cX11_isPrime 17 = .ok (.lload_n 0, 1) := by decide +kernel
theorem dX11_isPrime_18 : decode cX11_isPrime 18 = .ok (.lcmp, 1) := by decide +kernel
theorem dX11_isPrime_19 : decode cX11_isPrime 19 = .ok (.ifCond .gt 20, 3) := by decide +kernel
theorem dX11_isPrime_22 : decode cX11_isPrime 22 = .ok (.lload_n 0, 1) := by decide +kernel
theorem dX11_isPrime_23 : decode cX11_isPrime 23 = .ok (.lload_n 2, 1) := by decide +kernel
theorem dX11_isPrime_24 : decode cX11_isPrime 24 = .ok (.lrem, 1) := by decide +kernel
theorem dX11_isPrime_25 : decode cX11_isPrime 25 = .ok (.lconst 0, 1) := by decide +kernel
theorem dX11_isPrime_26 : decode cX11_isPrime 26 = .ok (.lcmp, 1) := by decide +kernel
theorem dX11_isPrime_27 : decode cX11_isPrime 27 = .ok (.ifCond .ne 5, 3) := by decide +kernel
theorem dX11_isPrime_30 : decode cX11_isPrime 30 = .ok (.iconst 0, 1) := by decide +kernel
theorem dX11_isPrime_31 : decode cX11_isPrime 31 = .ok (.ireturn, 1) := by decide +kernel
theorem dX11_isPrime_32 : decode cX11_isPrime 32 = .ok (.lload_n 2, 1) := by decide +kernel
theorem dX11_isPrime_33 : decode cX11_isPrime 33 = .ok (.lconst 1, 1) := by decide +kernel
theorem dX11_isPrime_34 : decode cX11_isPrime 34 = .ok (.ladd, 1) := by decide +kernel
theorem dX11_isPrime_35 : decode cX11_isPrime 35 = .ok (.lstore_n 2, 1) := by decide +kernel
theorem dX11_isPrime_36 : decode cX11_isPrime 36 = .ok (.goto (-22), 3) := by decide +kernel
theorem dX11_isPrime_39 : decode cX11_isPrime 39 = .ok (.iconst 1, 1) := by decide +kernel
theorem dX11_isPrime_40 : decode cX11_isPrime 40 = .ok (.ireturn, 1) := by decide +kernel
theorem dX11_kindOf_0 : decode cX11_kindOf 0 = .ok (.aload_n 0, 1) := by decide +kernel
theorem dX11_kindOf_1 : decode cX11_kindOf 1 = .ok (.iload_n 1, 1) := by decide +kernel
theorem dX11_kindOf_2 : decode cX11_kindOf 2 = .ok (.invokevirtual 76, 3) := by decide +kernel
theorem dX11_kindOf_5 : decode cX11_kindOf 5 = .ok (.ifCond .ne 42, 3) := by decide +kernel
theorem dX11_kindOf_8 : decode cX11_kindOf 8 = .ok (.aload_n 0, 1) := by decide +kernel
theorem dX11_kindOf_9 : decode cX11_kindOf 9 = .ok (.iload_n 1, 1) := by decide +kernel
theorem dX11_kindOf_10 : decode cX11_kindOf 10 = .ok (.invokevirtual 79, 3) := by decide +kernel
theorem dX11_kindOf_13 : decode cX11_kindOf 13 = .ok (.lconst 1, 1) := by decide +kernel
theorem dX11_kindOf_14 : decode cX11_kindOf 14 = .ok (.lcmp, 1) := by decide +kernel
theorem dX11_kindOf_15 : decode cX11_kindOf 15 = .ok (.ifCond .ne 32, 3) := by decide +kernel
theorem dX11_kindOf_18 : decode cX11_kindOf 18 = .ok (.aload_n 0, 1) := by decide +kernel
theorem dX11_kindOf_19 : decode cX11_kindOf 19 = .ok (.iload_n 1, 1) := by decide +kernel
theorem dX11_kindOf_20 : decode cX11_kindOf 20 = .ok (.invokevirtual 83, 3) := by decide +kernel
theorem dX11_kindOf_23 : decode cX11_kindOf 23 = .ok (.lstore_n 2, 1) := by decide +kernel
theorem dX11_kindOf_24 : decode cX11_kindOf 24 = .ok (.lload_n 2, 1) := by decide +kernel
theorem dX11_kindOf_25 : decode cX11_kindOf 25 = .ok (.lconst 1, 1) := by decide +kernel
theorem dX11_kindOf_26 : decode cX11_kindOf 26 = .ok (.lcmp, 1) := by decide +kernel
theorem dX11_kindOf_27 : decode cX11_kindOf 27 = .ok (.ifCond .ne 7, 3) := by decide +kernel
theorem dX11_kindOf_30 : decode cX11_kindOf 30 = .ok (.iconst 4, 1) := by decide +kernel
theorem dX11_kindOf_31 : decode cX11_kindOf 31 = .ok (.goto 15, 3) := by decide +kernel
theorem dX11_kindOf_34 : decode cX11_kindOf 34 = .ok (.lload_n 2, 1) := by decide +kernel
theorem dX11_kindOf_35 : decode cX11_kindOf 35 = .ok (.invokestatic 86, 3) := by decide +kernel
theorem dX11_kindOf_38 : decode cX11_kindOf 38 = .ok (.ifCond .eq 7, 3) := by decide +kernel
theorem dX11_kindOf_41 : decode cX11_kindOf 41 = .ok (.iconst 3, 1) := by decide +kernel
theorem dX11_kindOf_42 : decode cX11_kindOf 42 = .ok (.goto 4, 3) := by decide +kernel
theorem dX11_kindOf_45 : decode cX11_kindOf 45 = .ok (.iconst 2, 1) := by decide +kernel
theorem dX11_kindOf_46 : decode cX11_kindOf 46 = .ok (.ireturn, 1) := by decide +kernel
theorem dX11_kindOf_47 : decode cX11_kindOf 47 = .ok (.aload_n 0, 1) := by decide +kernel
theorem dX11_kindOf_48 : decode cX11_kindOf 48 = .ok (.getfield 33, 3) := by decide +kernel
theorem dX11_kindOf_51 : decode cX11_kindOf 51 = .ok (.iload_n 1, 1) := by decide +kernel
theorem dX11_kindOf_52 : decode cX11_kindOf 52 = .ok (.laload, 1) := by decide +kernel
theorem dX11_kindOf_53 : decode cX11_kindOf 53 = .ok (.ldc2_w 54, 3) := by decide +kernel
theorem dX11_kindOf_56 : decode cX11_kindOf 56 = .ok (.lrem, 1) := by decide +kernel
theorem dX11_kindOf_57 : decode cX11_kindOf 57 = .ok (.lconst 0, 1) := by decide +kernel
theorem dX11_kindOf_58 : decode cX11_kindOf 58 = .ok (.lcmp, 1) := by decide +kernel
theorem dX11_kindOf_59 : decode cX11_kindOf 59 = .ok (.ifCond .eq 7, 3) := by decide +kernel
theorem dX11_kindOf_62 : decode cX11_kindOf 62 = .ok (.iconst 1, 1) := by decide +kernel
theorem dX11_kindOf_63 : decode cX11_kindOf 63 = .ok (.goto 4, 3) := by decide +kernel
theorem dX11_kindOf_66 : decode cX11_kindOf 66 = .ok (.iconst 0, 1) := by decide +kernel
theorem dX11_kindOf_67 : decode cX11_kindOf 67 = .ok (.ireturn, 1) := by decide +kernel
theorem dX11_isOf_0 : decode cX11_isOf 0 = .ok (.iload_n 0, 1) := by decide +kernel
theorem dX11_isOf_1 : decode cX11_isOf 1 = .ok (.iload_n 1, 1) := by decide +kernel
theorem dX11_isOf_2 : decode cX11_isOf 2 = .ok (.if_icmp .eq 17, 3) := by decide +kernel
theorem dX11_isOf_5 : decode cX11_isOf 5 = .ok (.iload_n 1, 1) := by decide +kernel
theorem dX11_isOf_6 : decode cX11_isOf 6 = .ok (.ifCond .eq 13, 3) := by decide +kernel
theorem dX11_isOf_9 : decode cX11_isOf 9 = .ok (.iload_n 1, 1) := by decide +kernel
theorem dX11_isOf_10 : decode cX11_isOf 10 = .ok (.iconst 2, 1) := by decide +kernel
theorem dX11_isOf_11 : decode cX11_isOf 11 = .ok (.if_icmp .ne 12, 3) := by decide +kernel
theorem dX11_isOf_14 : decode cX11_isOf 14 = .ok (.iload_n 0, 1) := by decide +kernel
theorem dX11_isOf_15 : decode cX11_isOf 15 = .ok (.iconst 2, 1) := by decide +kernel
theorem dX11_isOf_16 : decode cX11_isOf 16 = .ok (.if_icmp .le 7, 3) := by decide +kernel
theorem dX11_isOf_19 : decode cX11_isOf 19 = .ok (.iconst 1, 1) := by decide +kernel
theorem dX11_isOf_20 : decode cX11_isOf 20 = .ok (.goto 4, 3) := by decide +kernel
theorem dX11_isOf_23 : decode cX11_isOf 23 = .ok (.iconst 0, 1) := by decide +kernel
theorem dX11_isOf_24 : decode cX11_isOf 24 = .ok (.ireturn, 1) := by decide +kernel
theorem dX11_isSlot_0 : decode cX11_isSlot 0 = .ok (.iload_n 0, 1) := by decide +kernel
theorem dX11_isSlot_1 : decode cX11_isSlot 1 = .ok (.i2l, 1) := by decide +kernel
theorem dX11_isSlot_2 : decode cX11_isSlot 2 = .ok (.lconst 0, 1) := by decide +kernel
theorem dX11_isSlot_3 : decode cX11_isSlot 3 = .ok (.ldc2_w 90, 3) := by decide +kernel
theorem dX11_isSlot_6 : decode cX11_isSlot 6 = .ok (.invokestatic 46, 3) := by decide +kernel
theorem dX11_isSlot_9 : decode cX11_isSlot 9 = .ok (.ireturn, 1) := by decide +kernel
theorem dX11_take_0 : decode cX11_take 0 = .ok (.iload_n 1, 1) := by decide +kernel
theorem dX11_take_1 : decode cX11_take 1 = .ok (.invokestatic 92, 3) := by decide +kernel
theorem dX11_take_4 : decode cX11_take 4 = .ok (.ifCond .eq 10, 3) := by decide +kernel
theorem dX11_take_7 : decode cX11_take 7 = .ok (.iload_n 2, 1) := by decide +kernel
theorem dX11_take_8 : decode cX11_take 8 = .ok (.invokestatic 50, 3) := by decide +kernel
theorem dX11_take_11 : decode cX11_take 11 = .ok (.ifCond .ne 6, 3) := by decide +kernel
theorem dX11_take_14 : decode cX11_take 14 = .ok (.ldc 56, 2) := by decide +kernel
theorem dX11_take_16 : decode cX11_take 16 = .ok (.ireturn, 1) := by decide +kernel
theorem dX11_take_17 : decode cX11_take 17 = .ok (.aload_n 0, 1) := by decide +kernel
theorem dX11_take_18 : decode cX11_take 18 = .ok (.getfield 17, 3) := by decide +kernel
theorem dX11_take_21 : decode cX11_take 21 = .ok (.iload_n 2, 1) := by decide +kernel
theorem dX11_take_22 : decode cX11_take 22 = .ok (.iaload, 1) := by decide +kernel
theorem dX11_take_23 : decode cX11_take 23 = .ok (.ifCond .ne 9, 3) := by decide +kernel
theorem dX11_take_26 : decode cX11_take 26 = .ok (.aload_n 0, 1) := by decide +kernel
theorem dX11_take_27 : decode cX11_take 27 = .ok (.iconst 1, 1) := by decide +kernel
theorem dX11_take_28 : decode cX11_take 28 = .ok (.invokevirtual 57, 3) := by decide +kernel
theorem dX11_take_31 : decode cX11_take 31 = .ok (.ireturn, 1) := by decide +kernel
theorem dX11_take_32 : decode cX11_take 32 = .ok (.iload_n 3, 1) := by decide +kernel
theorem dX11_take_33 : decode cX11_take 33 = .ok (.i2l, 1) := by decide +kernel
theorem dX11_take_34 : decode cX11_take 34 = .ok (.lconst 0, 1) := by decide +kernel
theorem dX11_take_35 : decode cX11_take 35 = .ok (.aload_n 0, 1) := by decide +kernel
theorem dX11_take_36 : decode cX11_take 36 = .ok (.getfield 21, 3) := by decide +kernel
theorem dX11_take_39 : decode cX11_take 39 = .ok (.iload_n 2, 1) := by decide +kernel
theorem dX11_take_40 : decode cX11_take 40 = .ok (.iaload, 1) := by decide +kernel
theorem dX11_take_41 : decode cX11_take 41 = .ok (.iconst 4, 1) := by decide +kernel
theorem dX11_take_42 : decode cX11_take 42 = .ok (.isub, 1) := by decide +kernel
theorem dX11_take_43 : decode cX11_take 43 = .ok (.i2l, 1) := by decide +kernel
theorem dX11_take_44 : decode cX11_take 44 = .ok (.invokestatic 46, 3) := by decide +kernel
theorem dX11_take_47 : decode cX11_take 47 = .ok (.ifCond .ne 9, 3) := by decide +kernel
theorem dX11_take_50 : decode cX11_take 50 = .ok (.aload_n 0, 1) := by decide +kernel
theorem dX11_take_51 : decode cX11_take 51 = .ok (.iconst 2, 1) := by decide +kernel
theorem dX11_take_52 : decode cX11_take 52 = .ok (.invokevirtual 57, 3) := by decide +kernel
theorem dX11_take_55 : decode cX11_take 55 = .ok (.ireturn, 1) := by decide +kernel
theorem dX11_take_56 : decode cX11_take 56 = .ok (.bipush 100, 2) := by decide +kernel
theorem dX11_take_58 : decode cX11_take 58 = .ok (.iload_n 2, 1) := by decide +kernel
theorem dX11_take_59 : decode cX11_take 59 = .ok (.imul, 1) := by decide +kernel
theorem dX11_take_60 : decode cX11_take 60 = .ok (.iload_n 3, 1) := by decide +kernel
theorem dX11_take_61 : decode cX11_take 61 = .ok (.iadd, 1) := by decide +kernel
theorem dX11_take_62 : decode cX11_take 62 = .ok (.istore 4, 2) := by decide +kernel
theorem dX11_take_64 : decode cX11_take 64 = .ok (.iconst 1, 1) := by decide +kernel
theorem dX11_take_65 : decode cX11_take 65 = .ok (.istore 5, 2) := by decide +kernel
theorem dX11_take_67 : decode cX11_take 67 = .ok (.iconst 1, 1) := by decide +kernel
theorem dX11_take_68 : decode cX11_take 68 = .ok (.istore 6, 2) := by decide +kernel
theorem dX11_take_70 : decode cX11_take 70 = .ok (.iconst 0, 1) := by decide +kernel
theorem dX11_take_71 : decode cX11_take 71 = .ok (.istore 7, 2) := by decide +kernel
theorem dX11_take_73 : decode cX11_take 73 = .ok (.iload 7, 2) := by decide +kernel
theorem dX11_take_75 : decode cX11_take 75 = .ok (.iconst 4, 1) := by decide +kernel
theorem dX11_take_76 : decode cX11_take 76 = .ok (.if_icmp .ge 80, 3) := by decide +kernel
theorem dX11_take_79 : decode cX11_take 79 = .ok (.iload 5, 2) := by decide +kernel
theorem dX11_take_81 : decode cX11_take 81 = .ok (.ifCond .eq 32, 3) := by decide +kernel
theorem dX11_take_84 : decode cX11_take 84 = .ok (.aload_n 0, 1) := by decide +kernel
theorem dX11_take_85 : decode cX11_take 85 = .ok (.getfield 24, 3) := by decide +kernel
theorem dX11_take_88 : decode cX11_take 88 = .ok (.iload 4, 2) := by decide +kernel
theorem dX11_take_90 : decode cX11_take 90 = .ok (.iload 7, 2) := by decide +kernel
theorem dX11_take_92 : decode cX11_take 92 = .ok (.iadd, 1) := by decide +kernel
theorem dX11_take_93 : decode cX11_take 93 = .ok (.laload, 1) := by decide +kernel
theorem dX11_take_94 : decode cX11_take 94 = .ok (.lconst 1, 1) := by decide +kernel
theorem dX11_take_95 : decode cX11_take 95 = .ok (.land, 1) := by decide +kernel
theorem dX11_take_96 : decode cX11_take 96 = .ok (.aload_n 0, 1) := by decide +kernel
theorem dX11_take_97 : decode cX11_take 97 = .ok (.getfield 24, 3) := by decide +kernel
theorem dX11_take_100 : decode cX11_take 100 = .ok (.iload 4, 2) := by decide +kernel
theorem dX11_take_102 : decode cX11_take 102 = .ok (.laload, 1) := by decide +kernel
theorem dX11_take_103 : decode cX11_take 103 = .ok (.lconst 1, 1) := by decide +kernel
theorem dX11_take_104 : decode cX11_take 104 = .ok (.land, 1) := by decide +kernel
theorem dX11_take_105 : decode cX11_take 105 = .ok (.lcmp, 1) := by decide +kernel
theorem dX11_take_106 : decode cX11_take 106 = .ok (.ifCond .ne 7, 3) := by decide +kernel
theorem dX11_take_109 : decode cX11_take 109 = .ok (.iconst 1, 1) := by decide +kernel
theorem dX11_take_110 : decode cX11_take 110 = .ok (.goto 4, 3) := by decide +kernel
theorem dX11_take_113 : decode cX11_take 113 = .ok (.iconst 0, 1) := by decide +kernel
theorem dX11_take_114 : decode cX11_take 114 = .ok (.istore 5, 2) := by decide +kernel
theorem dX11_take_116 : decode cX11_take 116 = .ok (.iload 6, 2) := by decide +kernel
theorem dX11_take_118 : decode cX11_take 118 = .ok (.ifCond .eq 29, 3) := by decide +kernel
theorem dX11_take_121 : decode cX11_take 121 = .ok (.aload_n 0, 1) := by decide +kernel
theorem dX11_take_122 : decode cX11_take 122 = .ok (.getfield 24, 3) := by decide +kernel
theorem dX11_take_125 : decode cX11_take 125 = .ok (.iload 4, 2) := by decide +kernel
theorem dX11_take_127 : decode cX11_take 127 = .ok (.iload 7, 2) := by decide +kernel
theorem dX11_take_129 : decode cX11_take 129 = .ok (.iadd, 1) := by decide +kernel
theorem dX11_take_130 : decode cX11_take 130 = .ok (.laload, 1) := by decide +kernel
theorem dX11_take_131 : decode cX11_take 131 = .ok (.ldc2_w 95, 3) := by decide +kernel
theorem dX11_take_134 : decode cX11_take 134 = .ok (.ldc2_w 97, 3) := by decide +kernel
theorem dX11_take_137 : decode cX11_take 137 = .ok (.invokestatic 46, 3) := by decide +kernel
theorem dX11_take_140 : decode cX11_take 140 = .ok (.ifCond .eq 7, 3) := by decide +kernel
theorem dX11_take_143 : decode cX11_take 143 = .ok (.iconst 1, 1) := by decide +kernel
theorem dX11_take_144 : decode cX11_take 144 = .ok (.goto 4, 3) := by decide +kernel
theorem dX11_take_147 : decode cX11_take 147 = .ok (.iconst 0, 1) := by decide +kernel
theorem dX11_take_148 : decode cX11_take 148 = .ok (.istore 6, 2) := by decide +kernel
theorem dX11_take_150 : decode cX11_take 150 = .ok (.iinc 7 1, 3) := by decide +kernel
theorem dX11_take_153 : decode cX11_take 153 = .ok (.goto (-80), 3) := by decide +kernel
theorem dX11_take_156 : decode cX11_take 156 = .ok (.iload 5, 2) := by decide +kernel
theorem dX11_take_158 : decode cX11_take 158 = .ok (.ifCond .ne 6, 3) := by decide +kernel
theorem dX11_take_161 : decode cX11_take 161 = .ok (.ldc 56, 2) := by decide +kernel
theorem dX11_take_163 : decode cX11_take 163 = .ok (.ireturn, 1) := by decide +kernel
theorem dX11_take_164 : decode cX11_take 164 = .ok (.iload 6, 2) := by decide +kernel
theorem dX11_take_166 : decode cX11_take 166 = .ok (.ifCond .ne 6, 3) := by decide +kernel
theorem dX11_take_169 : decode cX11_take 169 = .ok (.ldc 99, 2) := by decide +kernel
theorem dX11_take_171 : decode cX11_take 171 = .ok (.ireturn, 1) := by decide +kernel
theorem dX11_take_172 : decode cX11_take 172 = .ok (.aload_n 0, 1) := by decide +kernel
theorem dX11_take_173 : decode cX11_take 173 = .ok (.iconst 0, 1) := by decide +kernel
theorem dX11_take_174 : decode cX11_take 174 = .ok (.aload_n 0, 1) := by decide +kernel
theorem dX11_take_175 : decode cX11_take 175 = .ok (.getfield 24, 3) := by decide +kernel
theorem dX11_take_178 : decode cX11_take 178 = .ok (.iload 4, 2) := by decide +kernel
theorem dX11_take_180 : decode cX11_take 180 = .ok (.laload, 1) := by decide +kernel
theorem dX11_take_181 : decode cX11_take 181 = .ok (.aload_n 0, 1) := by decide +kernel
theorem dX11_take_182 : decode cX11_take 182 = .ok (.getfield 24, 3) := by decide +kernel
theorem dX11_take_185 : decode cX11_take 185 = .ok (.iload 4, 2) := by decide +kernel
theorem dX11_take_187 : decode cX11_take 187 = .ok (.iconst 1, 1) := by decide +kernel
theorem dX11_take_188 : decode cX11_take 188 = .ok (.iadd, 1) := by decide +kernel
theorem dX11_take_189 : decode cX11_take 189 = .ok (.laload, 1) := by decide +kernel
theorem dX11_take_190 : decode cX11_take 190 = .ok (.aload_n 0, 1) := by decide +kernel
theorem dX11_take_191 : decode cX11_take 191 = .ok (.getfield 24, 3) := by decide +kernel
theorem dX11_take_194 : decode cX11_take 194 = .ok (.iload 4, 2) := by decide +kernel
theorem dX11_take_196 : decode cX11_take 196 = .ok (.iconst 2, 1) := by decide +kernel
theorem dX11_take_197 : decode cX11_take 197 = .ok (.iadd, 1) := by decide +kernel
theorem dX11_take_198 : decode cX11_take 198 = .ok (.laload, 1) := by decide +kernel
theorem dX11_take_199 : decode cX11_take 199 = .ok (.aload_n 0, 1) := by decide +kernel
theorem dX11_take_200 : decode cX11_take 200 = .ok (.getfield 24, 3) := by decide +kernel
theorem dX11_take_203 : decode cX11_take 203 = .ok (.iload 4, 2) := by decide +kernel
theorem dX11_take_205 : decode cX11_take 205 = .ok (.iconst 3, 1) := by decide +kernel
theorem dX11_take_206 : decode cX11_take 206 = .ok (.iadd, 1) := by decide +kernel
theorem dX11_take_207 : decode cX11_take 207 = .ok (.laload, 1) := by decide +kernel
theorem dX11_take_208 : decode cX11_take 208 = .ok (.invokevirtual 68, 3) := by decide +kernel
theorem dX11_take_211 : decode cX11_take 211 = .ok (.aload_n 0, 1) := by decide +kernel
theorem dX11_take_212 : decode cX11_take 212 = .ok (.iconst 0, 1) := by decide +kernel
theorem dX11_take_213 : decode cX11_take 213 = .ok (.invokevirtual 83, 3) := by decide +kernel
theorem dX11_take_216 : decode cX11_take 216 = .ok (.ldc2_w 100, 3) := by decide +kernel
theorem dX11_take_219 : decode cX11_take 219 = .ok (.lcmp, 1) := by decide +kernel
theorem dX11_take_220 : decode cX11_take 220 = .ok (.ifCond .le 6, 3) := by decide +kernel
theorem dX11_take_223 : decode cX11_take 223 = .ok (.ldc 99, 2) := by decide +kernel
theorem dX11_take_225 : decode cX11_take 225 = .ok (.ireturn, 1) := by decide +kernel
theorem dX11_take_226 : decode cX11_take 226 = .ok (.aload_n 0, 1) := by decide +kernel
theorem dX11_take_227 : decode cX11_take 227 = .ok (.iload_n 1, 1) := by decide +kernel
theorem dX11_take_228 : decode cX11_take 228 = .ok (.iconst 0, 1) := by decide +kernel
theorem dX11_take_229 : decode cX11_take 229 = .ok (.invokevirtual 102, 3) := by decide +kernel
theorem dX11_take_232 : decode cX11_take 232 = .ok (.aload_n 0, 1) := by decide +kernel
theorem dX11_take_233 : decode cX11_take 233 = .ok (.aload_n 0, 1) := by decide +kernel
theorem dX11_take_234 : decode cX11_take 234 = .ok (.iconst 0, 1) := by decide +kernel
theorem dX11_take_235 : decode cX11_take 235 = .ok (.invokevirtual 106, 3) := by decide +kernel
theorem dX11_take_238 : decode cX11_take 238 = .ok (.invokevirtual 61, 3) := by decide +kernel
theorem dX11_take_241 : decode cX11_take 241 = .ok (.ireturn, 1) := by decide +kernel
theorem dX11_clear_0 : decode cX11_clear 0 = .ok (.iload_n 1, 1) := by decide +kernel
theorem dX11_clear_1 : decode cX11_clear 1 = .ok (.invokestatic 92, 3) := by decide +kernel
theorem dX11_clear_4 : decode cX11_clear 4 = .ok (.ifCond .ne 6, 3) := by decide +kernel
theorem dX11_clear_7 : decode cX11_clear 7 = .ok (.ldc 56, 2) := by decide +kernel
theorem dX11_clear_9 : decode cX11_clear 9 = .ok (.ireturn, 1) := by decide +kernel
theorem dX11_clear_10 : decode cX11_clear 10 = .ok (.aload_n 0, 1) := by decide +kernel
theorem dX11_clear_11 : decode cX11_clear 11 = .ok (.getfield 7, 3) := by decide +kernel
theorem dX11_clear_14 : decode cX11_clear 14 = .ok (.iload_n 1, 1) := by decide +kernel
theorem dX11_clear_15 : decode cX11_clear 15 = .ok (.baload, 1) := by decide +kernel
theorem dX11_clear_16 : decode cX11_clear 16 = .ok (.ifCond .eq 7, 3) := by decide +kernel
theorem dX11_clear_19 : decode cX11_clear 19 = .ok (.iconst 1, 1) := by decide +kernel
theorem dX11_clear_20 : decode cX11_clear 20 = .ok (.goto 4, 3) := by decide +kernel
theorem dX11_clear_23 : decode cX11_clear 23 = .ok (.iconst 0, 1) := by decide +kernel
theorem dX11_clear_24 : decode cX11_clear 24 = .ok (.istore_n 2, 1) := by decide +kernel
theorem dX11_clear_25 : decode cX11_clear 25 = .ok (.aload_n 0, 1) := by decide +kernel
theorem dX11_clear_26 : decode cX11_clear 26 = .ok (.getfield 7, 3) := by decide +kernel
theorem dX11_clear_29 : decode cX11_clear 29 = .ok (.iload_n 1, 1) := by decide +kernel
theorem dX11_clear_30 : decode cX11_clear 30 = .ok (.iconst 0, 1) := by decide +kernel
theorem dX11_clear_31 : decode cX11_clear 31 = .ok (.bastore, 1) := by decide +kernel
theorem dX11_clear_32 : decode cX11_clear 32 = .ok (.iload_n 2, 1) := by decide +kernel
theorem dX11_clear_33 : decode cX11_clear 33 = .ok (.ireturn, 1) := by decide +kernel
theorem dX11_number_0 : decode cX11_number 0 = .ok (.iload_n 1, 1) := by decide +kernel
theorem dX11_number_1 : decode cX11_number 1 = .ok (.invokestatic 92, 3) := by decide +kernel
theorem dX11_number_4 : decode cX11_number 4 = .ok (.ifCond .eq 15, 3) := by decide +kernel
theorem dX11_number_7 : decode cX11_number 7 = .ok (.iload_n 2, 1) := by decide +kernel
theorem dX11_number_8 : decode cX11_number 8 = .ok (.i2l, 1) := by decide +kernel
theorem dX11_number_9 : decode cX11_number 9 = .ok (.lconst 0, 1) := by decide +kernel
theorem dX11_number_10 : decode cX11_number 10 = .ok (.ldc2_w 109, 3) := by decide +kernel
theorem dX11_number_13 : decode cX11_number 13 = .ok (.invokestatic 46, 3) := by decide +kernel
theorem dX11_number_16 : decode cX11_number 16 = .ok (.ifCond .ne 7, 3) := by decide +kernel
theorem dX11_number_19 : decode cX11_number 19 = .ok (.ldc2_w 64, 3) := by decide +kernel
theorem dX11_number_22 : decode cX11_number 22 = .ok (.lreturn, 1) := by decide +kernel
theorem dX11_number_23 : decode cX11_number 23 = .ok (.aload_n 0, 1) := by decide +kernel
theorem dX11_number_24 : decode cX11_number 24 = .ok (.getfield 7, 3) := by decide +kernel
theorem dX11_number_27 : decode cX11_number 27 = .ok (.iload_n 1, 1) := by decide +kernel
theorem dX11_number_28 : decode cX11_number 28 = .ok (.baload, 1) := by decide +kernel
theorem dX11_number_29 : decode cX11_number 29 = .ok (.ifCond .ne 10, 3) := by decide +kernel
theorem dX11_number_32 : decode cX11_number 32 = .ok (.aload_n 0, 1) := by decide +kernel
theorem dX11_number_33 : decode cX11_number 33 = .ok (.iconst 1, 1) := by decide +kernel
theorem dX11_number_34 : decode cX11_number 34 = .ok (.invokevirtual 57, 3) := by decide +kernel
theorem dX11_number_37 : decode cX11_number 37 = .ok (.i2l, 1) := by decide +kernel
theorem dX11_number_38 : decode cX11_number 38 = .ok (.lreturn, 1) := by decide +kernel
theorem dX11_number_39 : decode cX11_number 39 = .ok (.aload_n 0, 1) := by decide +kernel
theorem dX11_number_40 : decode cX11_number 40 = .ok (.iconst 0, 1) := by decide +kernel
theorem dX11_number_41 : decode cX11_number 41 = .ok (.putfield 39, 3) := by decide +kernel
theorem dX11_number_44 : decode cX11_number 44 = .ok (.aload_n 0, 1) := by decide +kernel
theorem dX11_number_45 : decode cX11_number 45 = .ok (.getfield 13, 3) := by decide +kernel
theorem dX11_number_48 : decode cX11_number 48 = .ok (.iconst 4, 1) := by decide +kernel
theorem dX11_number_49 : decode cX11_number 49 = .ok (.iload_n 1, 1) := by decide +kernel
theorem dX11_number_50 : decode cX11_number 50 = .ok (.imul, 1) := by decide +kernel
theorem dX11_number_51 : decode cX11_number 51 = .ok (.iload_n 2, 1) := by decide +kernel
theorem dX11_number_52 : decode cX11_number 52 = .ok (.iadd, 1) := by decide +kernel
theorem dX11_number_53 : decode cX11_number 53 = .ok (.laload, 1) := by decide +kernel
theorem dX11_number_54 : decode cX11_number 54 = .ok (.lreturn, 1) := by decide +kernel
theorem dX11_norm_0 : decode cX11_norm 0 = .ok (.iload_n 1, 1) := by decide +kernel
theorem dX11_norm_1 : decode cX11_norm 1 = .ok (.invokestatic 92, 3) := by decide +kernel
theorem dX11_norm_4 : decode cX11_norm 4 = .ok (.ifCond .ne 6, 3) := by decide +kernel
theorem dX11_norm_7 : decode cX11_norm 7 = .ok (.ldc 56, 2) := by decide +kernel
theorem dX11_norm_9 : decode cX11_norm 9 = .ok (.ireturn, 1) := by decide +kernel
theorem dX11_norm_10 : decode cX11_norm 10 = .ok (.aload_n 0, 1) := by decide +kernel
theorem dX11_norm_11 : decode cX11_norm 11 = .ok (.getfield 7, 3) := by decide +kernel
theorem dX11_norm_14 : decode cX11_norm 14 = .ok (.iload_n 1, 1) := by decide +kernel
theorem dX11_norm_15 : decode cX11_norm 15 = .ok (.baload, 1) := by decide +kernel
theorem dX11_norm_16 : decode cX11_norm 16 = .ok (.ifCond .ne 9, 3) := by decide +kernel
theorem dX11_norm_19 : decode cX11_norm 19 = .ok (.aload_n 0, 1) := by decide +kernel
theorem dX11_norm_20 : decode cX11_norm 20 = .ok (.iconst 1, 1) := by decide +kernel
theorem dX11_norm_21 : decode cX11_norm 21 = .ok (.invokevirtual 57, 3) := by decide +kernel
theorem dX11_norm_24 : decode cX11_norm 24 = .ok (.ireturn, 1) := by decide +kernel
theorem dX11_norm_25 : decode cX11_norm 25 = .ok (.aload_n 0, 1) := by decide +kernel
theorem dX11_norm_26 : decode cX11_norm 26 = .ok (.iconst 0, 1) := by decide +kernel
theorem dX11_norm_27 : decode cX11_norm 27 = .ok (.iload_n 1, 1) := by decide +kernel
theorem dX11_norm_28 : decode cX11_norm 28 = .ok (.invokevirtual 111, 3) := by decide +kernel
theorem dX11_norm_31 : decode cX11_norm 31 = .ok (.aload_n 0, 1) := by decide +kernel
theorem dX11_norm_32 : decode cX11_norm 32 = .ok (.aload_n 0, 1) := by decide +kernel
theorem dX11_norm_33 : decode cX11_norm 33 = .ok (.iconst 0, 1) := by decide +kernel
theorem dX11_norm_34 : decode cX11_norm 34 = .ok (.invokevirtual 83, 3) := by decide +kernel
theorem dX11_norm_37 : decode cX11_norm 37 = .ok (.l2i, 1) := by decide +kernel
theorem dX11_norm_38 : decode cX11_norm 38 = .ok (.invokevirtual 61, 3) := by decide +kernel
theorem dX11_norm_41 : decode cX11_norm 41 = .ok (.ireturn, 1) := by decide +kernel
theorem dX11_kind_0 : decode cX11_kind 0 = .ok (.iload_n 1, 1) := by decide +kernel
theorem dX11_kind_1 : decode cX11_kind 1 = .ok (.invokestatic 92, 3) := by decide +kernel
theorem dX11_kind_4 : decode cX11_kind 4 = .ok (.ifCond .ne 6, 3) := by decide +kernel
theorem dX11_kind_7 : decode cX11_kind 7 = .ok (.ldc 56, 2) := by decide +kernel
theorem dX11_kind_9 : decode cX11_kind 9 = .ok (.ireturn, 1) := by decide +kernel
theorem dX11_kind_10 : decode cX11_kind 10 = .ok (.aload_n 0, 1) := by decide +kernel
theorem dX11_kind_11 : decode cX11_kind 11 = .ok (.getfield 7, 3) := by decide +kernel
theorem dX11_kind_14 : decode cX11_kind 14 = .ok (.iload_n 1, 1) := by decide +kernel
theorem dX11_kind_15 : decode cX11_kind 15 = .ok (.baload, 1) := by decide +kernel
theorem dX11_kind_16 : decode cX11_kind 16 = .ok (.ifCond .ne 9, 3) := by decide +kernel
theorem dX11_kind_19 : decode cX11_kind 19 = .ok (.aload_n 0, 1) := by decide +kernel
theorem dX11_kind_20 : decode cX11_kind 20 = .ok (.iconst 1, 1) := by decide +kernel
theorem dX11_kind_21 : decode cX11_kind 21 = .ok (.invokevirtual 57, 3) := by decide +kernel
theorem dX11_kind_24 : decode cX11_kind 24 = .ok (.ireturn, 1) := by decide +kernel
theorem dX11_kind_25 : decode cX11_kind 25 = .ok (.aload_n 0, 1) := by decide +kernel
theorem dX11_kind_26 : decode cX11_kind 26 = .ok (.iconst 0, 1) := by decide +kernel
theorem dX11_kind_27 : decode cX11_kind 27 = .ok (.iload_n 1, 1) := by decide +kernel
theorem dX11_kind_28 : decode cX11_kind 28 = .ok (.invokevirtual 111, 3) := by decide +kernel
theorem dX11_kind_31 : decode cX11_kind 31 = .ok (.aload_n 0, 1) := by decide +kernel
theorem dX11_kind_32 : decode cX11_kind 32 = .ok (.aload_n 0, 1) := by decide +kernel
theorem dX11_kind_33 : decode cX11_kind 33 = .ok (.iconst 0, 1) := by decide +kernel
theorem dX11_kind_34 : decode cX11_kind 34 = .ok (.invokevirtual 106, 3) := by decide +kernel
theorem dX11_kind_37 : decode cX11_kind 37 = .ok (.invokevirtual 61, 3) := by decide +kernel
theorem dX11_kind_40 : decode cX11_kind 40 = .ok (.ireturn, 1) := by decide +kernel
theorem dX11_is_0 : decode cX11_is 0 = .ok (.iload_n 1, 1) := by decide +kernel
theorem dX11_is_1 : decode cX11_is 1 = .ok (.invokestatic 92, 3) := by decide +kernel
theorem dX11_is_4 : decode cX11_is 4 = .ok (.ifCond .eq 15, 3) := by decide +kernel
theorem dX11_is_7 : decode cX11_is 7 = .ok (.iload_n 2, 1) := by decide +kernel
theorem dX11_is_8 : decode cX11_is 8 = .ok (.i2l, 1) := by decide +kernel
theorem dX11_is_9 : decode cX11_is 9 = .ok (.lconst 0, 1) := by decide +kernel
theorem dX11_is_10 : decode cX11_is 10 = .ok (.ldc2_w 66, 3) := by decide +kernel
theorem dX11_is_13 : decode cX11_is 13 = .ok (.invokestatic 46, 3) := by decide +kernel
theorem dX11_is_16 : decode cX11_is 16 = .ok (.ifCond .ne 6, 3) := by decide +kernel
theorem dX11_is_19 : decode cX11_is 19 = .ok (.ldc 56, 2) := by decide +kernel
theorem dX11_is_21 : decode cX11_is 21 = .ok (.ireturn, 1) := by decide +kernel
theorem dX11_is_22 : decode cX11_is 22 = .ok (.aload_n 0, 1) := by decide +kernel
theorem dX11_is_23 : decode cX11_is 23 = .ok (.getfield 7, 3) := by decide +kernel
theorem dX11_is_26 : decode cX11_is 26 = .ok (.iload_n 1, 1) := by decide +kernel
theorem dX11_is_27 : decode cX11_is 27 = .ok (.baload, 1) := by decide +kernel
theorem dX11_is_28 : decode cX11_is 28 = .ok (.ifCond .ne 9, 3) := by decide +kernel
theorem dX11_is_31 : decode cX11_is 31 = .ok (.aload_n 0, 1) := by decide +kernel
theorem dX11_is_32 : decode cX11_is 32 = .ok (.iconst 1, 1) := by decide +kernel
theorem dX11_is_33 : decode cX11_is 33 = .ok (.invokevirtual 57, 3) := by decide +kernel
theorem dX11_is_36 : decode cX11_is 36 = .ok (.ireturn, 1) := by decide +kernel
theorem dX11_is_37 : decode cX11_is 37 = .ok (.aload_n 0, 1) := by decide +kernel
theorem dX11_is_38 : decode cX11_is 38 = .ok (.iconst 0, 1) := by decide +kernel
theorem dX11_is_39 : decode cX11_is 39 = .ok (.iload_n 1, 1) := by decide +kernel
theorem dX11_is_40 : decode cX11_is 40 = .ok (.invokevirtual 111, 3) := by decide +kernel
theorem dX11_is_43 : decode cX11_is 43 = .ok (.aload_n 0, 1) := by decide +kernel
theorem dX11_is_44 : decode cX11_is 44 = .ok (.aload_n 0, 1) := by decide +kernel
theorem dX11_is_45 : decode cX11_is 45 = .ok (.iconst 0, 1) := by decide +kernel
theorem dX11_is_46 : decode cX11_is 46 = .ok (.invokevirtual 106, 3) := by decide +kernel
theorem dX11_is_49 : decode cX11_is 49 = .ok (.iload_n 2, 1) := by decide +kernel
theorem dX11_is_50 : decode cX11_is 50 = .ok (.invokestatic 114, 3) := by decide +kernel
theorem dX11_is_53 : decode cX11_is 53 = .ok (.ifCond .eq 7, 3) := by decide +kernel
theorem dX11_is_56 : decode cX11_is 56 = .ok (.iconst 1, 1) := by decide +kernel
theorem dX11_is_57 : decode cX11_is 57 = .ok (.goto 4, 3) := by decide +kernel
theorem dX11_is_60 : decode cX11_is 60 = .ok (.iconst 0, 1) := by decide +kernel
theorem dX11_is_61 : decode cX11_is 61 = .ok (.invokevirtual 61, 3) := by decide +kernel
theorem dX11_is_64 : decode cX11_is 64 = .ok (.ireturn, 1) := by decide +kernel
theorem dX11_as_0 : decode cX11_as 0 = .ok (.iload_n 1, 1) := by decide +kernel
theorem dX11_as_1 : decode cX11_as 1 = .ok (.invokestatic 92, 3) := by decide +kernel
theorem dX11_as_4 : decode cX11_as 4 = .ok (.ifCond .eq 15, 3) := by decide +kernel
theorem dX11_as_7 : decode cX11_as 7 = .ok (.iload_n 2, 1) := by decide +kernel
theorem dX11_as_8 : decode cX11_as 8 = .ok (.i2l, 1) := by decide +kernel
theorem dX11_as_9 : decode cX11_as 9 = .ok (.lconst 0, 1) := by decide +kernel
theorem dX11_as_10 : decode cX11_as 10 = .ok (.ldc2_w 66, 3) := by decide +kernel
theorem dX11_as_13 : decode cX11_as 13 = .ok (.invokestatic 46, 3) := by decide +kernel
theorem dX11_as_16 : decode cX11_as 16 = .ok (.ifCond .ne 6, 3) := by decide +kernel
theorem dX11_as_19 : decode cX11_as 19 = .ok (.ldc 56, 2) := by decide +kernel
theorem dX11_as_21 : decode cX11_as 21 = .ok (.ireturn, 1) := by decide +kernel
theorem dX11_as_22 : decode cX11_as 22 = .ok (.aload_n 0, 1) := by decide +kernel
theorem dX11_as_23 : decode cX11_as 23 = .ok (.getfield 7, 3) := by decide +kernel
theorem dX11_as_26 : decode cX11_as 26 = .ok (.iload_n 1, 1) := by decide +kernel
theorem dX11_as_27 : decode cX11_as 27 = .ok (.baload, 1) := by decide +kernel
theorem dX11_as_28 : decode cX11_as 28 = .ok (.ifCond .ne 9, 3) := by decide +kernel
theorem dX11_as_31 : decode cX11_as 31 = .ok (.aload_n 0, 1) := by decide +kernel
theorem dX11_as_32 : decode cX11_as 32 = .ok (.iconst 1, 1) := by decide +kernel
theorem dX11_as_33 : decode cX11_as 33 = .ok (.invokevirtual 57, 3) := by decide +kernel
theorem dX11_as_36 : decode cX11_as 36 = .ok (.ireturn, 1) := by decide +kernel
theorem dX11_as_37 : decode cX11_as 37 = .ok (.aload_n 0, 1) := by decide +kernel
theorem dX11_as_38 : decode cX11_as 38 = .ok (.iconst 0, 1) := by decide +kernel
theorem dX11_as_39 : decode cX11_as 39 = .ok (.iload_n 1, 1) := by decide +kernel
theorem dX11_as_40 : decode cX11_as 40 = .ok (.invokevirtual 111, 3) := by decide +kernel
theorem dX11_as_43 : decode cX11_as 43 = .ok (.aload_n 0, 1) := by decide +kernel
theorem dX11_as_44 : decode cX11_as 44 = .ok (.iconst 0, 1) := by decide +kernel
theorem dX11_as_45 : decode cX11_as 45 = .ok (.invokevirtual 106, 3) := by decide +kernel
theorem dX11_as_48 : decode cX11_as 48 = .ok (.iload_n 2, 1) := by decide +kernel
theorem dX11_as_49 : decode cX11_as 49 = .ok (.invokestatic 114, 3) := by decide +kernel
theorem dX11_as_52 : decode cX11_as 52 = .ok (.ifCond .eq 16, 3) := by decide +kernel
theorem dX11_as_55 : decode cX11_as 55 = .ok (.aload_n 0, 1) := by decide +kernel
theorem dX11_as_56 : decode cX11_as 56 = .ok (.aload_n 0, 1) := by decide +kernel
theorem dX11_as_57 : decode cX11_as 57 = .ok (.iconst 0, 1) := by decide +kernel
theorem dX11_as_58 : decode cX11_as 58 = .ok (.invokevirtual 83, 3) := by decide +kernel
end
section
theorem dX11_as_61 : decode cX11_as 61 = .ok (.l2i, 1) := by decide +kernel
theorem dX11_as_62 : decode cX11_as 62 = .ok (.invokevirtual 61, 3) := by decide +kernel
theorem dX11_as_65 : decode cX11_as 65 = .ok (.goto 8, 3) := by decide +kernel
theorem dX11_as_68 : decode cX11_as 68 = .ok (.aload_n 0, 1) := by decide +kernel
theorem dX11_as_69 : decode cX11_as 69 = .ok (.iconst 3, 1) := by decide +kernel
theorem dX11_as_70 : decode cX11_as 70 = .ok (.invokevirtual 57, 3) := by decide +kernel
theorem dX11_as_73 : decode cX11_as 73 = .ok (.ireturn, 1) := by decide +kernel
theorem dX11_begins_0 : decode cX11_begins 0 = .ok (.aload_n 0, 1) := by decide +kernel
theorem dX11_begins_1 : decode cX11_begins 1 = .ok (.getfield 118, 3) := by decide +kernel
theorem dX11_begins_4 : decode cX11_begins 4 = .ok (.bipush 16, 2) := by decide +kernel
theorem dX11_begins_6 : decode cX11_begins 6 = .ok (.if_icmp .ge 23, 3) := by decide +kernel
theorem dX11_begins_9 : decode cX11_begins 9 = .ok (.aload_n 0, 1) := by decide +kernel
theorem dX11_begins_10 : decode cX11_begins 10 = .ok (.getfield 30, 3) := by decide +kernel
theorem dX11_begins_13 : decode cX11_begins 13 = .ok (.aload_n 0, 1) := by decide +kernel
theorem dX11_begins_14 : decode cX11_begins 14 = .ok (.getfield 118, 3) := by decide +kernel
theorem dX11_begins_17 : decode cX11_begins 17 = .ok (.iload_n 1, 1) := by decide +kernel
theorem dX11_begins_18 : decode cX11_begins 18 = .ok (.iastore, 1) := by decide +kernel
theorem dX11_begins_19 : decode cX11_begins 19 = .ok (.aload_n 0, 1) := by decide +kernel
theorem dX11_begins_20 : decode cX11_begins 20 = .ok (.dup, 1) := by decide +kernel
theorem dX11_begins_21 : decode cX11_begins 21 = .ok (.getfield 118, 3) := by decide +kernel
theorem dX11_begins_24 : decode cX11_begins 24 = .ok (.iconst 1, 1) := by decide +kernel
theorem dX11_begins_25 : decode cX11_begins 25 = .ok (.iadd, 1) := by decide +kernel
theorem dX11_begins_26 : decode cX11_begins 26 = .ok (.putfield 118, 3) := by decide +kernel
theorem dX11_begins_29 : decode cX11_begins 29 = .ok (.return_, 1) := by decide +kernel
theorem dX11_sizeOf_0 : decode cX11_sizeOf 0 = .ok (.iload_n 1, 1) := by decide +kernel
theorem dX11_sizeOf_1 : decode cX11_sizeOf 1 = .ok (.iconst 4, 1) := by decide +kernel
theorem dX11_sizeOf_2 : decode cX11_sizeOf 2 = .ok (.if_icmp .ne 11, 3) := by decide +kernel
theorem dX11_sizeOf_5 : decode cX11_sizeOf 5 = .ok (.aload_n 0, 1) := by decide +kernel
theorem dX11_sizeOf_6 : decode cX11_sizeOf 6 = .ok (.bipush 11, 2) := by decide +kernel
theorem dX11_sizeOf_8 : decode cX11_sizeOf 8 = .ok (.invokevirtual 121, 3) := by decide +kernel
theorem dX11_sizeOf_11 : decode cX11_sizeOf 11 = .ok (.iconst 1, 1) := by decide +kernel
theorem dX11_sizeOf_12 : decode cX11_sizeOf 12 = .ok (.ireturn, 1) := by decide +kernel
theorem dX11_sizeOf_13 : decode cX11_sizeOf 13 = .ok (.iload_n 1, 1) := by decide +kernel
theorem dX11_sizeOf_14 : decode cX11_sizeOf 14 = .ok (.iconst 3, 1) := by decide +kernel
theorem dX11_sizeOf_15 : decode cX11_sizeOf 15 = .ok (.if_icmp .ne 9, 3) := by decide +kernel
theorem dX11_sizeOf_18 : decode cX11_sizeOf 18 = .ok (.aload_n 0, 1) := by decide +kernel
theorem dX11_sizeOf_19 : decode cX11_sizeOf 19 = .ok (.bipush 12, 2) := by decide +kernel
theorem dX11_sizeOf_21 : decode cX11_sizeOf 21 = .ok (.invokevirtual 121, 3) := by decide +kernel
theorem dX11_sizeOf_24 : decode cX11_sizeOf 24 = .ok (.aload_n 0, 1) := by decide +kernel
theorem dX11_sizeOf_25 : decode cX11_sizeOf 25 = .ok (.bipush 10, 2) := by decide +kernel
theorem dX11_sizeOf_27 : decode cX11_sizeOf 27 = .ok (.invokevirtual 121, 3) := by decide +kernel
theorem dX11_sizeOf_30 : decode cX11_sizeOf 30 = .ok (.aload_n 0, 1) := by decide +kernel
theorem dX11_sizeOf_31 : decode cX11_sizeOf 31 = .ok (.iconst 0, 1) := by decide +kernel
theorem dX11_sizeOf_32 : decode cX11_sizeOf 32 = .ok (.invokevirtual 83, 3) := by decide +kernel
theorem dX11_sizeOf_35 : decode cX11_sizeOf 35 = .ok (.ldc2_w 125, 3) := by decide +kernel
theorem dX11_sizeOf_38 : decode cX11_sizeOf 38 = .ok (.lrem, 1) := by decide +kernel
theorem dX11_sizeOf_39 : decode cX11_sizeOf 39 = .ok (.l2i, 1) := by decide +kernel
theorem dX11_sizeOf_40 : decode cX11_sizeOf 40 = .ok (.iload_n 1, 1) := by decide +kernel
theorem dX11_sizeOf_41 : decode cX11_sizeOf 41 = .ok (.iconst 3, 1) := by decide +kernel
theorem dX11_sizeOf_42 : decode cX11_sizeOf 42 = .ok (.if_icmp .ne 7, 3) := by decide +kernel
theorem dX11_sizeOf_45 : decode cX11_sizeOf 45 = .ok (.iconst 2, 1) := by decide +kernel
theorem dX11_sizeOf_46 : decode cX11_sizeOf 46 = .ok (.goto 4, 3) := by decide +kernel
theorem dX11_sizeOf_49 : decode cX11_sizeOf 49 = .ok (.iconst 0, 1) := by decide +kernel
theorem dX11_sizeOf_50 : decode cX11_sizeOf 50 = .ok (.iadd, 1) := by decide +kernel
theorem dX11_sizeOf_51 : decode cX11_sizeOf 51 = .ok (.ireturn, 1) := by decide +kernel
theorem dX11_share_0 : decode cX11_share 0 = .ok (.iload_n 1, 1) := by decide +kernel
theorem dX11_share_1 : decode cX11_share 1 = .ok (.iconst 1, 1) := by decide +kernel
theorem dX11_share_2 : decode cX11_share 2 = .ok (.if_icmp .ne 9, 3) := by decide +kernel
theorem dX11_share_5 : decode cX11_share 5 = .ok (.aload_n 0, 1) := by decide +kernel
theorem dX11_share_6 : decode cX11_share 6 = .ok (.bipush 21, 2) := by decide +kernel
theorem dX11_share_8 : decode cX11_share 8 = .ok (.invokevirtual 121, 3) := by decide +kernel
theorem dX11_share_11 : decode cX11_share 11 = .ok (.iload_n 1, 1) := by decide +kernel
theorem dX11_share_12 : decode cX11_share 12 = .ok (.iconst 4, 1) := by decide +kernel
theorem dX11_share_13 : decode cX11_share 13 = .ok (.if_icmp .ne 9, 3) := by decide +kernel
theorem dX11_share_16 : decode cX11_share 16 = .ok (.aload_n 0, 1) := by decide +kernel
theorem dX11_share_17 : decode cX11_share 17 = .ok (.bipush 23, 2) := by decide +kernel
theorem dX11_share_19 : decode cX11_share 19 = .ok (.invokevirtual 121, 3) := by decide +kernel
theorem dX11_share_22 : decode cX11_share 22 = .ok (.iload_n 1, 1) := by decide +kernel
theorem dX11_share_23 : decode cX11_share 23 = .ok (.iconst 1, 1) := by decide +kernel
theorem dX11_share_24 : decode cX11_share 24 = .ok (.if_icmp .le 9, 3) := by decide +kernel
theorem dX11_share_27 : decode cX11_share 27 = .ok (.aload_n 0, 1) := by decide +kernel
theorem dX11_share_28 : decode cX11_share 28 = .ok (.bipush 22, 2) := by decide +kernel
theorem dX11_share_30 : decode cX11_share 30 = .ok (.invokevirtual 121, 3) := by decide +kernel
theorem dX11_share_33 : decode cX11_share 33 = .ok (.aload_n 0, 1) := by decide +kernel
theorem dX11_share_34 : decode cX11_share 34 = .ok (.bipush 20, 2) := by decide +kernel
theorem dX11_share_36 : decode cX11_share 36 = .ok (.invokevirtual 121, 3) := by decide +kernel
theorem dX11_share_39 : decode cX11_share 39 = .ok (.iload_n 1, 1) := by decide +kernel
theorem dX11_share_40 : decode cX11_share 40 = .ok (.iconst 1, 1) := by decide +kernel
theorem dX11_share_41 : decode cX11_share 41 = .ok (.if_icmp .le 14, 3) := by decide +kernel
theorem dX11_share_44 : decode cX11_share 44 = .ok (.bipush 24, 2) := by decide +kernel
theorem dX11_share_46 : decode cX11_share 46 = .ok (.aload_n 0, 1) := by decide +kernel
theorem dX11_share_47 : decode cX11_share 47 = .ok (.iload_n 1, 1) := by decide +kernel
theorem dX11_share_48 : decode cX11_share 48 = .ok (.invokevirtual 127, 3) := by decide +kernel
theorem dX11_share_51 : decode cX11_share 51 = .ok (.iadd, 1) := by decide +kernel
theorem dX11_share_52 : decode cX11_share 52 = .ok (.goto 5, 3) := by decide +kernel
theorem dX11_share_55 : decode cX11_share 55 = .ok (.bipush 24, 2) := by decide +kernel
theorem dX11_share_57 : decode cX11_share 57 = .ok (.istore_n 2, 1) := by decide +kernel
theorem dX11_share_58 : decode cX11_share 58 = .ok (.iload_n 1, 1) := by decide +kernel
theorem dX11_share_59 : decode cX11_share 59 = .ok (.iconst 1, 1) := by decide +kernel
theorem dX11_share_60 : decode cX11_share 60 = .ok (.if_icmp .ne 9, 3) := by decide +kernel
theorem dX11_share_63 : decode cX11_share 63 = .ok (.iload_n 2, 1) := by decide +kernel
theorem dX11_share_64 : decode cX11_share 64 = .ok (.iconst 2, 1) := by decide +kernel
theorem dX11_share_65 : decode cX11_share 65 = .ok (.idiv, 1) := by decide +kernel
theorem dX11_share_66 : decode cX11_share 66 = .ok (.goto 15, 3) := by decide +kernel
theorem dX11_share_69 : decode cX11_share 69 = .ok (.iload_n 1, 1) := by decide +kernel
theorem dX11_share_70 : decode cX11_share 70 = .ok (.iconst 4, 1) := by decide +kernel
theorem dX11_share_71 : decode cX11_share 71 = .ok (.if_icmp .ne 9, 3) := by decide +kernel
theorem dX11_share_74 : decode cX11_share 74 = .ok (.iload_n 2, 1) := by decide +kernel
theorem dX11_share_75 : decode cX11_share 75 = .ok (.iconst 5, 1) := by decide +kernel
theorem dX11_share_76 : decode cX11_share 76 = .ok (.idiv, 1) := by decide +kernel
theorem dX11_share_77 : decode cX11_share 77 = .ok (.goto 4, 3) := by decide +kernel
theorem dX11_share_80 : decode cX11_share 80 = .ok (.iload_n 2, 1) := by decide +kernel
theorem dX11_share_81 : decode cX11_share 81 = .ok (.ireturn, 1) := by decide +kernel
theorem dX11_mark_0 : decode cX11_mark 0 = .ok (.iload_n 1, 1) := by decide +kernel
theorem dX11_mark_1 : decode cX11_mark 1 = .ok (.iconst 3, 1) := by decide +kernel
theorem dX11_mark_2 : decode cX11_mark 2 = .ok (.if_icmp .ne 9, 3) := by decide +kernel
theorem dX11_mark_5 : decode cX11_mark 5 = .ok (.aload_n 0, 1) := by decide +kernel
theorem dX11_mark_6 : decode cX11_mark 6 = .ok (.bipush 32, 2) := by decide +kernel
theorem dX11_mark_8 : decode cX11_mark 8 = .ok (.invokevirtual 121, 3) := by decide +kernel
theorem dX11_mark_11 : decode cX11_mark 11 = .ok (.iload_n 1, 1) := by decide +kernel
theorem dX11_mark_12 : decode cX11_mark 12 = .ok (.iconst 1, 1) := by decide +kernel
theorem dX11_mark_13 : decode cX11_mark 13 = .ok (.if_icmp .le 9, 3) := by decide +kernel
theorem dX11_mark_16 : decode cX11_mark 16 = .ok (.aload_n 0, 1) := by decide +kernel
theorem dX11_mark_17 : decode cX11_mark 17 = .ok (.bipush 31, 2) := by decide +kernel
theorem dX11_mark_19 : decode cX11_mark 19 = .ok (.invokevirtual 121, 3) := by decide +kernel
theorem dX11_mark_22 : decode cX11_mark 22 = .ok (.aload_n 0, 1) := by decide +kernel
theorem dX11_mark_23 : decode cX11_mark 23 = .ok (.bipush 30, 2) := by decide +kernel
theorem dX11_mark_25 : decode cX11_mark 25 = .ok (.invokevirtual 121, 3) := by decide +kernel
theorem dX11_mark_28 : decode cX11_mark 28 = .ok (.aload_n 0, 1) := by decide +kernel
theorem dX11_mark_29 : decode cX11_mark 29 = .ok (.getfield 33, 3) := by decide +kernel
theorem dX11_mark_32 : decode cX11_mark 32 = .ok (.iconst 0, 1) := by decide +kernel
theorem dX11_mark_33 : decode cX11_mark 33 = .ok (.laload, 1) := by decide +kernel
theorem dX11_mark_34 : decode cX11_mark 34 = .ok (.aload_n 0, 1) := by decide +kernel
theorem dX11_mark_35 : decode cX11_mark 35 = .ok (.getfield 33, 3) := by decide +kernel
theorem dX11_mark_38 : decode cX11_mark 38 = .ok (.iconst 1, 1) := by decide +kernel
theorem dX11_mark_39 : decode cX11_mark 39 = .ok (.laload, 1) := by decide +kernel
theorem dX11_mark_40 : decode cX11_mark 40 = .ok (.ladd, 1) := by decide +kernel
theorem dX11_mark_41 : decode cX11_mark 41 = .ok (.aload_n 0, 1) := by decide +kernel
theorem dX11_mark_42 : decode cX11_mark 42 = .ok (.getfield 33, 3) := by decide +kernel
theorem dX11_mark_45 : decode cX11_mark 45 = .ok (.iconst 2, 1) := by decide +kernel
theorem dX11_mark_46 : decode cX11_mark 46 = .ok (.laload, 1) := by decide +kernel
theorem dX11_mark_47 : decode cX11_mark 47 = .ok (.ladd, 1) := by decide +kernel
theorem dX11_mark_48 : decode cX11_mark 48 = .ok (.aload_n 0, 1) := by decide +kernel
theorem dX11_mark_49 : decode cX11_mark 49 = .ok (.getfield 33, 3) := by decide +kernel
theorem dX11_mark_52 : decode cX11_mark 52 = .ok (.iconst 3, 1) := by decide +kernel
theorem dX11_mark_53 : decode cX11_mark 53 = .ok (.laload, 1) := by decide +kernel
theorem dX11_mark_54 : decode cX11_mark 54 = .ok (.ladd, 1) := by decide +kernel
theorem dX11_mark_55 : decode cX11_mark 55 = .ok (.lstore_n 2, 1) := by decide +kernel
theorem dX11_mark_56 : decode cX11_mark 56 = .ok (.lload_n 2, 1) := by decide +kernel
theorem dX11_mark_57 : decode cX11_mark 57 = .ok (.ldc2_w 130, 3) := by decide +kernel
theorem dX11_mark_60 : decode cX11_mark 60 = .ok (.lrem, 1) := by decide +kernel
theorem dX11_mark_61 : decode cX11_mark 61 = .ok (.ldc2_w 130, 3) := by decide +kernel
theorem dX11_mark_64 : decode cX11_mark 64 = .ok (.ladd, 1) := by decide +kernel
theorem dX11_mark_65 : decode cX11_mark 65 = .ok (.ldc2_w 130, 3) := by decide +kernel
theorem dX11_mark_68 : decode cX11_mark 68 = .ok (.lrem, 1) := by decide +kernel
theorem dX11_mark_69 : decode cX11_mark 69 = .ok (.l2i, 1) := by decide +kernel
theorem dX11_mark_70 : decode cX11_mark 70 = .ok (.istore 4, 2) := by decide +kernel
theorem dX11_mark_72 : decode cX11_mark 72 = .ok (.iload_n 1, 1) := by decide +kernel
theorem dX11_mark_73 : decode cX11_mark 73 = .ok (.iconst 1, 1) := by decide +kernel
theorem dX11_mark_74 : decode cX11_mark 74 = .ok (.if_icmp .le 10, 3) := by decide +kernel
theorem dX11_mark_77 : decode cX11_mark 77 = .ok (.iconst 2, 1) := by decide +kernel
theorem dX11_mark_78 : decode cX11_mark 78 = .ok (.iload 4, 2) := by decide +kernel
theorem dX11_mark_80 : decode cX11_mark 80 = .ok (.imul, 1) := by decide +kernel
theorem dX11_mark_81 : decode cX11_mark 81 = .ok (.goto 5, 3) := by decide +kernel
theorem dX11_mark_84 : decode cX11_mark 84 = .ok (.iload 4, 2) := by decide +kernel
theorem dX11_mark_86 : decode cX11_mark 86 = .ok (.iload_n 1, 1) := by decide +kernel
theorem dX11_mark_87 : decode cX11_mark 87 = .ok (.iconst 3, 1) := by decide +kernel
theorem dX11_mark_88 : decode cX11_mark 88 = .ok (.if_icmp .ne 7, 3) := by decide +kernel
theorem dX11_mark_91 : decode cX11_mark 91 = .ok (.iconst 1, 1) := by decide +kernel
theorem dX11_mark_92 : decode cX11_mark 92 = .ok (.goto 4, 3) := by decide +kernel
theorem dX11_mark_95 : decode cX11_mark 95 = .ok (.iconst 0, 1) := by decide +kernel
theorem dX11_mark_96 : decode cX11_mark 96 = .ok (.iadd, 1) := by decide +kernel
theorem dX11_mark_97 : decode cX11_mark 97 = .ok (.ireturn, 1) := by decide +kernel
theorem dX11_ask_0 : decode cX11_ask 0 = .ok (.iload_n 1, 1) := by decide +kernel
theorem dX11_ask_1 : decode cX11_ask 1 = .ok (.invokestatic 92, 3) := by decide +kernel
theorem dX11_ask_4 : decode cX11_ask 4 = .ok (.ifCond .eq 15, 3) := by decide +kernel
theorem dX11_ask_7 : decode cX11_ask 7 = .ok (.iload_n 2, 1) := by decide +kernel
theorem dX11_ask_8 : decode cX11_ask 8 = .ok (.i2l, 1) := by decide +kernel
theorem dX11_ask_9 : decode cX11_ask 9 = .ok (.lconst 0, 1) := by decide +kernel
theorem dX11_ask_10 : decode cX11_ask 10 = .ok (.ldc2_w 54, 3) := by decide +kernel
theorem dX11_ask_13 : decode cX11_ask 13 = .ok (.invokestatic 46, 3) := by decide +kernel
theorem dX11_ask_16 : decode cX11_ask 16 = .ok (.ifCond .ne 6, 3) := by decide +kernel
theorem dX11_ask_19 : decode cX11_ask 19 = .ok (.ldc 56, 2) := by decide +kernel
theorem dX11_ask_21 : decode cX11_ask 21 = .ok (.ireturn, 1) := by decide +kernel
theorem dX11_ask_22 : decode cX11_ask 22 = .ok (.aload_n 0, 1) := by decide +kernel
theorem dX11_ask_23 : decode cX11_ask 23 = .ok (.iconst 0, 1) := by decide +kernel
theorem dX11_ask_24 : decode cX11_ask 24 = .ok (.putfield 118, 3) := by decide +kernel
theorem dX11_ask_27 : decode cX11_ask 27 = .ok (.aload_n 0, 1) := by decide +kernel
theorem dX11_ask_28 : decode cX11_ask 28 = .ok (.getfield 7, 3) := by decide +kernel
theorem dX11_ask_31 : decode cX11_ask 31 = .ok (.iload_n 1, 1) := by decide +kernel
theorem dX11_ask_32 : decode cX11_ask 32 = .ok (.baload, 1) := by decide +kernel
theorem dX11_ask_33 : decode cX11_ask 33 = .ok (.ifCond .ne 9, 3) := by decide +kernel
theorem dX11_ask_36 : decode cX11_ask 36 = .ok (.aload_n 0, 1) := by decide +kernel
theorem dX11_ask_37 : decode cX11_ask 37 = .ok (.iconst 1, 1) := by decide +kernel
theorem dX11_ask_38 : decode cX11_ask 38 = .ok (.invokevirtual 57, 3) := by decide +kernel
theorem dX11_ask_41 : decode cX11_ask 41 = .ok (.ireturn, 1) := by decide +kernel
theorem dX11_ask_42 : decode cX11_ask 42 = .ok (.aload_n 0, 1) := by decide +kernel
theorem dX11_ask_43 : decode cX11_ask 43 = .ok (.iconst 0, 1) := by decide +kernel
theorem dX11_ask_44 : decode cX11_ask 44 = .ok (.iload_n 1, 1) := by decide +kernel
theorem dX11_ask_45 : decode cX11_ask 45 = .ok (.invokevirtual 111, 3) := by decide +kernel
theorem dX11_ask_48 : decode cX11_ask 48 = .ok (.aload_n 0, 1) := by decide +kernel
theorem dX11_ask_49 : decode cX11_ask 49 = .ok (.iconst 0, 1) := by decide +kernel
theorem dX11_ask_50 : decode cX11_ask 50 = .ok (.invokevirtual 106, 3) := by decide +kernel
theorem dX11_ask_53 : decode cX11_ask 53 = .ok (.istore_n 3, 1) := by decide +kernel
theorem dX11_ask_54 : decode cX11_ask 54 = .ok (.aload_n 0, 1) := by decide +kernel
theorem dX11_ask_55 : decode cX11_ask 55 = .ok (.iload_n 2, 1) := by decide +kernel
theorem dX11_ask_56 : decode cX11_ask 56 = .ok (.ifCond .ne 11, 3) := by decide +kernel
theorem dX11_ask_59 : decode cX11_ask 59 = .ok (.aload_n 0, 1) := by decide +kernel
theorem dX11_ask_60 : decode cX11_ask 60 = .ok (.iload_n 3, 1) := by decide +kernel
theorem dX11_ask_61 : decode cX11_ask 61 = .ok (.invokevirtual 127, 3) := by decide +kernel
theorem dX11_ask_64 : decode cX11_ask 64 = .ok (.goto 21, 3) := by decide +kernel
theorem dX11_ask_67 : decode cX11_ask 67 = .ok (.iload_n 2, 1) := by decide +kernel
theorem dX11_ask_68 : decode cX11_ask 68 = .ok (.iconst 1, 1) := by decide +kernel
theorem dX11_ask_69 : decode cX11_ask 69 = .ok (.if_icmp .ne 11, 3) := by decide +kernel
theorem dX11_ask_72 : decode cX11_ask 72 = .ok (.aload_n 0, 1) := by decide +kernel
theorem dX11_ask_73 : decode cX11_ask 73 = .ok (.iload_n 3, 1) := by decide +kernel
theorem dX11_ask_74 : decode cX11_ask 74 = .ok (.invokevirtual 132, 3) := by decide +kernel
theorem dX11_ask_77 : decode cX11_ask 77 = .ok (.goto 8, 3) := by decide +kernel
theorem dX11_ask_80 : decode cX11_ask 80 = .ok (.aload_n 0, 1) := by decide +kernel
theorem dX11_ask_81 : decode cX11_ask 81 = .ok (.iload_n 3, 1) := by decide +kernel
theorem dX11_ask_82 : decode cX11_ask 82 = .ok (.invokevirtual 135, 3) := by decide +kernel
theorem dX11_ask_85 : decode cX11_ask 85 = .ok (.invokevirtual 61, 3) := by decide +kernel
theorem dX11_ask_88 : decode cX11_ask 88 = .ok (.ireturn, 1) := by decide +kernel
theorem dX11_trace_0 : decode cX11_trace 0 = .ok (.iload_n 1, 1) := by decide +kernel
theorem dX11_trace_1 : decode cX11_trace 1 = .ok (.i2l, 1) := by decide +kernel
theorem dX11_trace_2 : decode cX11_trace 2 = .ok (.lconst 0, 1) := by decide +kernel
theorem dX11_trace_3 : decode cX11_trace 3 = .ok (.aload_n 0, 1) := by decide +kernel
theorem dX11_trace_4 : decode cX11_trace 4 = .ok (.getfield 118, 3) := by decide +kernel
theorem dX11_trace_7 : decode cX11_trace 7 = .ok (.iconst 1, 1) := by decide +kernel
theorem dX11_trace_8 : decode cX11_trace 8 = .ok (.isub, 1) := by decide +kernel
theorem dX11_trace_9 : decode cX11_trace 9 = .ok (.i2l, 1) := by decide +kernel
theorem dX11_trace_10 : decode cX11_trace 10 = .ok (.invokestatic 46, 3) := by decide +kernel
theorem dX11_trace_13 : decode cX11_trace 13 = .ok (.ifCond .eq 12, 3) := by decide +kernel
theorem dX11_trace_16 : decode cX11_trace 16 = .ok (.aload_n 0, 1) := by decide +kernel
theorem dX11_trace_17 : decode cX11_trace 17 = .ok (.getfield 30, 3) := by decide +kernel
theorem dX11_trace_20 : decode cX11_trace 20 = .ok (.iload_n 1, 1) := by decide +kernel
theorem dX11_trace_21 : decode cX11_trace 21 = .ok (.iaload, 1) := by decide +kernel
theorem dX11_trace_22 : decode cX11_trace 22 = .ok (.goto 5, 3) := by decide +kernel
theorem dX11_trace_25 : decode cX11_trace 25 = .ok (.ldc 138, 2) := by decide +kernel
theorem dX11_trace_27 : decode cX11_trace 27 = .ok (.ireturn, 1) := by decide +kernel
theorem dX11_comes_0 : decode cX11_comes 0 = .ok (.aload_n 0, 1) := by decide +kernel
theorem dX11_comes_1 : decode cX11_comes 1 = .ok (.iload_n 2, 1) := by decide +kernel
theorem dX11_comes_2 : decode cX11_comes 2 = .ok (.invokevirtual 83, 3) := by decide +kernel
theorem dX11_comes_5 : decode cX11_comes 5 = .ok (.ldc2_w 100, 3) := by decide +kernel
theorem dX11_comes_8 : decode cX11_comes 8 = .ok (.lcmp, 1) := by decide +kernel
theorem dX11_comes_9 : decode cX11_comes 9 = .ok (.ifCond .le 6, 3) := by decide +kernel
theorem dX11_comes_12 : decode cX11_comes 12 = .ok (.ldc 99, 2) := by decide +kernel
theorem dX11_comes_14 : decode cX11_comes 14 = .ok (.ireturn, 1) := by decide +kernel
theorem dX11_comes_15 : decode cX11_comes 15 = .ok (.aload_n 0, 1) := by decide +kernel
theorem dX11_comes_16 : decode cX11_comes 16 = .ok (.iload_n 1, 1) := by decide +kernel
theorem dX11_comes_17 : decode cX11_comes 17 = .ok (.iload_n 2, 1) := by decide +kernel
theorem dX11_comes_18 : decode cX11_comes 18 = .ok (.invokevirtual 102, 3) := by decide +kernel
theorem dX11_comes_21 : decode cX11_comes 21 = .ok (.aload_n 0, 1) := by decide +kernel
theorem dX11_comes_22 : decode cX11_comes 22 = .ok (.aload_n 0, 1) := by decide +kernel
theorem dX11_comes_23 : decode cX11_comes 23 = .ok (.iload_n 2, 1) := by decide +kernel
theorem dX11_comes_24 : decode cX11_comes 24 = .ok (.invokevirtual 106, 3) := by decide +kernel
theorem dX11_comes_27 : decode cX11_comes 27 = .ok (.invokevirtual 61, 3) := by decide +kernel
theorem dX11_comes_30 : decode cX11_comes 30 = .ok (.ireturn, 1) := by decide +kernel
theorem dX11_times_0 : decode cX11_times 0 = .ok (.iload_n 1, 1) := by decide +kernel
theorem dX11_times_1 : decode cX11_times 1 = .ok (.invokestatic 92, 3) := by decide +kernel
theorem dX11_times_4 : decode cX11_times 4 = .ok (.ifCond .eq 17, 3) := by decide +kernel
theorem dX11_times_7 : decode cX11_times 7 = .ok (.iload_n 2, 1) := by decide +kernel
theorem dX11_times_8 : decode cX11_times 8 = .ok (.invokestatic 92, 3) := by decide +kernel
theorem dX11_times_11 : decode cX11_times 11 = .ok (.ifCond .eq 10, 3) := by decide +kernel
theorem dX11_times_14 : decode cX11_times 14 = .ok (.iload_n 3, 1) := by decide +kernel
theorem dX11_times_15 : decode cX11_times 15 = .ok (.invokestatic 92, 3) := by decide +kernel
theorem dX11_times_18 : decode cX11_times 18 = .ok (.ifCond .ne 6, 3) := by decide +kernel
theorem dX11_times_21 : decode cX11_times 21 = .ok (.ldc 56, 2) := by decide +kernel
theorem dX11_times_23 : decode cX11_times 23 = .ok (.ireturn, 1) := by decide +kernel
theorem dX11_times_24 : decode cX11_times 24 = .ok (.aload_n 0, 1) := by decide +kernel
theorem dX11_times_25 : decode cX11_times 25 = .ok (.getfield 7, 3) := by decide +kernel
theorem dX11_times_28 : decode cX11_times 28 = .ok (.iload_n 2, 1) := by decide +kernel
theorem dX11_times_29 : decode cX11_times 29 = .ok (.baload, 1) := by decide +kernel
theorem dX11_times_30 : decode cX11_times 30 = .ok (.ifCond .eq 12, 3) := by decide +kernel
theorem dX11_times_33 : decode cX11_times 33 = .ok (.aload_n 0, 1) := by decide +kernel
theorem dX11_times_34 : decode cX11_times 34 = .ok (.getfield 7, 3) := by decide +kernel
theorem dX11_times_37 : decode cX11_times 37 = .ok (.iload_n 3, 1) := by decide +kernel
theorem dX11_times_38 : decode cX11_times 38 = .ok (.baload, 1) := by decide +kernel
theorem dX11_times_39 : decode cX11_times 39 = .ok (.ifCond .ne 9, 3) := by decide +kernel
theorem dX11_times_42 : decode cX11_times 42 = .ok (.aload_n 0, 1) := by decide +kernel
theorem dX11_times_43 : decode cX11_times 43 = .ok (.iconst 1, 1) := by decide +kernel
theorem dX11_times_44 : decode cX11_times 44 = .ok (.invokevirtual 57, 3) := by decide +kernel
theorem dX11_times_47 : decode cX11_times 47 = .ok (.ireturn, 1) := by decide +kernel
theorem dX11_times_48 : decode cX11_times 48 = .ok (.aload_n 0, 1) := by decide +kernel
theorem dX11_times_49 : decode cX11_times 49 = .ok (.iconst 0, 1) := by decide +kernel
theorem dX11_times_50 : decode cX11_times 50 = .ok (.iload_n 2, 1) := by decide +kernel
theorem dX11_times_51 : decode cX11_times 51 = .ok (.invokevirtual 111, 3) := by decide +kernel
theorem dX11_times_54 : decode cX11_times 54 = .ok (.aload_n 0, 1) := by decide +kernel
theorem dX11_times_55 : decode cX11_times 55 = .ok (.iconst 4, 1) := by decide +kernel
theorem dX11_times_56 : decode cX11_times 56 = .ok (.iload_n 3, 1) := by decide +kernel
theorem dX11_times_57 : decode cX11_times 57 = .ok (.invokevirtual 111, 3) := by decide +kernel
theorem dX11_times_60 : decode cX11_times 60 = .ok (.aload_n 0, 1) := by decide +kernel
theorem dX11_times_61 : decode cX11_times 61 = .ok (.iconst 0, 1) := by decide +kernel
theorem dX11_times_62 : decode cX11_times 62 = .ok (.invokevirtual 83, 3) := by decide +kernel
theorem dX11_times_65 : decode cX11_times 65 = .ok (.aload_n 0, 1) := by decide +kernel
theorem dX11_times_66 : decode cX11_times 66 = .ok (.iconst 4, 1) := by decide +kernel
theorem dX11_times_67 : decode cX11_times 67 = .ok (.invokevirtual 83, 3) := by decide +kernel
theorem dX11_times_70 : decode cX11_times 70 = .ok (.lmul, 1) := by decide +kernel
theorem dX11_times_71 : decode cX11_times 71 = .ok (.ldc2_w 100, 3) := by decide +kernel
theorem dX11_times_74 : decode cX11_times 74 = .ok (.lcmp, 1) := by decide +kernel
theorem dX11_times_75 : decode cX11_times 75 = .ok (.ifCond .le 6, 3) := by decide +kernel
theorem dX11_times_78 : decode cX11_times 78 = .ok (.ldc 99, 2) := by decide +kernel
theorem dX11_times_80 : decode cX11_times 80 = .ok (.ireturn, 1) := by decide +kernel
theorem dX11_times_81 : decode cX11_times 81 = .ok (.aload_n 0, 1) := by decide +kernel
theorem dX11_times_82 : decode cX11_times 82 = .ok (.bipush 8, 2) := by decide +kernel
theorem dX11_times_84 : decode cX11_times 84 = .ok (.iconst 0, 1) := by decide +kernel
theorem dX11_times_85 : decode cX11_times 85 = .ok (.iconst 4, 1) := by decide +kernel
theorem dX11_times_86 : decode cX11_times 86 = .ok (.invokevirtual 139, 3) := by decide +kernel
theorem dX11_times_89 : decode cX11_times 89 = .ok (.aload_n 0, 1) := by decide +kernel
theorem dX11_times_90 : decode cX11_times 90 = .ok (.iload_n 1, 1) := by decide +kernel
theorem dX11_times_91 : decode cX11_times 91 = .ok (.bipush 8, 2) := by decide +kernel
theorem dX11_times_93 : decode cX11_times 93 = .ok (.invokevirtual 143, 3) := by decide +kernel
theorem dX11_times_96 : decode cX11_times 96 = .ok (.ireturn, 1) := by decide +kernel
theorem dX11_sum_0 : decode cX11_sum 0 = .ok (.iload_n 1, 1) := by decide +kernel
theorem dX11_sum_1 : decode cX11_sum 1 = .ok (.invokestatic 92, 3) := by decide +kernel
theorem dX11_sum_4 : decode cX11_sum 4 = .ok (.ifCond .eq 17, 3) := by decide +kernel
theorem dX11_sum_7 : decode cX11_sum 7 = .ok (.iload_n 2, 1) := by decide +kernel
theorem dX11_sum_8 : decode cX11_sum 8 = .ok (.invokestatic 92, 3) := by decide +kernel
theorem dX11_sum_11 : decode cX11_sum 11 = .ok (.ifCond .eq 10, 3) := by decide +kernel
theorem dX11_sum_14 : decode cX11_sum 14 = .ok (.iload_n 3, 1) := by decide +kernel
theorem dX11_sum_15 : decode cX11_sum 15 = .ok (.invokestatic 92, 3) := by decide +kernel
theorem dX11_sum_18 : decode cX11_sum 18 = .ok (.ifCond .ne 6, 3) := by decide +kernel
theorem dX11_sum_21 : decode cX11_sum 21 = .ok (.ldc 56, 2) := by decide +kernel
theorem dX11_sum_23 : decode cX11_sum 23 = .ok (.ireturn, 1) := by decide +kernel
theorem dX11_sum_24 : decode cX11_sum 24 = .ok (.aload_n 0, 1) := by decide +kernel
theorem dX11_sum_25 : decode cX11_sum 25 = .ok (.getfield 7, 3) := by decide +kernel
theorem dX11_sum_28 : decode cX11_sum 28 = .ok (.iload_n 2, 1) := by decide +kernel
theorem dX11_sum_29 : decode cX11_sum 29 = .ok (.baload, 1) := by decide +kernel
theorem dX11_sum_30 : decode cX11_sum 30 = .ok (.ifCond .eq 12, 3) := by decide +kernel
theorem dX11_sum_33 : decode cX11_sum 33 = .ok (.aload_n 0, 1) := by decide +kernel
theorem dX11_sum_34 : decode cX11_sum 34 = .ok (.getfield 7, 3) := by decide +kernel
theorem dX11_sum_37 : decode cX11_sum 37 = .ok (.iload_n 3, 1) := by decide +kernel
theorem dX11_sum_38 : decode cX11_sum 38 = .ok (.baload, 1) := by decide +kernel
theorem dX11_sum_39 : decode cX11_sum 39 = .ok (.ifCond .ne 9, 3) := by decide +kernel
theorem dX11_sum_42 : decode cX11_sum 42 = .ok (.aload_n 0, 1) := by decide +kernel
theorem dX11_sum_43 : decode cX11_sum 43 = .ok (.iconst 1, 1) := by decide +kernel
theorem dX11_sum_44 : decode cX11_sum 44 = .ok (.invokevirtual 57, 3) := by decide +kernel
theorem dX11_sum_47 : decode cX11_sum 47 = .ok (.ireturn, 1) := by decide +kernel
theorem dX11_sum_48 : decode cX11_sum 48 = .ok (.aload_n 0, 1) := by decide +kernel
theorem dX11_sum_49 : decode cX11_sum 49 = .ok (.iconst 0, 1) := by decide +kernel
theorem dX11_sum_50 : decode cX11_sum 50 = .ok (.iload_n 2, 1) := by decide +kernel
theorem dX11_sum_51 : decode cX11_sum 51 = .ok (.invokevirtual 111, 3) := by decide +kernel
theorem dX11_sum_54 : decode cX11_sum 54 = .ok (.aload_n 0, 1) := by decide +kernel
theorem dX11_sum_55 : decode cX11_sum 55 = .ok (.iconst 4, 1) := by decide +kernel
theorem dX11_sum_56 : decode cX11_sum 56 = .ok (.iload_n 3, 1) := by decide +kernel
theorem dX11_sum_57 : decode cX11_sum 57 = .ok (.invokevirtual 111, 3) := by decide +kernel
theorem dX11_sum_60 : decode cX11_sum 60 = .ok (.aload_n 0, 1) := by decide +kernel
theorem dX11_sum_61 : decode cX11_sum 61 = .ok (.bipush 8, 2) := by decide +kernel
theorem dX11_sum_63 : decode cX11_sum 63 = .ok (.aload_n 0, 1) := by decide +kernel
theorem dX11_sum_64 : decode cX11_sum 64 = .ok (.getfield 33, 3) := by decide +kernel
theorem dX11_sum_67 : decode cX11_sum 67 = .ok (.iconst 0, 1) := by decide +kernel
theorem dX11_sum_68 : decode cX11_sum 68 = .ok (.laload, 1) := by decide +kernel
theorem dX11_sum_69 : decode cX11_sum 69 = .ok (.aload_n 0, 1) := by decide +kernel
theorem dX11_sum_70 : decode cX11_sum 70 = .ok (.getfield 33, 3) := by decide +kernel
theorem dX11_sum_73 : decode cX11_sum 73 = .ok (.iconst 4, 1) := by decide +kernel
theorem dX11_sum_74 : decode cX11_sum 74 = .ok (.laload, 1) := by decide +kernel
theorem dX11_sum_75 : decode cX11_sum 75 = .ok (.ladd, 1) := by decide +kernel
theorem dX11_sum_76 : decode cX11_sum 76 = .ok (.aload_n 0, 1) := by decide +kernel
theorem dX11_sum_77 : decode cX11_sum 77 = .ok (.getfield 33, 3) := by decide +kernel
theorem dX11_sum_80 : decode cX11_sum 80 = .ok (.iconst 1, 1) := by decide +kernel
theorem dX11_sum_81 : decode cX11_sum 81 = .ok (.laload, 1) := by decide +kernel
theorem dX11_sum_82 : decode cX11_sum 82 = .ok (.aload_n 0, 1) := by decide +kernel
theorem dX11_sum_83 : decode cX11_sum 83 = .ok (.getfield 33, 3) := by decide +kernel
theorem dX11_sum_86 : decode cX11_sum 86 = .ok (.iconst 5, 1) := by decide +kernel
theorem dX11_sum_87 : decode cX11_sum 87 = .ok (.laload, 1) := by decide +kernel
theorem dX11_sum_88 : decode cX11_sum 88 = .ok (.ladd, 1) := by decide +kernel
theorem dX11_sum_89 : decode cX11_sum 89 = .ok (.aload_n 0, 1) := by decide +kernel
theorem dX11_sum_90 : decode cX11_sum 90 = .ok (.getfield 33, 3) := by decide +kernel
theorem dX11_sum_93 : decode cX11_sum 93 = .ok (.iconst 2, 1) := by decide +kernel
theorem dX11_sum_94 : decode cX11_sum 94 = .ok (.laload, 1) := by decide +kernel
theorem dX11_sum_95 : decode cX11_sum 95 = .ok (.aload_n 0, 1) := by decide +kernel
theorem dX11_sum_96 : decode cX11_sum 96 = .ok (.getfield 33, 3) := by decide +kernel
theorem dX11_sum_99 : decode cX11_sum 99 = .ok (.bipush 6, 2) := by decide +kernel
theorem dX11_sum_101 : decode cX11_sum 101 = .ok (.laload, 1) := by decide +kernel
theorem dX11_sum_102 : decode cX11_sum 102 = .ok (.ladd, 1) := by decide +kernel
theorem dX11_sum_103 : decode cX11_sum 103 = .ok (.aload_n 0, 1) := by decide +kernel
theorem dX11_sum_104 : decode cX11_sum 104 = .ok (.getfield 33, 3) := by decide +kernel
theorem dX11_sum_107 : decode cX11_sum 107 = .ok (.iconst 3, 1) := by decide +kernel
theorem dX11_sum_108 : decode cX11_sum 108 = .ok (.laload, 1) := by decide +kernel
theorem dX11_sum_109 : decode cX11_sum 109 = .ok (.aload_n 0, 1) := by decide +kernel
theorem dX11_sum_110 : decode cX11_sum 110 = .ok (.getfield 33, 3) := by decide +kernel
theorem dX11_sum_113 : decode cX11_sum 113 = .ok (.bipush 7, 2) := by decide +kernel
theorem dX11_sum_115 : decode cX11_sum 115 = .ok (.laload, 1) := by decide +kernel
theorem dX11_sum_116 : decode cX11_sum 116 = .ok (.ladd, 1) := by decide +kernel
theorem dX11_sum_117 : decode cX11_sum 117 = .ok (.invokevirtual 68, 3) := by decide +kernel
theorem dX11_sum_120 : decode cX11_sum 120 = .ok (.aload_n 0, 1) := by decide +kernel
theorem dX11_sum_121 : decode cX11_sum 121 = .ok (.iload_n 1, 1) := by decide +kernel
theorem dX11_sum_122 : decode cX11_sum 122 = .ok (.bipush 8, 2) := by decide +kernel
theorem dX11_sum_124 : decode cX11_sum 124 = .ok (.invokevirtual 143, 3) := by decide +kernel
theorem dX11_sum_127 : decode cX11_sum 127 = .ok (.ireturn, 1) := by decide +kernel
theorem dX11_back_0 : decode cX11_back 0 = .ok (.iload_n 1, 1) := by decide +kernel
theorem dX11_back_1 : decode cX11_back 1 = .ok (.invokestatic 92, 3) := by decide +kernel
theorem dX11_back_4 : decode cX11_back 4 = .ok (.ifCond .eq 10, 3) := by decide +kernel
theorem dX11_back_7 : decode cX11_back 7 = .ok (.iload_n 2, 1) := by decide +kernel
theorem dX11_back_8 : decode cX11_back 8 = .ok (.invokestatic 92, 3) := by decide +kernel
theorem dX11_back_11 : decode cX11_back 11 = .ok (.ifCond .ne 6, 3) := by decide +kernel
theorem dX11_back_14 : decode cX11_back 14 = .ok (.ldc 56, 2) := by decide +kernel
theorem dX11_back_16 : decode cX11_back 16 = .ok (.ireturn, 1) := by decide +kernel
theorem dX11_back_17 : decode cX11_back 17 = .ok (.aload_n 0, 1) := by decide +kernel
theorem dX11_back_18 : decode cX11_back 18 = .ok (.getfield 7, 3) := by decide +kernel
theorem dX11_back_21 : decode cX11_back 21 = .ok (.iload_n 2, 1) := by decide +kernel
theorem dX11_back_22 : decode cX11_back 22 = .ok (.baload, 1) := by decide +kernel
theorem dX11_back_23 : decode cX11_back 23 = .ok (.ifCond .ne 9, 3) := by decide +kernel
theorem dX11_back_26 : decode cX11_back 26 = .ok (.aload_n 0, 1) := by decide +kernel
theorem dX11_back_27 : decode cX11_back 27 = .ok (.iconst 1, 1) := by decide +kernel
theorem dX11_back_28 : decode cX11_back 28 = .ok (.invokevirtual 57, 3) := by decide +kernel
theorem dX11_back_31 : decode cX11_back 31 = .ok (.ireturn, 1) := by decide +kernel
theorem dX11_back_32 : decode cX11_back 32 = .ok (.aload_n 0, 1) := by decide +kernel
theorem dX11_back_33 : decode cX11_back 33 = .ok (.iconst 0, 1) := by decide +kernel
theorem dX11_back_34 : decode cX11_back 34 = .ok (.iload_n 2, 1) := by decide +kernel
theorem dX11_back_35 : decode cX11_back 35 = .ok (.invokevirtual 111, 3) := by decide +kernel
theorem dX11_back_38 : decode cX11_back 38 = .ok (.aload_n 0, 1) := by decide +kernel
theorem dX11_back_39 : decode cX11_back 39 = .ok (.bipush 8, 2) := by decide +kernel
theorem dX11_back_41 : decode cX11_back 41 = .ok (.iconst 0, 1) := by decide +kernel
theorem dX11_back_42 : decode cX11_back 42 = .ok (.invokevirtual 147, 3) := by decide +kernel
theorem dX11_back_45 : decode cX11_back 45 = .ok (.aload_n 0, 1) := by decide +kernel
theorem dX11_back_46 : decode cX11_back 46 = .ok (.iload_n 1, 1) := by decide +kernel
theorem dX11_back_47 : decode cX11_back 47 = .ok (.bipush 8, 2) := by decide +kernel
theorem dX11_back_49 : decode cX11_back 49 = .ok (.invokevirtual 143, 3) := by decide +kernel
theorem dX11_back_52 : decode cX11_back 52 = .ok (.ireturn, 1) := by decide +kernel
theorem dX11_divide_0 : decode cX11_divide 0 = .ok (.aload_n 0, 1) := by decide +kernel
theorem dX11_divide_1 : decode cX11_divide 1 = .ok (.iconst 4, 1) := by decide +kernel
theorem dX11_divide_2 : decode cX11_divide 2 = .ok (.invokevirtual 83, 3) := by decide +kernel
theorem dX11_divide_5 : decode cX11_divide 5 = .ok (.lstore_n 2, 1) := by decide +kernel
theorem dX11_divide_6 : decode cX11_divide 6 = .ok (.aload_n 0, 1) := by decide +kernel
theorem dX11_divide_7 : decode cX11_divide 7 = .ok (.bipush 16, 2) := by decide +kernel
theorem dX11_divide_9 : decode cX11_divide 9 = .ok (.iconst 4, 1) := by decide +kernel
theorem dX11_divide_10 : decode cX11_divide 10 = .ok (.invokevirtual 147, 3) := by decide +kernel
theorem dX11_divide_13 : decode cX11_divide 13 = .ok (.iload_n 1, 1) := by decide +kernel
theorem dX11_divide_14 : decode cX11_divide 14 = .ok (.ifCond .ne 15, 3) := by decide +kernel
theorem dX11_divide_17 : decode cX11_divide 17 = .ok (.aload_n 0, 1) := by decide +kernel
theorem dX11_divide_18 : decode cX11_divide 18 = .ok (.bipush 16, 2) := by decide +kernel
theorem dX11_divide_20 : decode cX11_divide 20 = .ok (.bipush 16, 2) := by decide +kernel
theorem dX11_divide_22 : decode cX11_divide 22 = .ok (.iconst 0, 1) := by decide +kernel
theorem dX11_divide_23 : decode cX11_divide 23 = .ok (.invokevirtual 139, 3) := by decide +kernel
theorem dX11_divide_26 : decode cX11_divide 26 = .ok (.goto 12, 3) := by decide +kernel
theorem dX11_divide_29 : decode cX11_divide 29 = .ok (.aload_n 0, 1) := by decide +kernel
theorem dX11_divide_30 : decode cX11_divide 30 = .ok (.bipush 16, 2) := by decide +kernel
theorem dX11_divide_32 : decode cX11_divide 32 = .ok (.iconst 0, 1) := by decide +kernel
theorem dX11_divide_33 : decode cX11_divide 33 = .ok (.bipush 16, 2) := by decide +kernel
theorem dX11_divide_35 : decode cX11_divide 35 = .ok (.invokevirtual 139, 3) := by decide +kernel
theorem dX11_divide_38 : decode cX11_divide 38 = .ok (.lload_n 2, 1) := by decide +kernel
theorem dX11_divide_39 : decode cX11_divide 39 = .ok (.lstore 4, 2) := by decide +kernel
theorem dX11_divide_41 : decode cX11_divide 41 = .ok (.iconst 0, 1) := by decide +kernel
theorem dX11_divide_42 : decode cX11_divide 42 = .ok (.istore 6, 2) := by decide +kernel
theorem dX11_divide_44 : decode cX11_divide 44 = .ok (.iload 6, 2) := by decide +kernel
theorem dX11_divide_46 : decode cX11_divide 46 = .ok (.iconst 4, 1) := by decide +kernel
theorem dX11_divide_47 : decode cX11_divide 47 = .ok (.if_icmp .ge 26, 3) := by decide +kernel
theorem dX11_divide_50 : decode cX11_divide 50 = .ok (.lload 4, 2) := by decide +kernel
theorem dX11_divide_52 : decode cX11_divide 52 = .ok (.aload_n 0, 1) := by decide +kernel
theorem dX11_divide_53 : decode cX11_divide 53 = .ok (.getfield 33, 3) := by decide +kernel
theorem dX11_divide_56 : decode cX11_divide 56 = .ok (.bipush 16, 2) := by decide +kernel
theorem dX11_divide_58 : decode cX11_divide 58 = .ok (.iload 6, 2) := by decide +kernel
theorem dX11_divide_60 : decode cX11_divide 60 = .ok (.iadd, 1) := by decide +kernel
theorem dX11_divide_61 : decode cX11_divide 61 = .ok (.laload, 1) := by decide +kernel
theorem dX11_divide_62 : decode cX11_divide 62 = .ok (.invokestatic 72, 3) := by decide +kernel
theorem dX11_divide_65 : decode cX11_divide 65 = .ok (.lstore 4, 2) := by decide +kernel
theorem dX11_divide_67 : decode cX11_divide 67 = .ok (.iinc 6 1, 3) := by decide +kernel
theorem dX11_divide_70 : decode cX11_divide 70 = .ok (.goto (-26), 3) := by decide +kernel
theorem dX11_divide_73 : decode cX11_divide 73 = .ok (.lload_n 2, 1) := by decide +kernel
theorem dX11_divide_74 : decode cX11_divide 74 = .ok (.lload 4, 2) := by decide +kernel
theorem dX11_divide_76 : decode cX11_divide 76 = .ok (.ldiv, 1) := by decide +kernel
theorem dX11_divide_77 : decode cX11_divide 77 = .ok (.lstore_n 2, 1) := by decide +kernel
theorem dX11_divide_78 : decode cX11_divide 78 = .ok (.lconst 0, 1) := by decide +kernel
theorem dX11_divide_79 : decode cX11_divide 79 = .ok (.lstore 6, 2) := by decide +kernel
theorem dX11_divide_81 : decode cX11_divide 81 = .ok (.lconst 0, 1) := by decide +kernel
theorem dX11_divide_82 : decode cX11_divide 82 = .ok (.lstore 8, 2) := by decide +kernel
theorem dX11_divide_84 : decode cX11_divide 84 = .ok (.iconst 0, 1) := by decide +kernel
theorem dX11_divide_85 : decode cX11_divide 85 = .ok (.istore 10, 2) := by decide +kernel
theorem dX11_divide_87 : decode cX11_divide 87 = .ok (.iload 10, 2) := by decide +kernel
theorem dX11_divide_89 : decode cX11_divide 89 = .ok (.iconst 4, 1) := by decide +kernel
theorem dX11_divide_90 : decode cX11_divide 90 = .ok (.if_icmp .ge 90, 3) := by decide +kernel
theorem dX11_divide_93 : decode cX11_divide 93 = .ok (.aload_n 0, 1) := by decide +kernel
theorem dX11_divide_94 : decode cX11_divide 94 = .ok (.getfield 33, 3) := by decide +kernel
theorem dX11_divide_97 : decode cX11_divide 97 = .ok (.bipush 16, 2) := by decide +kernel
theorem dX11_divide_99 : decode cX11_divide 99 = .ok (.iload 10, 2) := by decide +kernel
theorem dX11_divide_101 : decode cX11_divide 101 = .ok (.iadd, 1) := by decide +kernel
theorem dX11_divide_102 : decode cX11_divide 102 = .ok (.laload, 1) := by decide +kernel
theorem dX11_divide_103 : decode cX11_divide 103 = .ok (.lload 4, 2) := by decide +kernel
theorem dX11_divide_105 : decode cX11_divide 105 = .ok (.ldiv, 1) := by decide +kernel
theorem dX11_divide_106 : decode cX11_divide 106 = .ok (.lstore 11, 2) := by decide +kernel
theorem dX11_divide_108 : decode cX11_divide 108 = .ok (.lload 11, 2) := by decide +kernel
theorem dX11_divide_110 : decode cX11_divide 110 = .ok (.ldc2_w 54, 3) := by decide +kernel
theorem dX11_divide_113 : decode cX11_divide 113 = .ok (.lload_n 2, 1) := by decide +kernel
theorem dX11_divide_114 : decode cX11_divide 114 = .ok (.lmul, 1) := by decide +kernel
theorem dX11_divide_115 : decode cX11_divide 115 = .ok (.lload 11, 2) := by decide +kernel
theorem dX11_divide_117 : decode cX11_divide 117 = .ok (.lload_n 2, 1) := by decide +kernel
theorem dX11_divide_118 : decode cX11_divide 118 = .ok (.ladd, 1) := by decide +kernel
theorem dX11_divide_119 : decode cX11_divide 119 = .ok (.ldc2_w 54, 3) := by decide +kernel
theorem dX11_divide_122 : decode cX11_divide 122 = .ok (.lload_n 2, 1) := by decide +kernel
theorem dX11_divide_123 : decode cX11_divide 123 = .ok (.lmul, 1) := by decide +kernel
theorem dX11_divide_124 : decode cX11_divide 124 = .ok (.invokestatic 150, 3) := by decide +kernel
theorem dX11_divide_127 : decode cX11_divide 127 = .ok (.lmul, 1) := by decide +kernel
theorem dX11_divide_128 : decode cX11_divide 128 = .ok (.lsub, 1) := by decide +kernel
theorem dX11_divide_129 : decode cX11_divide 129 = .ok (.lstore 13, 2) := by decide +kernel
theorem dX11_divide_131 : decode cX11_divide 131 = .ok (.lload 11, 2) := by decide +kernel
theorem dX11_divide_133 : decode cX11_divide 133 = .ok (.lload_n 2, 1) := by decide +kernel
theorem dX11_divide_134 : decode cX11_divide 134 = .ok (.ldc2_w 54, 3) := by decide +kernel
theorem dX11_divide_137 : decode cX11_divide 137 = .ok (.lload 11, 2) := by decide +kernel
theorem dX11_divide_139 : decode cX11_divide 139 = .ok (.ldc2_w 54, 3) := by decide +kernel
theorem dX11_divide_142 : decode cX11_divide 142 = .ok (.lload_n 2, 1) := by decide +kernel
theorem dX11_divide_143 : decode cX11_divide 143 = .ok (.lmul, 1) := by decide +kernel
theorem dX11_divide_144 : decode cX11_divide 144 = .ok (.invokestatic 150, 3) := by decide +kernel
theorem dX11_divide_147 : decode cX11_divide 147 = .ok (.lmul, 1) := by decide +kernel
theorem dX11_divide_148 : decode cX11_divide 148 = .ok (.lconst 1, 1) := by decide +kernel
theorem dX11_divide_149 : decode cX11_divide 149 = .ok (.ladd, 1) := by decide +kernel
theorem dX11_divide_150 : decode cX11_divide 150 = .ok (.lmul, 1) := by decide +kernel
theorem dX11_divide_151 : decode cX11_divide 151 = .ok (.lsub, 1) := by decide +kernel
theorem dX11_divide_152 : decode cX11_divide 152 = .ok (.lstore 15, 2) := by decide +kernel
theorem dX11_divide_154 : decode cX11_divide 154 = .ok (.lload 6, 2) := by decide +kernel
theorem dX11_divide_156 : decode cX11_divide 156 = .ok (.lload 13, 2) := by decide +kernel
theorem dX11_divide_158 : decode cX11_divide 158 = .ok (.lload 13, 2) := by decide +kernel
theorem dX11_divide_160 : decode cX11_divide 160 = .ok (.lmul, 1) := by decide +kernel
theorem dX11_divide_161 : decode cX11_divide 161 = .ok (.ladd, 1) := by decide +kernel
theorem dX11_divide_162 : decode cX11_divide 162 = .ok (.lstore 6, 2) := by decide +kernel
theorem dX11_divide_164 : decode cX11_divide 164 = .ok (.lload 8, 2) := by decide +kernel
theorem dX11_divide_166 : decode cX11_divide 166 = .ok (.lload 15, 2) := by decide +kernel
theorem dX11_divide_168 : decode cX11_divide 168 = .ok (.lload 15, 2) := by decide +kernel
theorem dX11_divide_170 : decode cX11_divide 170 = .ok (.lmul, 1) := by decide +kernel
theorem dX11_divide_171 : decode cX11_divide 171 = .ok (.ladd, 1) := by decide +kernel
theorem dX11_divide_172 : decode cX11_divide 172 = .ok (.lstore 8, 2) := by decide +kernel
theorem dX11_divide_174 : decode cX11_divide 174 = .ok (.iinc 10 1, 3) := by decide +kernel
theorem dX11_divide_177 : decode cX11_divide 177 = .ok (.goto (-90), 3) := by decide +kernel
theorem dX11_divide_180 : decode cX11_divide 180 = .ok (.iconst 0, 1) := by decide +kernel
theorem dX11_divide_181 : decode cX11_divide 181 = .ok (.istore 10, 2) := by decide +kernel
theorem dX11_divide_183 : decode cX11_divide 183 = .ok (.iload 10, 2) := by decide +kernel
theorem dX11_divide_185 : decode cX11_divide 185 = .ok (.iconst 4, 1) := by decide +kernel
theorem dX11_divide_186 : decode cX11_divide 186 = .ok (.if_icmp .ge 77, 3) := by decide +kernel
theorem dX11_divide_189 : decode cX11_divide 189 = .ok (.aload_n 0, 1) := by decide +kernel
theorem dX11_divide_190 : decode cX11_divide 190 = .ok (.getfield 33, 3) := by decide +kernel
theorem dX11_divide_193 : decode cX11_divide 193 = .ok (.bipush 16, 2) := by decide +kernel
theorem dX11_divide_195 : decode cX11_divide 195 = .ok (.iload 10, 2) := by decide +kernel
theorem dX11_divide_197 : decode cX11_divide 197 = .ok (.iadd, 1) := by decide +kernel
theorem dX11_divide_198 : decode cX11_divide 198 = .ok (.laload, 1) := by decide +kernel
theorem dX11_divide_199 : decode cX11_divide 199 = .ok (.lload 4, 2) := by decide +kernel
theorem dX11_divide_201 : decode cX11_divide 201 = .ok (.ldiv, 1) := by decide +kernel
theorem dX11_divide_202 : decode cX11_divide 202 = .ok (.lstore 11, 2) := by decide +kernel
theorem dX11_divide_204 : decode cX11_divide 204 = .ok (.aload_n 0, 1) := by decide +kernel
theorem dX11_divide_205 : decode cX11_divide 205 = .ok (.getfield 33, 3) := by decide +kernel
theorem dX11_divide_208 : decode cX11_divide 208 = .ok (.bipush 8, 2) := by decide +kernel
theorem dX11_divide_210 : decode cX11_divide 210 = .ok (.iload 10, 2) := by decide +kernel
theorem dX11_divide_212 : decode cX11_divide 212 = .ok (.iadd, 1) := by decide +kernel
theorem dX11_divide_213 : decode cX11_divide 213 = .ok (.lload 6, 2) := by decide +kernel
theorem dX11_divide_215 : decode cX11_divide 215 = .ok (.lload 8, 2) := by decide +kernel
theorem dX11_divide_217 : decode cX11_divide 217 = .ok (.lcmp, 1) := by decide +kernel
theorem dX11_divide_218 : decode cX11_divide 218 = .ok (.ifCond .gt 22, 3) := by decide +kernel
theorem dX11_divide_221 : decode cX11_divide 221 = .ok (.ldc2_w 54, 3) := by decide +kernel
theorem dX11_divide_224 : decode cX11_divide 224 = .ok (.lload 11, 2) := by decide +kernel
theorem dX11_divide_226 : decode cX11_divide 226 = .ok (.lload_n 2, 1) := by decide +kernel
theorem dX11_divide_227 : decode cX11_divide 227 = .ok (.ladd, 1) := by decide +kernel
theorem dX11_divide_228 : decode cX11_divide 228 = .ok (.ldc2_w 54, 3) := by decide +kernel
theorem dX11_divide_231 : decode cX11_divide 231 = .ok (.lload_n 2, 1) := by decide +kernel
theorem dX11_divide_232 : decode cX11_divide 232 = .ok (.lmul, 1) := by decide +kernel
theorem dX11_divide_233 : decode cX11_divide 233 = .ok (.invokestatic 150, 3) := by decide +kernel
theorem dX11_divide_236 : decode cX11_divide 236 = .ok (.lmul, 1) := by decide +kernel
theorem dX11_divide_237 : decode cX11_divide 237 = .ok (.goto 19, 3) := by decide +kernel
theorem dX11_divide_240 : decode cX11_divide 240 = .ok (.ldc2_w 54, 3) := by decide +kernel
theorem dX11_divide_243 : decode cX11_divide 243 = .ok (.lload 11, 2) := by decide +kernel
theorem dX11_divide_245 : decode cX11_divide 245 = .ok (.ldc2_w 54, 3) := by decide +kernel
theorem dX11_divide_248 : decode cX11_divide 248 = .ok (.lload_n 2, 1) := by decide +kernel
theorem dX11_divide_249 : decode cX11_divide 249 = .ok (.lmul, 1) := by decide +kernel
theorem dX11_divide_250 : decode cX11_divide 250 = .ok (.invokestatic 150, 3) := by decide +kernel
theorem dX11_divide_253 : decode cX11_divide 253 = .ok (.lmul, 1) := by decide +kernel
theorem dX11_divide_254 : decode cX11_divide 254 = .ok (.lconst 1, 1) := by decide +kernel
theorem dX11_divide_255 : decode cX11_divide 255 = .ok (.ladd, 1) := by decide +kernel
theorem dX11_divide_256 : decode cX11_divide 256 = .ok (.lastore, 1) := by decide +kernel
theorem dX11_divide_257 : decode cX11_divide 257 = .ok (.iinc 10 1, 3) := by decide +kernel
theorem dX11_divide_260 : decode cX11_divide 260 = .ok (.goto (-77), 3) := by decide +kernel
theorem dX11_divide_263 : decode cX11_divide 263 = .ok (.iload_n 1, 1) := by decide +kernel
theorem dX11_divide_264 : decode cX11_divide 264 = .ok (.ifCond .ne 15, 3) := by decide +kernel
theorem dX11_divide_267 : decode cX11_divide 267 = .ok (.aload_n 0, 1) := by decide +kernel
theorem dX11_divide_268 : decode cX11_divide 268 = .ok (.bipush 16, 2) := by decide +kernel
theorem dX11_divide_270 : decode cX11_divide 270 = .ok (.iconst 4, 1) := by decide +kernel
theorem dX11_divide_271 : decode cX11_divide 271 = .ok (.bipush 8, 2) := by decide +kernel
theorem dX11_divide_273 : decode cX11_divide 273 = .ok (.invokevirtual 139, 3) := by decide +kernel
theorem dX11_divide_276 : decode cX11_divide 276 = .ok (.goto 12, 3) := by decide +kernel
theorem dX11_divide_279 : decode cX11_divide 279 = .ok (.aload_n 0, 1) := by decide +kernel
theorem dX11_divide_280 : decode cX11_divide 280 = .ok (.bipush 16, 2) := by decide +kernel
theorem dX11_divide_282 : decode cX11_divide 282 = .ok (.bipush 8, 2) := by decide +kernel
theorem dX11_divide_284 : decode cX11_divide 284 = .ok (.iconst 4, 1) := by decide +kernel
theorem dX11_divide_285 : decode cX11_divide 285 = .ok (.invokevirtual 139, 3) := by decide +kernel
theorem dX11_divide_288 : decode cX11_divide 288 = .ok (.iconst 0, 1) := by decide +kernel
theorem dX11_divide_289 : decode cX11_divide 289 = .ok (.istore 10, 2) := by decide +kernel
theorem dX11_divide_291 : decode cX11_divide 291 = .ok (.iload 10, 2) := by decide +kernel
theorem dX11_divide_293 : decode cX11_divide 293 = .ok (.iconst 4, 1) := by decide +kernel
theorem dX11_divide_294 : decode cX11_divide 294 = .ok (.if_icmp .ge 39, 3) := by decide +kernel
theorem dX11_divide_297 : decode cX11_divide 297 = .ok (.aload_n 0, 1) := by decide +kernel
theorem dX11_divide_298 : decode cX11_divide 298 = .ok (.getfield 33, 3) := by decide +kernel
theorem dX11_divide_301 : decode cX11_divide 301 = .ok (.bipush 12, 2) := by decide +kernel
theorem dX11_divide_303 : decode cX11_divide 303 = .ok (.iload 10, 2) := by decide +kernel
theorem dX11_divide_305 : decode cX11_divide 305 = .ok (.iadd, 1) := by decide +kernel
theorem dX11_divide_306 : decode cX11_divide 306 = .ok (.aload_n 0, 1) := by decide +kernel
theorem dX11_divide_307 : decode cX11_divide 307 = .ok (.getfield 33, 3) := by decide +kernel
theorem dX11_divide_310 : decode cX11_divide 310 = .ok (.iconst 0, 1) := by decide +kernel
theorem dX11_divide_311 : decode cX11_divide 311 = .ok (.iload 10, 2) := by decide +kernel
theorem dX11_divide_313 : decode cX11_divide 313 = .ok (.iadd, 1) := by decide +kernel
theorem dX11_divide_314 : decode cX11_divide 314 = .ok (.laload, 1) := by decide +kernel
theorem dX11_divide_315 : decode cX11_divide 315 = .ok (.aload_n 0, 1) := by decide +kernel
theorem dX11_divide_316 : decode cX11_divide 316 = .ok (.getfield 33, 3) := by decide +kernel
theorem dX11_divide_319 : decode cX11_divide 319 = .ok (.bipush 16, 2) := by decide +kernel
theorem dX11_divide_321 : decode cX11_divide 321 = .ok (.iload 10, 2) := by decide +kernel
theorem dX11_divide_323 : decode cX11_divide 323 = .ok (.iadd, 1) := by decide +kernel
theorem dX11_divide_324 : decode cX11_divide 324 = .ok (.laload, 1) := by decide +kernel
theorem dX11_divide_325 : decode cX11_divide 325 = .ok (.lsub, 1) := by decide +kernel
theorem dX11_divide_326 : decode cX11_divide 326 = .ok (.lastore, 1) := by decide +kernel
theorem dX11_divide_327 : decode cX11_divide 327 = .ok (.iinc 10 1, 3) := by decide +kernel
theorem dX11_divide_330 : decode cX11_divide 330 = .ok (.goto (-39), 3) := by decide +kernel
theorem dX11_divide_333 : decode cX11_divide 333 = .ok (.return_, 1) := by decide +kernel
theorem dX11_over_0 : decode cX11_over 0 = .ok (.iload_n 1, 1) := by decide +kernel
theorem dX11_over_1 : decode cX11_over 1 = .ok (.invokestatic 92, 3) := by decide +kernel
theorem dX11_over_4 : decode cX11_over 4 = .ok (.ifCond .eq 36, 3) := by decide +kernel
theorem dX11_over_7 : decode cX11_over 7 = .ok (.iload_n 2, 1) := by decide +kernel
theorem dX11_over_8 : decode cX11_over 8 = .ok (.invokestatic 92, 3) := by decide +kernel
theorem dX11_over_11 : decode cX11_over 11 = .ok (.ifCond .eq 29, 3) := by decide +kernel
theorem dX11_over_14 : decode cX11_over 14 = .ok (.iload_n 3, 1) := by decide +kernel
theorem dX11_over_15 : decode cX11_over 15 = .ok (.invokestatic 92, 3) := by decide +kernel
theorem dX11_over_18 : decode cX11_over 18 = .ok (.ifCond .eq 22, 3) := by decide +kernel
theorem dX11_over_21 : decode cX11_over 21 = .ok (.iload 4, 2) := by decide +kernel
theorem dX11_over_23 : decode cX11_over 23 = .ok (.invokestatic 92, 3) := by decide +kernel
theorem dX11_over_26 : decode cX11_over 26 = .ok (.ifCond .eq 14, 3) := by decide +kernel
theorem dX11_over_29 : decode cX11_over 29 = .ok (.iload 5, 2) := by decide +kernel
theorem dX11_over_31 : decode cX11_over 31 = .ok (.i2l, 1) := by decide +kernel
theorem dX11_over_32 : decode cX11_over 32 = .ok (.lconst 0, 1) := by decide +kernel
theorem dX11_over_33 : decode cX11_over 33 = .ok (.lconst 1, 1) := by decide +kernel
theorem dX11_over_34 : decode cX11_over 34 = .ok (.invokestatic 46, 3) := by decide +kernel
theorem dX11_over_37 : decode cX11_over 37 = .ok (.ifCond .ne 6, 3) := by decide +kernel
theorem dX11_over_40 : decode cX11_over 40 = .ok (.ldc 56, 2) := by decide +kernel
theorem dX11_over_42 : decode cX11_over 42 = .ok (.ireturn, 1) := by decide +kernel
theorem dX11_over_43 : decode cX11_over 43 = .ok (.aload_n 0, 1) := by decide +kernel
theorem dX11_over_44 : decode cX11_over 44 = .ok (.getfield 7, 3) := by decide +kernel
theorem dX11_over_47 : decode cX11_over 47 = .ok (.iload_n 3, 1) := by decide +kernel
theorem dX11_over_48 : decode cX11_over 48 = .ok (.baload, 1) := by decide +kernel
theorem dX11_over_49 : decode cX11_over 49 = .ok (.ifCond .eq 13, 3) := by decide +kernel
theorem dX11_over_52 : decode cX11_over 52 = .ok (.aload_n 0, 1) := by decide +kernel
theorem dX11_over_53 : decode cX11_over 53 = .ok (.getfield 7, 3) := by decide +kernel
theorem dX11_over_56 : decode cX11_over 56 = .ok (.iload 4, 2) := by decide +kernel
theorem dX11_over_58 : decode cX11_over 58 = .ok (.baload, 1) := by decide +kernel
theorem dX11_over_59 : decode cX11_over 59 = .ok (.ifCond .ne 9, 3) := by decide +kernel
theorem dX11_over_62 : decode cX11_over 62 = .ok (.aload_n 0, 1) := by decide +kernel
theorem dX11_over_63 : decode cX11_over 63 = .ok (.iconst 1, 1) := by decide +kernel
theorem dX11_over_64 : decode cX11_over 64 = .ok (.invokevirtual 57, 3) := by decide +kernel
theorem dX11_over_67 : decode cX11_over 67 = .ok (.ireturn, 1) := by decide +kernel
theorem dX11_over_68 : decode cX11_over 68 = .ok (.aload_n 0, 1) := by decide +kernel
theorem dX11_over_69 : decode cX11_over 69 = .ok (.iconst 0, 1) := by decide +kernel
theorem dX11_over_70 : decode cX11_over 70 = .ok (.iload_n 3, 1) := by decide +kernel
theorem dX11_over_71 : decode cX11_over 71 = .ok (.invokevirtual 111, 3) := by decide +kernel
theorem dX11_over_74 : decode cX11_over 74 = .ok (.aload_n 0, 1) := by decide +kernel
theorem dX11_over_75 : decode cX11_over 75 = .ok (.iconst 4, 1) := by decide +kernel
theorem dX11_over_76 : decode cX11_over 76 = .ok (.iload 4, 2) := by decide +kernel
theorem dX11_over_78 : decode cX11_over 78 = .ok (.invokevirtual 111, 3) := by decide +kernel
theorem dX11_over_81 : decode cX11_over 81 = .ok (.aload_n 0, 1) := by decide +kernel
theorem dX11_over_82 : decode cX11_over 82 = .ok (.iconst 4, 1) := by decide +kernel
theorem dX11_over_83 : decode cX11_over 83 = .ok (.invokevirtual 76, 3) := by decide +kernel
theorem dX11_over_86 : decode cX11_over 86 = .ok (.ifCond .eq 6, 3) := by decide +kernel
theorem dX11_over_89 : decode cX11_over 89 = .ok (.ldc 153, 2) := by decide +kernel
theorem dX11_over_91 : decode cX11_over 91 = .ok (.ireturn, 1) := by decide +kernel
theorem dX11_over_92 : decode cX11_over 92 = .ok (.aload_n 0, 1) := by decide +kernel
theorem dX11_over_93 : decode cX11_over 93 = .ok (.iload 5, 2) := by decide +kernel
theorem dX11_over_95 : decode cX11_over 95 = .ok (.invokevirtual 154, 3) := by decide +kernel
theorem dX11_over_98 : decode cX11_over 98 = .ok (.aload_n 0, 1) := by decide +kernel
theorem dX11_over_99 : decode cX11_over 99 = .ok (.iload_n 2, 1) := by decide +kernel
theorem dX11_over_100 : decode cX11_over 100 = .ok (.bipush 12, 2) := by decide +kernel
theorem dX11_over_102 : decode cX11_over 102 = .ok (.invokevirtual 102, 3) := by decide +kernel
theorem dX11_over_105 : decode cX11_over 105 = .ok (.aload_n 0, 1) := by decide +kernel
theorem dX11_over_106 : decode cX11_over 106 = .ok (.iload_n 1, 1) := by decide +kernel
theorem dX11_over_107 : decode cX11_over 107 = .ok (.bipush 8, 2) := by decide +kernel
theorem dX11_over_109 : decode cX11_over 109 = .ok (.invokevirtual 102, 3) := by decide +kernel
theorem dX11_over_112 : decode cX11_over 112 = .ok (.aload_n 0, 1) := by decide +kernel
theorem dX11_over_113 : decode cX11_over 113 = .ok (.aload_n 0, 1) := by decide +kernel
theorem dX11_over_114 : decode cX11_over 114 = .ok (.bipush 12, 2) := by decide +kernel
theorem dX11_over_116 : decode cX11_over 116 = .ok (.invokevirtual 83, 3) := by decide +kernel
theorem dX11_over_119 : decode cX11_over 119 = .ok (.l2i, 1) := by decide +kernel
theorem dX11_over_120 : decode cX11_over 120 = .ok (.invokevirtual 61, 3) := by decide +kernel
theorem dX11_over_123 : decode cX11_over 123 = .ok (.ireturn, 1) := by decide +kernel
theorem dX11_isLess_0 : decode cX11_isLess 0 = .ok (.iconst 0, 1) := by decide +kernel
theorem dX11_isLess_1 : decode cX11_isLess 1 = .ok (.istore_n 3, 1) := by decide +kernel
theorem dX11_isLess_2 : decode cX11_isLess 2 = .ok (.iload_n 3, 1) := by decide +kernel
theorem dX11_isLess_3 : decode cX11_isLess 3 = .ok (.iconst 4, 1) := by decide +kernel
theorem dX11_isLess_4 : decode cX11_isLess 4 = .ok (.if_icmp .ge 55, 3) := by decide +kernel
theorem dX11_isLess_7 : decode cX11_isLess 7 = .ok (.aload_n 0, 1) := by decide +kernel
theorem dX11_isLess_8 : decode cX11_isLess 8 = .ok (.getfield 33, 3) := by decide +kernel
theorem dX11_isLess_11 : decode cX11_isLess 11 = .ok (.iload_n 1, 1) := by decide +kernel
theorem dX11_isLess_12 : decode cX11_isLess 12 = .ok (.iload_n 3, 1) := by decide +kernel
theorem dX11_isLess_13 : decode cX11_isLess 13 = .ok (.iadd, 1) := by decide +kernel
theorem dX11_isLess_14 : decode cX11_isLess 14 = .ok (.laload, 1) := by decide +kernel
theorem dX11_isLess_15 : decode cX11_isLess 15 = .ok (.aload_n 0, 1) := by decide +kernel
theorem dX11_isLess_16 : decode cX11_isLess 16 = .ok (.getfield 33, 3) := by decide +kernel
theorem dX11_isLess_19 : decode cX11_isLess 19 = .ok (.iload_n 2, 1) := by decide +kernel
theorem dX11_isLess_20 : decode cX11_isLess 20 = .ok (.iload_n 3, 1) := by decide +kernel
theorem dX11_isLess_21 : decode cX11_isLess 21 = .ok (.iadd, 1) := by decide +kernel
theorem dX11_isLess_22 : decode cX11_isLess 22 = .ok (.laload, 1) := by decide +kernel
theorem dX11_isLess_23 : decode cX11_isLess 23 = .ok (.lcmp, 1) := by decide +kernel
theorem dX11_isLess_24 : decode cX11_isLess 24 = .ok (.ifCond .eq 29, 3) := by decide +kernel
theorem dX11_isLess_27 : decode cX11_isLess 27 = .ok (.aload_n 0, 1) := by decide +kernel
theorem dX11_isLess_28 : decode cX11_isLess 28 = .ok (.getfield 33, 3) := by decide +kernel
theorem dX11_isLess_31 : decode cX11_isLess 31 = .ok (.iload_n 1, 1) := by decide +kernel
theorem dX11_isLess_32 : decode cX11_isLess 32 = .ok (.iload_n 3, 1) := by decide +kernel
theorem dX11_isLess_33 : decode cX11_isLess 33 = .ok (.iadd, 1) := by decide +kernel
theorem dX11_isLess_34 : decode cX11_isLess 34 = .ok (.laload, 1) := by decide +kernel
theorem dX11_isLess_35 : decode cX11_isLess 35 = .ok (.aload_n 0, 1) := by decide +kernel
theorem dX11_isLess_36 : decode cX11_isLess 36 = .ok (.getfield 33, 3) := by decide +kernel
theorem dX11_isLess_39 : decode cX11_isLess 39 = .ok (.iload_n 2, 1) := by decide +kernel
theorem dX11_isLess_40 : decode cX11_isLess 40 = .ok (.iload_n 3, 1) := by decide +kernel
theorem dX11_isLess_41 : decode cX11_isLess 41 = .ok (.iadd, 1) := by decide +kernel
theorem dX11_isLess_42 : decode cX11_isLess 42 = .ok (.laload, 1) := by decide +kernel
theorem dX11_isLess_43 : decode cX11_isLess 43 = .ok (.lcmp, 1) := by decide +kernel
theorem dX11_isLess_44 : decode cX11_isLess 44 = .ok (.ifCond .ge 7, 3) := by decide +kernel
theorem dX11_isLess_47 : decode cX11_isLess 47 = .ok (.iconst 1, 1) := by decide +kernel
theorem dX11_isLess_48 : decode cX11_isLess 48 = .ok (.goto 4, 3) := by decide +kernel
theorem dX11_isLess_51 : decode cX11_isLess 51 = .ok (.iconst 0, 1) := by decide +kernel
theorem dX11_isLess_52 : decode cX11_isLess 52 = .ok (.ireturn, 1) := by decide +kernel
theorem dX11_isLess_53 : decode cX11_isLess 53 = .ok (.iinc 3 1, 3) := by decide +kernel
theorem dX11_isLess_56 : decode cX11_isLess 56 = .ok (.goto (-54), 3) := by decide +kernel
theorem dX11_isLess_59 : decode cX11_isLess 59 = .ok (.iconst 0, 1) := by decide +kernel
theorem dX11_isLess_60 : decode cX11_isLess 60 = .ok (.ireturn, 1) := by decide +kernel
theorem dX11_unit_0 : decode cX11_unit 0 = .ok (.iload_n 2, 1) := by decide +kernel
theorem dX11_unit_1 : decode cX11_unit 1 = .ok (.bipush 8, 2) := by decide +kernel
theorem dX11_unit_3 : decode cX11_unit 3 = .ok (.if_icmp .ge 40, 3) := by decide +kernel
theorem dX11_unit_6 : decode cX11_unit 6 = .ok (.aload_n 0, 1) := by decide +kernel
theorem dX11_unit_7 : decode cX11_unit 7 = .ok (.iload_n 1, 1) := by decide +kernel
theorem dX11_unit_8 : decode cX11_unit 8 = .ok (.lconst 0, 1) := by decide +kernel
theorem dX11_unit_9 : decode cX11_unit 9 = .ok (.lconst 0, 1) := by decide +kernel
theorem dX11_unit_10 : decode cX11_unit 10 = .ok (.lconst 0, 1) := by decide +kernel
theorem dX11_unit_11 : decode cX11_unit 11 = .ok (.lconst 0, 1) := by decide +kernel
theorem dX11_unit_12 : decode cX11_unit 12 = .ok (.invokevirtual 68, 3) := by decide +kernel
theorem dX11_unit_15 : decode cX11_unit 15 = .ok (.aload_n 0, 1) := by decide +kernel
theorem dX11_unit_16 : decode cX11_unit 16 = .ok (.getfield 33, 3) := by decide +kernel
theorem dX11_unit_19 : decode cX11_unit 19 = .ok (.iload_n 1, 1) := by decide +kernel
theorem dX11_unit_20 : decode cX11_unit 20 = .ok (.iload_n 2, 1) := by decide +kernel
theorem dX11_unit_21 : decode cX11_unit 21 = .ok (.iconst 2, 1) := by decide +kernel
theorem dX11_unit_22 : decode cX11_unit 22 = .ok (.idiv, 1) := by decide +kernel
theorem dX11_unit_23 : decode cX11_unit 23 = .ok (.iadd, 1) := by decide +kernel
theorem dX11_unit_24 : decode cX11_unit 24 = .ok (.iload_n 2, 1) := by decide +kernel
theorem dX11_unit_25 : decode cX11_unit 25 = .ok (.iconst 2, 1) := by decide +kernel
theorem dX11_unit_26 : decode cX11_unit 26 = .ok (.irem, 1) := by decide +kernel
theorem dX11_unit_27 : decode cX11_unit 27 = .ok (.ifCond .ne 9, 3) := by decide +kernel
theorem dX11_unit_30 : decode cX11_unit 30 = .ok (.ldc2_w 54, 3) := by decide +kernel
theorem dX11_unit_33 : decode cX11_unit 33 = .ok (.goto 6, 3) := by decide +kernel
theorem dX11_unit_36 : decode cX11_unit 36 = .ok (.ldc2_w 157, 3) := by decide +kernel
theorem dX11_unit_39 : decode cX11_unit 39 = .ok (.lastore, 1) := by decide +kernel
theorem dX11_unit_40 : decode cX11_unit 40 = .ok (.goto 66, 3) := by decide +kernel
theorem dX11_unit_43 : decode cX11_unit 43 = .ok (.iload_n 2, 1) := by decide +kernel
theorem dX11_unit_44 : decode cX11_unit 44 = .ok (.bipush 8, 2) := by decide +kernel
theorem dX11_unit_46 : decode cX11_unit 46 = .ok (.isub, 1) := by decide +kernel
theorem dX11_unit_47 : decode cX11_unit 47 = .ok (.istore_n 3, 1) := by decide +kernel
theorem dX11_unit_48 : decode cX11_unit 48 = .ok (.aload_n 0, 1) := by decide +kernel
theorem dX11_unit_49 : decode cX11_unit 49 = .ok (.iload_n 1, 1) := by decide +kernel
theorem dX11_unit_50 : decode cX11_unit 50 = .ok (.iload_n 3, 1) := by decide +kernel
theorem dX11_unit_51 : decode cX11_unit 51 = .ok (.iconst 1, 1) := by decide +kernel
theorem dX11_unit_52 : decode cX11_unit 52 = .ok (.iand, 1) := by decide +kernel
theorem dX11_unit_53 : decode cX11_unit 53 = .ok (.ifCond .ne 7, 3) := by decide +kernel
theorem dX11_unit_56 : decode cX11_unit 56 = .ok (.lconst 1, 1) := by decide +kernel
theorem dX11_unit_57 : decode cX11_unit 57 = .ok (.goto 6, 3) := by decide +kernel
theorem dX11_unit_60 : decode cX11_unit 60 = .ok (.ldc2_w 159, 3) := by decide +kernel
theorem dX11_unit_63 : decode cX11_unit 63 = .ok (.iload_n 3, 1) := by decide +kernel
theorem dX11_unit_64 : decode cX11_unit 64 = .ok (.iconst 2, 1) := by decide +kernel
theorem dX11_unit_65 : decode cX11_unit 65 = .ok (.iand, 1) := by decide +kernel
theorem dX11_unit_66 : decode cX11_unit 66 = .ok (.ifCond .ne 7, 3) := by decide +kernel
theorem dX11_unit_69 : decode cX11_unit 69 = .ok (.lconst 1, 1) := by decide +kernel
theorem dX11_unit_70 : decode cX11_unit 70 = .ok (.goto 6, 3) := by decide +kernel
theorem dX11_unit_73 : decode cX11_unit 73 = .ok (.ldc2_w 159, 3) := by decide +kernel
theorem dX11_unit_76 : decode cX11_unit 76 = .ok (.iload_n 3, 1) := by decide +kernel
theorem dX11_unit_77 : decode cX11_unit 77 = .ok (.iconst 4, 1) := by decide +kernel
theorem dX11_unit_78 : decode cX11_unit 78 = .ok (.iand, 1) := by decide +kernel
theorem dX11_unit_79 : decode cX11_unit 79 = .ok (.ifCond .ne 7, 3) := by decide +kernel
theorem dX11_unit_82 : decode cX11_unit 82 = .ok (.lconst 1, 1) := by decide +kernel
theorem dX11_unit_83 : decode cX11_unit 83 = .ok (.goto 6, 3) := by decide +kernel
theorem dX11_unit_86 : decode cX11_unit 86 = .ok (.ldc2_w 159, 3) := by decide +kernel
theorem dX11_unit_89 : decode cX11_unit 89 = .ok (.iload_n 3, 1) := by decide +kernel
theorem dX11_unit_90 : decode cX11_unit 90 = .ok (.bipush 8, 2) := by decide +kernel
theorem dX11_unit_92 : decode cX11_unit 92 = .ok (.iand, 1) := by decide +kernel
theorem dX11_unit_93 : decode cX11_unit 93 = .ok (.ifCond .ne 7, 3) := by decide +kernel
theorem dX11_unit_96 : decode cX11_unit 96 = .ok (.lconst 1, 1) := by decide +kernel
theorem dX11_unit_97 : decode cX11_unit 97 = .ok (.goto 6, 3) := by decide +kernel
theorem dX11_unit_100 : decode cX11_unit 100 = .ok (.ldc2_w 159, 3) := by decide +kernel
theorem dX11_unit_103 : decode cX11_unit 103 = .ok (.invokevirtual 68, 3) := by decide +kernel
theorem dX11_unit_106 : decode cX11_unit 106 = .ok (.return_, 1) := by decide +kernel
theorem dX11_associateP_0 : decode cX11_associateP 0 = .ok (.iconst 0, 1) := by decide +kernel
theorem dX11_associateP_1 : decode cX11_associateP 1 = .ok (.istore_n 2, 1) := by decide +kernel
theorem dX11_associateP_2 : decode cX11_associateP 2 = .ok (.iload_n 2, 1) := by decide +kernel
theorem dX11_associateP_3 : decode cX11_associateP 3 = .ok (.bipush 24, 2) := by decide +kernel
theorem dX11_associateP_5 : decode cX11_associateP 5 = .ok (.if_icmp .ge 64, 3) := by decide +kernel
theorem dX11_associateP_8 : decode cX11_associateP 8 = .ok (.aload_n 0, 1) := by decide +kernel
theorem dX11_associateP_9 : decode cX11_associateP 9 = .ok (.bipush 24, 2) := by decide +kernel
theorem dX11_associateP_11 : decode cX11_associateP 11 = .ok (.iload_n 2, 1) := by decide +kernel
theorem dX11_associateP_12 : decode cX11_associateP 12 = .ok (.invokevirtual 161, 3) := by decide +kernel
theorem dX11_associateP_15 : decode cX11_associateP 15 = .ok (.iload_n 1, 1) := by decide +kernel
theorem dX11_associateP_16 : decode cX11_associateP 16 = .ok (.ifCond .ne 15, 3) := by decide +kernel
theorem dX11_associateP_19 : decode cX11_associateP 19 = .ok (.aload_n 0, 1) := by decide +kernel
theorem dX11_associateP_20 : decode cX11_associateP 20 = .ok (.bipush 8, 2) := by decide +kernel
theorem dX11_associateP_22 : decode cX11_associateP 22 = .ok (.bipush 24, 2) := by decide +kernel
theorem dX11_associateP_24 : decode cX11_associateP 24 = .ok (.iconst 0, 1) := by decide +kernel
theorem dX11_associateP_25 : decode cX11_associateP 25 = .ok (.invokevirtual 139, 3) := by decide +kernel
theorem dX11_associateP_28 : decode cX11_associateP 28 = .ok (.goto 12, 3) := by decide +kernel
theorem dX11_associateP_31 : decode cX11_associateP 31 = .ok (.aload_n 0, 1) := by decide +kernel
theorem dX11_associateP_32 : decode cX11_associateP 32 = .ok (.bipush 8, 2) := by decide +kernel
theorem dX11_associateP_34 : decode cX11_associateP 34 = .ok (.iconst 0, 1) := by decide +kernel
theorem dX11_associateP_35 : decode cX11_associateP 35 = .ok (.bipush 24, 2) := by decide +kernel
theorem dX11_associateP_37 : decode cX11_associateP 37 = .ok (.invokevirtual 139, 3) := by decide +kernel
theorem dX11_associateP_40 : decode cX11_associateP 40 = .ok (.iload_n 2, 1) := by decide +kernel
theorem dX11_associateP_41 : decode cX11_associateP 41 = .ok (.ifCond .eq 14, 3) := by decide +kernel
theorem dX11_associateP_44 : decode cX11_associateP 44 = .ok (.aload_n 0, 1) := by decide +kernel
theorem dX11_associateP_45 : decode cX11_associateP 45 = .ok (.bipush 20, 2) := by decide +kernel
theorem dX11_associateP_47 : decode cX11_associateP 47 = .ok (.bipush 8, 2) := by decide +kernel
theorem dX11_associateP_49 : decode cX11_associateP 49 = .ok (.invokevirtual 164, 3) := by decide +kernel
theorem dX11_associateP_52 : decode cX11_associateP 52 = .ok (.ifCond .eq 11, 3) := by decide +kernel
theorem dX11_associateP_55 : decode cX11_associateP 55 = .ok (.aload_n 0, 1) := by decide +kernel
theorem dX11_associateP_56 : decode cX11_associateP 56 = .ok (.bipush 20, 2) := by decide +kernel
theorem dX11_associateP_58 : decode cX11_associateP 58 = .ok (.bipush 8, 2) := by decide +kernel
theorem dX11_associateP_60 : decode cX11_associateP 60 = .ok (.invokevirtual 167, 3) := by decide +kernel
theorem dX11_associateP_63 : decode cX11_associateP 63 = .ok (.iinc 2 1, 3) := by decide +kernel
theorem dX11_associateP_66 : decode cX11_associateP 66 = .ok (.goto (-64), 3) := by decide +kernel
theorem dX11_associateP_69 : decode cX11_associateP 69 = .ok (.aload_n 0, 1) := by decide +kernel
theorem dX11_associateP_70 : decode cX11_associateP 70 = .ok (.iconst 0, 1) := by decide +kernel
theorem dX11_associateP_71 : decode cX11_associateP 71 = .ok (.bipush 20, 2) := by decide +kernel
theorem dX11_associateP_73 : decode cX11_associateP 73 = .ok (.invokevirtual 167, 3) := by decide +kernel
theorem dX11_associateP_76 : decode cX11_associateP 76 = .ok (.return_, 1) := by decide +kernel
theorem dX11_greatestP_0 : decode cX11_greatestP 0 = .ok (.aload_n 0, 1) := by decide +kernel
theorem dX11_greatestP_1 : decode cX11_greatestP 1 = .ok (.iconst 4, 1) := by decide +kernel
theorem dX11_greatestP_2 : decode cX11_greatestP 2 = .ok (.invokevirtual 76, 3) := by decide +kernel
theorem dX11_greatestP_5 : decode cX11_greatestP 5 = .ok (.ifCond .ne 24, 3) := by decide +kernel
theorem dX11_greatestP_8 : decode cX11_greatestP 8 = .ok (.aload_n 0, 1) := by decide +kernel
theorem dX11_greatestP_9 : decode cX11_greatestP 9 = .ok (.iload_n 1, 1) := by decide +kernel
theorem dX11_greatestP_10 : decode cX11_greatestP 10 = .ok (.invokevirtual 154, 3) := by decide +kernel
theorem dX11_greatestP_13 : decode cX11_greatestP 13 = .ok (.aload_n 0, 1) := by decide +kernel
theorem dX11_greatestP_14 : decode cX11_greatestP 14 = .ok (.iconst 0, 1) := by decide +kernel
theorem dX11_greatestP_15 : decode cX11_greatestP 15 = .ok (.iconst 4, 1) := by decide +kernel
theorem dX11_greatestP_16 : decode cX11_greatestP 16 = .ok (.invokevirtual 167, 3) := by decide +kernel
theorem dX11_greatestP_19 : decode cX11_greatestP 19 = .ok (.aload_n 0, 1) := by decide +kernel
theorem dX11_greatestP_20 : decode cX11_greatestP 20 = .ok (.iconst 4, 1) := by decide +kernel
theorem dX11_greatestP_21 : decode cX11_greatestP 21 = .ok (.bipush 12, 2) := by decide +kernel
theorem dX11_greatestP_23 : decode cX11_greatestP 23 = .ok (.invokevirtual 167, 3) := by decide +kernel
theorem dX11_greatestP_26 : decode cX11_greatestP 26 = .ok (.goto (-26), 3) := by decide +kernel
theorem dX11_greatestP_29 : decode cX11_greatestP 29 = .ok (.aload_n 0, 1) := by decide +kernel
theorem dX11_greatestP_30 : decode cX11_greatestP 30 = .ok (.iconst 1, 1) := by decide +kernel
theorem dX11_greatestP_31 : decode cX11_greatestP 31 = .ok (.iload_n 1, 1) := by decide +kernel
theorem dX11_greatestP_32 : decode cX11_greatestP 32 = .ok (.isub, 1) := by decide +kernel
theorem dX11_greatestP_33 : decode cX11_greatestP 33 = .ok (.invokevirtual 170, 3) := by decide +kernel
theorem dX11_greatestP_36 : decode cX11_greatestP 36 = .ok (.return_, 1) := by decide +kernel
theorem dX11_greatest_0 : decode cX11_greatest 0 = .ok (.iload_n 1, 1) := by decide +kernel
theorem dX11_greatest_1 : decode cX11_greatest 1 = .ok (.invokestatic 92, 3) := by decide +kernel
theorem dX11_greatest_4 : decode cX11_greatest 4 = .ok (.ifCond .eq 28, 3) := by decide +kernel
theorem dX11_greatest_7 : decode cX11_greatest 7 = .ok (.iload_n 2, 1) := by decide +kernel
theorem dX11_greatest_8 : decode cX11_greatest 8 = .ok (.invokestatic 92, 3) := by decide +kernel
theorem dX11_greatest_11 : decode cX11_greatest 11 = .ok (.ifCond .eq 21, 3) := by decide +kernel
theorem dX11_greatest_14 : decode cX11_greatest 14 = .ok (.iload_n 3, 1) := by decide +kernel
theorem dX11_greatest_15 : decode cX11_greatest 15 = .ok (.invokestatic 92, 3) := by decide +kernel
theorem dX11_greatest_18 : decode cX11_greatest 18 = .ok (.ifCond .eq 14, 3) := by decide +kernel
theorem dX11_greatest_21 : decode cX11_greatest 21 = .ok (.iload 4, 2) := by decide +kernel
theorem dX11_greatest_23 : decode cX11_greatest 23 = .ok (.i2l, 1) := by decide +kernel
theorem dX11_greatest_24 : decode cX11_greatest 24 = .ok (.lconst 0, 1) := by decide +kernel
theorem dX11_greatest_25 : decode cX11_greatest 25 = .ok (.lconst 1, 1) := by decide +kernel
theorem dX11_greatest_26 : decode cX11_greatest 26 = .ok (.invokestatic 46, 3) := by decide +kernel
theorem dX11_greatest_29 : decode cX11_greatest 29 = .ok (.ifCond .ne 6, 3) := by decide +kernel
theorem dX11_greatest_32 : decode cX11_greatest 32 = .ok (.ldc 56, 2) := by decide +kernel
theorem dX11_greatest_34 : decode cX11_greatest 34 = .ok (.ireturn, 1) := by decide +kernel
theorem dX11_greatest_35 : decode cX11_greatest 35 = .ok (.aload_n 0, 1) := by decide +kernel
theorem dX11_greatest_36 : decode cX11_greatest 36 = .ok (.getfield 7, 3) := by decide +kernel
theorem dX11_greatest_39 : decode cX11_greatest 39 = .ok (.iload_n 2, 1) := by decide +kernel
theorem dX11_greatest_40 : decode cX11_greatest 40 = .ok (.baload, 1) := by decide +kernel
theorem dX11_greatest_41 : decode cX11_greatest 41 = .ok (.ifCond .eq 12, 3) := by decide +kernel
theorem dX11_greatest_44 : decode cX11_greatest 44 = .ok (.aload_n 0, 1) := by decide +kernel
theorem dX11_greatest_45 : decode cX11_greatest 45 = .ok (.getfield 7, 3) := by decide +kernel
theorem dX11_greatest_48 : decode cX11_greatest 48 = .ok (.iload_n 3, 1) := by decide +kernel
theorem dX11_greatest_49 : decode cX11_greatest 49 = .ok (.baload, 1) := by decide +kernel
theorem dX11_greatest_50 : decode cX11_greatest 50 = .ok (.ifCond .ne 9, 3) := by decide +kernel
theorem dX11_greatest_53 : decode cX11_greatest 53 = .ok (.aload_n 0, 1) := by decide +kernel
theorem dX11_greatest_54 : decode cX11_greatest 54 = .ok (.iconst 1, 1) := by decide +kernel
theorem dX11_greatest_55 : decode cX11_greatest 55 = .ok (.invokevirtual 57, 3) := by decide +kernel
theorem dX11_greatest_58 : decode cX11_greatest 58 = .ok (.ireturn, 1) := by decide +kernel
theorem dX11_greatest_59 : decode cX11_greatest 59 = .ok (.aload_n 0, 1) := by decide +kernel
theorem dX11_greatest_60 : decode cX11_greatest 60 = .ok (.iconst 0, 1) := by decide +kernel
theorem dX11_greatest_61 : decode cX11_greatest 61 = .ok (.iload_n 2, 1) := by decide +kernel
theorem dX11_greatest_62 : decode cX11_greatest 62 = .ok (.invokevirtual 111, 3) := by decide +kernel
theorem dX11_greatest_65 : decode cX11_greatest 65 = .ok (.aload_n 0, 1) := by decide +kernel
theorem dX11_greatest_66 : decode cX11_greatest 66 = .ok (.iconst 4, 1) := by decide +kernel
theorem dX11_greatest_67 : decode cX11_greatest 67 = .ok (.iload_n 3, 1) := by decide +kernel
theorem dX11_greatest_68 : decode cX11_greatest 68 = .ok (.invokevirtual 111, 3) := by decide +kernel
theorem dX11_greatest_71 : decode cX11_greatest 71 = .ok (.aload_n 0, 1) := by decide +kernel
theorem dX11_greatest_72 : decode cX11_greatest 72 = .ok (.iconst 0, 1) := by decide +kernel
theorem dX11_greatest_73 : decode cX11_greatest 73 = .ok (.invokevirtual 76, 3) := by decide +kernel
theorem dX11_greatest_76 : decode cX11_greatest 76 = .ok (.ifCond .eq 14, 3) := by decide +kernel
theorem dX11_greatest_79 : decode cX11_greatest 79 = .ok (.aload_n 0, 1) := by decide +kernel
theorem dX11_greatest_80 : decode cX11_greatest 80 = .ok (.iconst 4, 1) := by decide +kernel
theorem dX11_greatest_81 : decode cX11_greatest 81 = .ok (.invokevirtual 76, 3) := by decide +kernel
theorem dX11_greatest_84 : decode cX11_greatest 84 = .ok (.ifCond .eq 6, 3) := by decide +kernel
theorem dX11_greatest_87 : decode cX11_greatest 87 = .ok (.ldc 153, 2) := by decide +kernel
theorem dX11_greatest_89 : decode cX11_greatest 89 = .ok (.ireturn, 1) := by decide +kernel
theorem dX11_greatest_90 : decode cX11_greatest 90 = .ok (.aload_n 0, 1) := by decide +kernel
theorem dX11_greatest_91 : decode cX11_greatest 91 = .ok (.iload 4, 2) := by decide +kernel
theorem dX11_greatest_93 : decode cX11_greatest 93 = .ok (.invokevirtual 173, 3) := by decide +kernel
theorem dX11_greatest_96 : decode cX11_greatest 96 = .ok (.aload_n 0, 1) := by decide +kernel
theorem dX11_greatest_97 : decode cX11_greatest 97 = .ok (.iload_n 1, 1) := by decide +kernel
theorem dX11_greatest_98 : decode cX11_greatest 98 = .ok (.iconst 0, 1) := by decide +kernel
theorem dX11_greatest_99 : decode cX11_greatest 99 = .ok (.invokevirtual 102, 3) := by decide +kernel
theorem dX11_greatest_102 : decode cX11_greatest 102 = .ok (.aload_n 0, 1) := by decide +kernel
theorem dX11_greatest_103 : decode cX11_greatest 103 = .ok (.aload_n 0, 1) := by decide +kernel
theorem dX11_greatest_104 : decode cX11_greatest 104 = .ok (.iconst 0, 1) := by decide +kernel
theorem dX11_greatest_105 : decode cX11_greatest 105 = .ok (.invokevirtual 83, 3) := by decide +kernel
theorem dX11_greatest_108 : decode cX11_greatest 108 = .ok (.l2i, 1) := by decide +kernel
theorem dX11_greatest_109 : decode cX11_greatest 109 = .ok (.invokevirtual 61, 3) := by decide +kernel
theorem dX11_greatest_112 : decode cX11_greatest 112 = .ok (.ireturn, 1) := by decide +kernel
theorem dX11_associate_0 : decode cX11_associate 0 = .ok (.iload_n 1, 1) := by decide +kernel
theorem dX11_associate_1 : decode cX11_associate 1 = .ok (.invokestatic 92, 3) := by decide +kernel
theorem dX11_associate_4 : decode cX11_associate 4 = .ok (.ifCond .eq 20, 3) := by decide +kernel
theorem dX11_associate_7 : decode cX11_associate 7 = .ok (.iload_n 2, 1) := by decide +kernel
theorem dX11_associate_8 : decode cX11_associate 8 = .ok (.invokestatic 92, 3) := by decide +kernel
theorem dX11_associate_11 : decode cX11_associate 11 = .ok (.ifCond .eq 13, 3) := by decide +kernel
theorem dX11_associate_14 : decode cX11_associate 14 = .ok (.iload_n 3, 1) := by decide +kernel
theorem dX11_associate_15 : decode cX11_associate 15 = .ok (.i2l, 1) := by decide +kernel
theorem dX11_associate_16 : decode cX11_associate 16 = .ok (.lconst 0, 1) := by decide +kernel
theorem dX11_associate_17 : decode cX11_associate 17 = .ok (.lconst 1, 1) := by decide +kernel
theorem dX11_associate_18 : decode cX11_associate 18 = .ok (.invokestatic 46, 3) := by decide +kernel
theorem dX11_associate_21 : decode cX11_associate 21 = .ok (.ifCond .ne 6, 3) := by decide +kernel
theorem dX11_associate_24 : decode cX11_associate 24 = .ok (.ldc 56, 2) := by decide +kernel
theorem dX11_associate_26 : decode cX11_associate 26 = .ok (.ireturn, 1) := by decide +kernel
theorem dX11_associate_27 : decode cX11_associate 27 = .ok (.aload_n 0, 1) := by decide +kernel
theorem dX11_associate_28 : decode cX11_associate 28 = .ok (.getfield 7, 3) := by decide +kernel
theorem dX11_associate_31 : decode cX11_associate 31 = .ok (.iload_n 2, 1) := by decide +kernel
theorem dX11_associate_32 : decode cX11_associate 32 = .ok (.baload, 1) := by decide +kernel
theorem dX11_associate_33 : decode cX11_associate 33 = .ok (.ifCond .ne 9, 3) := by decide +kernel
theorem dX11_associate_36 : decode cX11_associate 36 = .ok (.aload_n 0, 1) := by decide +kernel
theorem dX11_associate_37 : decode cX11_associate 37 = .ok (.iconst 1, 1) := by decide +kernel
theorem dX11_associate_38 : decode cX11_associate 38 = .ok (.invokevirtual 57, 3) := by decide +kernel
theorem dX11_associate_41 : decode cX11_associate 41 = .ok (.ireturn, 1) := by decide +kernel
theorem dX11_associate_42 : decode cX11_associate 42 = .ok (.aload_n 0, 1) := by decide +kernel
theorem dX11_associate_43 : decode cX11_associate 43 = .ok (.iconst 0, 1) := by decide +kernel
theorem dX11_associate_44 : decode cX11_associate 44 = .ok (.iload_n 2, 1) := by decide +kernel
theorem dX11_associate_45 : decode cX11_associate 45 = .ok (.invokevirtual 111, 3) := by decide +kernel
theorem dX11_associate_48 : decode cX11_associate 48 = .ok (.aload_n 0, 1) := by decide +kernel
theorem dX11_associate_49 : decode cX11_associate 49 = .ok (.iload_n 3, 1) := by decide +kernel
theorem dX11_associate_50 : decode cX11_associate 50 = .ok (.invokevirtual 170, 3) := by decide +kernel
theorem dX11_associate_53 : decode cX11_associate 53 = .ok (.aload_n 0, 1) := by decide +kernel
theorem dX11_associate_54 : decode cX11_associate 54 = .ok (.iload_n 1, 1) := by decide +kernel
theorem dX11_associate_55 : decode cX11_associate 55 = .ok (.iconst 0, 1) := by decide +kernel
theorem dX11_associate_56 : decode cX11_associate 56 = .ok (.invokevirtual 143, 3) := by decide +kernel
theorem dX11_associate_59 : decode cX11_associate 59 = .ok (.ireturn, 1) := by decide +kernel
theorem dX11_plain_0 : decode cX11_plain 0 = .ok (.iload_n 1, 1) := by decide +kernel
theorem dX11_plain_1 : decode cX11_plain 1 = .ok (.invokestatic 92, 3) := by decide +kernel
theorem dX11_plain_4 : decode cX11_plain 4 = .ok (.ifCond .eq 10, 3) := by decide +kernel
theorem dX11_plain_7 : decode cX11_plain 7 = .ok (.iload_n 2, 1) := by decide +kernel
theorem dX11_plain_8 : decode cX11_plain 8 = .ok (.invokestatic 92, 3) := by decide +kernel
theorem dX11_plain_11 : decode cX11_plain 11 = .ok (.ifCond .ne 6, 3) := by decide +kernel
theorem dX11_plain_14 : decode cX11_plain 14 = .ok (.ldc 56, 2) := by decide +kernel
theorem dX11_plain_16 : decode cX11_plain 16 = .ok (.ireturn, 1) := by decide +kernel
theorem dX11_plain_17 : decode cX11_plain 17 = .ok (.aload_n 0, 1) := by decide +kernel
theorem dX11_plain_18 : decode cX11_plain 18 = .ok (.getfield 7, 3) := by decide +kernel
theorem dX11_plain_21 : decode cX11_plain 21 = .ok (.iload_n 2, 1) := by decide +kernel
theorem dX11_plain_22 : decode cX11_plain 22 = .ok (.baload, 1) := by decide +kernel
theorem dX11_plain_23 : decode cX11_plain 23 = .ok (.ifCond .ne 9, 3) := by decide +kernel
theorem dX11_plain_26 : decode cX11_plain 26 = .ok (.aload_n 0, 1) := by decide +kernel
theorem dX11_plain_27 : decode cX11_plain 27 = .ok (.iconst 1, 1) := by decide +kernel
theorem dX11_plain_28 : decode cX11_plain 28 = .ok (.invokevirtual 57, 3) := by decide +kernel
theorem dX11_plain_31 : decode cX11_plain 31 = .ok (.ireturn, 1) := by decide +kernel
theorem dX11_plain_32 : decode cX11_plain 32 = .ok (.aload_n 0, 1) := by decide +kernel
theorem dX11_plain_33 : decode cX11_plain 33 = .ok (.iconst 0, 1) := by decide +kernel
theorem dX11_plain_34 : decode cX11_plain 34 = .ok (.iload_n 2, 1) := by decide +kernel
theorem dX11_plain_35 : decode cX11_plain 35 = .ok (.invokevirtual 111, 3) := by decide +kernel
theorem dX11_plain_38 : decode cX11_plain 38 = .ok (.aload_n 0, 1) := by decide +kernel
theorem dX11_plain_39 : decode cX11_plain 39 = .ok (.iconst 0, 1) := by decide +kernel
theorem dX11_plain_40 : decode cX11_plain 40 = .ok (.invokevirtual 76, 3) := by decide +kernel
theorem dX11_plain_43 : decode cX11_plain 43 = .ok (.ifCond .eq 6, 3) := by decide +kernel
theorem dX11_plain_46 : decode cX11_plain 46 = .ok (.ldc 153, 2) := by decide +kernel
theorem dX11_plain_48 : decode cX11_plain 48 = .ok (.ireturn, 1) := by decide +kernel
theorem dX11_plain_49 : decode cX11_plain 49 = .ok (.aload_n 0, 1) := by decide +kernel
theorem dX11_plain_50 : decode cX11_plain 50 = .ok (.iconst 0, 1) := by decide +kernel
theorem dX11_plain_51 : decode cX11_plain 51 = .ok (.invokevirtual 79, 3) := by decide +kernel
theorem dX11_plain_54 : decode cX11_plain 54 = .ok (.lstore_n 3, 1) := by decide +kernel
theorem dX11_plain_55 : decode cX11_plain 55 = .ok (.aload_n 0, 1) := by decide +kernel
theorem dX11_plain_56 : decode cX11_plain 56 = .ok (.iconst 0, 1) := by decide +kernel
theorem dX11_plain_57 : decode cX11_plain 57 = .ok (.aload_n 0, 1) := by decide +kernel
theorem dX11_plain_58 : decode cX11_plain 58 = .ok (.getfield 33, 3) := by decide +kernel
theorem dX11_plain_61 : decode cX11_plain 61 = .ok (.iconst 0, 1) := by decide +kernel
theorem dX11_plain_62 : decode cX11_plain 62 = .ok (.laload, 1) := by decide +kernel
theorem dX11_plain_63 : decode cX11_plain 63 = .ok (.lload_n 3, 1) := by decide +kernel
theorem dX11_plain_64 : decode cX11_plain 64 = .ok (.ldiv, 1) := by decide +kernel
theorem dX11_plain_65 : decode cX11_plain 65 = .ok (.aload_n 0, 1) := by decide +kernel
theorem dX11_plain_66 : decode cX11_plain 66 = .ok (.getfield 33, 3) := by decide +kernel
theorem dX11_plain_69 : decode cX11_plain 69 = .ok (.iconst 1, 1) := by decide +kernel
theorem dX11_plain_70 : decode cX11_plain 70 = .ok (.laload, 1) := by decide +kernel
theorem dX11_plain_71 : decode cX11_plain 71 = .ok (.lload_n 3, 1) := by decide +kernel
theorem dX11_plain_72 : decode cX11_plain 72 = .ok (.ldiv, 1) := by decide +kernel
theorem dX11_plain_73 : decode cX11_plain 73 = .ok (.aload_n 0, 1) := by decide +kernel
theorem dX11_plain_74 : decode cX11_plain 74 = .ok (.getfield 33, 3) := by decide +kernel
theorem dX11_plain_77 : decode cX11_plain 77 = .ok (.iconst 2, 1) := by decide +kernel
theorem dX11_plain_78 : decode cX11_plain 78 = .ok (.laload, 1) := by decide +kernel
theorem dX11_plain_79 : decode cX11_plain 79 = .ok (.lload_n 3, 1) := by decide +kernel
theorem dX11_plain_80 : decode cX11_plain 80 = .ok (.ldiv, 1) := by decide +kernel
theorem dX11_plain_81 : decode cX11_plain 81 = .ok (.aload_n 0, 1) := by decide +kernel
theorem dX11_plain_82 : decode cX11_plain 82 = .ok (.getfield 33, 3) := by decide +kernel
theorem dX11_plain_85 : decode cX11_plain 85 = .ok (.iconst 3, 1) := by decide +kernel
theorem dX11_plain_86 : decode cX11_plain 86 = .ok (.laload, 1) := by decide +kernel
theorem dX11_plain_87 : decode cX11_plain 87 = .ok (.lload_n 3, 1) := by decide +kernel
theorem dX11_plain_88 : decode cX11_plain 88 = .ok (.ldiv, 1) := by decide +kernel
theorem dX11_plain_89 : decode cX11_plain 89 = .ok (.invokevirtual 68, 3) := by decide +kernel
theorem dX11_plain_92 : decode cX11_plain 92 = .ok (.aload_n 0, 1) := by decide +kernel
theorem dX11_plain_93 : decode cX11_plain 93 = .ok (.iload_n 1, 1) := by decide +kernel
theorem dX11_plain_94 : decode cX11_plain 94 = .ok (.iconst 0, 1) := by decide +kernel
theorem dX11_plain_95 : decode cX11_plain 95 = .ok (.invokevirtual 102, 3) := by decide +kernel
theorem dX11_plain_98 : decode cX11_plain 98 = .ok (.aload_n 0, 1) := by decide +kernel
theorem dX11_plain_99 : decode cX11_plain 99 = .ok (.lload_n 3, 1) := by decide +kernel
theorem dX11_plain_100 : decode cX11_plain 100 = .ok (.l2i, 1) := by decide +kernel
theorem dX11_plain_101 : decode cX11_plain 101 = .ok (.invokevirtual 61, 3) := by decide +kernel
theorem dX11_plain_104 : decode cX11_plain 104 = .ok (.ireturn, 1) := by decide +kernel
theorem dX11_leastPrime_0 : decode cX11_leastPrime 0 = .ok (.ldc2_w 54, 3) := by decide +kernel
theorem dX11_leastPrime_3 : decode cX11_leastPrime 3 = .ok (.lstore_n 2, 1) := by decide +kernel
theorem dX11_leastPrime_4 : decode cX11_leastPrime 4 = .ok (.lload_n 2, 1) := by decide +kernel
theorem dX11_leastPrime_5 : decode cX11_leastPrime 5 = .ok (.lload_n 2, 1) := by decide +kernel
theorem dX11_leastPrime_6 : decode cX11_leastPrime 6 = .ok (.lmul, 1) := by decide +kernel
theorem dX11_leastPrime_7 : decode cX11_leastPrime 7 = .ok (.lload_n 0, 1) := by decide +kernel
theorem dX11_leastPrime_8 : decode cX11_leastPrime 8 = .ok (.lcmp, 1) := by decide +kernel
theorem dX11_leastPrime_9 : decode cX11_leastPrime 9 = .ok (.ifCond .gt 20, 3) := by decide +kernel
theorem dX11_leastPrime_12 : decode cX11_leastPrime 12 = .ok (.lload_n 0, 1) := by decide +kernel
theorem dX11_leastPrime_13 : decode cX11_leastPrime 13 = .ok (.lload_n 2, 1) := by decide +kernel
theorem dX11_leastPrime_14 : decode cX11_leastPrime 14 = .ok (.lrem, 1) := by decide +kernel
theorem dX11_leastPrime_15 : decode cX11_leastPrime 15 = .ok (.lconst 0, 1) := by decide +kernel
theorem dX11_leastPrime_16 : decode cX11_leastPrime 16 = .ok (.lcmp, 1) := by decide +kernel
theorem dX11_leastPrime_17 : decode cX11_leastPrime 17 = .ok (.ifCond .ne 5, 3) := by decide +kernel
theorem dX11_leastPrime_20 : decode cX11_leastPrime 20 = .ok (.lload_n 2, 1) := by decide +kernel
theorem dX11_leastPrime_21 : decode cX11_leastPrime 21 = .ok (.lreturn, 1) := by decide +kernel
theorem dX11_leastPrime_22 : decode cX11_leastPrime 22 = .ok (.lload_n 2, 1) := by decide +kernel
theorem dX11_leastPrime_23 : decode cX11_leastPrime 23 = .ok (.lconst 1, 1) := by decide +kernel
theorem dX11_leastPrime_24 : decode cX11_leastPrime 24 = .ok (.ladd, 1) := by decide +kernel
theorem dX11_leastPrime_25 : decode cX11_leastPrime 25 = .ok (.lstore_n 2, 1) := by decide +kernel
theorem dX11_leastPrime_26 : decode cX11_leastPrime 26 = .ok (.goto (-22), 3) := by decide +kernel
theorem dX11_leastPrime_29 : decode cX11_leastPrime 29 = .ok (.lload_n 0, 1) := by decide +kernel
theorem dX11_leastPrime_30 : decode cX11_leastPrime 30 = .ok (.lreturn, 1) := by decide +kernel
theorem dX11_part_0 : decode cX11_part 0 = .ok (.iload_n 1, 1) := by decide +kernel
theorem dX11_part_1 : decode cX11_part 1 = .ok (.invokestatic 92, 3) := by decide +kernel
theorem dX11_part_4 : decode cX11_part 4 = .ok (.ifCond .eq 10, 3) := by decide +kernel
theorem dX11_part_7 : decode cX11_part 7 = .ok (.iload_n 2, 1) := by decide +kernel
theorem dX11_part_8 : decode cX11_part 8 = .ok (.invokestatic 92, 3) := by decide +kernel
theorem dX11_part_11 : decode cX11_part 11 = .ok (.ifCond .ne 6, 3) := by decide +kernel
theorem dX11_part_14 : decode cX11_part 14 = .ok (.ldc 56, 2) := by decide +kernel
theorem dX11_part_16 : decode cX11_part 16 = .ok (.ireturn, 1) := by decide +kernel
theorem dX11_part_17 : decode cX11_part 17 = .ok (.aload_n 0, 1) := by decide +kernel
theorem dX11_part_18 : decode cX11_part 18 = .ok (.getfield 7, 3) := by decide +kernel
theorem dX11_part_21 : decode cX11_part 21 = .ok (.iload_n 2, 1) := by decide +kernel
theorem dX11_part_22 : decode cX11_part 22 = .ok (.baload, 1) := by decide +kernel
theorem dX11_part_23 : decode cX11_part 23 = .ok (.ifCond .ne 9, 3) := by decide +kernel
theorem dX11_part_26 : decode cX11_part 26 = .ok (.aload_n 0, 1) := by decide +kernel
theorem dX11_part_27 : decode cX11_part 27 = .ok (.iconst 1, 1) := by decide +kernel
theorem dX11_part_28 : decode cX11_part 28 = .ok (.invokevirtual 57, 3) := by decide +kernel
theorem dX11_part_31 : decode cX11_part 31 = .ok (.ireturn, 1) := by decide +kernel
theorem dX11_part_32 : decode cX11_part 32 = .ok (.aload_n 0, 1) := by decide +kernel
theorem dX11_part_33 : decode cX11_part 33 = .ok (.iconst 0, 1) := by decide +kernel
theorem dX11_part_34 : decode cX11_part 34 = .ok (.iload_n 2, 1) := by decide +kernel
theorem dX11_part_35 : decode cX11_part 35 = .ok (.invokevirtual 111, 3) := by decide +kernel
theorem dX11_part_38 : decode cX11_part 38 = .ok (.aload_n 0, 1) := by decide +kernel
theorem dX11_part_39 : decode cX11_part 39 = .ok (.iconst 0, 1) := by decide +kernel
theorem dX11_part_40 : decode cX11_part 40 = .ok (.invokevirtual 106, 3) := by decide +kernel
theorem dX11_part_43 : decode cX11_part 43 = .ok (.istore 4, 2) := by decide +kernel
theorem dX11_part_45 : decode cX11_part 45 = .ok (.iload 4, 2) := by decide +kernel
theorem dX11_part_47 : decode cX11_part 47 = .ok (.iconst 2, 1) := by decide +kernel
theorem dX11_part_48 : decode cX11_part 48 = .ok (.if_icmp .lt 9, 3) := by decide +kernel
theorem dX11_part_51 : decode cX11_part 51 = .ok (.iload 4, 2) := by decide +kernel
theorem dX11_part_53 : decode cX11_part 53 = .ok (.iconst 4, 1) := by decide +kernel
theorem dX11_part_54 : decode cX11_part 54 = .ok (.if_icmp .ne 6, 3) := by decide +kernel
theorem dX11_part_57 : decode cX11_part 57 = .ok (.ldc 153, 2) := by decide +kernel
theorem dX11_part_59 : decode cX11_part 59 = .ok (.ireturn, 1) := by decide +kernel
theorem dX11_part_60 : decode cX11_part 60 = .ok (.aload_n 0, 1) := by decide +kernel
theorem dX11_part_61 : decode cX11_part 61 = .ok (.bipush 28, 2) := by decide +kernel
theorem dX11_part_63 : decode cX11_part 63 = .ok (.iconst 0, 1) := by decide +kernel
theorem dX11_part_64 : decode cX11_part 64 = .ok (.invokevirtual 167, 3) := by decide +kernel
theorem dX11_part_67 : decode cX11_part 67 = .ok (.aload_n 0, 1) := by decide +kernel
theorem dX11_part_68 : decode cX11_part 68 = .ok (.iconst 0, 1) := by decide +kernel
theorem dX11_part_69 : decode cX11_part 69 = .ok (.invokevirtual 83, 3) := by decide +kernel
theorem dX11_part_72 : decode cX11_part 72 = .ok (.lstore 5, 2) := by decide +kernel
theorem dX11_part_74 : decode cX11_part 74 = .ok (.iconst 0, 1) := by decide +kernel
theorem dX11_part_75 : decode cX11_part 75 = .ok (.istore 7, 2) := by decide +kernel
theorem dX11_part_77 : decode cX11_part 77 = .ok (.iconst 0, 1) := by decide +kernel
theorem dX11_part_78 : decode cX11_part 78 = .ok (.istore 8, 2) := by decide +kernel
theorem dX11_part_80 : decode cX11_part 80 = .ok (.lload 5, 2) := by decide +kernel
theorem dX11_part_82 : decode cX11_part 82 = .ok (.lconst 1, 1) := by decide +kernel
theorem dX11_part_83 : decode cX11_part 83 = .ok (.lcmp, 1) := by decide +kernel
theorem dX11_part_84 : decode cX11_part 84 = .ok (.ifCond .le 128, 3) := by decide +kernel
theorem dX11_part_87 : decode cX11_part 87 = .ok (.lload 5, 2) := by decide +kernel
theorem dX11_part_89 : decode cX11_part 89 = .ok (.invokestatic 176, 3) := by decide +kernel
theorem dX11_part_92 : decode cX11_part 92 = .ok (.lstore 9, 2) := by decide +kernel
theorem dX11_part_94 : decode cX11_part 94 = .ok (.aload_n 0, 1) := by decide +kernel
theorem dX11_part_95 : decode cX11_part 95 = .ok (.iconst 0, 1) := by decide +kernel
theorem dX11_part_96 : decode cX11_part 96 = .ok (.bipush 28, 2) := by decide +kernel
theorem dX11_part_98 : decode cX11_part 98 = .ok (.invokevirtual 167, 3) := by decide +kernel
theorem dX11_part_101 : decode cX11_part 101 = .ok (.aload_n 0, 1) := by decide +kernel
theorem dX11_part_102 : decode cX11_part 102 = .ok (.iconst 4, 1) := by decide +kernel
theorem dX11_part_103 : decode cX11_part 103 = .ok (.ldc2_w 54, 3) := by decide +kernel
theorem dX11_part_106 : decode cX11_part 106 = .ok (.lload 9, 2) := by decide +kernel
theorem dX11_part_108 : decode cX11_part 108 = .ok (.lmul, 1) := by decide +kernel
theorem dX11_part_109 : decode cX11_part 109 = .ok (.lconst 0, 1) := by decide +kernel
theorem dX11_part_110 : decode cX11_part 110 = .ok (.lconst 0, 1) := by decide +kernel
theorem dX11_part_111 : decode cX11_part 111 = .ok (.lconst 0, 1) := by decide +kernel
theorem dX11_part_112 : decode cX11_part 112 = .ok (.invokevirtual 68, 3) := by decide +kernel
theorem dX11_part_115 : decode cX11_part 115 = .ok (.aload_n 0, 1) := by decide +kernel
theorem dX11_part_116 : decode cX11_part 116 = .ok (.iconst 0, 1) := by decide +kernel
theorem dX11_part_117 : decode cX11_part 117 = .ok (.invokevirtual 173, 3) := by decide +kernel
theorem dX11_part_120 : decode cX11_part 120 = .ok (.iload 7, 2) := by decide +kernel
theorem dX11_part_122 : decode cX11_part 122 = .ok (.iload_n 3, 1) := by decide +kernel
theorem dX11_part_123 : decode cX11_part 123 = .ok (.if_icmp .ne 13, 3) := by decide +kernel
theorem dX11_part_126 : decode cX11_part 126 = .ok (.aload_n 0, 1) := by decide +kernel
theorem dX11_part_127 : decode cX11_part 127 = .ok (.bipush 32, 2) := by decide +kernel
theorem dX11_part_129 : decode cX11_part 129 = .ok (.iconst 0, 1) := by decide +kernel
theorem dX11_part_130 : decode cX11_part 130 = .ok (.invokevirtual 167, 3) := by decide +kernel
theorem dX11_part_133 : decode cX11_part 133 = .ok (.iconst 1, 1) := by decide +kernel
theorem dX11_part_134 : decode cX11_part 134 = .ok (.istore 8, 2) := by decide +kernel
theorem dX11_part_136 : decode cX11_part 136 = .ok (.aload_n 0, 1) := by decide +kernel
theorem dX11_part_137 : decode cX11_part 137 = .ok (.bipush 16, 2) := by decide +kernel
theorem dX11_part_139 : decode cX11_part 139 = .ok (.iconst 0, 1) := by decide +kernel
theorem dX11_part_140 : decode cX11_part 140 = .ok (.invokevirtual 147, 3) := by decide +kernel
theorem dX11_part_143 : decode cX11_part 143 = .ok (.aload_n 0, 1) := by decide +kernel
theorem dX11_part_144 : decode cX11_part 144 = .ok (.bipush 8, 2) := by decide +kernel
theorem dX11_part_146 : decode cX11_part 146 = .ok (.bipush 16, 2) := by decide +kernel
theorem dX11_part_148 : decode cX11_part 148 = .ok (.bipush 28, 2) := by decide +kernel
theorem dX11_part_150 : decode cX11_part 150 = .ok (.invokevirtual 139, 3) := by decide +kernel
theorem dX11_part_153 : decode cX11_part 153 = .ok (.aload_n 0, 1) := by decide +kernel
theorem dX11_part_154 : decode cX11_part 154 = .ok (.bipush 28, 2) := by decide +kernel
theorem dX11_part_156 : decode cX11_part 156 = .ok (.aload_n 0, 1) := by decide +kernel
theorem dX11_part_157 : decode cX11_part 157 = .ok (.getfield 33, 3) := by decide +kernel
theorem dX11_part_160 : decode cX11_part 160 = .ok (.bipush 8, 2) := by decide +kernel
theorem dX11_part_162 : decode cX11_part 162 = .ok (.laload, 1) := by decide +kernel
theorem dX11_part_163 : decode cX11_part 163 = .ok (.lload 9, 2) := by decide +kernel
theorem dX11_part_165 : decode cX11_part 165 = .ok (.ldiv, 1) := by decide +kernel
theorem dX11_part_166 : decode cX11_part 166 = .ok (.aload_n 0, 1) := by decide +kernel
theorem dX11_part_167 : decode cX11_part 167 = .ok (.getfield 33, 3) := by decide +kernel
theorem dX11_part_170 : decode cX11_part 170 = .ok (.bipush 9, 2) := by decide +kernel
theorem dX11_part_172 : decode cX11_part 172 = .ok (.laload, 1) := by decide +kernel
theorem dX11_part_173 : decode cX11_part 173 = .ok (.lload 9, 2) := by decide +kernel
theorem dX11_part_175 : decode cX11_part 175 = .ok (.ldiv, 1) := by decide +kernel
theorem dX11_part_176 : decode cX11_part 176 = .ok (.aload_n 0, 1) := by decide +kernel
theorem dX11_part_177 : decode cX11_part 177 = .ok (.getfield 33, 3) := by decide +kernel
theorem dX11_part_180 : decode cX11_part 180 = .ok (.bipush 10, 2) := by decide +kernel
theorem dX11_part_182 : decode cX11_part 182 = .ok (.laload, 1) := by decide +kernel
theorem dX11_part_183 : decode cX11_part 183 = .ok (.lload 9, 2) := by decide +kernel
theorem dX11_part_185 : decode cX11_part 185 = .ok (.ldiv, 1) := by decide +kernel
theorem dX11_part_186 : decode cX11_part 186 = .ok (.aload_n 0, 1) := by decide +kernel
theorem dX11_part_187 : decode cX11_part 187 = .ok (.getfield 33, 3) := by decide +kernel
theorem dX11_part_190 : decode cX11_part 190 = .ok (.bipush 11, 2) := by decide +kernel
theorem dX11_part_192 : decode cX11_part 192 = .ok (.laload, 1) := by decide +kernel
theorem dX11_part_193 : decode cX11_part 193 = .ok (.lload 9, 2) := by decide +kernel
theorem dX11_part_195 : decode cX11_part 195 = .ok (.ldiv, 1) := by decide +kernel
theorem dX11_part_196 : decode cX11_part 196 = .ok (.invokevirtual 68, 3) := by decide +kernel
theorem dX11_part_199 : decode cX11_part 199 = .ok (.lload 5, 2) := by decide +kernel
theorem dX11_part_201 : decode cX11_part 201 = .ok (.lload 9, 2) := by decide +kernel
theorem dX11_part_203 : decode cX11_part 203 = .ok (.ldiv, 1) := by decide +kernel
theorem dX11_part_204 : decode cX11_part 204 = .ok (.lstore 5, 2) := by decide +kernel
theorem dX11_part_206 : decode cX11_part 206 = .ok (.iinc 7 1, 3) := by decide +kernel
theorem dX11_part_209 : decode cX11_part 209 = .ok (.goto (-129), 3) := by decide +kernel
theorem dX11_part_212 : decode cX11_part 212 = .ok (.iload 7, 2) := by decide +kernel
theorem dX11_part_214 : decode cX11_part 214 = .ok (.iload_n 3, 1) := by decide +kernel
theorem dX11_part_215 : decode cX11_part 215 = .ok (.if_icmp .ne 14, 3) := by decide +kernel
theorem dX11_part_218 : decode cX11_part 218 = .ok (.aload_n 0, 1) := by decide +kernel
theorem dX11_part_219 : decode cX11_part 219 = .ok (.bipush 32, 2) := by decide +kernel
theorem dX11_part_221 : decode cX11_part 221 = .ok (.bipush 28, 2) := by decide +kernel
theorem dX11_part_223 : decode cX11_part 223 = .ok (.invokevirtual 167, 3) := by decide +kernel
theorem dX11_part_226 : decode cX11_part 226 = .ok (.iconst 1, 1) := by decide +kernel
theorem dX11_part_227 : decode cX11_part 227 = .ok (.istore 8, 2) := by decide +kernel
theorem dX11_part_229 : decode cX11_part 229 = .ok (.iinc 7 1, 3) := by decide +kernel
theorem dX11_part_232 : decode cX11_part 232 = .ok (.iload 8, 2) := by decide +kernel
theorem dX11_part_234 : decode cX11_part 234 = .ok (.ifCond .ne 10, 3) := by decide +kernel
theorem dX11_part_237 : decode cX11_part 237 = .ok (.aload_n 0, 1) := by decide +kernel
theorem dX11_part_238 : decode cX11_part 238 = .ok (.ldc 138, 2) := by decide +kernel
theorem dX11_part_240 : decode cX11_part 240 = .ok (.invokevirtual 61, 3) := by decide +kernel
theorem dX11_part_243 : decode cX11_part 243 = .ok (.ireturn, 1) := by decide +kernel
theorem dX11_part_244 : decode cX11_part 244 = .ok (.aload_n 0, 1) := by decide +kernel
theorem dX11_part_245 : decode cX11_part 245 = .ok (.iload_n 1, 1) := by decide +kernel
theorem dX11_part_246 : decode cX11_part 246 = .ok (.bipush 32, 2) := by decide +kernel
theorem dX11_part_248 : decode cX11_part 248 = .ok (.invokevirtual 102, 3) := by decide +kernel
theorem dX11_part_251 : decode cX11_part 251 = .ok (.aload_n 0, 1) := by decide +kernel
theorem dX11_part_252 : decode cX11_part 252 = .ok (.iload 7, 2) := by decide +kernel
theorem dX11_part_254 : decode cX11_part 254 = .ok (.invokevirtual 61, 3) := by decide +kernel
theorem dX11_part_257 : decode cX11_part 257 = .ok (.ireturn, 1) := by decide +kernel
theorem dX11_many_0 : decode cX11_many 0 = .ok (.iload_n 1, 1) := by decide +kernel
theorem dX11_many_1 : decode cX11_many 1 = .ok (.i2l, 1) := by decide +kernel
theorem dX11_many_2 : decode cX11_many 2 = .ok (.lconst 1, 1) := by decide +kernel
theorem dX11_many_3 : decode cX11_many 3 = .ok (.ldc2_w 180, 3) := by decide +kernel
theorem dX11_many_6 : decode cX11_many 6 = .ok (.invokestatic 46, 3) := by decide +kernel
theorem dX11_many_9 : decode cX11_many 9 = .ok (.ifCond .ne 6, 3) := by decide +kernel
theorem dX11_many_12 : decode cX11_many 12 = .ok (.ldc 56, 2) := by decide +kernel
theorem dX11_many_14 : decode cX11_many 14 = .ok (.ireturn, 1) := by decide +kernel
theorem dX11_many_15 : decode cX11_many 15 = .ok (.iconst 0, 1) := by decide +kernel
theorem dX11_many_16 : decode cX11_many 16 = .ok (.istore_n 2, 1) := by decide +kernel
theorem dX11_many_17 : decode cX11_many 17 = .ok (.iconst 1, 1) := by decide +kernel
theorem dX11_many_18 : decode cX11_many 18 = .ok (.istore_n 3, 1) := by decide +kernel
theorem dX11_many_19 : decode cX11_many 19 = .ok (.iload_n 3, 1) := by decide +kernel
theorem dX11_many_20 : decode cX11_many 20 = .ok (.iload_n 1, 1) := by decide +kernel
theorem dX11_many_21 : decode cX11_many 21 = .ok (.if_icmp .gt 23, 3) := by decide +kernel
theorem dX11_many_24 : decode cX11_many 24 = .ok (.iload_n 2, 1) := by decide +kernel
theorem dX11_many_25 : decode cX11_many 25 = .ok (.iload_n 1, 1) := by decide +kernel
theorem dX11_many_26 : decode cX11_many 26 = .ok (.iload_n 3, 1) := by decide +kernel
theorem dX11_many_27 : decode cX11_many 27 = .ok (.irem, 1) := by decide +kernel
theorem dX11_many_28 : decode cX11_many 28 = .ok (.ifCond .ne 7, 3) := by decide +kernel
theorem dX11_many_31 : decode cX11_many 31 = .ok (.iload_n 3, 1) := by decide +kernel
theorem dX11_many_32 : decode cX11_many 32 = .ok (.goto 4, 3) := by decide +kernel
theorem dX11_many_35 : decode cX11_many 35 = .ok (.iconst 0, 1) := by decide +kernel
theorem dX11_many_36 : decode cX11_many 36 = .ok (.iadd, 1) := by decide +kernel
theorem dX11_many_37 : decode cX11_many 37 = .ok (.istore_n 2, 1) := by decide +kernel
theorem dX11_many_38 : decode cX11_many 38 = .ok (.iinc 3 2, 3) := by decide +kernel
theorem dX11_many_41 : decode cX11_many 41 = .ok (.goto (-22), 3) := by decide +kernel
theorem dX11_many_44 : decode cX11_many 44 = .ok (.bipush 24, 2) := by decide +kernel
theorem dX11_many_46 : decode cX11_many 46 = .ok (.iload_n 2, 1) := by decide +kernel
theorem dX11_many_47 : decode cX11_many 47 = .ok (.imul, 1) := by decide +kernel
theorem dX11_many_48 : decode cX11_many 48 = .ok (.ireturn, 1) := by decide +kernel
theorem dX11_root_0 : decode cX11_root 0 = .ok (.lconst 0, 1) := by decide +kernel
theorem dX11_root_1 : decode cX11_root 1 = .ok (.lstore_n 2, 1) := by decide +kernel
theorem dX11_root_2 : decode cX11_root 2 = .ok (.lload_n 2, 1) := by decide +kernel
theorem dX11_root_3 : decode cX11_root 3 = .ok (.lconst 1, 1) := by decide +kernel
theorem dX11_root_4 : decode cX11_root 4 = .ok (.ladd, 1) := by decide +kernel
theorem dX11_root_5 : decode cX11_root 5 = .ok (.lload_n 2, 1) := by decide +kernel
theorem dX11_root_6 : decode cX11_root 6 = .ok (.lconst 1, 1) := by decide +kernel
theorem dX11_root_7 : decode cX11_root 7 = .ok (.ladd, 1) := by decide +kernel
theorem dX11_root_8 : decode cX11_root 8 = .ok (.lmul, 1) := by decide +kernel
theorem dX11_root_9 : decode cX11_root 9 = .ok (.lload_n 0, 1) := by decide +kernel
theorem dX11_root_10 : decode cX11_root 10 = .ok (.lcmp, 1) := by decide +kernel
theorem dX11_root_11 : decode cX11_root 11 = .ok (.ifCond .gt 10, 3) := by decide +kernel
theorem dX11_root_14 : decode cX11_root 14 = .ok (.lload_n 2, 1) := by decide +kernel
theorem dX11_root_15 : decode cX11_root 15 = .ok (.lconst 1, 1) := by decide +kernel
theorem dX11_root_16 : decode cX11_root 16 = .ok (.ladd, 1) := by decide +kernel
theorem dX11_root_17 : decode cX11_root 17 = .ok (.lstore_n 2, 1) := by decide +kernel
theorem dX11_root_18 : decode cX11_root 18 = .ok (.goto (-16), 3) := by decide +kernel
theorem dX11_root_21 : decode cX11_root 21 = .ok (.lload_n 2, 1) := by decide +kernel
theorem dX11_root_22 : decode cX11_root 22 = .ok (.lreturn, 1) := by decide +kernel
theorem dX11_list_0 : decode cX11_list 0 = .ok (.iload_n 1, 1) := by decide +kernel
theorem dX11_list_1 : decode cX11_list 1 = .ok (.invokestatic 92, 3) := by decide +kernel
theorem dX11_list_4 : decode cX11_list 4 = .ok (.ifCond .eq 15, 3) := by decide +kernel
theorem dX11_list_7 : decode cX11_list 7 = .ok (.iload_n 2, 1) := by decide +kernel
theorem dX11_list_8 : decode cX11_list 8 = .ok (.i2l, 1) := by decide +kernel
theorem dX11_list_9 : decode cX11_list 9 = .ok (.lconst 1, 1) := by decide +kernel
theorem dX11_list_10 : decode cX11_list 10 = .ok (.ldc2_w 182, 3) := by decide +kernel
theorem dX11_list_13 : decode cX11_list 13 = .ok (.invokestatic 46, 3) := by decide +kernel
theorem dX11_list_16 : decode cX11_list 16 = .ok (.ifCond .ne 6, 3) := by decide +kernel
theorem dX11_list_19 : decode cX11_list 19 = .ok (.ldc 56, 2) := by decide +kernel
theorem dX11_list_21 : decode cX11_list 21 = .ok (.ireturn, 1) := by decide +kernel
theorem dX11_list_22 : decode cX11_list 22 = .ok (.ldc2_w 66, 3) := by decide +kernel
theorem dX11_list_25 : decode cX11_list 25 = .ok (.iload_n 2, 1) := by decide +kernel
theorem dX11_list_26 : decode cX11_list 26 = .ok (.i2l, 1) := by decide +kernel
theorem dX11_list_27 : decode cX11_list 27 = .ok (.lmul, 1) := by decide +kernel
theorem dX11_list_28 : decode cX11_list 28 = .ok (.lstore 4, 2) := by decide +kernel
theorem dX11_list_30 : decode cX11_list 30 = .ok (.lload 4, 2) := by decide +kernel
theorem dX11_list_32 : decode cX11_list 32 = .ok (.invokestatic 184, 3) := by decide +kernel
theorem dX11_list_35 : decode cX11_list 35 = .ok (.lstore 6, 2) := by decide +kernel
theorem dX11_list_37 : decode cX11_list 37 = .ok (.iload_n 3, 1) := by decide +kernel
theorem dX11_list_38 : decode cX11_list 38 = .ok (.istore 8, 2) := by decide +kernel
theorem dX11_list_40 : decode cX11_list 40 = .ok (.lload 6, 2) := by decide +kernel
theorem dX11_list_42 : decode cX11_list 42 = .ok (.lneg, 1) := by decide +kernel
theorem dX11_list_43 : decode cX11_list 43 = .ok (.lstore 9, 2) := by decide +kernel
theorem dX11_list_45 : decode cX11_list 45 = .ok (.lload 9, 2) := by decide +kernel
theorem dX11_list_47 : decode cX11_list 47 = .ok (.lload 6, 2) := by decide +kernel
theorem dX11_list_49 : decode cX11_list 49 = .ok (.lcmp, 1) := by decide +kernel
theorem dX11_list_50 : decode cX11_list 50 = .ok (.ifCond .gt 240, 3) := by decide +kernel
theorem dX11_list_53 : decode cX11_list 53 = .ok (.iload 8, 2) := by decide +kernel
theorem dX11_list_55 : decode cX11_list 55 = .ok (.ifCond .lt 235, 3) := by decide +kernel
theorem dX11_list_58 : decode cX11_list 58 = .ok (.lload 6, 2) := by decide +kernel
theorem dX11_list_60 : decode cX11_list 60 = .ok (.lneg, 1) := by decide +kernel
theorem dX11_list_61 : decode cX11_list 61 = .ok (.lstore 11, 2) := by decide +kernel
theorem dX11_list_63 : decode cX11_list 63 = .ok (.lload 11, 2) := by decide +kernel
theorem dX11_list_65 : decode cX11_list 65 = .ok (.lload 6, 2) := by decide +kernel
theorem dX11_list_67 : decode cX11_list 67 = .ok (.lcmp, 1) := by decide +kernel
theorem dX11_list_68 : decode cX11_list 68 = .ok (.ifCond .gt 213, 3) := by decide +kernel
theorem dX11_list_71 : decode cX11_list 71 = .ok (.lload 6, 2) := by decide +kernel
theorem dX11_list_73 : decode cX11_list 73 = .ok (.lneg, 1) := by decide +kernel
theorem dX11_list_74 : decode cX11_list 74 = .ok (.lstore 13, 2) := by decide +kernel
theorem dX11_list_76 : decode cX11_list 76 = .ok (.lload 13, 2) := by decide +kernel
theorem dX11_list_78 : decode cX11_list 78 = .ok (.lload 6, 2) := by decide +kernel
theorem dX11_list_80 : decode cX11_list 80 = .ok (.lcmp, 1) := by decide +kernel
theorem dX11_list_81 : decode cX11_list 81 = .ok (.ifCond .gt 191, 3) := by decide +kernel
theorem dX11_list_84 : decode cX11_list 84 = .ok (.lload 4, 2) := by decide +kernel
theorem dX11_list_86 : decode cX11_list 86 = .ok (.lload 9, 2) := by decide +kernel
theorem dX11_list_88 : decode cX11_list 88 = .ok (.lload 9, 2) := by decide +kernel
theorem dX11_list_90 : decode cX11_list 90 = .ok (.lmul, 1) := by decide +kernel
theorem dX11_list_91 : decode cX11_list 91 = .ok (.lsub, 1) := by decide +kernel
theorem dX11_list_92 : decode cX11_list 92 = .ok (.lload 11, 2) := by decide +kernel
theorem dX11_list_94 : decode cX11_list 94 = .ok (.lload 11, 2) := by decide +kernel
theorem dX11_list_96 : decode cX11_list 96 = .ok (.lmul, 1) := by decide +kernel
theorem dX11_list_97 : decode cX11_list 97 = .ok (.lsub, 1) := by decide +kernel
theorem dX11_list_98 : decode cX11_list 98 = .ok (.lload 13, 2) := by decide +kernel
theorem dX11_list_100 : decode cX11_list 100 = .ok (.lload 13, 2) := by decide +kernel
theorem dX11_list_102 : decode cX11_list 102 = .ok (.lmul, 1) := by decide +kernel
theorem dX11_list_103 : decode cX11_list 103 = .ok (.lsub, 1) := by decide +kernel
theorem dX11_list_104 : decode cX11_list 104 = .ok (.lstore 15, 2) := by decide +kernel
theorem dX11_list_106 : decode cX11_list 106 = .ok (.lload 9, 2) := by decide +kernel
theorem dX11_list_108 : decode cX11_list 108 = .ok (.lconst 1, 1) := by decide +kernel
theorem dX11_list_109 : decode cX11_list 109 = .ok (.land, 1) := by decide +kernel
theorem dX11_list_110 : decode cX11_list 110 = .ok (.lload 11, 2) := by decide +kernel
theorem dX11_list_112 : decode cX11_list 112 = .ok (.lconst 1, 1) := by decide +kernel
theorem dX11_list_113 : decode cX11_list 113 = .ok (.land, 1) := by decide +kernel
theorem dX11_list_114 : decode cX11_list 114 = .ok (.lcmp, 1) := by decide +kernel
theorem dX11_list_115 : decode cX11_list 115 = .ok (.ifCond .ne 19, 3) := by decide +kernel
theorem dX11_list_118 : decode cX11_list 118 = .ok (.lload 9, 2) := by decide +kernel
theorem dX11_list_120 : decode cX11_list 120 = .ok (.lconst 1, 1) := by decide +kernel
theorem dX11_list_121 : decode cX11_list 121 = .ok (.land, 1) := by decide +kernel
theorem dX11_list_122 : decode cX11_list 122 = .ok (.lload 13, 2) := by decide +kernel
theorem dX11_list_124 : decode cX11_list 124 = .ok (.lconst 1, 1) := by decide +kernel
theorem dX11_list_125 : decode cX11_list 125 = .ok (.land, 1) := by decide +kernel
theorem dX11_list_126 : decode cX11_list 126 = .ok (.lcmp, 1) := by decide +kernel
theorem dX11_list_127 : decode cX11_list 127 = .ok (.ifCond .ne 7, 3) := by decide +kernel
theorem dX11_list_130 : decode cX11_list 130 = .ok (.iconst 1, 1) := by decide +kernel
theorem dX11_list_131 : decode cX11_list 131 = .ok (.goto 4, 3) := by decide +kernel
theorem dX11_list_134 : decode cX11_list 134 = .ok (.iconst 0, 1) := by decide +kernel
theorem dX11_list_135 : decode cX11_list 135 = .ok (.istore 17, 2) := by decide +kernel
theorem dX11_list_137 : decode cX11_list 137 = .ok (.lload 15, 2) := by decide +kernel
theorem dX11_list_139 : decode cX11_list 139 = .ok (.lconst 0, 1) := by decide +kernel
theorem dX11_list_140 : decode cX11_list 140 = .ok (.lcmp, 1) := by decide +kernel
theorem dX11_list_141 : decode cX11_list 141 = .ok (.ifCond .lt 8, 3) := by decide +kernel
theorem dX11_list_144 : decode cX11_list 144 = .ok (.iload 17, 2) := by decide +kernel
theorem dX11_list_146 : decode cX11_list 146 = .ok (.ifCond .ne 9, 3) := by decide +kernel
theorem dX11_list_149 : decode cX11_list 149 = .ok (.ldc2_w 159, 3) := by decide +kernel
theorem dX11_list_152 : decode cX11_list 152 = .ok (.goto 8, 3) := by decide +kernel
theorem dX11_list_155 : decode cX11_list 155 = .ok (.lload 15, 2) := by decide +kernel
theorem dX11_list_157 : decode cX11_list 157 = .ok (.invokestatic 184, 3) := by decide +kernel
theorem dX11_list_160 : decode cX11_list 160 = .ok (.lstore 18, 2) := by decide +kernel
theorem dX11_list_162 : decode cX11_list 162 = .ok (.lload 18, 2) := by decide +kernel
theorem dX11_list_164 : decode cX11_list 164 = .ok (.lconst 0, 1) := by decide +kernel
theorem dX11_list_165 : decode cX11_list 165 = .ok (.lcmp, 1) := by decide +kernel
theorem dX11_list_166 : decode cX11_list 166 = .ok (.ifCond .lt 97, 3) := by decide +kernel
theorem dX11_list_169 : decode cX11_list 169 = .ok (.lload 18, 2) := by decide +kernel
theorem dX11_list_171 : decode cX11_list 171 = .ok (.lload 18, 2) := by decide +kernel
theorem dX11_list_173 : decode cX11_list 173 = .ok (.lmul, 1) := by decide +kernel
theorem dX11_list_174 : decode cX11_list 174 = .ok (.lload 15, 2) := by decide +kernel
theorem dX11_list_176 : decode cX11_list 176 = .ok (.lcmp, 1) := by decide +kernel
theorem dX11_list_177 : decode cX11_list 177 = .ok (.ifCond .ne 86, 3) := by decide +kernel
theorem dX11_list_180 : decode cX11_list 180 = .ok (.lload 18, 2) := by decide +kernel
theorem dX11_list_182 : decode cX11_list 182 = .ok (.lconst 1, 1) := by decide +kernel
theorem dX11_list_183 : decode cX11_list 183 = .ok (.land, 1) := by decide +kernel
theorem dX11_list_184 : decode cX11_list 184 = .ok (.lload 9, 2) := by decide +kernel
theorem dX11_list_186 : decode cX11_list 186 = .ok (.lconst 1, 1) := by decide +kernel
theorem dX11_list_187 : decode cX11_list 187 = .ok (.land, 1) := by decide +kernel
theorem dX11_list_188 : decode cX11_list 188 = .ok (.lcmp, 1) := by decide +kernel
theorem dX11_list_189 : decode cX11_list 189 = .ok (.ifCond .ne 74, 3) := by decide +kernel
theorem dX11_list_192 : decode cX11_list 192 = .ok (.iconst 0, 1) := by decide +kernel
theorem dX11_list_193 : decode cX11_list 193 = .ok (.istore 20, 2) := by decide +kernel
theorem dX11_list_195 : decode cX11_list 195 = .ok (.iload 20, 2) := by decide +kernel
theorem dX11_list_197 : decode cX11_list 197 = .ok (.iconst 2, 1) := by decide +kernel
theorem dX11_list_198 : decode cX11_list 198 = .ok (.if_icmp .ge 65, 3) := by decide +kernel
theorem dX11_list_201 : decode cX11_list 201 = .ok (.iload 20, 2) := by decide +kernel
theorem dX11_list_203 : decode cX11_list 203 = .ok (.ifCond .eq 10, 3) := by decide +kernel
theorem dX11_list_206 : decode cX11_list 206 = .ok (.lload 18, 2) := by decide +kernel
theorem dX11_list_208 : decode cX11_list 208 = .ok (.lconst 0, 1) := by decide +kernel
theorem dX11_list_209 : decode cX11_list 209 = .ok (.lcmp, 1) := by decide +kernel
theorem dX11_list_210 : decode cX11_list 210 = .ok (.ifCond .le 47, 3) := by decide +kernel
theorem dX11_list_213 : decode cX11_list 213 = .ok (.iload 8, 2) := by decide +kernel
theorem dX11_list_215 : decode cX11_list 215 = .ok (.ifCond .ne 39, 3) := by decide +kernel
theorem dX11_list_218 : decode cX11_list 218 = .ok (.aload_n 0, 1) := by decide +kernel
theorem dX11_list_219 : decode cX11_list 219 = .ok (.iconst 0, 1) := by decide +kernel
theorem dX11_list_220 : decode cX11_list 220 = .ok (.lload 9, 2) := by decide +kernel
theorem dX11_list_222 : decode cX11_list 222 = .ok (.lload 11, 2) := by decide +kernel
theorem dX11_list_224 : decode cX11_list 224 = .ok (.lload 13, 2) := by decide +kernel
theorem dX11_list_226 : decode cX11_list 226 = .ok (.iload 20, 2) := by decide +kernel
theorem dX11_list_228 : decode cX11_list 228 = .ok (.ifCond .ne 9, 3) := by decide +kernel
theorem dX11_list_231 : decode cX11_list 231 = .ok (.lload 18, 2) := by decide +kernel
theorem dX11_list_233 : decode cX11_list 233 = .ok (.lneg, 1) := by decide +kernel
theorem dX11_list_234 : decode cX11_list 234 = .ok (.goto 5, 3) := by decide +kernel
theorem dX11_list_237 : decode cX11_list 237 = .ok (.lload 18, 2) := by decide +kernel
theorem dX11_list_239 : decode cX11_list 239 = .ok (.invokevirtual 68, 3) := by decide +kernel
theorem dX11_list_242 : decode cX11_list 242 = .ok (.aload_n 0, 1) := by decide +kernel
theorem dX11_list_243 : decode cX11_list 243 = .ok (.iload_n 1, 1) := by decide +kernel
theorem dX11_list_244 : decode cX11_list 244 = .ok (.iconst 0, 1) := by decide +kernel
theorem dX11_list_245 : decode cX11_list 245 = .ok (.invokevirtual 102, 3) := by decide +kernel
theorem dX11_list_248 : decode cX11_list 248 = .ok (.aload_n 0, 1) := by decide +kernel
theorem dX11_list_249 : decode cX11_list 249 = .ok (.iconst 0, 1) := by decide +kernel
theorem dX11_list_250 : decode cX11_list 250 = .ok (.invokevirtual 106, 3) := by decide +kernel
theorem dX11_list_253 : decode cX11_list 253 = .ok (.ireturn, 1) := by decide +kernel
theorem dX11_list_254 : decode cX11_list 254 = .ok (.iinc 8 (-1), 3) := by decide +kernel
theorem dX11_list_257 : decode cX11_list 257 = .ok (.iinc 20 1, 3) := by decide +kernel
theorem dX11_list_260 : decode cX11_list 260 = .ok (.goto (-65), 3) := by decide +kernel
theorem dX11_list_263 : decode cX11_list 263 = .ok (.lload 13, 2) := by decide +kernel
theorem dX11_list_265 : decode cX11_list 265 = .ok (.lconst 1, 1) := by decide +kernel
theorem dX11_list_266 : decode cX11_list 266 = .ok (.ladd, 1) := by decide +kernel
theorem dX11_list_267 : decode cX11_list 267 = .ok (.lstore 13, 2) := by decide +kernel
theorem dX11_list_269 : decode cX11_list 269 = .ok (.goto (-193), 3) := by decide +kernel
theorem dX11_list_272 : decode cX11_list 272 = .ok (.lload 11, 2) := by decide +kernel
theorem dX11_list_274 : decode cX11_list 274 = .ok (.lconst 1, 1) := by decide +kernel
theorem dX11_list_275 : decode cX11_list 275 = .ok (.ladd, 1) := by decide +kernel
theorem dX11_list_276 : decode cX11_list 276 = .ok (.lstore 11, 2) := by decide +kernel
theorem dX11_list_278 : decode cX11_list 278 = .ok (.goto (-215), 3) := by decide +kernel
theorem dX11_list_281 : decode cX11_list 281 = .ok (.lload 9, 2) := by decide +kernel
theorem dX11_list_283 : decode cX11_list 283 = .ok (.lconst 1, 1) := by decide +kernel
theorem dX11_list_284 : decode cX11_list 284 = .ok (.ladd, 1) := by decide +kernel
theorem dX11_list_285 : decode cX11_list 285 = .ok (.lstore 9, 2) := by decide +kernel
theorem dX11_list_287 : decode cX11_list 287 = .ok (.goto (-242), 3) := by decide +kernel
theorem dX11_list_290 : decode cX11_list 290 = .ok (.ldc 138, 2) := by decide +kernel
theorem dX11_list_292 : decode cX11_list 292 = .ok (.ireturn, 1) := by decide +kernel
theorem dX11_squares_0 : decode cX11_squares 0 = .ok (.iload_n 1, 1) := by decide +kernel
theorem dX11_squares_1 : decode cX11_squares 1 = .ok (.i2l, 1) := by decide +kernel
theorem dX11_squares_2 : decode cX11_squares 2 = .ok (.lconst 0, 1) := by decide +kernel
theorem dX11_squares_3 : decode cX11_squares 3 = .ok (.ldc2_w 180, 3) := by decide +kernel
theorem dX11_squares_6 : decode cX11_squares 6 = .ok (.invokestatic 46, 3) := by decide +kernel
theorem dX11_squares_9 : decode cX11_squares 9 = .ok (.ifCond .ne 6, 3) := by decide +kernel
theorem dX11_squares_12 : decode cX11_squares 12 = .ok (.ldc 56, 2) := by decide +kernel
theorem dX11_squares_14 : decode cX11_squares 14 = .ok (.ireturn, 1) := by decide +kernel
theorem dX11_squares_15 : decode cX11_squares 15 = .ok (.iload_n 1, 1) := by decide +kernel
theorem dX11_squares_16 : decode cX11_squares 16 = .ok (.ifCond .ne 5, 3) := by decide +kernel
theorem dX11_squares_19 : decode cX11_squares 19 = .ok (.iconst 1, 1) := by decide +kernel
theorem dX11_squares_20 : decode cX11_squares 20 = .ok (.ireturn, 1) := by decide +kernel
theorem dX11_squares_21 : decode cX11_squares 21 = .ok (.iconst 0, 1) := by decide +kernel
theorem dX11_squares_22 : decode cX11_squares 22 = .ok (.istore_n 2, 1) := by decide +kernel
theorem dX11_squares_23 : decode cX11_squares 23 = .ok (.iconst 1, 1) := by decide +kernel
theorem dX11_squares_24 : decode cX11_squares 24 = .ok (.istore_n 3, 1) := by decide +kernel
theorem dX11_squares_25 : decode cX11_squares 25 = .ok (.iload_n 3, 1) := by decide +kernel
theorem dX11_squares_26 : decode cX11_squares 26 = .ok (.iload_n 1, 1) := by decide +kernel
theorem dX11_squares_27 : decode cX11_squares 27 = .ok (.if_icmp .gt 29, 3) := by decide +kernel
theorem dX11_squares_30 : decode cX11_squares 30 = .ok (.iload_n 2, 1) := by decide +kernel
theorem dX11_squares_31 : decode cX11_squares 31 = .ok (.iload_n 1, 1) := by decide +kernel
theorem dX11_squares_32 : decode cX11_squares 32 = .ok (.iload_n 3, 1) := by decide +kernel
theorem dX11_squares_33 : decode cX11_squares 33 = .ok (.irem, 1) := by decide +kernel
theorem dX11_squares_34 : decode cX11_squares 34 = .ok (.ifCond .ne 13, 3) := by decide +kernel
theorem dX11_squares_37 : decode cX11_squares 37 = .ok (.iload_n 3, 1) := by decide +kernel
theorem dX11_squares_38 : decode cX11_squares 38 = .ok (.iconst 4, 1) := by decide +kernel
theorem dX11_squares_39 : decode cX11_squares 39 = .ok (.irem, 1) := by decide +kernel
theorem dX11_squares_40 : decode cX11_squares 40 = .ok (.ifCond .eq 7, 3) := by decide +kernel
theorem dX11_squares_43 : decode cX11_squares 43 = .ok (.iload_n 3, 1) := by decide +kernel
theorem dX11_squares_44 : decode cX11_squares 44 = .ok (.goto 4, 3) := by decide +kernel
theorem dX11_squares_47 : decode cX11_squares 47 = .ok (.iconst 0, 1) := by decide +kernel
theorem dX11_squares_48 : decode cX11_squares 48 = .ok (.iadd, 1) := by decide +kernel
theorem dX11_squares_49 : decode cX11_squares 49 = .ok (.istore_n 2, 1) := by decide +kernel
theorem dX11_squares_50 : decode cX11_squares 50 = .ok (.iinc 3 1, 3) := by decide +kernel
theorem dX11_squares_53 : decode cX11_squares 53 = .ok (.goto (-28), 3) := by decide +kernel
theorem dX11_squares_56 : decode cX11_squares 56 = .ok (.bipush 8, 2) := by decide +kernel
theorem dX11_squares_58 : decode cX11_squares 58 = .ok (.iload_n 2, 1) := by decide +kernel
theorem dX11_squares_59 : decode cX11_squares 59 = .ok (.imul, 1) := by decide +kernel
theorem dX11_squares_60 : decode cX11_squares 60 = .ok (.ireturn, 1) := by decide +kernel
theorem dX11_three_0 : decode cX11_three 0 = .ok (.iload_n 1, 1) := by decide +kernel
theorem dX11_three_1 : decode cX11_three 1 = .ok (.i2l, 1) := by decide +kernel
theorem dX11_three_2 : decode cX11_three 2 = .ok (.lconst 0, 1) := by decide +kernel
theorem dX11_three_3 : decode cX11_three 3 = .ok (.ldc2_w 180, 3) := by decide +kernel
theorem dX11_three_6 : decode cX11_three 6 = .ok (.invokestatic 46, 3) := by decide +kernel
theorem dX11_three_9 : decode cX11_three 9 = .ok (.ifCond .ne 6, 3) := by decide +kernel
theorem dX11_three_12 : decode cX11_three 12 = .ok (.ldc 56, 2) := by decide +kernel
theorem dX11_three_14 : decode cX11_three 14 = .ok (.ireturn, 1) := by decide +kernel
theorem dX11_three_15 : decode cX11_three 15 = .ok (.iload_n 1, 1) := by decide +kernel
theorem dX11_three_16 : decode cX11_three 16 = .ok (.istore_n 2, 1) := by decide +kernel
theorem dX11_three_17 : decode cX11_three 17 = .ok (.iload_n 2, 1) := by decide +kernel
theorem dX11_three_18 : decode cX11_three 18 = .ok (.ifCond .le 16, 3) := by decide +kernel
theorem dX11_three_21 : decode cX11_three 21 = .ok (.iload_n 2, 1) := by decide +kernel
theorem dX11_three_22 : decode cX11_three 22 = .ok (.iconst 4, 1) := by decide +kernel
theorem dX11_three_23 : decode cX11_three 23 = .ok (.irem, 1) := by decide +kernel
theorem dX11_three_24 : decode cX11_three 24 = .ok (.ifCond .ne 10, 3) := by decide +kernel
theorem dX11_three_27 : decode cX11_three 27 = .ok (.iload_n 2, 1) := by decide +kernel
theorem dX11_three_28 : decode cX11_three 28 = .ok (.iconst 4, 1) := by decide +kernel
theorem dX11_three_29 : decode cX11_three 29 = .ok (.idiv, 1) := by decide +kernel
theorem dX11_three_30 : decode cX11_three 30 = .ok (.istore_n 2, 1) := by decide +kernel
theorem dX11_three_31 : decode cX11_three 31 = .ok (.goto (-14), 3) := by decide +kernel
theorem dX11_three_34 : decode cX11_three 34 = .ok (.iload_n 2, 1) := by decide +kernel
theorem dX11_three_35 : decode cX11_three 35 = .ok (.bipush 8, 2) := by decide +kernel
theorem dX11_three_37 : decode cX11_three 37 = .ok (.irem, 1) := by decide +kernel
theorem dX11_three_38 : decode cX11_three 38 = .ok (.bipush 7, 2) := by decide +kernel
theorem dX11_three_40 : decode cX11_three 40 = .ok (.if_icmp .ne 7, 3) := by decide +kernel
theorem dX11_three_43 : decode cX11_three 43 = .ok (.iconst 0, 1) := by decide +kernel
theorem dX11_three_44 : decode cX11_three 44 = .ok (.goto 4, 3) := by decide +kernel
theorem dX11_three_47 : decode cX11_three 47 = .ok (.iconst 1, 1) := by decide +kernel
theorem dX11_three_48 : decode cX11_three 48 = .ok (.ireturn, 1) := by decide +kernel
theorem dX11_upper_0 : decode cX11_upper 0 = .ok (.aload_n 0, 1) := by decide +kernel
theorem dX11_upper_1 : decode cX11_upper 1 = .ok (.getfield 33, 3) := by decide +kernel
theorem dX11_upper_4 : decode cX11_upper 4 = .ok (.iconst 0, 1) := by decide +kernel
theorem dX11_upper_5 : decode cX11_upper 5 = .ok (.laload, 1) := by decide +kernel
theorem dX11_upper_6 : decode cX11_upper 6 = .ok (.lstore_n 3, 1) := by decide +kernel
theorem dX11_upper_7 : decode cX11_upper 7 = .ok (.aload_n 0, 1) := by decide +kernel
theorem dX11_upper_8 : decode cX11_upper 8 = .ok (.getfield 33, 3) := by decide +kernel
theorem dX11_upper_11 : decode cX11_upper 11 = .ok (.iconst 1, 1) := by decide +kernel
theorem dX11_upper_12 : decode cX11_upper 12 = .ok (.iload_n 1, 1) := by decide +kernel
theorem dX11_upper_13 : decode cX11_upper 13 = .ok (.iadd, 1) := by decide +kernel
theorem dX11_upper_14 : decode cX11_upper 14 = .ok (.laload, 1) := by decide +kernel
theorem dX11_upper_15 : decode cX11_upper 15 = .ok (.lstore 5, 2) := by decide +kernel
theorem dX11_upper_17 : decode cX11_upper 17 = .ok (.aload_n 0, 1) := by decide +kernel
theorem dX11_upper_18 : decode cX11_upper 18 = .ok (.getfield 33, 3) := by decide +kernel
theorem dX11_upper_21 : decode cX11_upper 21 = .ok (.iconst 1, 1) := by decide +kernel
theorem dX11_upper_22 : decode cX11_upper 22 = .ok (.iload_n 2, 1) := by decide +kernel
theorem dX11_upper_23 : decode cX11_upper 23 = .ok (.iadd, 1) := by decide +kernel
theorem dX11_upper_24 : decode cX11_upper 24 = .ok (.laload, 1) := by decide +kernel
theorem dX11_upper_25 : decode cX11_upper 25 = .ok (.lstore 7, 2) := by decide +kernel
theorem dX11_upper_27 : decode cX11_upper 27 = .ok (.iload_n 1, 1) := by decide +kernel
theorem dX11_upper_28 : decode cX11_upper 28 = .ok (.iload_n 2, 1) := by decide +kernel
theorem dX11_upper_29 : decode cX11_upper 29 = .ok (.if_icmp .ne 31, 3) := by decide +kernel
theorem dX11_upper_32 : decode cX11_upper 32 = .ok (.ldc2_w 54, 3) := by decide +kernel
theorem dX11_upper_35 : decode cX11_upper 35 = .ok (.lload_n 3, 1) := by decide +kernel
theorem dX11_upper_36 : decode cX11_upper 36 = .ok (.lmul, 1) := by decide +kernel
theorem dX11_upper_37 : decode cX11_upper 37 = .ok (.lload_n 3, 1) := by decide +kernel
theorem dX11_upper_38 : decode cX11_upper 38 = .ok (.lmul, 1) := by decide +kernel
theorem dX11_upper_39 : decode cX11_upper 39 = .ok (.ldc2_w 54, 3) := by decide +kernel
theorem dX11_upper_42 : decode cX11_upper 42 = .ok (.lload 5, 2) := by decide +kernel
theorem dX11_upper_44 : decode cX11_upper 44 = .ok (.lmul, 1) := by decide +kernel
theorem dX11_upper_45 : decode cX11_upper 45 = .ok (.lload 5, 2) := by decide +kernel
theorem dX11_upper_47 : decode cX11_upper 47 = .ok (.lmul, 1) := by decide +kernel
theorem dX11_upper_48 : decode cX11_upper 48 = .ok (.ladd, 1) := by decide +kernel
theorem dX11_upper_49 : decode cX11_upper 49 = .ok (.ldc2_w 66, 3) := by decide +kernel
theorem dX11_upper_52 : decode cX11_upper 52 = .ok (.aload_n 0, 1) := by decide +kernel
theorem dX11_upper_53 : decode cX11_upper 53 = .ok (.iconst 0, 1) := by decide +kernel
theorem dX11_upper_54 : decode cX11_upper 54 = .ok (.invokevirtual 83, 3) := by decide +kernel
theorem dX11_upper_57 : decode cX11_upper 57 = .ok (.lmul, 1) := by decide +kernel
theorem dX11_upper_58 : decode cX11_upper 58 = .ok (.lsub, 1) := by decide +kernel
theorem dX11_upper_59 : decode cX11_upper 59 = .ok (.lreturn, 1) := by decide +kernel
theorem dX11_upper_60 : decode cX11_upper 60 = .ok (.aload_n 0, 1) := by decide +kernel
theorem dX11_upper_61 : decode cX11_upper 61 = .ok (.getfield 33, 3) := by decide +kernel
theorem dX11_upper_64 : decode cX11_upper 64 = .ok (.iconst 1, 1) := by decide +kernel
theorem dX11_upper_65 : decode cX11_upper 65 = .ok (.iconst 3, 1) := by decide +kernel
theorem dX11_upper_66 : decode cX11_upper 66 = .ok (.iload_n 1, 1) := by decide +kernel
theorem dX11_upper_67 : decode cX11_upper 67 = .ok (.isub, 1) := by decide +kernel
theorem dX11_upper_68 : decode cX11_upper 68 = .ok (.iload_n 2, 1) := by decide +kernel
theorem dX11_upper_69 : decode cX11_upper 69 = .ok (.isub, 1) := by decide +kernel
theorem dX11_upper_70 : decode cX11_upper 70 = .ok (.iadd, 1) := by decide +kernel
theorem dX11_upper_71 : decode cX11_upper 71 = .ok (.laload, 1) := by decide +kernel
theorem dX11_upper_72 : decode cX11_upper 72 = .ok (.lstore 9, 2) := by decide +kernel
theorem dX11_upper_74 : decode cX11_upper 74 = .ok (.iload_n 1, 1) := by decide +kernel
theorem dX11_upper_75 : decode cX11_upper 75 = .ok (.iconst 1, 1) := by decide +kernel
theorem dX11_upper_76 : decode cX11_upper 76 = .ok (.iadd, 1) := by decide +kernel
theorem dX11_upper_77 : decode cX11_upper 77 = .ok (.iconst 3, 1) := by decide +kernel
theorem dX11_upper_78 : decode cX11_upper 78 = .ok (.irem, 1) := by decide +kernel
theorem dX11_upper_79 : decode cX11_upper 79 = .ok (.iload_n 2, 1) := by decide +kernel
theorem dX11_upper_80 : decode cX11_upper 80 = .ok (.if_icmp .ne 7, 3) := by decide +kernel
theorem dX11_upper_83 : decode cX11_upper 83 = .ok (.iconst 1, 1) := by decide +kernel
theorem dX11_upper_84 : decode cX11_upper 84 = .ok (.goto 4, 3) := by decide +kernel
theorem dX11_upper_87 : decode cX11_upper 87 = .ok (.iconst 0, 1) := by decide +kernel
theorem dX11_upper_88 : decode cX11_upper 88 = .ok (.istore 11, 2) := by decide +kernel
theorem dX11_upper_90 : decode cX11_upper 90 = .ok (.ldc2_w 54, 3) := by decide +kernel
theorem dX11_upper_93 : decode cX11_upper 93 = .ok (.lload 5, 2) := by decide +kernel
theorem dX11_upper_95 : decode cX11_upper 95 = .ok (.lmul, 1) := by decide +kernel
theorem dX11_upper_96 : decode cX11_upper 96 = .ok (.lload 7, 2) := by decide +kernel
theorem dX11_upper_98 : decode cX11_upper 98 = .ok (.lmul, 1) := by decide +kernel
theorem dX11_upper_99 : decode cX11_upper 99 = .ok (.iload 11, 2) := by decide +kernel
theorem dX11_upper_101 : decode cX11_upper 101 = .ok (.ifCond .eq 9, 3) := by decide +kernel
theorem dX11_upper_104 : decode cX11_upper 104 = .ok (.ldc2_w 157, 3) := by decide +kernel
theorem dX11_upper_107 : decode cX11_upper 107 = .ok (.goto 6, 3) := by decide +kernel
theorem dX11_upper_110 : decode cX11_upper 110 = .ok (.ldc2_w 54, 3) := by decide +kernel
theorem dX11_upper_113 : decode cX11_upper 113 = .ok (.lload_n 3, 1) := by decide +kernel
theorem dX11_upper_114 : decode cX11_upper 114 = .ok (.lmul, 1) := by decide +kernel
theorem dX11_upper_115 : decode cX11_upper 115 = .ok (.lload 9, 2) := by decide +kernel
theorem dX11_upper_117 : decode cX11_upper 117 = .ok (.lmul, 1) := by decide +kernel
theorem dX11_upper_118 : decode cX11_upper 118 = .ok (.ladd, 1) := by decide +kernel
theorem dX11_upper_119 : decode cX11_upper 119 = .ok (.lreturn, 1) := by decide +kernel
theorem dX11_refusal_0 : decode cX11_refusal 0 = .ok (.aload_n 0, 1) := by decide +kernel
theorem dX11_refusal_1 : decode cX11_refusal 1 = .ok (.getfield 7, 3) := by decide +kernel
theorem dX11_refusal_4 : decode cX11_refusal 4 = .ok (.iload_n 1, 1) := by decide +kernel
theorem dX11_refusal_5 : decode cX11_refusal 5 = .ok (.baload, 1) := by decide +kernel
theorem dX11_refusal_6 : decode cX11_refusal 6 = .ok (.ifCond .ne 9, 3) := by decide +kernel
theorem dX11_refusal_9 : decode cX11_refusal 9 = .ok (.aload_n 0, 1) := by decide +kernel
theorem dX11_refusal_10 : decode cX11_refusal 10 = .ok (.iconst 1, 1) := by decide +kernel
theorem dX11_refusal_11 : decode cX11_refusal 11 = .ok (.invokevirtual 57, 3) := by decide +kernel
theorem dX11_refusal_14 : decode cX11_refusal 14 = .ok (.ireturn, 1) := by decide +kernel
theorem dX11_refusal_15 : decode cX11_refusal 15 = .ok (.aload_n 0, 1) := by decide +kernel
theorem dX11_refusal_16 : decode cX11_refusal 16 = .ok (.iconst 0, 1) := by decide +kernel
theorem dX11_refusal_17 : decode cX11_refusal 17 = .ok (.iload_n 1, 1) := by decide +kernel
theorem dX11_refusal_18 : decode cX11_refusal 18 = .ok (.invokevirtual 111, 3) := by decide +kernel
theorem dX11_refusal_21 : decode cX11_refusal 21 = .ok (.aload_n 0, 1) := by decide +kernel
theorem dX11_refusal_22 : decode cX11_refusal 22 = .ok (.iconst 0, 1) := by decide +kernel
theorem dX11_refusal_23 : decode cX11_refusal 23 = .ok (.invokevirtual 76, 3) := by decide +kernel
theorem dX11_refusal_26 : decode cX11_refusal 26 = .ok (.ifCond .eq 8, 3) := by decide +kernel
theorem dX11_refusal_29 : decode cX11_refusal 29 = .ok (.ldc 153, 2) := by decide +kernel
theorem dX11_refusal_31 : decode cX11_refusal 31 = .ok (.goto 4, 3) := by decide +kernel
theorem dX11_refusal_34 : decode cX11_refusal 34 = .ok (.iconst 0, 1) := by decide +kernel
theorem dX11_refusal_35 : decode cX11_refusal 35 = .ok (.ireturn, 1) := by decide +kernel
theorem dX11_part2_0 : decode cX11_part2 0 = .ok (.lload_n 1, 1) := by decide +kernel
theorem dX11_part2_1 : decode cX11_part2 1 = .ok (.lload_n 3, 1) := by decide +kernel
theorem dX11_part2_2 : decode cX11_part2 2 = .ok (.invokestatic 72, 3) := by decide +kernel
theorem dX11_part2_5 : decode cX11_part2 5 = .ok (.lstore 6, 2) := by decide +kernel
theorem dX11_part2_7 : decode cX11_part2 7 = .ok (.aload_n 0, 1) := by decide +kernel
theorem dX11_part2_8 : decode cX11_part2 8 = .ok (.iconst 0, 1) := by decide +kernel
theorem dX11_part2_9 : decode cX11_part2 9 = .ok (.putfield 39, 3) := by decide +kernel
theorem dX11_part2_12 : decode cX11_part2 12 = .ok (.iload 5, 2) := by decide +kernel
theorem dX11_part2_14 : decode cX11_part2 14 = .ok (.ifCond .ne 10, 3) := by decide +kernel
theorem dX11_part2_17 : decode cX11_part2 17 = .ok (.lload_n 1, 1) := by decide +kernel
theorem dX11_part2_18 : decode cX11_part2 18 = .ok (.lload 6, 2) := by decide +kernel
theorem dX11_part2_20 : decode cX11_part2 20 = .ok (.ldiv, 1) := by decide +kernel
theorem dX11_part2_21 : decode cX11_part2 21 = .ok (.goto 7, 3) := by decide +kernel
theorem dX11_part2_24 : decode cX11_part2 24 = .ok (.lload_n 3, 1) := by decide +kernel
theorem dX11_part2_25 : decode cX11_part2 25 = .ok (.lload 6, 2) := by decide +kernel
theorem dX11_part2_27 : decode cX11_part2 27 = .ok (.ldiv, 1) := by decide +kernel
theorem dX11_part2_28 : decode cX11_part2 28 = .ok (.lreturn, 1) := by decide +kernel
theorem dX11_table_0 : decode cX11_table 0 = .ok (.iload_n 1, 1) := by decide +kernel
theorem dX11_table_1 : decode cX11_table 1 = .ok (.invokestatic 92, 3) := by decide +kernel
theorem dX11_table_4 : decode cX11_table 4 = .ok (.ifCond .eq 38, 3) := by decide +kernel
theorem dX11_table_7 : decode cX11_table 7 = .ok (.iload_n 2, 1) := by decide +kernel
theorem dX11_table_8 : decode cX11_table 8 = .ok (.i2l, 1) := by decide +kernel
theorem dX11_table_9 : decode cX11_table 9 = .ok (.lconst 0, 1) := by decide +kernel
theorem dX11_table_10 : decode cX11_table 10 = .ok (.ldc2_w 54, 3) := by decide +kernel
theorem dX11_table_13 : decode cX11_table 13 = .ok (.invokestatic 46, 3) := by decide +kernel
theorem dX11_table_16 : decode cX11_table 16 = .ok (.ifCond .eq 26, 3) := by decide +kernel
theorem dX11_table_19 : decode cX11_table 19 = .ok (.iload_n 3, 1) := by decide +kernel
theorem dX11_table_20 : decode cX11_table 20 = .ok (.i2l, 1) := by decide +kernel
theorem dX11_table_21 : decode cX11_table 21 = .ok (.lconst 0, 1) := by decide +kernel
theorem dX11_table_22 : decode cX11_table 22 = .ok (.ldc2_w 54, 3) := by decide +kernel
theorem dX11_table_25 : decode cX11_table 25 = .ok (.invokestatic 46, 3) := by decide +kernel
theorem dX11_table_28 : decode cX11_table 28 = .ok (.ifCond .eq 14, 3) := by decide +kernel
theorem dX11_table_31 : decode cX11_table 31 = .ok (.iload 4, 2) := by decide +kernel
theorem dX11_table_33 : decode cX11_table 33 = .ok (.i2l, 1) := by decide +kernel
theorem dX11_table_34 : decode cX11_table 34 = .ok (.lconst 0, 1) := by decide +kernel
theorem dX11_table_35 : decode cX11_table 35 = .ok (.lconst 1, 1) := by decide +kernel
theorem dX11_table_36 : decode cX11_table 36 = .ok (.invokestatic 46, 3) := by decide +kernel
theorem dX11_table_39 : decode cX11_table 39 = .ok (.ifCond .ne 7, 3) := by decide +kernel
theorem dX11_table_42 : decode cX11_table 42 = .ok (.ldc2_w 64, 3) := by decide +kernel
theorem dX11_table_45 : decode cX11_table 45 = .ok (.lreturn, 1) := by decide +kernel
theorem dX11_table_46 : decode cX11_table 46 = .ok (.aload_n 0, 1) := by decide +kernel
theorem dX11_table_47 : decode cX11_table 47 = .ok (.iload_n 1, 1) := by decide +kernel
theorem dX11_table_48 : decode cX11_table 48 = .ok (.invokevirtual 187, 3) := by decide +kernel
theorem dX11_table_51 : decode cX11_table 51 = .ok (.istore 5, 2) := by decide +kernel
theorem dX11_table_53 : decode cX11_table 53 = .ok (.iload 5, 2) := by decide +kernel
theorem dX11_table_55 : decode cX11_table 55 = .ok (.ifCond .eq 9, 3) := by decide +kernel
theorem dX11_table_58 : decode cX11_table 58 = .ok (.iload 5, 2) := by decide +kernel
theorem dX11_table_60 : decode cX11_table 60 = .ok (.i2l, 1) := by decide +kernel
theorem dX11_table_61 : decode cX11_table 61 = .ok (.goto 24, 3) := by decide +kernel
theorem dX11_table_64 : decode cX11_table 64 = .ok (.aload_n 0, 1) := by decide +kernel
theorem dX11_table_65 : decode cX11_table 65 = .ok (.aload_n 0, 1) := by decide +kernel
theorem dX11_table_66 : decode cX11_table 66 = .ok (.iload_n 2, 1) := by decide +kernel
theorem dX11_table_67 : decode cX11_table 67 = .ok (.iload_n 3, 1) := by decide +kernel
theorem dX11_table_68 : decode cX11_table 68 = .ok (.invokevirtual 190, 3) := by decide +kernel
theorem dX11_table_71 : decode cX11_table 71 = .ok (.ldc2_w 66, 3) := by decide +kernel
theorem dX11_table_74 : decode cX11_table 74 = .ok (.aload_n 0, 1) := by decide +kernel
theorem dX11_table_75 : decode cX11_table 75 = .ok (.iconst 0, 1) := by decide +kernel
theorem dX11_table_76 : decode cX11_table 76 = .ok (.invokevirtual 83, 3) := by decide +kernel
theorem dX11_table_79 : decode cX11_table 79 = .ok (.lmul, 1) := by decide +kernel
theorem dX11_table_80 : decode cX11_table 80 = .ok (.iload 4, 2) := by decide +kernel
theorem dX11_table_82 : decode cX11_table 82 = .ok (.invokevirtual 194, 3) := by decide +kernel
theorem dX11_table_85 : decode cX11_table 85 = .ok (.lreturn, 1) := by decide +kernel
theorem dX11_turn_0 : decode cX11_turn 0 = .ok (.iload_n 1, 1) := by decide +kernel
theorem dX11_turn_1 : decode cX11_turn 1 = .ok (.invokestatic 92, 3) := by decide +kernel
theorem dX11_turn_4 : decode cX11_turn 4 = .ok (.ifCond .eq 70, 3) := by decide +kernel
theorem dX11_turn_7 : decode cX11_turn 7 = .ok (.iload_n 2, 1) := by decide +kernel
theorem dX11_turn_8 : decode cX11_turn 8 = .ok (.i2l, 1) := by decide +kernel
theorem dX11_turn_9 : decode cX11_turn 9 = .ok (.ldc2_w 198, 3) := by decide +kernel
theorem dX11_turn_12 : decode cX11_turn 12 = .ok (.ldc2_w 200, 3) := by decide +kernel
theorem dX11_turn_15 : decode cX11_turn 15 = .ok (.invokestatic 46, 3) := by decide +kernel
theorem dX11_turn_18 : decode cX11_turn 18 = .ok (.ifCond .eq 56, 3) := by decide +kernel
theorem dX11_turn_21 : decode cX11_turn 21 = .ok (.iload_n 3, 1) := by decide +kernel
theorem dX11_turn_22 : decode cX11_turn 22 = .ok (.i2l, 1) := by decide +kernel
theorem dX11_turn_23 : decode cX11_turn 23 = .ok (.ldc2_w 198, 3) := by decide +kernel
theorem dX11_turn_26 : decode cX11_turn 26 = .ok (.ldc2_w 200, 3) := by decide +kernel
theorem dX11_turn_29 : decode cX11_turn 29 = .ok (.invokestatic 46, 3) := by decide +kernel
theorem dX11_turn_32 : decode cX11_turn 32 = .ok (.ifCond .eq 42, 3) := by decide +kernel
theorem dX11_turn_35 : decode cX11_turn 35 = .ok (.iload 4, 2) := by decide +kernel
theorem dX11_turn_37 : decode cX11_turn 37 = .ok (.i2l, 1) := by decide +kernel
theorem dX11_turn_38 : decode cX11_turn 38 = .ok (.ldc2_w 198, 3) := by decide +kernel
theorem dX11_turn_41 : decode cX11_turn 41 = .ok (.ldc2_w 200, 3) := by decide +kernel
theorem dX11_turn_44 : decode cX11_turn 44 = .ok (.invokestatic 46, 3) := by decide +kernel
theorem dX11_turn_47 : decode cX11_turn 47 = .ok (.ifCond .eq 27, 3) := by decide +kernel
theorem dX11_turn_50 : decode cX11_turn 50 = .ok (.iload 5, 2) := by decide +kernel
theorem dX11_turn_52 : decode cX11_turn 52 = .ok (.i2l, 1) := by decide +kernel
theorem dX11_turn_53 : decode cX11_turn 53 = .ok (.lconst 0, 1) := by decide +kernel
theorem dX11_turn_54 : decode cX11_turn 54 = .ok (.ldc2_w 54, 3) := by decide +kernel
theorem dX11_turn_57 : decode cX11_turn 57 = .ok (.invokestatic 46, 3) := by decide +kernel
theorem dX11_turn_60 : decode cX11_turn 60 = .ok (.ifCond .eq 14, 3) := by decide +kernel
theorem dX11_turn_63 : decode cX11_turn 63 = .ok (.iload 6, 2) := by decide +kernel
theorem dX11_turn_65 : decode cX11_turn 65 = .ok (.i2l, 1) := by decide +kernel
theorem dX11_turn_66 : decode cX11_turn 66 = .ok (.lconst 0, 1) := by decide +kernel
theorem dX11_turn_67 : decode cX11_turn 67 = .ok (.lconst 1, 1) := by decide +kernel
theorem dX11_turn_68 : decode cX11_turn 68 = .ok (.invokestatic 46, 3) := by decide +kernel
theorem dX11_turn_71 : decode cX11_turn 71 = .ok (.ifCond .ne 7, 3) := by decide +kernel
theorem dX11_turn_74 : decode cX11_turn 74 = .ok (.ldc2_w 64, 3) := by decide +kernel
theorem dX11_turn_77 : decode cX11_turn 77 = .ok (.lreturn, 1) := by decide +kernel
theorem dX11_turn_78 : decode cX11_turn 78 = .ok (.aload_n 0, 1) := by decide +kernel
theorem dX11_turn_79 : decode cX11_turn 79 = .ok (.iload_n 1, 1) := by decide +kernel
theorem dX11_turn_80 : decode cX11_turn 80 = .ok (.invokevirtual 187, 3) := by decide +kernel
theorem dX11_turn_83 : decode cX11_turn 83 = .ok (.istore 7, 2) := by decide +kernel
theorem dX11_turn_85 : decode cX11_turn 85 = .ok (.iload 7, 2) := by decide +kernel
theorem dX11_turn_87 : decode cX11_turn 87 = .ok (.ifCond .eq 9, 3) := by decide +kernel
theorem dX11_turn_90 : decode cX11_turn 90 = .ok (.iload 7, 2) := by decide +kernel
theorem dX11_turn_92 : decode cX11_turn 92 = .ok (.i2l, 1) := by decide +kernel
theorem dX11_turn_93 : decode cX11_turn 93 = .ok (.goto 51, 3) := by decide +kernel
theorem dX11_turn_96 : decode cX11_turn 96 = .ok (.aload_n 0, 1) := by decide +kernel
theorem dX11_turn_97 : decode cX11_turn 97 = .ok (.aload_n 0, 1) := by decide +kernel
theorem dX11_turn_98 : decode cX11_turn 98 = .ok (.iload 5, 2) := by decide +kernel
theorem dX11_turn_100 : decode cX11_turn 100 = .ok (.iconst 0, 1) := by decide +kernel
theorem dX11_turn_101 : decode cX11_turn 101 = .ok (.invokevirtual 190, 3) := by decide +kernel
theorem dX11_turn_104 : decode cX11_turn 104 = .ok (.iload_n 2, 1) := by decide +kernel
theorem dX11_turn_105 : decode cX11_turn 105 = .ok (.i2l, 1) := by decide +kernel
theorem dX11_turn_106 : decode cX11_turn 106 = .ok (.lmul, 1) := by decide +kernel
theorem dX11_turn_107 : decode cX11_turn 107 = .ok (.aload_n 0, 1) := by decide +kernel
theorem dX11_turn_108 : decode cX11_turn 108 = .ok (.iload 5, 2) := by decide +kernel
theorem dX11_turn_110 : decode cX11_turn 110 = .ok (.iconst 1, 1) := by decide +kernel
theorem dX11_turn_111 : decode cX11_turn 111 = .ok (.invokevirtual 190, 3) := by decide +kernel
theorem dX11_turn_114 : decode cX11_turn 114 = .ok (.iload_n 3, 1) := by decide +kernel
theorem dX11_turn_115 : decode cX11_turn 115 = .ok (.i2l, 1) := by decide +kernel
theorem dX11_turn_116 : decode cX11_turn 116 = .ok (.lmul, 1) := by decide +kernel
theorem dX11_turn_117 : decode cX11_turn 117 = .ok (.ladd, 1) := by decide +kernel
theorem dX11_turn_118 : decode cX11_turn 118 = .ok (.aload_n 0, 1) := by decide +kernel
theorem dX11_turn_119 : decode cX11_turn 119 = .ok (.iload 5, 2) := by decide +kernel
theorem dX11_turn_121 : decode cX11_turn 121 = .ok (.iconst 2, 1) := by decide +kernel
theorem dX11_turn_122 : decode cX11_turn 122 = .ok (.invokevirtual 190, 3) := by decide +kernel
theorem dX11_turn_125 : decode cX11_turn 125 = .ok (.iload 4, 2) := by decide +kernel
theorem dX11_turn_127 : decode cX11_turn 127 = .ok (.i2l, 1) := by decide +kernel
theorem dX11_turn_128 : decode cX11_turn 128 = .ok (.lmul, 1) := by decide +kernel
theorem dX11_turn_129 : decode cX11_turn 129 = .ok (.ladd, 1) := by decide +kernel
theorem dX11_turn_130 : decode cX11_turn 130 = .ok (.ldc2_w 66, 3) := by decide +kernel
theorem dX11_turn_133 : decode cX11_turn 133 = .ok (.aload_n 0, 1) := by decide +kernel
theorem dX11_turn_134 : decode cX11_turn 134 = .ok (.iconst 0, 1) := by decide +kernel
theorem dX11_turn_135 : decode cX11_turn 135 = .ok (.invokevirtual 83, 3) := by decide +kernel
theorem dX11_turn_138 : decode cX11_turn 138 = .ok (.lmul, 1) := by decide +kernel
theorem dX11_turn_139 : decode cX11_turn 139 = .ok (.iload 6, 2) := by decide +kernel
theorem dX11_turn_141 : decode cX11_turn 141 = .ok (.invokevirtual 194, 3) := by decide +kernel
theorem dX11_turn_144 : decode cX11_turn 144 = .ok (.lreturn, 1) := by decide +kernel
theorem dX11_order_0 : decode cX11_order 0 = .ok (.iload_n 1, 1) := by decide +kernel
theorem dX11_order_1 : decode cX11_order 1 = .ok (.invokestatic 92, 3) := by decide +kernel
theorem dX11_order_4 : decode cX11_order 4 = .ok (.ifCond .ne 6, 3) := by decide +kernel
theorem dX11_order_7 : decode cX11_order 7 = .ok (.ldc 56, 2) := by decide +kernel
theorem dX11_order_9 : decode cX11_order 9 = .ok (.ireturn, 1) := by decide +kernel
theorem dX11_order_10 : decode cX11_order 10 = .ok (.aload_n 0, 1) := by decide +kernel
theorem dX11_order_11 : decode cX11_order 11 = .ok (.iload_n 1, 1) := by decide +kernel
theorem dX11_order_12 : decode cX11_order 12 = .ok (.invokevirtual 187, 3) := by decide +kernel
theorem dX11_order_15 : decode cX11_order 15 = .ok (.istore_n 2, 1) := by decide +kernel
theorem dX11_order_16 : decode cX11_order 16 = .ok (.iload_n 2, 1) := by decide +kernel
theorem dX11_order_17 : decode cX11_order 17 = .ok (.ifCond .eq 5, 3) := by decide +kernel
theorem dX11_order_20 : decode cX11_order 20 = .ok (.iload_n 2, 1) := by decide +kernel
theorem dX11_order_21 : decode cX11_order 21 = .ok (.ireturn, 1) := by decide +kernel
theorem dX11_order_22 : decode cX11_order 22 = .ok (.aload_n 0, 1) := by decide +kernel
theorem dX11_order_23 : decode cX11_order 23 = .ok (.getfield 33, 3) := by decide +kernel
theorem dX11_order_26 : decode cX11_order 26 = .ok (.iconst 0, 1) := by decide +kernel
theorem dX11_order_27 : decode cX11_order 27 = .ok (.laload, 1) := by decide +kernel
theorem dX11_order_28 : decode cX11_order 28 = .ok (.aload_n 0, 1) := by decide +kernel
theorem dX11_order_29 : decode cX11_order 29 = .ok (.getfield 33, 3) := by decide +kernel
theorem dX11_order_32 : decode cX11_order 32 = .ok (.iconst 0, 1) := by decide +kernel
theorem dX11_order_33 : decode cX11_order 33 = .ok (.laload, 1) := by decide +kernel
theorem dX11_order_34 : decode cX11_order 34 = .ok (.lmul, 1) := by decide +kernel
theorem dX11_order_35 : decode cX11_order 35 = .ok (.lstore_n 3, 1) := by decide +kernel
theorem dX11_order_36 : decode cX11_order 36 = .ok (.ldc2_w 66, 3) := by decide +kernel
end
section
theorem dX11_order_39 : decode cX11_order 39 = .ok (.aload_n 0, 1) := by decide +kernel
theorem dX11_order_40 : decode cX11_order 40 = .ok (.iconst 0, 1) := by decide +kernel
theorem dX11_order_41 : decode cX11_order 41 = .ok (.invokevirtual 83, 3) := by decide +kernel
theorem dX11_order_44 : decode cX11_order 44 = .ok (.lmul, 1) := by decide +kernel
theorem dX11_order_45 : decode cX11_order 45 = .ok (.lload_n 3, 1) := by decide +kernel
theorem dX11_order_46 : decode cX11_order 46 = .ok (.lsub, 1) := by decide +kernel
theorem dX11_order_47 : decode cX11_order 47 = .ok (.lstore 5, 2) := by decide +kernel
theorem dX11_order_49 : decode cX11_order 49 = .ok (.aload_n 0, 1) := by decide +kernel
theorem dX11_order_50 : decode cX11_order 50 = .ok (.lload 5, 2) := by decide +kernel
theorem dX11_order_52 : decode cX11_order 52 = .ok (.lconst 0, 1) := by decide +kernel
theorem dX11_order_53 : decode cX11_order 53 = .ok (.lcmp, 1) := by decide +kernel
theorem dX11_order_54 : decode cX11_order 54 = .ok (.ifCond .ne 7, 3) := by decide +kernel
theorem dX11_order_57 : decode cX11_order 57 = .ok (.iconst 1, 1) := by decide +kernel
theorem dX11_order_58 : decode cX11_order 58 = .ok (.goto 57, 3) := by decide +kernel
theorem dX11_order_61 : decode cX11_order 61 = .ok (.lload_n 3, 1) := by decide +kernel
theorem dX11_order_62 : decode cX11_order 62 = .ok (.lconst 0, 1) := by decide +kernel
theorem dX11_order_63 : decode cX11_order 63 = .ok (.lcmp, 1) := by decide +kernel
theorem dX11_order_64 : decode cX11_order 64 = .ok (.ifCond .ne 7, 3) := by decide +kernel
theorem dX11_order_67 : decode cX11_order 67 = .ok (.iconst 2, 1) := by decide +kernel
theorem dX11_order_68 : decode cX11_order 68 = .ok (.goto 47, 3) := by decide +kernel
theorem dX11_order_71 : decode cX11_order 71 = .ok (.ldc2_w 109, 3) := by decide +kernel
theorem dX11_order_74 : decode cX11_order 74 = .ok (.lload_n 3, 1) := by decide +kernel
theorem dX11_order_75 : decode cX11_order 75 = .ok (.lmul, 1) := by decide +kernel
theorem dX11_order_76 : decode cX11_order 76 = .ok (.lload 5, 2) := by decide +kernel
theorem dX11_order_78 : decode cX11_order 78 = .ok (.lcmp, 1) := by decide +kernel
theorem dX11_order_79 : decode cX11_order 79 = .ok (.ifCond .ne 7, 3) := by decide +kernel
theorem dX11_order_82 : decode cX11_order 82 = .ok (.iconst 3, 1) := by decide +kernel
theorem dX11_order_83 : decode cX11_order 83 = .ok (.goto 32, 3) := by decide +kernel
theorem dX11_order_86 : decode cX11_order 86 = .ok (.lload_n 3, 1) := by decide +kernel
theorem dX11_order_87 : decode cX11_order 87 = .ok (.lload 5, 2) := by decide +kernel
theorem dX11_order_89 : decode cX11_order 89 = .ok (.lcmp, 1) := by decide +kernel
theorem dX11_order_90 : decode cX11_order 90 = .ok (.ifCond .ne 7, 3) := by decide +kernel
theorem dX11_order_93 : decode cX11_order 93 = .ok (.iconst 4, 1) := by decide +kernel
theorem dX11_order_94 : decode cX11_order 94 = .ok (.goto 21, 3) := by decide +kernel
theorem dX11_order_97 : decode cX11_order 97 = .ok (.lload_n 3, 1) := by decide +kernel
theorem dX11_order_98 : decode cX11_order 98 = .ok (.ldc2_w 109, 3) := by decide +kernel
theorem dX11_order_101 : decode cX11_order 101 = .ok (.lload 5, 2) := by decide +kernel
theorem dX11_order_103 : decode cX11_order 103 = .ok (.lmul, 1) := by decide +kernel
theorem dX11_order_104 : decode cX11_order 104 = .ok (.lcmp, 1) := by decide +kernel
theorem dX11_order_105 : decode cX11_order 105 = .ok (.ifCond .ne 8, 3) := by decide +kernel
theorem dX11_order_108 : decode cX11_order 108 = .ok (.bipush 6, 2) := by decide +kernel
theorem dX11_order_110 : decode cX11_order 110 = .ok (.goto 5, 3) := by decide +kernel
theorem dX11_order_113 : decode cX11_order 113 = .ok (.ldc 138, 2) := by decide +kernel
theorem dX11_order_115 : decode cX11_order 115 = .ok (.invokevirtual 61, 3) := by decide +kernel
theorem dX11_order_118 : decode cX11_order 118 = .ok (.ireturn, 1) := by decide +kernel
theorem dX11_axis_0 : decode cX11_axis 0 = .ok (.iload_n 1, 1) := by decide +kernel
theorem dX11_axis_1 : decode cX11_axis 1 = .ok (.invokestatic 92, 3) := by decide +kernel
theorem dX11_axis_4 : decode cX11_axis 4 = .ok (.ifCond .eq 15, 3) := by decide +kernel
theorem dX11_axis_7 : decode cX11_axis 7 = .ok (.iload_n 2, 1) := by decide +kernel
theorem dX11_axis_8 : decode cX11_axis 8 = .ok (.i2l, 1) := by decide +kernel
theorem dX11_axis_9 : decode cX11_axis 9 = .ok (.lconst 0, 1) := by decide +kernel
theorem dX11_axis_10 : decode cX11_axis 10 = .ok (.ldc2_w 54, 3) := by decide +kernel
theorem dX11_axis_13 : decode cX11_axis 13 = .ok (.invokestatic 46, 3) := by decide +kernel
theorem dX11_axis_16 : decode cX11_axis 16 = .ok (.ifCond .ne 6, 3) := by decide +kernel
theorem dX11_axis_19 : decode cX11_axis 19 = .ok (.ldc 56, 2) := by decide +kernel
theorem dX11_axis_21 : decode cX11_axis 21 = .ok (.ireturn, 1) := by decide +kernel
theorem dX11_axis_22 : decode cX11_axis 22 = .ok (.aload_n 0, 1) := by decide +kernel
theorem dX11_axis_23 : decode cX11_axis 23 = .ok (.iload_n 1, 1) := by decide +kernel
theorem dX11_axis_24 : decode cX11_axis 24 = .ok (.invokevirtual 187, 3) := by decide +kernel
theorem dX11_axis_27 : decode cX11_axis 27 = .ok (.istore_n 3, 1) := by decide +kernel
theorem dX11_axis_28 : decode cX11_axis 28 = .ok (.iload_n 3, 1) := by decide +kernel
theorem dX11_axis_29 : decode cX11_axis 29 = .ok (.ifCond .eq 5, 3) := by decide +kernel
theorem dX11_axis_32 : decode cX11_axis 32 = .ok (.iload_n 3, 1) := by decide +kernel
theorem dX11_axis_33 : decode cX11_axis 33 = .ok (.ireturn, 1) := by decide +kernel
theorem dX11_axis_34 : decode cX11_axis 34 = .ok (.aload_n 0, 1) := by decide +kernel
theorem dX11_axis_35 : decode cX11_axis 35 = .ok (.getfield 33, 3) := by decide +kernel
theorem dX11_axis_38 : decode cX11_axis 38 = .ok (.iconst 1, 1) := by decide +kernel
theorem dX11_axis_39 : decode cX11_axis 39 = .ok (.laload, 1) := by decide +kernel
theorem dX11_axis_40 : decode cX11_axis 40 = .ok (.lstore 4, 2) := by decide +kernel
theorem dX11_axis_42 : decode cX11_axis 42 = .ok (.aload_n 0, 1) := by decide +kernel
theorem dX11_axis_43 : decode cX11_axis 43 = .ok (.getfield 33, 3) := by decide +kernel
theorem dX11_axis_46 : decode cX11_axis 46 = .ok (.iconst 2, 1) := by decide +kernel
theorem dX11_axis_47 : decode cX11_axis 47 = .ok (.laload, 1) := by decide +kernel
theorem dX11_axis_48 : decode cX11_axis 48 = .ok (.lstore 6, 2) := by decide +kernel
theorem dX11_axis_50 : decode cX11_axis 50 = .ok (.aload_n 0, 1) := by decide +kernel
theorem dX11_axis_51 : decode cX11_axis 51 = .ok (.getfield 33, 3) := by decide +kernel
theorem dX11_axis_54 : decode cX11_axis 54 = .ok (.iconst 3, 1) := by decide +kernel
theorem dX11_axis_55 : decode cX11_axis 55 = .ok (.laload, 1) := by decide +kernel
theorem dX11_axis_56 : decode cX11_axis 56 = .ok (.lstore 8, 2) := by decide +kernel
theorem dX11_axis_58 : decode cX11_axis 58 = .ok (.lload 4, 2) := by decide +kernel
theorem dX11_axis_60 : decode cX11_axis 60 = .ok (.lload 6, 2) := by decide +kernel
theorem dX11_axis_62 : decode cX11_axis 62 = .ok (.invokestatic 72, 3) := by decide +kernel
theorem dX11_axis_65 : decode cX11_axis 65 = .ok (.lload 8, 2) := by decide +kernel
theorem dX11_axis_67 : decode cX11_axis 67 = .ok (.invokestatic 72, 3) := by decide +kernel
theorem dX11_axis_70 : decode cX11_axis 70 = .ok (.lstore 10, 2) := by decide +kernel
theorem dX11_axis_72 : decode cX11_axis 72 = .ok (.lload 10, 2) := by decide +kernel
theorem dX11_axis_74 : decode cX11_axis 74 = .ok (.lconst 0, 1) := by decide +kernel
theorem dX11_axis_75 : decode cX11_axis 75 = .ok (.lcmp, 1) := by decide +kernel
theorem dX11_axis_76 : decode cX11_axis 76 = .ok (.ifCond .ne 10, 3) := by decide +kernel
theorem dX11_axis_79 : decode cX11_axis 79 = .ok (.aload_n 0, 1) := by decide +kernel
theorem dX11_axis_80 : decode cX11_axis 80 = .ok (.ldc 138, 2) := by decide +kernel
theorem dX11_axis_82 : decode cX11_axis 82 = .ok (.invokevirtual 61, 3) := by decide +kernel
theorem dX11_axis_85 : decode cX11_axis 85 = .ok (.ireturn, 1) := by decide +kernel
theorem dX11_axis_86 : decode cX11_axis 86 = .ok (.lload 4, 2) := by decide +kernel
theorem dX11_axis_88 : decode cX11_axis 88 = .ok (.lconst 0, 1) := by decide +kernel
theorem dX11_axis_89 : decode cX11_axis 89 = .ok (.lcmp, 1) := by decide +kernel
theorem dX11_axis_90 : decode cX11_axis 90 = .ok (.ifCond .lt 31, 3) := by decide +kernel
theorem dX11_axis_93 : decode cX11_axis 93 = .ok (.lload 4, 2) := by decide +kernel
theorem dX11_axis_95 : decode cX11_axis 95 = .ok (.lconst 0, 1) := by decide +kernel
theorem dX11_axis_96 : decode cX11_axis 96 = .ok (.lcmp, 1) := by decide +kernel
theorem dX11_axis_97 : decode cX11_axis 97 = .ok (.ifCond .ne 28, 3) := by decide +kernel
theorem dX11_axis_100 : decode cX11_axis 100 = .ok (.lload 6, 2) := by decide +kernel
theorem dX11_axis_102 : decode cX11_axis 102 = .ok (.lconst 0, 1) := by decide +kernel
theorem dX11_axis_103 : decode cX11_axis 103 = .ok (.lcmp, 1) := by decide +kernel
theorem dX11_axis_104 : decode cX11_axis 104 = .ok (.ifCond .lt 17, 3) := by decide +kernel
theorem dX11_axis_107 : decode cX11_axis 107 = .ok (.lload 6, 2) := by decide +kernel
theorem dX11_axis_109 : decode cX11_axis 109 = .ok (.lconst 0, 1) := by decide +kernel
theorem dX11_axis_110 : decode cX11_axis 110 = .ok (.lcmp, 1) := by decide +kernel
theorem dX11_axis_111 : decode cX11_axis 111 = .ok (.ifCond .ne 14, 3) := by decide +kernel
theorem dX11_axis_114 : decode cX11_axis 114 = .ok (.lload 8, 2) := by decide +kernel
theorem dX11_axis_116 : decode cX11_axis 116 = .ok (.lconst 0, 1) := by decide +kernel
theorem dX11_axis_117 : decode cX11_axis 117 = .ok (.lcmp, 1) := by decide +kernel
theorem dX11_axis_118 : decode cX11_axis 118 = .ok (.ifCond .ge 7, 3) := by decide +kernel
theorem dX11_axis_121 : decode cX11_axis 121 = .ok (.iconst 1, 1) := by decide +kernel
theorem dX11_axis_122 : decode cX11_axis 122 = .ok (.goto 4, 3) := by decide +kernel
theorem dX11_axis_125 : decode cX11_axis 125 = .ok (.iconst 0, 1) := by decide +kernel
theorem dX11_axis_126 : decode cX11_axis 126 = .ok (.istore 12, 2) := by decide +kernel
theorem dX11_axis_128 : decode cX11_axis 128 = .ok (.aload_n 0, 1) := by decide +kernel
theorem dX11_axis_129 : decode cX11_axis 129 = .ok (.aload_n 0, 1) := by decide +kernel
theorem dX11_axis_130 : decode cX11_axis 130 = .ok (.getfield 33, 3) := by decide +kernel
theorem dX11_axis_133 : decode cX11_axis 133 = .ok (.iconst 1, 1) := by decide +kernel
theorem dX11_axis_134 : decode cX11_axis 134 = .ok (.iload_n 2, 1) := by decide +kernel
theorem dX11_axis_135 : decode cX11_axis 135 = .ok (.iadd, 1) := by decide +kernel
theorem dX11_axis_136 : decode cX11_axis 136 = .ok (.laload, 1) := by decide +kernel
theorem dX11_axis_137 : decode cX11_axis 137 = .ok (.iload 12, 2) := by decide +kernel
theorem dX11_axis_139 : decode cX11_axis 139 = .ok (.ifCond .eq 9, 3) := by decide +kernel
theorem dX11_axis_142 : decode cX11_axis 142 = .ok (.lload 10, 2) := by decide +kernel
theorem dX11_axis_144 : decode cX11_axis 144 = .ok (.lneg, 1) := by decide +kernel
theorem dX11_axis_145 : decode cX11_axis 145 = .ok (.goto 5, 3) := by decide +kernel
theorem dX11_axis_148 : decode cX11_axis 148 = .ok (.lload 10, 2) := by decide +kernel
theorem dX11_axis_150 : decode cX11_axis 150 = .ok (.ldiv, 1) := by decide +kernel
theorem dX11_axis_151 : decode cX11_axis 151 = .ok (.l2i, 1) := by decide +kernel
theorem dX11_axis_152 : decode cX11_axis 152 = .ok (.invokevirtual 61, 3) := by decide +kernel
theorem dX11_axis_155 : decode cX11_axis 155 = .ok (.ireturn, 1) := by decide +kernel
theorem dX11_alike_0 : decode cX11_alike 0 = .ok (.iload_n 1, 1) := by decide +kernel
theorem dX11_alike_1 : decode cX11_alike 1 = .ok (.invokestatic 92, 3) := by decide +kernel
theorem dX11_alike_4 : decode cX11_alike 4 = .ok (.ifCond .eq 10, 3) := by decide +kernel
theorem dX11_alike_7 : decode cX11_alike 7 = .ok (.iload_n 2, 1) := by decide +kernel
theorem dX11_alike_8 : decode cX11_alike 8 = .ok (.invokestatic 92, 3) := by decide +kernel
theorem dX11_alike_11 : decode cX11_alike 11 = .ok (.ifCond .ne 6, 3) := by decide +kernel
theorem dX11_alike_14 : decode cX11_alike 14 = .ok (.ldc 56, 2) := by decide +kernel
theorem dX11_alike_16 : decode cX11_alike 16 = .ok (.ireturn, 1) := by decide +kernel
theorem dX11_alike_17 : decode cX11_alike 17 = .ok (.aload_n 0, 1) := by decide +kernel
theorem dX11_alike_18 : decode cX11_alike 18 = .ok (.getfield 7, 3) := by decide +kernel
theorem dX11_alike_21 : decode cX11_alike 21 = .ok (.iload_n 1, 1) := by decide +kernel
theorem dX11_alike_22 : decode cX11_alike 22 = .ok (.baload, 1) := by decide +kernel
theorem dX11_alike_23 : decode cX11_alike 23 = .ok (.ifCond .eq 12, 3) := by decide +kernel
theorem dX11_alike_26 : decode cX11_alike 26 = .ok (.aload_n 0, 1) := by decide +kernel
theorem dX11_alike_27 : decode cX11_alike 27 = .ok (.getfield 7, 3) := by decide +kernel
theorem dX11_alike_30 : decode cX11_alike 30 = .ok (.iload_n 2, 1) := by decide +kernel
theorem dX11_alike_31 : decode cX11_alike 31 = .ok (.baload, 1) := by decide +kernel
theorem dX11_alike_32 : decode cX11_alike 32 = .ok (.ifCond .ne 9, 3) := by decide +kernel
theorem dX11_alike_35 : decode cX11_alike 35 = .ok (.aload_n 0, 1) := by decide +kernel
theorem dX11_alike_36 : decode cX11_alike 36 = .ok (.iconst 1, 1) := by decide +kernel
theorem dX11_alike_37 : decode cX11_alike 37 = .ok (.invokevirtual 57, 3) := by decide +kernel
theorem dX11_alike_40 : decode cX11_alike 40 = .ok (.ireturn, 1) := by decide +kernel
theorem dX11_alike_41 : decode cX11_alike 41 = .ok (.aload_n 0, 1) := by decide +kernel
theorem dX11_alike_42 : decode cX11_alike 42 = .ok (.iconst 0, 1) := by decide +kernel
theorem dX11_alike_43 : decode cX11_alike 43 = .ok (.iload_n 1, 1) := by decide +kernel
theorem dX11_alike_44 : decode cX11_alike 44 = .ok (.invokevirtual 111, 3) := by decide +kernel
theorem dX11_alike_47 : decode cX11_alike 47 = .ok (.aload_n 0, 1) := by decide +kernel
theorem dX11_alike_48 : decode cX11_alike 48 = .ok (.iconst 4, 1) := by decide +kernel
theorem dX11_alike_49 : decode cX11_alike 49 = .ok (.iload_n 2, 1) := by decide +kernel
theorem dX11_alike_50 : decode cX11_alike 50 = .ok (.invokevirtual 111, 3) := by decide +kernel
theorem dX11_alike_53 : decode cX11_alike 53 = .ok (.aload_n 0, 1) := by decide +kernel
theorem dX11_alike_54 : decode cX11_alike 54 = .ok (.iconst 0, 1) := by decide +kernel
theorem dX11_alike_55 : decode cX11_alike 55 = .ok (.invokevirtual 76, 3) := by decide +kernel
theorem dX11_alike_58 : decode cX11_alike 58 = .ok (.ifCond .ne 11, 3) := by decide +kernel
theorem dX11_alike_61 : decode cX11_alike 61 = .ok (.aload_n 0, 1) := by decide +kernel
theorem dX11_alike_62 : decode cX11_alike 62 = .ok (.iconst 4, 1) := by decide +kernel
theorem dX11_alike_63 : decode cX11_alike 63 = .ok (.invokevirtual 76, 3) := by decide +kernel
theorem dX11_alike_66 : decode cX11_alike 66 = .ok (.ifCond .eq 6, 3) := by decide +kernel
theorem dX11_alike_69 : decode cX11_alike 69 = .ok (.ldc 153, 2) := by decide +kernel
theorem dX11_alike_71 : decode cX11_alike 71 = .ok (.ireturn, 1) := by decide +kernel
theorem dX11_alike_72 : decode cX11_alike 72 = .ok (.iconst 1, 1) := by decide +kernel
theorem dX11_alike_73 : decode cX11_alike 73 = .ok (.istore_n 3, 1) := by decide +kernel
theorem dX11_alike_74 : decode cX11_alike 74 = .ok (.iconst 0, 1) := by decide +kernel
theorem dX11_alike_75 : decode cX11_alike 75 = .ok (.istore 4, 2) := by decide +kernel
theorem dX11_alike_77 : decode cX11_alike 77 = .ok (.iload 4, 2) := by decide +kernel
theorem dX11_alike_79 : decode cX11_alike 79 = .ok (.iconst 4, 1) := by decide +kernel
theorem dX11_alike_80 : decode cX11_alike 80 = .ok (.if_icmp .ge 77, 3) := by decide +kernel
theorem dX11_alike_83 : decode cX11_alike 83 = .ok (.iconst 0, 1) := by decide +kernel
theorem dX11_alike_84 : decode cX11_alike 84 = .ok (.istore 5, 2) := by decide +kernel
theorem dX11_alike_86 : decode cX11_alike 86 = .ok (.iload 5, 2) := by decide +kernel
theorem dX11_alike_88 : decode cX11_alike 88 = .ok (.iload 4, 2) := by decide +kernel
theorem dX11_alike_90 : decode cX11_alike 90 = .ok (.if_icmp .ge 61, 3) := by decide +kernel
theorem dX11_alike_93 : decode cX11_alike 93 = .ok (.iload_n 3, 1) := by decide +kernel
theorem dX11_alike_94 : decode cX11_alike 94 = .ok (.ifCond .eq 49, 3) := by decide +kernel
theorem dX11_alike_97 : decode cX11_alike 97 = .ok (.aload_n 0, 1) := by decide +kernel
theorem dX11_alike_98 : decode cX11_alike 98 = .ok (.getfield 33, 3) := by decide +kernel
theorem dX11_alike_101 : decode cX11_alike 101 = .ok (.iconst 0, 1) := by decide +kernel
theorem dX11_alike_102 : decode cX11_alike 102 = .ok (.iload 4, 2) := by decide +kernel
theorem dX11_alike_104 : decode cX11_alike 104 = .ok (.iadd, 1) := by decide +kernel
theorem dX11_alike_105 : decode cX11_alike 105 = .ok (.laload, 1) := by decide +kernel
theorem dX11_alike_106 : decode cX11_alike 106 = .ok (.aload_n 0, 1) := by decide +kernel
theorem dX11_alike_107 : decode cX11_alike 107 = .ok (.getfield 33, 3) := by decide +kernel
theorem dX11_alike_110 : decode cX11_alike 110 = .ok (.iconst 4, 1) := by decide +kernel
theorem dX11_alike_111 : decode cX11_alike 111 = .ok (.iload 5, 2) := by decide +kernel
theorem dX11_alike_113 : decode cX11_alike 113 = .ok (.iadd, 1) := by decide +kernel
theorem dX11_alike_114 : decode cX11_alike 114 = .ok (.laload, 1) := by decide +kernel
theorem dX11_alike_115 : decode cX11_alike 115 = .ok (.lmul, 1) := by decide +kernel
theorem dX11_alike_116 : decode cX11_alike 116 = .ok (.aload_n 0, 1) := by decide +kernel
theorem dX11_alike_117 : decode cX11_alike 117 = .ok (.getfield 33, 3) := by decide +kernel
theorem dX11_alike_120 : decode cX11_alike 120 = .ok (.iconst 0, 1) := by decide +kernel
theorem dX11_alike_121 : decode cX11_alike 121 = .ok (.iload 5, 2) := by decide +kernel
theorem dX11_alike_123 : decode cX11_alike 123 = .ok (.iadd, 1) := by decide +kernel
theorem dX11_alike_124 : decode cX11_alike 124 = .ok (.laload, 1) := by decide +kernel
theorem dX11_alike_125 : decode cX11_alike 125 = .ok (.aload_n 0, 1) := by decide +kernel
theorem dX11_alike_126 : decode cX11_alike 126 = .ok (.getfield 33, 3) := by decide +kernel
theorem dX11_alike_129 : decode cX11_alike 129 = .ok (.iconst 4, 1) := by decide +kernel
theorem dX11_alike_130 : decode cX11_alike 130 = .ok (.iload 4, 2) := by decide +kernel
theorem dX11_alike_132 : decode cX11_alike 132 = .ok (.iadd, 1) := by decide +kernel
theorem dX11_alike_133 : decode cX11_alike 133 = .ok (.laload, 1) := by decide +kernel
theorem dX11_alike_134 : decode cX11_alike 134 = .ok (.lmul, 1) := by decide +kernel
theorem dX11_alike_135 : decode cX11_alike 135 = .ok (.lcmp, 1) := by decide +kernel
theorem dX11_alike_136 : decode cX11_alike 136 = .ok (.ifCond .ne 7, 3) := by decide +kernel
theorem dX11_alike_139 : decode cX11_alike 139 = .ok (.iconst 1, 1) := by decide +kernel
theorem dX11_alike_140 : decode cX11_alike 140 = .ok (.goto 4, 3) := by decide +kernel
theorem dX11_alike_143 : decode cX11_alike 143 = .ok (.iconst 0, 1) := by decide +kernel
theorem dX11_alike_144 : decode cX11_alike 144 = .ok (.istore_n 3, 1) := by decide +kernel
theorem dX11_alike_145 : decode cX11_alike 145 = .ok (.iinc 5 1, 3) := by decide +kernel
theorem dX11_alike_148 : decode cX11_alike 148 = .ok (.goto (-62), 3) := by decide +kernel
theorem dX11_alike_151 : decode cX11_alike 151 = .ok (.iinc 4 1, 3) := by decide +kernel
theorem dX11_alike_154 : decode cX11_alike 154 = .ok (.goto (-77), 3) := by decide +kernel
theorem dX11_alike_157 : decode cX11_alike 157 = .ok (.aload_n 0, 1) := by decide +kernel
theorem dX11_alike_158 : decode cX11_alike 158 = .ok (.iload_n 3, 1) := by decide +kernel
theorem dX11_alike_159 : decode cX11_alike 159 = .ok (.ifCond .eq 7, 3) := by decide +kernel
theorem dX11_alike_162 : decode cX11_alike 162 = .ok (.iconst 1, 1) := by decide +kernel
theorem dX11_alike_163 : decode cX11_alike 163 = .ok (.goto 4, 3) := by decide +kernel
theorem dX11_alike_166 : decode cX11_alike 166 = .ok (.iconst 0, 1) := by decide +kernel
theorem dX11_alike_167 : decode cX11_alike 167 = .ok (.invokevirtual 61, 3) := by decide +kernel
theorem dX11_alike_170 : decode cX11_alike 170 = .ok (.ireturn, 1) := by decide +kernel
theorem dX11_indexOf_0 : decode cX11_indexOf 0 = .ok (.aload_n 0, 1) := by decide +kernel
theorem dX11_indexOf_1 : decode cX11_indexOf 1 = .ok (.iconst 0, 1) := by decide +kernel
theorem dX11_indexOf_2 : decode cX11_indexOf 2 = .ok (.invokevirtual 79, 3) := by decide +kernel
theorem dX11_indexOf_5 : decode cX11_indexOf 5 = .ok (.lstore_n 1, 1) := by decide +kernel
theorem dX11_indexOf_6 : decode cX11_indexOf 6 = .ok (.aload_n 0, 1) := by decide +kernel
theorem dX11_indexOf_7 : decode cX11_indexOf 7 = .ok (.iconst 0, 1) := by decide +kernel
theorem dX11_indexOf_8 : decode cX11_indexOf 8 = .ok (.invokevirtual 83, 3) := by decide +kernel
theorem dX11_indexOf_11 : decode cX11_indexOf 11 = .ok (.lload_n 1, 1) := by decide +kernel
theorem dX11_indexOf_12 : decode cX11_indexOf 12 = .ok (.lload_n 1, 1) := by decide +kernel
theorem dX11_indexOf_13 : decode cX11_indexOf 13 = .ok (.lmul, 1) := by decide +kernel
theorem dX11_indexOf_14 : decode cX11_indexOf 14 = .ok (.ldiv, 1) := by decide +kernel
theorem dX11_indexOf_15 : decode cX11_indexOf 15 = .ok (.lstore_n 3, 1) := by decide +kernel
theorem dX11_indexOf_16 : decode cX11_indexOf 16 = .ok (.lload_n 3, 1) := by decide +kernel
theorem dX11_indexOf_17 : decode cX11_indexOf 17 = .ok (.ldc2_w 54, 3) := by decide +kernel
theorem dX11_indexOf_20 : decode cX11_indexOf 20 = .ok (.lrem, 1) := by decide +kernel
theorem dX11_indexOf_21 : decode cX11_indexOf 21 = .ok (.lconst 0, 1) := by decide +kernel
theorem dX11_indexOf_22 : decode cX11_indexOf 22 = .ok (.lcmp, 1) := by decide +kernel
theorem dX11_indexOf_23 : decode cX11_indexOf 23 = .ok (.ifCond .ne 12, 3) := by decide +kernel
theorem dX11_indexOf_26 : decode cX11_indexOf 26 = .ok (.lload_n 3, 1) := by decide +kernel
theorem dX11_indexOf_27 : decode cX11_indexOf 27 = .ok (.ldc2_w 54, 3) := by decide +kernel
theorem dX11_indexOf_30 : decode cX11_indexOf 30 = .ok (.ldiv, 1) := by decide +kernel
theorem dX11_indexOf_31 : decode cX11_indexOf 31 = .ok (.lstore_n 3, 1) := by decide +kernel
theorem dX11_indexOf_32 : decode cX11_indexOf 32 = .ok (.goto (-16), 3) := by decide +kernel
theorem dX11_indexOf_35 : decode cX11_indexOf 35 = .ok (.lload_n 3, 1) := by decide +kernel
theorem dX11_indexOf_36 : decode cX11_indexOf 36 = .ok (.lreturn, 1) := by decide +kernel
theorem dX11_index_0 : decode cX11_index 0 = .ok (.iload_n 1, 1) := by decide +kernel
theorem dX11_index_1 : decode cX11_index 1 = .ok (.invokestatic 92, 3) := by decide +kernel
theorem dX11_index_4 : decode cX11_index 4 = .ok (.ifCond .ne 6, 3) := by decide +kernel
theorem dX11_index_7 : decode cX11_index 7 = .ok (.ldc 56, 2) := by decide +kernel
theorem dX11_index_9 : decode cX11_index 9 = .ok (.ireturn, 1) := by decide +kernel
theorem dX11_index_10 : decode cX11_index 10 = .ok (.aload_n 0, 1) := by decide +kernel
theorem dX11_index_11 : decode cX11_index 11 = .ok (.iload_n 1, 1) := by decide +kernel
theorem dX11_index_12 : decode cX11_index 12 = .ok (.invokevirtual 187, 3) := by decide +kernel
theorem dX11_index_15 : decode cX11_index 15 = .ok (.istore_n 2, 1) := by decide +kernel
theorem dX11_index_16 : decode cX11_index 16 = .ok (.iload_n 2, 1) := by decide +kernel
theorem dX11_index_17 : decode cX11_index 17 = .ok (.ifCond .eq 7, 3) := by decide +kernel
theorem dX11_index_20 : decode cX11_index 20 = .ok (.iload_n 2, 1) := by decide +kernel
theorem dX11_index_21 : decode cX11_index 21 = .ok (.goto 12, 3) := by decide +kernel
theorem dX11_index_24 : decode cX11_index 24 = .ok (.aload_n 0, 1) := by decide +kernel
theorem dX11_index_25 : decode cX11_index 25 = .ok (.aload_n 0, 1) := by decide +kernel
theorem dX11_index_26 : decode cX11_index 26 = .ok (.invokevirtual 202, 3) := by decide +kernel
theorem dX11_index_29 : decode cX11_index 29 = .ok (.l2i, 1) := by decide +kernel
theorem dX11_index_30 : decode cX11_index 30 = .ok (.invokevirtual 61, 3) := by decide +kernel
theorem dX11_index_33 : decode cX11_index 33 = .ok (.ireturn, 1) := by decide +kernel
theorem dX11_isCommon_0 : decode cX11_isCommon 0 = .ok (.iconst 0, 1) := by decide +kernel
theorem dX11_isCommon_1 : decode cX11_isCommon 1 = .ok (.istore 9, 2) := by decide +kernel
theorem dX11_isCommon_3 : decode cX11_isCommon 3 = .ok (.iload 9, 2) := by decide +kernel
theorem dX11_isCommon_5 : decode cX11_isCommon 5 = .ok (.iconst 3, 1) := by decide +kernel
theorem dX11_isCommon_6 : decode cX11_isCommon 6 = .ok (.if_icmp .ge 54, 3) := by decide +kernel
theorem dX11_isCommon_9 : decode cX11_isCommon 9 = .ok (.aload_n 0, 1) := by decide +kernel
theorem dX11_isCommon_10 : decode cX11_isCommon 10 = .ok (.getfield 36, 3) := by decide +kernel
theorem dX11_isCommon_13 : decode cX11_isCommon 13 = .ok (.iload 9, 2) := by decide +kernel
theorem dX11_isCommon_15 : decode cX11_isCommon 15 = .ok (.laload, 1) := by decide +kernel
theorem dX11_isCommon_16 : decode cX11_isCommon 16 = .ok (.lload_n 1, 1) := by decide +kernel
theorem dX11_isCommon_17 : decode cX11_isCommon 17 = .ok (.lmul, 1) := by decide +kernel
theorem dX11_isCommon_18 : decode cX11_isCommon 18 = .ok (.aload_n 0, 1) := by decide +kernel
theorem dX11_isCommon_19 : decode cX11_isCommon 19 = .ok (.getfield 36, 3) := by decide +kernel
theorem dX11_isCommon_22 : decode cX11_isCommon 22 = .ok (.iconst 3, 1) := by decide +kernel
theorem dX11_isCommon_23 : decode cX11_isCommon 23 = .ok (.iload 9, 2) := by decide +kernel
theorem dX11_isCommon_25 : decode cX11_isCommon 25 = .ok (.iadd, 1) := by decide +kernel
theorem dX11_isCommon_26 : decode cX11_isCommon 26 = .ok (.laload, 1) := by decide +kernel
theorem dX11_isCommon_27 : decode cX11_isCommon 27 = .ok (.lload_n 3, 1) := by decide +kernel
theorem dX11_isCommon_28 : decode cX11_isCommon 28 = .ok (.lmul, 1) := by decide +kernel
theorem dX11_isCommon_29 : decode cX11_isCommon 29 = .ok (.ladd, 1) := by decide +kernel
theorem dX11_isCommon_30 : decode cX11_isCommon 30 = .ok (.aload_n 0, 1) := by decide +kernel
theorem dX11_isCommon_31 : decode cX11_isCommon 31 = .ok (.getfield 36, 3) := by decide +kernel
theorem dX11_isCommon_34 : decode cX11_isCommon 34 = .ok (.bipush 6, 2) := by decide +kernel
theorem dX11_isCommon_36 : decode cX11_isCommon 36 = .ok (.iload 9, 2) := by decide +kernel
theorem dX11_isCommon_38 : decode cX11_isCommon 38 = .ok (.iadd, 1) := by decide +kernel
theorem dX11_isCommon_39 : decode cX11_isCommon 39 = .ok (.laload, 1) := by decide +kernel
theorem dX11_isCommon_40 : decode cX11_isCommon 40 = .ok (.lload 5, 2) := by decide +kernel
theorem dX11_isCommon_42 : decode cX11_isCommon 42 = .ok (.lmul, 1) := by decide +kernel
theorem dX11_isCommon_43 : decode cX11_isCommon 43 = .ok (.ladd, 1) := by decide +kernel
theorem dX11_isCommon_44 : decode cX11_isCommon 44 = .ok (.lload 7, 2) := by decide +kernel
theorem dX11_isCommon_46 : decode cX11_isCommon 46 = .ok (.lrem, 1) := by decide +kernel
theorem dX11_isCommon_47 : decode cX11_isCommon 47 = .ok (.lconst 0, 1) := by decide +kernel
theorem dX11_isCommon_48 : decode cX11_isCommon 48 = .ok (.lcmp, 1) := by decide +kernel
theorem dX11_isCommon_49 : decode cX11_isCommon 49 = .ok (.ifCond .eq 5, 3) := by decide +kernel
theorem dX11_isCommon_52 : decode cX11_isCommon 52 = .ok (.iconst 0, 1) := by decide +kernel
theorem dX11_isCommon_53 : decode cX11_isCommon 53 = .ok (.ireturn, 1) := by decide +kernel
theorem dX11_isCommon_54 : decode cX11_isCommon 54 = .ok (.iinc 9 1, 3) := by decide +kernel
theorem dX11_isCommon_57 : decode cX11_isCommon 57 = .ok (.goto (-54), 3) := by decide +kernel
theorem dX11_isCommon_60 : decode cX11_isCommon 60 = .ok (.iconst 1, 1) := by decide +kernel
theorem dX11_isCommon_61 : decode cX11_isCommon 61 = .ok (.ireturn, 1) := by decide +kernel
theorem dX11_cell_0 : decode cX11_cell 0 = .ok (.iload_n 1, 1) := by decide +kernel
theorem dX11_cell_1 : decode cX11_cell 1 = .ok (.invokestatic 92, 3) := by decide +kernel
theorem dX11_cell_4 : decode cX11_cell 4 = .ok (.ifCond .eq 15, 3) := by decide +kernel
theorem dX11_cell_7 : decode cX11_cell 7 = .ok (.iload_n 2, 1) := by decide +kernel
theorem dX11_cell_8 : decode cX11_cell 8 = .ok (.i2l, 1) := by decide +kernel
theorem dX11_cell_9 : decode cX11_cell 9 = .ok (.lconst 0, 1) := by decide +kernel
theorem dX11_cell_10 : decode cX11_cell 10 = .ok (.ldc2_w 206, 3) := by decide +kernel
theorem dX11_cell_13 : decode cX11_cell 13 = .ok (.invokestatic 46, 3) := by decide +kernel
theorem dX11_cell_16 : decode cX11_cell 16 = .ok (.ifCond .ne 6, 3) := by decide +kernel
theorem dX11_cell_19 : decode cX11_cell 19 = .ok (.ldc 56, 2) := by decide +kernel
theorem dX11_cell_21 : decode cX11_cell 21 = .ok (.ireturn, 1) := by decide +kernel
theorem dX11_cell_22 : decode cX11_cell 22 = .ok (.aload_n 0, 1) := by decide +kernel
theorem dX11_cell_23 : decode cX11_cell 23 = .ok (.iload_n 1, 1) := by decide +kernel
theorem dX11_cell_24 : decode cX11_cell 24 = .ok (.invokevirtual 187, 3) := by decide +kernel
theorem dX11_cell_27 : decode cX11_cell 27 = .ok (.istore_n 3, 1) := by decide +kernel
theorem dX11_cell_28 : decode cX11_cell 28 = .ok (.iload_n 3, 1) := by decide +kernel
theorem dX11_cell_29 : decode cX11_cell 29 = .ok (.ifCond .eq 5, 3) := by decide +kernel
theorem dX11_cell_32 : decode cX11_cell 32 = .ok (.iload_n 3, 1) := by decide +kernel
theorem dX11_cell_33 : decode cX11_cell 33 = .ok (.ireturn, 1) := by decide +kernel
theorem dX11_cell_34 : decode cX11_cell 34 = .ok (.aload_n 0, 1) := by decide +kernel
theorem dX11_cell_35 : decode cX11_cell 35 = .ok (.invokevirtual 202, 3) := by decide +kernel
theorem dX11_cell_38 : decode cX11_cell 38 = .ok (.ldc2_w 208, 3) := by decide +kernel
theorem dX11_cell_41 : decode cX11_cell 41 = .ok (.lcmp, 1) := by decide +kernel
theorem dX11_cell_42 : decode cX11_cell 42 = .ok (.ifCond .le 6, 3) := by decide +kernel
theorem dX11_cell_45 : decode cX11_cell 45 = .ok (.ldc 99, 2) := by decide +kernel
theorem dX11_cell_47 : decode cX11_cell 47 = .ok (.ireturn, 1) := by decide +kernel
theorem dX11_cell_48 : decode cX11_cell 48 = .ok (.ldc2_w 66, 3) := by decide +kernel
theorem dX11_cell_51 : decode cX11_cell 51 = .ok (.aload_n 0, 1) := by decide +kernel
theorem dX11_cell_52 : decode cX11_cell 52 = .ok (.iconst 0, 1) := by decide +kernel
theorem dX11_cell_53 : decode cX11_cell 53 = .ok (.invokevirtual 83, 3) := by decide +kernel
theorem dX11_cell_56 : decode cX11_cell 56 = .ok (.lmul, 1) := by decide +kernel
theorem dX11_cell_57 : decode cX11_cell 57 = .ok (.lstore 4, 2) := by decide +kernel
theorem dX11_cell_59 : decode cX11_cell 59 = .ok (.lload 4, 2) := by decide +kernel
theorem dX11_cell_61 : decode cX11_cell 61 = .ok (.lstore 6, 2) := by decide +kernel
theorem dX11_cell_63 : decode cX11_cell 63 = .ok (.iconst 0, 1) := by decide +kernel
theorem dX11_cell_64 : decode cX11_cell 64 = .ok (.istore 8, 2) := by decide +kernel
theorem dX11_cell_66 : decode cX11_cell 66 = .ok (.iload 8, 2) := by decide +kernel
theorem dX11_cell_68 : decode cX11_cell 68 = .ok (.bipush 9, 2) := by decide +kernel
theorem dX11_cell_70 : decode cX11_cell 70 = .ok (.if_icmp .ge 42, 3) := by decide +kernel
theorem dX11_cell_73 : decode cX11_cell 73 = .ok (.aload_n 0, 1) := by decide +kernel
theorem dX11_cell_74 : decode cX11_cell 74 = .ok (.getfield 36, 3) := by decide +kernel
theorem dX11_cell_77 : decode cX11_cell 77 = .ok (.iload 8, 2) := by decide +kernel
theorem dX11_cell_79 : decode cX11_cell 79 = .ok (.aload_n 0, 1) := by decide +kernel
theorem dX11_cell_80 : decode cX11_cell 80 = .ok (.iload 8, 2) := by decide +kernel
theorem dX11_cell_82 : decode cX11_cell 82 = .ok (.iconst 3, 1) := by decide +kernel
theorem dX11_cell_83 : decode cX11_cell 83 = .ok (.idiv, 1) := by decide +kernel
theorem dX11_cell_84 : decode cX11_cell 84 = .ok (.iload 8, 2) := by decide +kernel
theorem dX11_cell_86 : decode cX11_cell 86 = .ok (.iconst 3, 1) := by decide +kernel
theorem dX11_cell_87 : decode cX11_cell 87 = .ok (.irem, 1) := by decide +kernel
theorem dX11_cell_88 : decode cX11_cell 88 = .ok (.invokevirtual 190, 3) := by decide +kernel
theorem dX11_cell_91 : decode cX11_cell 91 = .ok (.lastore, 1) := by decide +kernel
theorem dX11_cell_92 : decode cX11_cell 92 = .ok (.lload 6, 2) := by decide +kernel
theorem dX11_cell_94 : decode cX11_cell 94 = .ok (.aload_n 0, 1) := by decide +kernel
theorem dX11_cell_95 : decode cX11_cell 95 = .ok (.getfield 36, 3) := by decide +kernel
theorem dX11_cell_98 : decode cX11_cell 98 = .ok (.iload 8, 2) := by decide +kernel
theorem dX11_cell_100 : decode cX11_cell 100 = .ok (.laload, 1) := by decide +kernel
theorem dX11_cell_101 : decode cX11_cell 101 = .ok (.invokestatic 72, 3) := by decide +kernel
theorem dX11_cell_104 : decode cX11_cell 104 = .ok (.lstore 6, 2) := by decide +kernel
theorem dX11_cell_106 : decode cX11_cell 106 = .ok (.iinc 8 1, 3) := by decide +kernel
theorem dX11_cell_109 : decode cX11_cell 109 = .ok (.goto (-43), 3) := by decide +kernel
theorem dX11_cell_112 : decode cX11_cell 112 = .ok (.lload 4, 2) := by decide +kernel
theorem dX11_cell_114 : decode cX11_cell 114 = .ok (.lload 6, 2) := by decide +kernel
theorem dX11_cell_116 : decode cX11_cell 116 = .ok (.ldiv, 1) := by decide +kernel
theorem dX11_cell_117 : decode cX11_cell 117 = .ok (.lstore 4, 2) := by decide +kernel
theorem dX11_cell_119 : decode cX11_cell 119 = .ok (.iconst 0, 1) := by decide +kernel
theorem dX11_cell_120 : decode cX11_cell 120 = .ok (.istore 8, 2) := by decide +kernel
theorem dX11_cell_122 : decode cX11_cell 122 = .ok (.iload 8, 2) := by decide +kernel
theorem dX11_cell_124 : decode cX11_cell 124 = .ok (.bipush 9, 2) := by decide +kernel
theorem dX11_cell_126 : decode cX11_cell 126 = .ok (.if_icmp .ge 21, 3) := by decide +kernel
theorem dX11_cell_129 : decode cX11_cell 129 = .ok (.aload_n 0, 1) := by decide +kernel
theorem dX11_cell_130 : decode cX11_cell 130 = .ok (.getfield 36, 3) := by decide +kernel
theorem dX11_cell_133 : decode cX11_cell 133 = .ok (.iload 8, 2) := by decide +kernel
theorem dX11_cell_135 : decode cX11_cell 135 = .ok (.dup2, 1) := by decide +kernel
theorem dX11_cell_136 : decode cX11_cell 136 = .ok (.laload, 1) := by decide +kernel
theorem dX11_cell_137 : decode cX11_cell 137 = .ok (.lload 6, 2) := by decide +kernel
theorem dX11_cell_139 : decode cX11_cell 139 = .ok (.ldiv, 1) := by decide +kernel
theorem dX11_cell_140 : decode cX11_cell 140 = .ok (.lastore, 1) := by decide +kernel
theorem dX11_cell_141 : decode cX11_cell 141 = .ok (.iinc 8 1, 3) := by decide +kernel
theorem dX11_cell_144 : decode cX11_cell 144 = .ok (.goto (-22), 3) := by decide +kernel
theorem dX11_cell_147 : decode cX11_cell 147 = .ok (.iconst 1, 1) := by decide +kernel
theorem dX11_cell_148 : decode cX11_cell 148 = .ok (.istore 8, 2) := by decide +kernel
theorem dX11_cell_150 : decode cX11_cell 150 = .ok (.aload_n 0, 1) := by decide +kernel
theorem dX11_cell_151 : decode cX11_cell 151 = .ok (.iload 8, 2) := by decide +kernel
theorem dX11_cell_153 : decode cX11_cell 153 = .ok (.i2l, 1) := by decide +kernel
theorem dX11_cell_154 : decode cX11_cell 154 = .ok (.lconst 0, 1) := by decide +kernel
theorem dX11_cell_155 : decode cX11_cell 155 = .ok (.lconst 0, 1) := by decide +kernel
theorem dX11_cell_156 : decode cX11_cell 156 = .ok (.lload 4, 2) := by decide +kernel
theorem dX11_cell_158 : decode cX11_cell 158 = .ok (.invokevirtual 210, 3) := by decide +kernel
theorem dX11_cell_161 : decode cX11_cell 161 = .ok (.ifCond .ne 9, 3) := by decide +kernel
theorem dX11_cell_164 : decode cX11_cell 164 = .ok (.iinc 8 1, 3) := by decide +kernel
theorem dX11_cell_167 : decode cX11_cell 167 = .ok (.goto (-17), 3) := by decide +kernel
theorem dX11_cell_170 : decode cX11_cell 170 = .ok (.iconst 0, 1) := by decide +kernel
theorem dX11_cell_171 : decode cX11_cell 171 = .ok (.istore 9, 2) := by decide +kernel
theorem dX11_cell_173 : decode cX11_cell 173 = .ok (.iconst 1, 1) := by decide +kernel
theorem dX11_cell_174 : decode cX11_cell 174 = .ok (.istore 10, 2) := by decide +kernel
theorem dX11_cell_176 : decode cX11_cell 176 = .ok (.aload_n 0, 1) := by decide +kernel
theorem dX11_cell_177 : decode cX11_cell 177 = .ok (.iload 9, 2) := by decide +kernel
theorem dX11_cell_179 : decode cX11_cell 179 = .ok (.i2l, 1) := by decide +kernel
theorem dX11_cell_180 : decode cX11_cell 180 = .ok (.iload 10, 2) := by decide +kernel
theorem dX11_cell_182 : decode cX11_cell 182 = .ok (.i2l, 1) := by decide +kernel
theorem dX11_cell_183 : decode cX11_cell 183 = .ok (.lconst 0, 1) := by decide +kernel
theorem dX11_cell_184 : decode cX11_cell 184 = .ok (.lload 4, 2) := by decide +kernel
theorem dX11_cell_186 : decode cX11_cell 186 = .ok (.invokevirtual 210, 3) := by decide +kernel
theorem dX11_cell_189 : decode cX11_cell 189 = .ok (.ifCond .ne 22, 3) := by decide +kernel
theorem dX11_cell_192 : decode cX11_cell 192 = .ok (.iinc 9 1, 3) := by decide +kernel
theorem dX11_cell_195 : decode cX11_cell 195 = .ok (.iload 9, 2) := by decide +kernel
theorem dX11_cell_197 : decode cX11_cell 197 = .ok (.iload 8, 2) := by decide +kernel
theorem dX11_cell_199 : decode cX11_cell 199 = .ok (.if_icmp .ne (-23), 3) := by decide +kernel
theorem dX11_cell_202 : decode cX11_cell 202 = .ok (.iconst 0, 1) := by decide +kernel
theorem dX11_cell_203 : decode cX11_cell 203 = .ok (.istore 9, 2) := by decide +kernel
theorem dX11_cell_205 : decode cX11_cell 205 = .ok (.iinc 10 1, 3) := by decide +kernel
theorem dX11_cell_208 : decode cX11_cell 208 = .ok (.goto (-32), 3) := by decide +kernel
theorem dX11_cell_211 : decode cX11_cell 211 = .ok (.iconst 0, 1) := by decide +kernel
theorem dX11_cell_212 : decode cX11_cell 212 = .ok (.istore 11, 2) := by decide +kernel
theorem dX11_cell_214 : decode cX11_cell 214 = .ok (.iconst 0, 1) := by decide +kernel
theorem dX11_cell_215 : decode cX11_cell 215 = .ok (.istore 12, 2) := by decide +kernel
theorem dX11_cell_217 : decode cX11_cell 217 = .ok (.iconst 1, 1) := by decide +kernel
theorem dX11_cell_218 : decode cX11_cell 218 = .ok (.istore 13, 2) := by decide +kernel
theorem dX11_cell_220 : decode cX11_cell 220 = .ok (.aload_n 0, 1) := by decide +kernel
theorem dX11_cell_221 : decode cX11_cell 221 = .ok (.iload 11, 2) := by decide +kernel
theorem dX11_cell_223 : decode cX11_cell 223 = .ok (.i2l, 1) := by decide +kernel
theorem dX11_cell_224 : decode cX11_cell 224 = .ok (.iload 12, 2) := by decide +kernel
theorem dX11_cell_226 : decode cX11_cell 226 = .ok (.i2l, 1) := by decide +kernel
theorem dX11_cell_227 : decode cX11_cell 227 = .ok (.iload 13, 2) := by decide +kernel
theorem dX11_cell_229 : decode cX11_cell 229 = .ok (.i2l, 1) := by decide +kernel
theorem dX11_cell_230 : decode cX11_cell 230 = .ok (.lload 4, 2) := by decide +kernel
theorem dX11_cell_232 : decode cX11_cell 232 = .ok (.invokevirtual 210, 3) := by decide +kernel
theorem dX11_cell_235 : decode cX11_cell 235 = .ok (.ifCond .ne 35, 3) := by decide +kernel
theorem dX11_cell_238 : decode cX11_cell 238 = .ok (.iinc 11 1, 3) := by decide +kernel
theorem dX11_cell_241 : decode cX11_cell 241 = .ok (.iload 11, 2) := by decide +kernel
theorem dX11_cell_243 : decode cX11_cell 243 = .ok (.iload 8, 2) := by decide +kernel
theorem dX11_cell_245 : decode cX11_cell 245 = .ok (.if_icmp .ne 9, 3) := by decide +kernel
theorem dX11_cell_248 : decode cX11_cell 248 = .ok (.iconst 0, 1) := by decide +kernel
theorem dX11_cell_249 : decode cX11_cell 249 = .ok (.istore 11, 2) := by decide +kernel
theorem dX11_cell_251 : decode cX11_cell 251 = .ok (.iinc 12 1, 3) := by decide +kernel
theorem dX11_cell_254 : decode cX11_cell 254 = .ok (.iload 12, 2) := by decide +kernel
theorem dX11_cell_256 : decode cX11_cell 256 = .ok (.iload 10, 2) := by decide +kernel
theorem dX11_cell_258 : decode cX11_cell 258 = .ok (.if_icmp .ne (-38), 3) := by decide +kernel
theorem dX11_cell_261 : decode cX11_cell 261 = .ok (.iconst 0, 1) := by decide +kernel
theorem dX11_cell_262 : decode cX11_cell 262 = .ok (.istore 12, 2) := by decide +kernel
theorem dX11_cell_264 : decode cX11_cell 264 = .ok (.iinc 13 1, 3) := by decide +kernel
theorem dX11_cell_267 : decode cX11_cell 267 = .ok (.goto (-47), 3) := by decide +kernel
theorem dX11_cell_270 : decode cX11_cell 270 = .ok (.aload_n 0, 1) := by decide +kernel
theorem dX11_cell_271 : decode cX11_cell 271 = .ok (.iload_n 2, 1) := by decide +kernel
theorem dX11_cell_272 : decode cX11_cell 272 = .ok (.ifCond .ne 8, 3) := by decide +kernel
theorem dX11_cell_275 : decode cX11_cell 275 = .ok (.iload 8, 2) := by decide +kernel
theorem dX11_cell_277 : decode cX11_cell 277 = .ok (.goto 45, 3) := by decide +kernel
theorem dX11_cell_280 : decode cX11_cell 280 = .ok (.iload_n 2, 1) := by decide +kernel
theorem dX11_cell_281 : decode cX11_cell 281 = .ok (.iconst 1, 1) := by decide +kernel
theorem dX11_cell_282 : decode cX11_cell 282 = .ok (.if_icmp .ne 8, 3) := by decide +kernel
theorem dX11_cell_285 : decode cX11_cell 285 = .ok (.iload 9, 2) := by decide +kernel
theorem dX11_cell_287 : decode cX11_cell 287 = .ok (.goto 35, 3) := by decide +kernel
theorem dX11_cell_290 : decode cX11_cell 290 = .ok (.iload_n 2, 1) := by decide +kernel
theorem dX11_cell_291 : decode cX11_cell 291 = .ok (.iconst 2, 1) := by decide +kernel
theorem dX11_cell_292 : decode cX11_cell 292 = .ok (.if_icmp .ne 8, 3) := by decide +kernel
theorem dX11_cell_295 : decode cX11_cell 295 = .ok (.iload 10, 2) := by decide +kernel
theorem dX11_cell_297 : decode cX11_cell 297 = .ok (.goto 25, 3) := by decide +kernel
theorem dX11_cell_300 : decode cX11_cell 300 = .ok (.iload_n 2, 1) := by decide +kernel
theorem dX11_cell_301 : decode cX11_cell 301 = .ok (.iconst 3, 1) := by decide +kernel
theorem dX11_cell_302 : decode cX11_cell 302 = .ok (.if_icmp .ne 8, 3) := by decide +kernel
theorem dX11_cell_305 : decode cX11_cell 305 = .ok (.iload 11, 2) := by decide +kernel
theorem dX11_cell_307 : decode cX11_cell 307 = .ok (.goto 15, 3) := by decide +kernel
theorem dX11_cell_310 : decode cX11_cell 310 = .ok (.iload_n 2, 1) := by decide +kernel
theorem dX11_cell_311 : decode cX11_cell 311 = .ok (.iconst 4, 1) := by decide +kernel
theorem dX11_cell_312 : decode cX11_cell 312 = .ok (.if_icmp .ne 8, 3) := by decide +kernel
theorem dX11_cell_315 : decode cX11_cell 315 = .ok (.iload 12, 2) := by decide +kernel
theorem dX11_cell_317 : decode cX11_cell 317 = .ok (.goto 5, 3) := by decide +kernel
theorem dX11_cell_320 : decode cX11_cell 320 = .ok (.iload 13, 2) := by decide +kernel
theorem dX11_cell_322 : decode cX11_cell 322 = .ok (.invokevirtual 61, 3) := by decide +kernel
theorem dX11_cell_325 : decode cX11_cell 325 = .ok (.ireturn, 1) := by decide +kernel
theorem dX11_status_0 : decode cX11_status 0 = .ok (.aload_n 0, 1) := by decide +kernel
theorem dX11_status_1 : decode cX11_status 1 = .ok (.getfield 39, 3) := by decide +kernel
theorem dX11_status_4 : decode cX11_status 4 = .ok (.ireturn, 1) := by decide +kernel
theorem dJ9_floorDiv_f86c9_0 : decode cJ9_floorDiv_f86c9 0 = .ok (.lload_n 0, 1) := by decide +kernel
theorem dJ9_floorDiv_f86c9_1 : decode cJ9_floorDiv_f86c9 1 = .ok (.lload_n 2, 1) := by decide +kernel
theorem dJ9_floorDiv_f86c9_2 : decode cJ9_floorDiv_f86c9 2 = .ok (.ldiv, 1) := by decide +kernel
theorem dJ9_floorDiv_f86c9_3 : decode cJ9_floorDiv_f86c9 3 = .ok (.lstore 4, 2) := by decide +kernel
theorem dJ9_floorDiv_f86c9_5 : decode cJ9_floorDiv_f86c9 5 = .ok (.lload_n 0, 1) := by decide +kernel
theorem dJ9_floorDiv_f86c9_6 : decode cJ9_floorDiv_f86c9 6 = .ok (.lload_n 2, 1) := by decide +kernel
theorem dJ9_floorDiv_f86c9_7 : decode cJ9_floorDiv_f86c9 7 = .ok (.lxor, 1) := by decide +kernel
theorem dJ9_floorDiv_f86c9_8 : decode cJ9_floorDiv_f86c9 8 = .ok (.lconst 0, 1) := by decide +kernel
theorem dJ9_floorDiv_f86c9_9 : decode cJ9_floorDiv_f86c9 9 = .ok (.lcmp, 1) := by decide +kernel
theorem dJ9_floorDiv_f86c9_10 : decode cJ9_floorDiv_f86c9 10 = .ok (.ifCond .ge 17, 3) := by decide +kernel
theorem dJ9_floorDiv_f86c9_13 : decode cJ9_floorDiv_f86c9 13 = .ok (.lload 4, 2) := by decide +kernel
theorem dJ9_floorDiv_f86c9_15 : decode cJ9_floorDiv_f86c9 15 = .ok (.lload_n 2, 1) := by decide +kernel
theorem dJ9_floorDiv_f86c9_16 : decode cJ9_floorDiv_f86c9 16 = .ok (.lmul, 1) := by decide +kernel
theorem dJ9_floorDiv_f86c9_17 : decode cJ9_floorDiv_f86c9 17 = .ok (.lload_n 0, 1) := by decide +kernel
theorem dJ9_floorDiv_f86c9_18 : decode cJ9_floorDiv_f86c9 18 = .ok (.lcmp, 1) := by decide +kernel
theorem dJ9_floorDiv_f86c9_19 : decode cJ9_floorDiv_f86c9 19 = .ok (.ifCond .eq 8, 3) := by decide +kernel
theorem dJ9_floorDiv_f86c9_22 : decode cJ9_floorDiv_f86c9 22 = .ok (.lload 4, 2) := by decide +kernel
theorem dJ9_floorDiv_f86c9_24 : decode cJ9_floorDiv_f86c9 24 = .ok (.lconst 1, 1) := by decide +kernel
theorem dJ9_floorDiv_f86c9_25 : decode cJ9_floorDiv_f86c9 25 = .ok (.lsub, 1) := by decide +kernel
theorem dJ9_floorDiv_f86c9_26 : decode cJ9_floorDiv_f86c9 26 = .ok (.lreturn, 1) := by decide +kernel
theorem dJ9_floorDiv_f86c9_27 : decode cJ9_floorDiv_f86c9 27 = .ok (.lload 4, 2) := by decide +kernel
theorem dJ9_floorDiv_f86c9_29 : decode cJ9_floorDiv_f86c9 29 = .ok (.lreturn, 1) := by decide +kernel
theorem dJ9_floorMod_f86c9_0 : decode cJ9_floorMod_f86c9 0 = .ok (.lload_n 0, 1) := by decide +kernel
theorem dJ9_floorMod_f86c9_1 : decode cJ9_floorMod_f86c9 1 = .ok (.lload_n 2, 1) := by decide +kernel
theorem dJ9_floorMod_f86c9_2 : decode cJ9_floorMod_f86c9 2 = .ok (.lrem, 1) := by decide +kernel
theorem dJ9_floorMod_f86c9_3 : decode cJ9_floorMod_f86c9 3 = .ok (.lstore 4, 2) := by decide +kernel
theorem dJ9_floorMod_f86c9_5 : decode cJ9_floorMod_f86c9 5 = .ok (.lload_n 0, 1) := by decide +kernel
theorem dJ9_floorMod_f86c9_6 : decode cJ9_floorMod_f86c9 6 = .ok (.lload_n 2, 1) := by decide +kernel
theorem dJ9_floorMod_f86c9_7 : decode cJ9_floorMod_f86c9 7 = .ok (.lxor, 1) := by decide +kernel
theorem dJ9_floorMod_f86c9_8 : decode cJ9_floorMod_f86c9 8 = .ok (.lconst 0, 1) := by decide +kernel
theorem dJ9_floorMod_f86c9_9 : decode cJ9_floorMod_f86c9 9 = .ok (.lcmp, 1) := by decide +kernel
theorem dJ9_floorMod_f86c9_10 : decode cJ9_floorMod_f86c9 10 = .ok (.ifCond .ge 15, 3) := by decide +kernel
theorem dJ9_floorMod_f86c9_13 : decode cJ9_floorMod_f86c9 13 = .ok (.lload 4, 2) := by decide +kernel
theorem dJ9_floorMod_f86c9_15 : decode cJ9_floorMod_f86c9 15 = .ok (.lconst 0, 1) := by decide +kernel
theorem dJ9_floorMod_f86c9_16 : decode cJ9_floorMod_f86c9 16 = .ok (.lcmp, 1) := by decide +kernel
theorem dJ9_floorMod_f86c9_17 : decode cJ9_floorMod_f86c9 17 = .ok (.ifCond .eq 8, 3) := by decide +kernel
theorem dJ9_floorMod_f86c9_20 : decode cJ9_floorMod_f86c9 20 = .ok (.lload 4, 2) := by decide +kernel
theorem dJ9_floorMod_f86c9_22 : decode cJ9_floorMod_f86c9 22 = .ok (.lload_n 2, 1) := by decide +kernel
theorem dJ9_floorMod_f86c9_23 : decode cJ9_floorMod_f86c9 23 = .ok (.ladd, 1) := by decide +kernel
theorem dJ9_floorMod_f86c9_24 : decode cJ9_floorMod_f86c9 24 = .ok (.lreturn, 1) := by decide +kernel
theorem dJ9_floorMod_f86c9_25 : decode cJ9_floorMod_f86c9 25 = .ok (.lload 4, 2) := by decide +kernel
theorem dJ9_floorMod_f86c9_27 : decode cJ9_floorMod_f86c9 27 = .ok (.lreturn, 1) := by decide +kernel
theorem dJ9_abs_067f4_0 : decode cJ9_abs_067f4 0 = .ok (.lload_n 0, 1) := by decide +kernel
theorem dJ9_abs_067f4_1 : decode cJ9_abs_067f4 1 = .ok (.lconst 0, 1) := by decide +kernel
theorem dJ9_abs_067f4_2 : decode cJ9_abs_067f4 2 = .ok (.lcmp, 1) := by decide +kernel
theorem dJ9_abs_067f4_3 : decode cJ9_abs_067f4 3 = .ok (.ifCond .ge 8, 3) := by decide +kernel
theorem dJ9_abs_067f4_6 : decode cJ9_abs_067f4 6 = .ok (.lload_n 0, 1) := by decide +kernel
theorem dJ9_abs_067f4_7 : decode cJ9_abs_067f4 7 = .ok (.lneg, 1) := by decide +kernel
theorem dJ9_abs_067f4_8 : decode cJ9_abs_067f4 8 = .ok (.goto 4, 3) := by decide +kernel
theorem dJ9_abs_067f4_11 : decode cJ9_abs_067f4 11 = .ok (.lload_n 0, 1) := by decide +kernel
theorem dJ9_abs_067f4_12 : decode cJ9_abs_067f4 12 = .ok (.lreturn, 1) := by decide +kernel
theorem dL_law_0 : decode cL_law 0 = .ok (.new 7, 3) := by decide +kernel
theorem dL_law_3 : decode cL_law 3 = .ok (.dup, 1) := by decide +kernel
theorem dL_law_4 : decode cL_law 4 = .ok (.invokespecial 9, 3) := by decide +kernel
theorem dL_law_7 : decode cL_law 7 = .ok (.astore_n 1, 1) := by decide +kernel
theorem dL_law_8 : decode cL_law 8 = .ok (.new 10, 3) := by decide +kernel
theorem dL_law_11 : decode cL_law 11 = .ok (.dup, 1) := by decide +kernel
theorem dL_law_12 : decode cL_law 12 = .ok (.invokespecial 12, 3) := by decide +kernel
theorem dL_law_15 : decode cL_law 15 = .ok (.astore_n 2, 1) := by decide +kernel
theorem dL_law_16 : decode cL_law 16 = .ok (.iconst 0, 1) := by decide +kernel
theorem dL_law_17 : decode cL_law 17 = .ok (.istore_n 3, 1) := by decide +kernel
theorem dL_law_18 : decode cL_law 18 = .ok (.iload_n 3, 1) := by decide +kernel
theorem dL_law_19 : decode cL_law 19 = .ok (.aload_n 0, 1) := by decide +kernel
theorem dL_law_20 : decode cL_law 20 = .ok (.arraylength, 1) := by decide +kernel
theorem dL_law_21 : decode cL_law 21 = .ok (.bipush 7, 2) := by decide +kernel
theorem dL_law_23 : decode cL_law 23 = .ok (.isub, 1) := by decide +kernel
theorem dL_law_24 : decode cL_law 24 = .ok (.if_icmp .gt 1387, 3) := by decide +kernel
theorem dL_law_27 : decode cL_law 27 = .ok (.aload_n 0, 1) := by decide +kernel
theorem dL_law_28 : decode cL_law 28 = .ok (.iload_n 3, 1) := by decide +kernel
theorem dL_law_29 : decode cL_law 29 = .ok (.iaload, 1) := by decide +kernel
theorem dL_law_30 : decode cL_law 30 = .ok (.bipush 63, 2) := by decide +kernel
theorem dL_law_32 : decode cL_law 32 = .ok (.iand, 1) := by decide +kernel
theorem dL_law_33 : decode cL_law 33 = .ok (.tableswitch 1372 0 32 #[147, 190, 264, 327, 350, 393, 416, 450, 473, 496, 529, 562, 595, 618, 661, 704, 737, 800, 853, 896, 929, 972, 995, 1038, 1061, 1084, 1138, 1214, 1237, 1270, 1303, 1326, 1359], 147) := by decide +kernel
theorem dL_law_180 : decode cL_law 180 = .ok (.aload_n 1, 1) := by decide +kernel
theorem dL_law_181 : decode cL_law 181 = .ok (.aload_n 0, 1) := by decide +kernel
theorem dL_law_182 : decode cL_law 182 = .ok (.iload_n 3, 1) := by decide +kernel
theorem dL_law_183 : decode cL_law 183 = .ok (.iconst 1, 1) := by decide +kernel
theorem dL_law_184 : decode cL_law 184 = .ok (.iadd, 1) := by decide +kernel
theorem dL_law_185 : decode cL_law 185 = .ok (.iaload, 1) := by decide +kernel
theorem dL_law_186 : decode cL_law 186 = .ok (.aload_n 0, 1) := by decide +kernel
theorem dL_law_187 : decode cL_law 187 = .ok (.iload_n 3, 1) := by decide +kernel
theorem dL_law_188 : decode cL_law 188 = .ok (.iconst 2, 1) := by decide +kernel
theorem dL_law_189 : decode cL_law 189 = .ok (.iadd, 1) := by decide +kernel
theorem dL_law_190 : decode cL_law 190 = .ok (.iaload, 1) := by decide +kernel
theorem dL_law_191 : decode cL_law 191 = .ok (.aload_n 0, 1) := by decide +kernel
theorem dL_law_192 : decode cL_law 192 = .ok (.iload_n 3, 1) := by decide +kernel
theorem dL_law_193 : decode cL_law 193 = .ok (.iconst 3, 1) := by decide +kernel
theorem dL_law_194 : decode cL_law 194 = .ok (.iadd, 1) := by decide +kernel
theorem dL_law_195 : decode cL_law 195 = .ok (.iaload, 1) := by decide +kernel
theorem dL_law_196 : decode cL_law 196 = .ok (.invokevirtual 13, 3) := by decide +kernel
theorem dL_law_199 : decode cL_law 199 = .ok (.aload_n 2, 1) := by decide +kernel
theorem dL_law_200 : decode cL_law 200 = .ok (.aload_n 0, 1) := by decide +kernel
theorem dL_law_201 : decode cL_law 201 = .ok (.iload_n 3, 1) := by decide +kernel
theorem dL_law_202 : decode cL_law 202 = .ok (.iconst 1, 1) := by decide +kernel
theorem dL_law_203 : decode cL_law 203 = .ok (.iadd, 1) := by decide +kernel
theorem dL_law_204 : decode cL_law 204 = .ok (.iaload, 1) := by decide +kernel
theorem dL_law_205 : decode cL_law 205 = .ok (.aload_n 0, 1) := by decide +kernel
theorem dL_law_206 : decode cL_law 206 = .ok (.iload_n 3, 1) := by decide +kernel
theorem dL_law_207 : decode cL_law 207 = .ok (.iconst 2, 1) := by decide +kernel
theorem dL_law_208 : decode cL_law 208 = .ok (.iadd, 1) := by decide +kernel
theorem dL_law_209 : decode cL_law 209 = .ok (.iaload, 1) := by decide +kernel
theorem dL_law_210 : decode cL_law 210 = .ok (.aload_n 0, 1) := by decide +kernel
theorem dL_law_211 : decode cL_law 211 = .ok (.iload_n 3, 1) := by decide +kernel
theorem dL_law_212 : decode cL_law 212 = .ok (.iconst 3, 1) := by decide +kernel
theorem dL_law_213 : decode cL_law 213 = .ok (.iadd, 1) := by decide +kernel
theorem dL_law_214 : decode cL_law 214 = .ok (.iaload, 1) := by decide +kernel
theorem dL_law_215 : decode cL_law 215 = .ok (.invokevirtual 17, 3) := by decide +kernel
theorem dL_law_218 : decode cL_law 218 = .ok (.if_icmp .eq 1187, 3) := by decide +kernel
theorem dL_law_221 : decode cL_law 221 = .ok (.iconst 0, 1) := by decide +kernel
theorem dL_law_222 : decode cL_law 222 = .ok (.ireturn, 1) := by decide +kernel
theorem dL_law_223 : decode cL_law 223 = .ok (.aload_n 1, 1) := by decide +kernel
theorem dL_law_224 : decode cL_law 224 = .ok (.aload_n 0, 1) := by decide +kernel
theorem dL_law_225 : decode cL_law 225 = .ok (.iload_n 3, 1) := by decide +kernel
theorem dL_law_226 : decode cL_law 226 = .ok (.iconst 1, 1) := by decide +kernel
theorem dL_law_227 : decode cL_law 227 = .ok (.iadd, 1) := by decide +kernel
theorem dL_law_228 : decode cL_law 228 = .ok (.iaload, 1) := by decide +kernel
theorem dL_law_229 : decode cL_law 229 = .ok (.aload_n 0, 1) := by decide +kernel
theorem dL_law_230 : decode cL_law 230 = .ok (.iload_n 3, 1) := by decide +kernel
theorem dL_law_231 : decode cL_law 231 = .ok (.iconst 2, 1) := by decide +kernel
theorem dL_law_232 : decode cL_law 232 = .ok (.iadd, 1) := by decide +kernel
theorem dL_law_233 : decode cL_law 233 = .ok (.iaload, 1) := by decide +kernel
theorem dL_law_234 : decode cL_law 234 = .ok (.aload_n 0, 1) := by decide +kernel
theorem dL_law_235 : decode cL_law 235 = .ok (.iload_n 3, 1) := by decide +kernel
theorem dL_law_236 : decode cL_law 236 = .ok (.iconst 3, 1) := by decide +kernel
theorem dL_law_237 : decode cL_law 237 = .ok (.iadd, 1) := by decide +kernel
theorem dL_law_238 : decode cL_law 238 = .ok (.iaload, 1) := by decide +kernel
theorem dL_law_239 : decode cL_law 239 = .ok (.i2l, 1) := by decide +kernel
theorem dL_law_240 : decode cL_law 240 = .ok (.bipush 32, 2) := by decide +kernel
theorem dL_law_242 : decode cL_law 242 = .ok (.lshl, 1) := by decide +kernel
theorem dL_law_243 : decode cL_law 243 = .ok (.aload_n 0, 1) := by decide +kernel
theorem dL_law_244 : decode cL_law 244 = .ok (.iload_n 3, 1) := by decide +kernel
theorem dL_law_245 : decode cL_law 245 = .ok (.iconst 4, 1) := by decide +kernel
theorem dL_law_246 : decode cL_law 246 = .ok (.iadd, 1) := by decide +kernel
theorem dL_law_247 : decode cL_law 247 = .ok (.iaload, 1) := by decide +kernel
theorem dL_law_248 : decode cL_law 248 = .ok (.i2l, 1) := by decide +kernel
theorem dL_law_249 : decode cL_law 249 = .ok (.ldc2_w 18, 3) := by decide +kernel
theorem dL_law_252 : decode cL_law 252 = .ok (.land, 1) := by decide +kernel
theorem dL_law_253 : decode cL_law 253 = .ok (.lor, 1) := by decide +kernel
theorem dL_law_254 : decode cL_law 254 = .ok (.invokevirtual 20, 3) := by decide +kernel
theorem dL_law_257 : decode cL_law 257 = .ok (.aload_n 2, 1) := by decide +kernel
theorem dL_law_258 : decode cL_law 258 = .ok (.aload_n 0, 1) := by decide +kernel
theorem dL_law_259 : decode cL_law 259 = .ok (.iload_n 3, 1) := by decide +kernel
theorem dL_law_260 : decode cL_law 260 = .ok (.iconst 1, 1) := by decide +kernel
theorem dL_law_261 : decode cL_law 261 = .ok (.iadd, 1) := by decide +kernel
theorem dL_law_262 : decode cL_law 262 = .ok (.iaload, 1) := by decide +kernel
theorem dL_law_263 : decode cL_law 263 = .ok (.aload_n 0, 1) := by decide +kernel
theorem dL_law_264 : decode cL_law 264 = .ok (.iload_n 3, 1) := by decide +kernel
theorem dL_law_265 : decode cL_law 265 = .ok (.iconst 2, 1) := by decide +kernel
theorem dL_law_266 : decode cL_law 266 = .ok (.iadd, 1) := by decide +kernel
theorem dL_law_267 : decode cL_law 267 = .ok (.iaload, 1) := by decide +kernel
theorem dL_law_268 : decode cL_law 268 = .ok (.aload_n 0, 1) := by decide +kernel
theorem dL_law_269 : decode cL_law 269 = .ok (.iload_n 3, 1) := by decide +kernel
theorem dL_law_270 : decode cL_law 270 = .ok (.iconst 3, 1) := by decide +kernel
theorem dL_law_271 : decode cL_law 271 = .ok (.iadd, 1) := by decide +kernel
theorem dL_law_272 : decode cL_law 272 = .ok (.iaload, 1) := by decide +kernel
theorem dL_law_273 : decode cL_law 273 = .ok (.i2l, 1) := by decide +kernel
theorem dL_law_274 : decode cL_law 274 = .ok (.bipush 32, 2) := by decide +kernel
theorem dL_law_276 : decode cL_law 276 = .ok (.lshl, 1) := by decide +kernel
theorem dL_law_277 : decode cL_law 277 = .ok (.aload_n 0, 1) := by decide +kernel
theorem dL_law_278 : decode cL_law 278 = .ok (.iload_n 3, 1) := by decide +kernel
theorem dL_law_279 : decode cL_law 279 = .ok (.iconst 4, 1) := by decide +kernel
theorem dL_law_280 : decode cL_law 280 = .ok (.iadd, 1) := by decide +kernel
theorem dL_law_281 : decode cL_law 281 = .ok (.iaload, 1) := by decide +kernel
theorem dL_law_282 : decode cL_law 282 = .ok (.i2l, 1) := by decide +kernel
theorem dL_law_283 : decode cL_law 283 = .ok (.ldc2_w 18, 3) := by decide +kernel
theorem dL_law_286 : decode cL_law 286 = .ok (.land, 1) := by decide +kernel
theorem dL_law_287 : decode cL_law 287 = .ok (.lor, 1) := by decide +kernel
theorem dL_law_288 : decode cL_law 288 = .ok (.invokevirtual 24, 3) := by decide +kernel
theorem dL_law_291 : decode cL_law 291 = .ok (.lcmp, 1) := by decide +kernel
theorem dL_law_292 : decode cL_law 292 = .ok (.ifCond .eq 1113, 3) := by decide +kernel
theorem dL_law_295 : decode cL_law 295 = .ok (.iconst 0, 1) := by decide +kernel
theorem dL_law_296 : decode cL_law 296 = .ok (.ireturn, 1) := by decide +kernel
theorem dL_law_297 : decode cL_law 297 = .ok (.aload_n 1, 1) := by decide +kernel
theorem dL_law_298 : decode cL_law 298 = .ok (.aload_n 0, 1) := by decide +kernel
theorem dL_law_299 : decode cL_law 299 = .ok (.iload_n 3, 1) := by decide +kernel
theorem dL_law_300 : decode cL_law 300 = .ok (.iconst 1, 1) := by decide +kernel
theorem dL_law_301 : decode cL_law 301 = .ok (.iadd, 1) := by decide +kernel
theorem dL_law_302 : decode cL_law 302 = .ok (.iaload, 1) := by decide +kernel
theorem dL_law_303 : decode cL_law 303 = .ok (.aload_n 0, 1) := by decide +kernel
theorem dL_law_304 : decode cL_law 304 = .ok (.iload_n 3, 1) := by decide +kernel
theorem dL_law_305 : decode cL_law 305 = .ok (.iconst 2, 1) := by decide +kernel
theorem dL_law_306 : decode cL_law 306 = .ok (.iadd, 1) := by decide +kernel
theorem dL_law_307 : decode cL_law 307 = .ok (.iaload, 1) := by decide +kernel
theorem dL_law_308 : decode cL_law 308 = .ok (.aload_n 0, 1) := by decide +kernel
theorem dL_law_309 : decode cL_law 309 = .ok (.iload_n 3, 1) := by decide +kernel
theorem dL_law_310 : decode cL_law 310 = .ok (.iconst 3, 1) := by decide +kernel
theorem dL_law_311 : decode cL_law 311 = .ok (.iadd, 1) := by decide +kernel
theorem dL_law_312 : decode cL_law 312 = .ok (.iaload, 1) := by decide +kernel
theorem dL_law_313 : decode cL_law 313 = .ok (.aload_n 0, 1) := by decide +kernel
theorem dL_law_314 : decode cL_law 314 = .ok (.iload_n 3, 1) := by decide +kernel
theorem dL_law_315 : decode cL_law 315 = .ok (.iconst 4, 1) := by decide +kernel
theorem dL_law_316 : decode cL_law 316 = .ok (.iadd, 1) := by decide +kernel
theorem dL_law_317 : decode cL_law 317 = .ok (.iaload, 1) := by decide +kernel
theorem dL_law_318 : decode cL_law 318 = .ok (.aload_n 0, 1) := by decide +kernel
theorem dL_law_319 : decode cL_law 319 = .ok (.iload_n 3, 1) := by decide +kernel
theorem dL_law_320 : decode cL_law 320 = .ok (.iconst 5, 1) := by decide +kernel
theorem dL_law_321 : decode cL_law 321 = .ok (.iadd, 1) := by decide +kernel
theorem dL_law_322 : decode cL_law 322 = .ok (.iaload, 1) := by decide +kernel
theorem dL_law_323 : decode cL_law 323 = .ok (.invokevirtual 25, 3) := by decide +kernel
theorem dL_law_326 : decode cL_law 326 = .ok (.aload_n 2, 1) := by decide +kernel
theorem dL_law_327 : decode cL_law 327 = .ok (.aload_n 0, 1) := by decide +kernel
theorem dL_law_328 : decode cL_law 328 = .ok (.iload_n 3, 1) := by decide +kernel
theorem dL_law_329 : decode cL_law 329 = .ok (.iconst 1, 1) := by decide +kernel
theorem dL_law_330 : decode cL_law 330 = .ok (.iadd, 1) := by decide +kernel
theorem dL_law_331 : decode cL_law 331 = .ok (.iaload, 1) := by decide +kernel
theorem dL_law_332 : decode cL_law 332 = .ok (.aload_n 0, 1) := by decide +kernel
theorem dL_law_333 : decode cL_law 333 = .ok (.iload_n 3, 1) := by decide +kernel
theorem dL_law_334 : decode cL_law 334 = .ok (.iconst 2, 1) := by decide +kernel
theorem dL_law_335 : decode cL_law 335 = .ok (.iadd, 1) := by decide +kernel
theorem dL_law_336 : decode cL_law 336 = .ok (.iaload, 1) := by decide +kernel
theorem dL_law_337 : decode cL_law 337 = .ok (.aload_n 0, 1) := by decide +kernel
theorem dL_law_338 : decode cL_law 338 = .ok (.iload_n 3, 1) := by decide +kernel
theorem dL_law_339 : decode cL_law 339 = .ok (.iconst 3, 1) := by decide +kernel
theorem dL_law_340 : decode cL_law 340 = .ok (.iadd, 1) := by decide +kernel
theorem dL_law_341 : decode cL_law 341 = .ok (.iaload, 1) := by decide +kernel
theorem dL_law_342 : decode cL_law 342 = .ok (.aload_n 0, 1) := by decide +kernel
theorem dL_law_343 : decode cL_law 343 = .ok (.iload_n 3, 1) := by decide +kernel
theorem dL_law_344 : decode cL_law 344 = .ok (.iconst 4, 1) := by decide +kernel
theorem dL_law_345 : decode cL_law 345 = .ok (.iadd, 1) := by decide +kernel
theorem dL_law_346 : decode cL_law 346 = .ok (.iaload, 1) := by decide +kernel
theorem dL_law_347 : decode cL_law 347 = .ok (.aload_n 0, 1) := by decide +kernel
theorem dL_law_348 : decode cL_law 348 = .ok (.iload_n 3, 1) := by decide +kernel
theorem dL_law_349 : decode cL_law 349 = .ok (.iconst 5, 1) := by decide +kernel
theorem dL_law_350 : decode cL_law 350 = .ok (.iadd, 1) := by decide +kernel
theorem dL_law_351 : decode cL_law 351 = .ok (.iaload, 1) := by decide +kernel
theorem dL_law_352 : decode cL_law 352 = .ok (.invokevirtual 29, 3) := by decide +kernel
theorem dL_law_355 : decode cL_law 355 = .ok (.if_icmp .eq 1050, 3) := by decide +kernel
theorem dL_law_358 : decode cL_law 358 = .ok (.iconst 0, 1) := by decide +kernel
theorem dL_law_359 : decode cL_law 359 = .ok (.ireturn, 1) := by decide +kernel
theorem dL_law_360 : decode cL_law 360 = .ok (.aload_n 1, 1) := by decide +kernel
theorem dL_law_361 : decode cL_law 361 = .ok (.aload_n 0, 1) := by decide +kernel
theorem dL_law_362 : decode cL_law 362 = .ok (.iload_n 3, 1) := by decide +kernel
theorem dL_law_363 : decode cL_law 363 = .ok (.iconst 1, 1) := by decide +kernel
theorem dL_law_364 : decode cL_law 364 = .ok (.iadd, 1) := by decide +kernel
theorem dL_law_365 : decode cL_law 365 = .ok (.iaload, 1) := by decide +kernel
theorem dL_law_366 : decode cL_law 366 = .ok (.invokevirtual 30, 3) := by decide +kernel
theorem dL_law_369 : decode cL_law 369 = .ok (.aload_n 2, 1) := by decide +kernel
theorem dL_law_370 : decode cL_law 370 = .ok (.aload_n 0, 1) := by decide +kernel
theorem dL_law_371 : decode cL_law 371 = .ok (.iload_n 3, 1) := by decide +kernel
theorem dL_law_372 : decode cL_law 372 = .ok (.iconst 1, 1) := by decide +kernel
theorem dL_law_373 : decode cL_law 373 = .ok (.iadd, 1) := by decide +kernel
theorem dL_law_374 : decode cL_law 374 = .ok (.iaload, 1) := by decide +kernel
theorem dL_law_375 : decode cL_law 375 = .ok (.invokevirtual 34, 3) := by decide +kernel
theorem dL_law_378 : decode cL_law 378 = .ok (.if_icmp .eq 1027, 3) := by decide +kernel
theorem dL_law_381 : decode cL_law 381 = .ok (.iconst 0, 1) := by decide +kernel
theorem dL_law_382 : decode cL_law 382 = .ok (.ireturn, 1) := by decide +kernel
theorem dL_law_383 : decode cL_law 383 = .ok (.aload_n 1, 1) := by decide +kernel
theorem dL_law_384 : decode cL_law 384 = .ok (.aload_n 0, 1) := by decide +kernel
theorem dL_law_385 : decode cL_law 385 = .ok (.iload_n 3, 1) := by decide +kernel
theorem dL_law_386 : decode cL_law 386 = .ok (.iconst 1, 1) := by decide +kernel
theorem dL_law_387 : decode cL_law 387 = .ok (.iadd, 1) := by decide +kernel
theorem dL_law_388 : decode cL_law 388 = .ok (.iaload, 1) := by decide +kernel
theorem dL_law_389 : decode cL_law 389 = .ok (.aload_n 0, 1) := by decide +kernel
theorem dL_law_390 : decode cL_law 390 = .ok (.iload_n 3, 1) := by decide +kernel
theorem dL_law_391 : decode cL_law 391 = .ok (.iconst 2, 1) := by decide +kernel
theorem dL_law_392 : decode cL_law 392 = .ok (.iadd, 1) := by decide +kernel
theorem dL_law_393 : decode cL_law 393 = .ok (.iaload, 1) := by decide +kernel
theorem dL_law_394 : decode cL_law 394 = .ok (.aload_n 0, 1) := by decide +kernel
theorem dL_law_395 : decode cL_law 395 = .ok (.iload_n 3, 1) := by decide +kernel
theorem dL_law_396 : decode cL_law 396 = .ok (.iconst 3, 1) := by decide +kernel
theorem dL_law_397 : decode cL_law 397 = .ok (.iadd, 1) := by decide +kernel
theorem dL_law_398 : decode cL_law 398 = .ok (.iaload, 1) := by decide +kernel
theorem dL_law_399 : decode cL_law 399 = .ok (.invokevirtual 35, 3) := by decide +kernel
theorem dL_law_402 : decode cL_law 402 = .ok (.aload_n 2, 1) := by decide +kernel
theorem dL_law_403 : decode cL_law 403 = .ok (.aload_n 0, 1) := by decide +kernel
theorem dL_law_404 : decode cL_law 404 = .ok (.iload_n 3, 1) := by decide +kernel
theorem dL_law_405 : decode cL_law 405 = .ok (.iconst 1, 1) := by decide +kernel
theorem dL_law_406 : decode cL_law 406 = .ok (.iadd, 1) := by decide +kernel
theorem dL_law_407 : decode cL_law 407 = .ok (.iaload, 1) := by decide +kernel
theorem dL_law_408 : decode cL_law 408 = .ok (.aload_n 0, 1) := by decide +kernel
theorem dL_law_409 : decode cL_law 409 = .ok (.iload_n 3, 1) := by decide +kernel
theorem dL_law_410 : decode cL_law 410 = .ok (.iconst 2, 1) := by decide +kernel
theorem dL_law_411 : decode cL_law 411 = .ok (.iadd, 1) := by decide +kernel
theorem dL_law_412 : decode cL_law 412 = .ok (.iaload, 1) := by decide +kernel
theorem dL_law_413 : decode cL_law 413 = .ok (.aload_n 0, 1) := by decide +kernel
theorem dL_law_414 : decode cL_law 414 = .ok (.iload_n 3, 1) := by decide +kernel
theorem dL_law_415 : decode cL_law 415 = .ok (.iconst 3, 1) := by decide +kernel
theorem dL_law_416 : decode cL_law 416 = .ok (.iadd, 1) := by decide +kernel
theorem dL_law_417 : decode cL_law 417 = .ok (.iaload, 1) := by decide +kernel
theorem dL_law_418 : decode cL_law 418 = .ok (.invokevirtual 38, 3) := by decide +kernel
theorem dL_law_421 : decode cL_law 421 = .ok (.if_icmp .eq 984, 3) := by decide +kernel
theorem dL_law_424 : decode cL_law 424 = .ok (.iconst 0, 1) := by decide +kernel
theorem dL_law_425 : decode cL_law 425 = .ok (.ireturn, 1) := by decide +kernel
theorem dL_law_426 : decode cL_law 426 = .ok (.aload_n 1, 1) := by decide +kernel
theorem dL_law_427 : decode cL_law 427 = .ok (.aload_n 0, 1) := by decide +kernel
theorem dL_law_428 : decode cL_law 428 = .ok (.iload_n 3, 1) := by decide +kernel
theorem dL_law_429 : decode cL_law 429 = .ok (.iconst 1, 1) := by decide +kernel
theorem dL_law_430 : decode cL_law 430 = .ok (.iadd, 1) := by decide +kernel
theorem dL_law_431 : decode cL_law 431 = .ok (.iaload, 1) := by decide +kernel
theorem dL_law_432 : decode cL_law 432 = .ok (.invokevirtual 39, 3) := by decide +kernel
theorem dL_law_435 : decode cL_law 435 = .ok (.aload_n 2, 1) := by decide +kernel
theorem dL_law_436 : decode cL_law 436 = .ok (.aload_n 0, 1) := by decide +kernel
theorem dL_law_437 : decode cL_law 437 = .ok (.iload_n 3, 1) := by decide +kernel
theorem dL_law_438 : decode cL_law 438 = .ok (.iconst 1, 1) := by decide +kernel
theorem dL_law_439 : decode cL_law 439 = .ok (.iadd, 1) := by decide +kernel
theorem dL_law_440 : decode cL_law 440 = .ok (.iaload, 1) := by decide +kernel
theorem dL_law_441 : decode cL_law 441 = .ok (.invokevirtual 42, 3) := by decide +kernel
theorem dL_law_444 : decode cL_law 444 = .ok (.if_icmp .eq 961, 3) := by decide +kernel
theorem dL_law_447 : decode cL_law 447 = .ok (.iconst 0, 1) := by decide +kernel
theorem dL_law_448 : decode cL_law 448 = .ok (.ireturn, 1) := by decide +kernel
theorem dL_law_449 : decode cL_law 449 = .ok (.aload_n 1, 1) := by decide +kernel
theorem dL_law_450 : decode cL_law 450 = .ok (.aload_n 0, 1) := by decide +kernel
theorem dL_law_451 : decode cL_law 451 = .ok (.iload_n 3, 1) := by decide +kernel
theorem dL_law_452 : decode cL_law 452 = .ok (.iconst 1, 1) := by decide +kernel
theorem dL_law_453 : decode cL_law 453 = .ok (.iadd, 1) := by decide +kernel
theorem dL_law_454 : decode cL_law 454 = .ok (.iaload, 1) := by decide +kernel
theorem dL_law_455 : decode cL_law 455 = .ok (.aload_n 0, 1) := by decide +kernel
theorem dL_law_456 : decode cL_law 456 = .ok (.iload_n 3, 1) := by decide +kernel
theorem dL_law_457 : decode cL_law 457 = .ok (.iconst 2, 1) := by decide +kernel
theorem dL_law_458 : decode cL_law 458 = .ok (.iadd, 1) := by decide +kernel
theorem dL_law_459 : decode cL_law 459 = .ok (.iaload, 1) := by decide +kernel
theorem dL_law_460 : decode cL_law 460 = .ok (.invokevirtual 43, 3) := by decide +kernel
theorem dL_law_463 : decode cL_law 463 = .ok (.aload_n 2, 1) := by decide +kernel
theorem dL_law_464 : decode cL_law 464 = .ok (.aload_n 0, 1) := by decide +kernel
theorem dL_law_465 : decode cL_law 465 = .ok (.iload_n 3, 1) := by decide +kernel
theorem dL_law_466 : decode cL_law 466 = .ok (.iconst 1, 1) := by decide +kernel
theorem dL_law_467 : decode cL_law 467 = .ok (.iadd, 1) := by decide +kernel
theorem dL_law_468 : decode cL_law 468 = .ok (.iaload, 1) := by decide +kernel
theorem dL_law_469 : decode cL_law 469 = .ok (.aload_n 0, 1) := by decide +kernel
theorem dL_law_470 : decode cL_law 470 = .ok (.iload_n 3, 1) := by decide +kernel
theorem dL_law_471 : decode cL_law 471 = .ok (.iconst 2, 1) := by decide +kernel
theorem dL_law_472 : decode cL_law 472 = .ok (.iadd, 1) := by decide +kernel
theorem dL_law_473 : decode cL_law 473 = .ok (.iaload, 1) := by decide +kernel
theorem dL_law_474 : decode cL_law 474 = .ok (.invokevirtual 47, 3) := by decide +kernel
theorem dL_law_477 : decode cL_law 477 = .ok (.lcmp, 1) := by decide +kernel
theorem dL_law_478 : decode cL_law 478 = .ok (.ifCond .eq 927, 3) := by decide +kernel
theorem dL_law_481 : decode cL_law 481 = .ok (.iconst 0, 1) := by decide +kernel
theorem dL_law_482 : decode cL_law 482 = .ok (.ireturn, 1) := by decide +kernel
theorem dL_law_483 : decode cL_law 483 = .ok (.aload_n 1, 1) := by decide +kernel
theorem dL_law_484 : decode cL_law 484 = .ok (.aload_n 0, 1) := by decide +kernel
theorem dL_law_485 : decode cL_law 485 = .ok (.iload_n 3, 1) := by decide +kernel
theorem dL_law_486 : decode cL_law 486 = .ok (.iconst 1, 1) := by decide +kernel
theorem dL_law_487 : decode cL_law 487 = .ok (.iadd, 1) := by decide +kernel
theorem dL_law_488 : decode cL_law 488 = .ok (.iaload, 1) := by decide +kernel
theorem dL_law_489 : decode cL_law 489 = .ok (.invokevirtual 48, 3) := by decide +kernel
theorem dL_law_492 : decode cL_law 492 = .ok (.aload_n 2, 1) := by decide +kernel
theorem dL_law_493 : decode cL_law 493 = .ok (.aload_n 0, 1) := by decide +kernel
theorem dL_law_494 : decode cL_law 494 = .ok (.iload_n 3, 1) := by decide +kernel
theorem dL_law_495 : decode cL_law 495 = .ok (.iconst 1, 1) := by decide +kernel
theorem dL_law_496 : decode cL_law 496 = .ok (.iadd, 1) := by decide +kernel
theorem dL_law_497 : decode cL_law 497 = .ok (.iaload, 1) := by decide +kernel
theorem dL_law_498 : decode cL_law 498 = .ok (.invokevirtual 51, 3) := by decide +kernel
theorem dL_law_501 : decode cL_law 501 = .ok (.if_icmp .eq 904, 3) := by decide +kernel
theorem dL_law_504 : decode cL_law 504 = .ok (.iconst 0, 1) := by decide +kernel
theorem dL_law_505 : decode cL_law 505 = .ok (.ireturn, 1) := by decide +kernel
theorem dL_law_506 : decode cL_law 506 = .ok (.aload_n 1, 1) := by decide +kernel
theorem dL_law_507 : decode cL_law 507 = .ok (.aload_n 0, 1) := by decide +kernel
theorem dL_law_508 : decode cL_law 508 = .ok (.iload_n 3, 1) := by decide +kernel
theorem dL_law_509 : decode cL_law 509 = .ok (.iconst 1, 1) := by decide +kernel
theorem dL_law_510 : decode cL_law 510 = .ok (.iadd, 1) := by decide +kernel
theorem dL_law_511 : decode cL_law 511 = .ok (.iaload, 1) := by decide +kernel
theorem dL_law_512 : decode cL_law 512 = .ok (.invokevirtual 52, 3) := by decide +kernel
theorem dL_law_515 : decode cL_law 515 = .ok (.aload_n 2, 1) := by decide +kernel
theorem dL_law_516 : decode cL_law 516 = .ok (.aload_n 0, 1) := by decide +kernel
theorem dL_law_517 : decode cL_law 517 = .ok (.iload_n 3, 1) := by decide +kernel
theorem dL_law_518 : decode cL_law 518 = .ok (.iconst 1, 1) := by decide +kernel
theorem dL_law_519 : decode cL_law 519 = .ok (.iadd, 1) := by decide +kernel
theorem dL_law_520 : decode cL_law 520 = .ok (.iaload, 1) := by decide +kernel
theorem dL_law_521 : decode cL_law 521 = .ok (.invokevirtual 55, 3) := by decide +kernel
theorem dL_law_524 : decode cL_law 524 = .ok (.if_icmp .eq 881, 3) := by decide +kernel
theorem dL_law_527 : decode cL_law 527 = .ok (.iconst 0, 1) := by decide +kernel
theorem dL_law_528 : decode cL_law 528 = .ok (.ireturn, 1) := by decide +kernel
theorem dL_law_529 : decode cL_law 529 = .ok (.aload_n 1, 1) := by decide +kernel
theorem dL_law_530 : decode cL_law 530 = .ok (.aload_n 0, 1) := by decide +kernel
theorem dL_law_531 : decode cL_law 531 = .ok (.iload_n 3, 1) := by decide +kernel
theorem dL_law_532 : decode cL_law 532 = .ok (.iconst 1, 1) := by decide +kernel
theorem dL_law_533 : decode cL_law 533 = .ok (.iadd, 1) := by decide +kernel
theorem dL_law_534 : decode cL_law 534 = .ok (.iaload, 1) := by decide +kernel
theorem dL_law_535 : decode cL_law 535 = .ok (.aload_n 0, 1) := by decide +kernel
theorem dL_law_536 : decode cL_law 536 = .ok (.iload_n 3, 1) := by decide +kernel
theorem dL_law_537 : decode cL_law 537 = .ok (.iconst 2, 1) := by decide +kernel
theorem dL_law_538 : decode cL_law 538 = .ok (.iadd, 1) := by decide +kernel
theorem dL_law_539 : decode cL_law 539 = .ok (.iaload, 1) := by decide +kernel
theorem dL_law_540 : decode cL_law 540 = .ok (.invokevirtual 56, 3) := by decide +kernel
theorem dL_law_543 : decode cL_law 543 = .ok (.aload_n 2, 1) := by decide +kernel
theorem dL_law_544 : decode cL_law 544 = .ok (.aload_n 0, 1) := by decide +kernel
theorem dL_law_545 : decode cL_law 545 = .ok (.iload_n 3, 1) := by decide +kernel
theorem dL_law_546 : decode cL_law 546 = .ok (.iconst 1, 1) := by decide +kernel
theorem dL_law_547 : decode cL_law 547 = .ok (.iadd, 1) := by decide +kernel
theorem dL_law_548 : decode cL_law 548 = .ok (.iaload, 1) := by decide +kernel
theorem dL_law_549 : decode cL_law 549 = .ok (.aload_n 0, 1) := by decide +kernel
theorem dL_law_550 : decode cL_law 550 = .ok (.iload_n 3, 1) := by decide +kernel
theorem dL_law_551 : decode cL_law 551 = .ok (.iconst 2, 1) := by decide +kernel
theorem dL_law_552 : decode cL_law 552 = .ok (.iadd, 1) := by decide +kernel
theorem dL_law_553 : decode cL_law 553 = .ok (.iaload, 1) := by decide +kernel
theorem dL_law_554 : decode cL_law 554 = .ok (.invokevirtual 60, 3) := by decide +kernel
theorem dL_law_557 : decode cL_law 557 = .ok (.if_icmp .eq 848, 3) := by decide +kernel
theorem dL_law_560 : decode cL_law 560 = .ok (.iconst 0, 1) := by decide +kernel
theorem dL_law_561 : decode cL_law 561 = .ok (.ireturn, 1) := by decide +kernel
theorem dL_law_562 : decode cL_law 562 = .ok (.aload_n 1, 1) := by decide +kernel
theorem dL_law_563 : decode cL_law 563 = .ok (.aload_n 0, 1) := by decide +kernel
theorem dL_law_564 : decode cL_law 564 = .ok (.iload_n 3, 1) := by decide +kernel
theorem dL_law_565 : decode cL_law 565 = .ok (.iconst 1, 1) := by decide +kernel
theorem dL_law_566 : decode cL_law 566 = .ok (.iadd, 1) := by decide +kernel
theorem dL_law_567 : decode cL_law 567 = .ok (.iaload, 1) := by decide +kernel
theorem dL_law_568 : decode cL_law 568 = .ok (.aload_n 0, 1) := by decide +kernel
theorem dL_law_569 : decode cL_law 569 = .ok (.iload_n 3, 1) := by decide +kernel
theorem dL_law_570 : decode cL_law 570 = .ok (.iconst 2, 1) := by decide +kernel
theorem dL_law_571 : decode cL_law 571 = .ok (.iadd, 1) := by decide +kernel
theorem dL_law_572 : decode cL_law 572 = .ok (.iaload, 1) := by decide +kernel
theorem dL_law_573 : decode cL_law 573 = .ok (.invokevirtual 61, 3) := by decide +kernel
theorem dL_law_576 : decode cL_law 576 = .ok (.aload_n 2, 1) := by decide +kernel
theorem dL_law_577 : decode cL_law 577 = .ok (.aload_n 0, 1) := by decide +kernel
theorem dL_law_578 : decode cL_law 578 = .ok (.iload_n 3, 1) := by decide +kernel
theorem dL_law_579 : decode cL_law 579 = .ok (.iconst 1, 1) := by decide +kernel
theorem dL_law_580 : decode cL_law 580 = .ok (.iadd, 1) := by decide +kernel
theorem dL_law_581 : decode cL_law 581 = .ok (.iaload, 1) := by decide +kernel
theorem dL_law_582 : decode cL_law 582 = .ok (.aload_n 0, 1) := by decide +kernel
theorem dL_law_583 : decode cL_law 583 = .ok (.iload_n 3, 1) := by decide +kernel
theorem dL_law_584 : decode cL_law 584 = .ok (.iconst 2, 1) := by decide +kernel
theorem dL_law_585 : decode cL_law 585 = .ok (.iadd, 1) := by decide +kernel
theorem dL_law_586 : decode cL_law 586 = .ok (.iaload, 1) := by decide +kernel
theorem dL_law_587 : decode cL_law 587 = .ok (.invokevirtual 64, 3) := by decide +kernel
theorem dL_law_590 : decode cL_law 590 = .ok (.if_icmp .eq 815, 3) := by decide +kernel
theorem dL_law_593 : decode cL_law 593 = .ok (.iconst 0, 1) := by decide +kernel
theorem dL_law_594 : decode cL_law 594 = .ok (.ireturn, 1) := by decide +kernel
theorem dL_law_595 : decode cL_law 595 = .ok (.aload_n 1, 1) := by decide +kernel
theorem dL_law_596 : decode cL_law 596 = .ok (.aload_n 0, 1) := by decide +kernel
theorem dL_law_597 : decode cL_law 597 = .ok (.iload_n 3, 1) := by decide +kernel
theorem dL_law_598 : decode cL_law 598 = .ok (.iconst 1, 1) := by decide +kernel
theorem dL_law_599 : decode cL_law 599 = .ok (.iadd, 1) := by decide +kernel
theorem dL_law_600 : decode cL_law 600 = .ok (.iaload, 1) := by decide +kernel
theorem dL_law_601 : decode cL_law 601 = .ok (.aload_n 0, 1) := by decide +kernel
theorem dL_law_602 : decode cL_law 602 = .ok (.iload_n 3, 1) := by decide +kernel
theorem dL_law_603 : decode cL_law 603 = .ok (.iconst 2, 1) := by decide +kernel
theorem dL_law_604 : decode cL_law 604 = .ok (.iadd, 1) := by decide +kernel
theorem dL_law_605 : decode cL_law 605 = .ok (.iaload, 1) := by decide +kernel
theorem dL_law_606 : decode cL_law 606 = .ok (.invokevirtual 65, 3) := by decide +kernel
theorem dL_law_609 : decode cL_law 609 = .ok (.aload_n 2, 1) := by decide +kernel
theorem dL_law_610 : decode cL_law 610 = .ok (.aload_n 0, 1) := by decide +kernel
theorem dL_law_611 : decode cL_law 611 = .ok (.iload_n 3, 1) := by decide +kernel
theorem dL_law_612 : decode cL_law 612 = .ok (.iconst 1, 1) := by decide +kernel
theorem dL_law_613 : decode cL_law 613 = .ok (.iadd, 1) := by decide +kernel
theorem dL_law_614 : decode cL_law 614 = .ok (.iaload, 1) := by decide +kernel
theorem dL_law_615 : decode cL_law 615 = .ok (.aload_n 0, 1) := by decide +kernel
theorem dL_law_616 : decode cL_law 616 = .ok (.iload_n 3, 1) := by decide +kernel
theorem dL_law_617 : decode cL_law 617 = .ok (.iconst 2, 1) := by decide +kernel
theorem dL_law_618 : decode cL_law 618 = .ok (.iadd, 1) := by decide +kernel
theorem dL_law_619 : decode cL_law 619 = .ok (.iaload, 1) := by decide +kernel
theorem dL_law_620 : decode cL_law 620 = .ok (.invokevirtual 68, 3) := by decide +kernel
theorem dL_law_623 : decode cL_law 623 = .ok (.if_icmp .eq 782, 3) := by decide +kernel
theorem dL_law_626 : decode cL_law 626 = .ok (.iconst 0, 1) := by decide +kernel
theorem dL_law_627 : decode cL_law 627 = .ok (.ireturn, 1) := by decide +kernel
theorem dL_law_628 : decode cL_law 628 = .ok (.aload_n 1, 1) := by decide +kernel
theorem dL_law_629 : decode cL_law 629 = .ok (.aload_n 0, 1) := by decide +kernel
theorem dL_law_630 : decode cL_law 630 = .ok (.iload_n 3, 1) := by decide +kernel
theorem dL_law_631 : decode cL_law 631 = .ok (.iconst 1, 1) := by decide +kernel
theorem dL_law_632 : decode cL_law 632 = .ok (.iadd, 1) := by decide +kernel
theorem dL_law_633 : decode cL_law 633 = .ok (.iaload, 1) := by decide +kernel
theorem dL_law_634 : decode cL_law 634 = .ok (.invokevirtual 69, 3) := by decide +kernel
theorem dL_law_637 : decode cL_law 637 = .ok (.aload_n 2, 1) := by decide +kernel
theorem dL_law_638 : decode cL_law 638 = .ok (.aload_n 0, 1) := by decide +kernel
theorem dL_law_639 : decode cL_law 639 = .ok (.iload_n 3, 1) := by decide +kernel
theorem dL_law_640 : decode cL_law 640 = .ok (.iconst 1, 1) := by decide +kernel
theorem dL_law_641 : decode cL_law 641 = .ok (.iadd, 1) := by decide +kernel
theorem dL_law_642 : decode cL_law 642 = .ok (.iaload, 1) := by decide +kernel
theorem dL_law_643 : decode cL_law 643 = .ok (.invokevirtual 72, 3) := by decide +kernel
theorem dL_law_646 : decode cL_law 646 = .ok (.if_icmp .eq 759, 3) := by decide +kernel
theorem dL_law_649 : decode cL_law 649 = .ok (.iconst 0, 1) := by decide +kernel
theorem dL_law_650 : decode cL_law 650 = .ok (.ireturn, 1) := by decide +kernel
theorem dL_law_651 : decode cL_law 651 = .ok (.aload_n 1, 1) := by decide +kernel
theorem dL_law_652 : decode cL_law 652 = .ok (.aload_n 0, 1) := by decide +kernel
theorem dL_law_653 : decode cL_law 653 = .ok (.iload_n 3, 1) := by decide +kernel
theorem dL_law_654 : decode cL_law 654 = .ok (.iconst 1, 1) := by decide +kernel
theorem dL_law_655 : decode cL_law 655 = .ok (.iadd, 1) := by decide +kernel
theorem dL_law_656 : decode cL_law 656 = .ok (.iaload, 1) := by decide +kernel
theorem dL_law_657 : decode cL_law 657 = .ok (.aload_n 0, 1) := by decide +kernel
theorem dL_law_658 : decode cL_law 658 = .ok (.iload_n 3, 1) := by decide +kernel
theorem dL_law_659 : decode cL_law 659 = .ok (.iconst 2, 1) := by decide +kernel
theorem dL_law_660 : decode cL_law 660 = .ok (.iadd, 1) := by decide +kernel
theorem dL_law_661 : decode cL_law 661 = .ok (.iaload, 1) := by decide +kernel
theorem dL_law_662 : decode cL_law 662 = .ok (.aload_n 0, 1) := by decide +kernel
theorem dL_law_663 : decode cL_law 663 = .ok (.iload_n 3, 1) := by decide +kernel
theorem dL_law_664 : decode cL_law 664 = .ok (.iconst 3, 1) := by decide +kernel
theorem dL_law_665 : decode cL_law 665 = .ok (.iadd, 1) := by decide +kernel
theorem dL_law_666 : decode cL_law 666 = .ok (.iaload, 1) := by decide +kernel
theorem dL_law_667 : decode cL_law 667 = .ok (.invokevirtual 73, 3) := by decide +kernel
theorem dL_law_670 : decode cL_law 670 = .ok (.aload_n 2, 1) := by decide +kernel
theorem dL_law_671 : decode cL_law 671 = .ok (.aload_n 0, 1) := by decide +kernel
theorem dL_law_672 : decode cL_law 672 = .ok (.iload_n 3, 1) := by decide +kernel
theorem dL_law_673 : decode cL_law 673 = .ok (.iconst 1, 1) := by decide +kernel
theorem dL_law_674 : decode cL_law 674 = .ok (.iadd, 1) := by decide +kernel
theorem dL_law_675 : decode cL_law 675 = .ok (.iaload, 1) := by decide +kernel
theorem dL_law_676 : decode cL_law 676 = .ok (.aload_n 0, 1) := by decide +kernel
theorem dL_law_677 : decode cL_law 677 = .ok (.iload_n 3, 1) := by decide +kernel
theorem dL_law_678 : decode cL_law 678 = .ok (.iconst 2, 1) := by decide +kernel
theorem dL_law_679 : decode cL_law 679 = .ok (.iadd, 1) := by decide +kernel
theorem dL_law_680 : decode cL_law 680 = .ok (.iaload, 1) := by decide +kernel
theorem dL_law_681 : decode cL_law 681 = .ok (.aload_n 0, 1) := by decide +kernel
theorem dL_law_682 : decode cL_law 682 = .ok (.iload_n 3, 1) := by decide +kernel
theorem dL_law_683 : decode cL_law 683 = .ok (.iconst 3, 1) := by decide +kernel
theorem dL_law_684 : decode cL_law 684 = .ok (.iadd, 1) := by decide +kernel
theorem dL_law_685 : decode cL_law 685 = .ok (.iaload, 1) := by decide +kernel
theorem dL_law_686 : decode cL_law 686 = .ok (.invokevirtual 76, 3) := by decide +kernel
theorem dL_law_689 : decode cL_law 689 = .ok (.if_icmp .eq 716, 3) := by decide +kernel
theorem dL_law_692 : decode cL_law 692 = .ok (.iconst 0, 1) := by decide +kernel
theorem dL_law_693 : decode cL_law 693 = .ok (.ireturn, 1) := by decide +kernel
theorem dL_law_694 : decode cL_law 694 = .ok (.aload_n 1, 1) := by decide +kernel
theorem dL_law_695 : decode cL_law 695 = .ok (.aload_n 0, 1) := by decide +kernel
theorem dL_law_696 : decode cL_law 696 = .ok (.iload_n 3, 1) := by decide +kernel
theorem dL_law_697 : decode cL_law 697 = .ok (.iconst 1, 1) := by decide +kernel
theorem dL_law_698 : decode cL_law 698 = .ok (.iadd, 1) := by decide +kernel
theorem dL_law_699 : decode cL_law 699 = .ok (.iaload, 1) := by decide +kernel
theorem dL_law_700 : decode cL_law 700 = .ok (.aload_n 0, 1) := by decide +kernel
theorem dL_law_701 : decode cL_law 701 = .ok (.iload_n 3, 1) := by decide +kernel
theorem dL_law_702 : decode cL_law 702 = .ok (.iconst 2, 1) := by decide +kernel
theorem dL_law_703 : decode cL_law 703 = .ok (.iadd, 1) := by decide +kernel
theorem dL_law_704 : decode cL_law 704 = .ok (.iaload, 1) := by decide +kernel
theorem dL_law_705 : decode cL_law 705 = .ok (.aload_n 0, 1) := by decide +kernel
theorem dL_law_706 : decode cL_law 706 = .ok (.iload_n 3, 1) := by decide +kernel
theorem dL_law_707 : decode cL_law 707 = .ok (.iconst 3, 1) := by decide +kernel
theorem dL_law_708 : decode cL_law 708 = .ok (.iadd, 1) := by decide +kernel
theorem dL_law_709 : decode cL_law 709 = .ok (.iaload, 1) := by decide +kernel
theorem dL_law_710 : decode cL_law 710 = .ok (.invokevirtual 77, 3) := by decide +kernel
theorem dL_law_713 : decode cL_law 713 = .ok (.aload_n 2, 1) := by decide +kernel
theorem dL_law_714 : decode cL_law 714 = .ok (.aload_n 0, 1) := by decide +kernel
theorem dL_law_715 : decode cL_law 715 = .ok (.iload_n 3, 1) := by decide +kernel
theorem dL_law_716 : decode cL_law 716 = .ok (.iconst 1, 1) := by decide +kernel
theorem dL_law_717 : decode cL_law 717 = .ok (.iadd, 1) := by decide +kernel
theorem dL_law_718 : decode cL_law 718 = .ok (.iaload, 1) := by decide +kernel
theorem dL_law_719 : decode cL_law 719 = .ok (.aload_n 0, 1) := by decide +kernel
theorem dL_law_720 : decode cL_law 720 = .ok (.iload_n 3, 1) := by decide +kernel
theorem dL_law_721 : decode cL_law 721 = .ok (.iconst 2, 1) := by decide +kernel
theorem dL_law_722 : decode cL_law 722 = .ok (.iadd, 1) := by decide +kernel
theorem dL_law_723 : decode cL_law 723 = .ok (.iaload, 1) := by decide +kernel
theorem dL_law_724 : decode cL_law 724 = .ok (.aload_n 0, 1) := by decide +kernel
theorem dL_law_725 : decode cL_law 725 = .ok (.iload_n 3, 1) := by decide +kernel
theorem dL_law_726 : decode cL_law 726 = .ok (.iconst 3, 1) := by decide +kernel
theorem dL_law_727 : decode cL_law 727 = .ok (.iadd, 1) := by decide +kernel
theorem dL_law_728 : decode cL_law 728 = .ok (.iaload, 1) := by decide +kernel
theorem dL_law_729 : decode cL_law 729 = .ok (.invokevirtual 80, 3) := by decide +kernel
theorem dL_law_732 : decode cL_law 732 = .ok (.if_icmp .eq 673, 3) := by decide +kernel
theorem dL_law_735 : decode cL_law 735 = .ok (.iconst 0, 1) := by decide +kernel
theorem dL_law_736 : decode cL_law 736 = .ok (.ireturn, 1) := by decide +kernel
theorem dL_law_737 : decode cL_law 737 = .ok (.aload_n 1, 1) := by decide +kernel
theorem dL_law_738 : decode cL_law 738 = .ok (.aload_n 0, 1) := by decide +kernel
theorem dL_law_739 : decode cL_law 739 = .ok (.iload_n 3, 1) := by decide +kernel
theorem dL_law_740 : decode cL_law 740 = .ok (.iconst 1, 1) := by decide +kernel
theorem dL_law_741 : decode cL_law 741 = .ok (.iadd, 1) := by decide +kernel
theorem dL_law_742 : decode cL_law 742 = .ok (.iaload, 1) := by decide +kernel
theorem dL_law_743 : decode cL_law 743 = .ok (.aload_n 0, 1) := by decide +kernel
theorem dL_law_744 : decode cL_law 744 = .ok (.iload_n 3, 1) := by decide +kernel
theorem dL_law_745 : decode cL_law 745 = .ok (.iconst 2, 1) := by decide +kernel
theorem dL_law_746 : decode cL_law 746 = .ok (.iadd, 1) := by decide +kernel
theorem dL_law_747 : decode cL_law 747 = .ok (.iaload, 1) := by decide +kernel
theorem dL_law_748 : decode cL_law 748 = .ok (.invokevirtual 81, 3) := by decide +kernel
theorem dL_law_751 : decode cL_law 751 = .ok (.aload_n 2, 1) := by decide +kernel
theorem dL_law_752 : decode cL_law 752 = .ok (.aload_n 0, 1) := by decide +kernel
theorem dL_law_753 : decode cL_law 753 = .ok (.iload_n 3, 1) := by decide +kernel
theorem dL_law_754 : decode cL_law 754 = .ok (.iconst 1, 1) := by decide +kernel
theorem dL_law_755 : decode cL_law 755 = .ok (.iadd, 1) := by decide +kernel
theorem dL_law_756 : decode cL_law 756 = .ok (.iaload, 1) := by decide +kernel
theorem dL_law_757 : decode cL_law 757 = .ok (.aload_n 0, 1) := by decide +kernel
theorem dL_law_758 : decode cL_law 758 = .ok (.iload_n 3, 1) := by decide +kernel
theorem dL_law_759 : decode cL_law 759 = .ok (.iconst 2, 1) := by decide +kernel
theorem dL_law_760 : decode cL_law 760 = .ok (.iadd, 1) := by decide +kernel
theorem dL_law_761 : decode cL_law 761 = .ok (.iaload, 1) := by decide +kernel
theorem dL_law_762 : decode cL_law 762 = .ok (.invokevirtual 84, 3) := by decide +kernel
theorem dL_law_765 : decode cL_law 765 = .ok (.if_icmp .eq 640, 3) := by decide +kernel
theorem dL_law_768 : decode cL_law 768 = .ok (.iconst 0, 1) := by decide +kernel
theorem dL_law_769 : decode cL_law 769 = .ok (.ireturn, 1) := by decide +kernel
theorem dL_law_770 : decode cL_law 770 = .ok (.aload_n 1, 1) := by decide +kernel
theorem dL_law_771 : decode cL_law 771 = .ok (.aload_n 0, 1) := by decide +kernel
theorem dL_law_772 : decode cL_law 772 = .ok (.iload_n 3, 1) := by decide +kernel
theorem dL_law_773 : decode cL_law 773 = .ok (.iconst 1, 1) := by decide +kernel
theorem dL_law_774 : decode cL_law 774 = .ok (.iadd, 1) := by decide +kernel
theorem dL_law_775 : decode cL_law 775 = .ok (.iaload, 1) := by decide +kernel
theorem dL_law_776 : decode cL_law 776 = .ok (.aload_n 0, 1) := by decide +kernel
theorem dL_law_777 : decode cL_law 777 = .ok (.iload_n 3, 1) := by decide +kernel
theorem dL_law_778 : decode cL_law 778 = .ok (.iconst 2, 1) := by decide +kernel
theorem dL_law_779 : decode cL_law 779 = .ok (.iadd, 1) := by decide +kernel
theorem dL_law_780 : decode cL_law 780 = .ok (.iaload, 1) := by decide +kernel
theorem dL_law_781 : decode cL_law 781 = .ok (.aload_n 0, 1) := by decide +kernel
theorem dL_law_782 : decode cL_law 782 = .ok (.iload_n 3, 1) := by decide +kernel
theorem dL_law_783 : decode cL_law 783 = .ok (.iconst 3, 1) := by decide +kernel
theorem dL_law_784 : decode cL_law 784 = .ok (.iadd, 1) := by decide +kernel
theorem dL_law_785 : decode cL_law 785 = .ok (.iaload, 1) := by decide +kernel
theorem dL_law_786 : decode cL_law 786 = .ok (.aload_n 0, 1) := by decide +kernel
theorem dL_law_787 : decode cL_law 787 = .ok (.iload_n 3, 1) := by decide +kernel
theorem dL_law_788 : decode cL_law 788 = .ok (.iconst 4, 1) := by decide +kernel
theorem dL_law_789 : decode cL_law 789 = .ok (.iadd, 1) := by decide +kernel
theorem dL_law_790 : decode cL_law 790 = .ok (.iaload, 1) := by decide +kernel
theorem dL_law_791 : decode cL_law 791 = .ok (.aload_n 0, 1) := by decide +kernel
theorem dL_law_792 : decode cL_law 792 = .ok (.iload_n 3, 1) := by decide +kernel
theorem dL_law_793 : decode cL_law 793 = .ok (.iconst 5, 1) := by decide +kernel
theorem dL_law_794 : decode cL_law 794 = .ok (.iadd, 1) := by decide +kernel
theorem dL_law_795 : decode cL_law 795 = .ok (.iaload, 1) := by decide +kernel
theorem dL_law_796 : decode cL_law 796 = .ok (.invokevirtual 85, 3) := by decide +kernel
theorem dL_law_799 : decode cL_law 799 = .ok (.aload_n 2, 1) := by decide +kernel
theorem dL_law_800 : decode cL_law 800 = .ok (.aload_n 0, 1) := by decide +kernel
theorem dL_law_801 : decode cL_law 801 = .ok (.iload_n 3, 1) := by decide +kernel
theorem dL_law_802 : decode cL_law 802 = .ok (.iconst 1, 1) := by decide +kernel
theorem dL_law_803 : decode cL_law 803 = .ok (.iadd, 1) := by decide +kernel
theorem dL_law_804 : decode cL_law 804 = .ok (.iaload, 1) := by decide +kernel
theorem dL_law_805 : decode cL_law 805 = .ok (.aload_n 0, 1) := by decide +kernel
theorem dL_law_806 : decode cL_law 806 = .ok (.iload_n 3, 1) := by decide +kernel
theorem dL_law_807 : decode cL_law 807 = .ok (.iconst 2, 1) := by decide +kernel
theorem dL_law_808 : decode cL_law 808 = .ok (.iadd, 1) := by decide +kernel
theorem dL_law_809 : decode cL_law 809 = .ok (.iaload, 1) := by decide +kernel
theorem dL_law_810 : decode cL_law 810 = .ok (.aload_n 0, 1) := by decide +kernel
theorem dL_law_811 : decode cL_law 811 = .ok (.iload_n 3, 1) := by decide +kernel
theorem dL_law_812 : decode cL_law 812 = .ok (.iconst 3, 1) := by decide +kernel
theorem dL_law_813 : decode cL_law 813 = .ok (.iadd, 1) := by decide +kernel
theorem dL_law_814 : decode cL_law 814 = .ok (.iaload, 1) := by decide +kernel
theorem dL_law_815 : decode cL_law 815 = .ok (.aload_n 0, 1) := by decide +kernel
theorem dL_law_816 : decode cL_law 816 = .ok (.iload_n 3, 1) := by decide +kernel
theorem dL_law_817 : decode cL_law 817 = .ok (.iconst 4, 1) := by decide +kernel
theorem dL_law_818 : decode cL_law 818 = .ok (.iadd, 1) := by decide +kernel
theorem dL_law_819 : decode cL_law 819 = .ok (.iaload, 1) := by decide +kernel
theorem dL_law_820 : decode cL_law 820 = .ok (.aload_n 0, 1) := by decide +kernel
theorem dL_law_821 : decode cL_law 821 = .ok (.iload_n 3, 1) := by decide +kernel
theorem dL_law_822 : decode cL_law 822 = .ok (.iconst 5, 1) := by decide +kernel
theorem dL_law_823 : decode cL_law 823 = .ok (.iadd, 1) := by decide +kernel
theorem dL_law_824 : decode cL_law 824 = .ok (.iaload, 1) := by decide +kernel
theorem dL_law_825 : decode cL_law 825 = .ok (.invokevirtual 88, 3) := by decide +kernel
theorem dL_law_828 : decode cL_law 828 = .ok (.if_icmp .eq 577, 3) := by decide +kernel
theorem dL_law_831 : decode cL_law 831 = .ok (.iconst 0, 1) := by decide +kernel
theorem dL_law_832 : decode cL_law 832 = .ok (.ireturn, 1) := by decide +kernel
theorem dL_law_833 : decode cL_law 833 = .ok (.aload_n 1, 1) := by decide +kernel
theorem dL_law_834 : decode cL_law 834 = .ok (.aload_n 0, 1) := by decide +kernel
theorem dL_law_835 : decode cL_law 835 = .ok (.iload_n 3, 1) := by decide +kernel
theorem dL_law_836 : decode cL_law 836 = .ok (.iconst 1, 1) := by decide +kernel
theorem dL_law_837 : decode cL_law 837 = .ok (.iadd, 1) := by decide +kernel
theorem dL_law_838 : decode cL_law 838 = .ok (.iaload, 1) := by decide +kernel
theorem dL_law_839 : decode cL_law 839 = .ok (.aload_n 0, 1) := by decide +kernel
theorem dL_law_840 : decode cL_law 840 = .ok (.iload_n 3, 1) := by decide +kernel
theorem dL_law_841 : decode cL_law 841 = .ok (.iconst 2, 1) := by decide +kernel
theorem dL_law_842 : decode cL_law 842 = .ok (.iadd, 1) := by decide +kernel
theorem dL_law_843 : decode cL_law 843 = .ok (.iaload, 1) := by decide +kernel
theorem dL_law_844 : decode cL_law 844 = .ok (.aload_n 0, 1) := by decide +kernel
theorem dL_law_845 : decode cL_law 845 = .ok (.iload_n 3, 1) := by decide +kernel
theorem dL_law_846 : decode cL_law 846 = .ok (.iconst 3, 1) := by decide +kernel
theorem dL_law_847 : decode cL_law 847 = .ok (.iadd, 1) := by decide +kernel
theorem dL_law_848 : decode cL_law 848 = .ok (.iaload, 1) := by decide +kernel
theorem dL_law_849 : decode cL_law 849 = .ok (.aload_n 0, 1) := by decide +kernel
theorem dL_law_850 : decode cL_law 850 = .ok (.iload_n 3, 1) := by decide +kernel
theorem dL_law_851 : decode cL_law 851 = .ok (.iconst 4, 1) := by decide +kernel
theorem dL_law_852 : decode cL_law 852 = .ok (.iadd, 1) := by decide +kernel
theorem dL_law_853 : decode cL_law 853 = .ok (.iaload, 1) := by decide +kernel
theorem dL_law_854 : decode cL_law 854 = .ok (.invokevirtual 89, 3) := by decide +kernel
theorem dL_law_857 : decode cL_law 857 = .ok (.aload_n 2, 1) := by decide +kernel
theorem dL_law_858 : decode cL_law 858 = .ok (.aload_n 0, 1) := by decide +kernel
theorem dL_law_859 : decode cL_law 859 = .ok (.iload_n 3, 1) := by decide +kernel
theorem dL_law_860 : decode cL_law 860 = .ok (.iconst 1, 1) := by decide +kernel
theorem dL_law_861 : decode cL_law 861 = .ok (.iadd, 1) := by decide +kernel
theorem dL_law_862 : decode cL_law 862 = .ok (.iaload, 1) := by decide +kernel
theorem dL_law_863 : decode cL_law 863 = .ok (.aload_n 0, 1) := by decide +kernel
theorem dL_law_864 : decode cL_law 864 = .ok (.iload_n 3, 1) := by decide +kernel
theorem dL_law_865 : decode cL_law 865 = .ok (.iconst 2, 1) := by decide +kernel
theorem dL_law_866 : decode cL_law 866 = .ok (.iadd, 1) := by decide +kernel
theorem dL_law_867 : decode cL_law 867 = .ok (.iaload, 1) := by decide +kernel
theorem dL_law_868 : decode cL_law 868 = .ok (.aload_n 0, 1) := by decide +kernel
theorem dL_law_869 : decode cL_law 869 = .ok (.iload_n 3, 1) := by decide +kernel
theorem dL_law_870 : decode cL_law 870 = .ok (.iconst 3, 1) := by decide +kernel
theorem dL_law_871 : decode cL_law 871 = .ok (.iadd, 1) := by decide +kernel
theorem dL_law_872 : decode cL_law 872 = .ok (.iaload, 1) := by decide +kernel
theorem dL_law_873 : decode cL_law 873 = .ok (.aload_n 0, 1) := by decide +kernel
theorem dL_law_874 : decode cL_law 874 = .ok (.iload_n 3, 1) := by decide +kernel
theorem dL_law_875 : decode cL_law 875 = .ok (.iconst 4, 1) := by decide +kernel
theorem dL_law_876 : decode cL_law 876 = .ok (.iadd, 1) := by decide +kernel
theorem dL_law_877 : decode cL_law 877 = .ok (.iaload, 1) := by decide +kernel
theorem dL_law_878 : decode cL_law 878 = .ok (.invokevirtual 93, 3) := by decide +kernel
theorem dL_law_881 : decode cL_law 881 = .ok (.if_icmp .eq 524, 3) := by decide +kernel
theorem dL_law_884 : decode cL_law 884 = .ok (.iconst 0, 1) := by decide +kernel
theorem dL_law_885 : decode cL_law 885 = .ok (.ireturn, 1) := by decide +kernel
theorem dL_law_886 : decode cL_law 886 = .ok (.aload_n 1, 1) := by decide +kernel
theorem dL_law_887 : decode cL_law 887 = .ok (.aload_n 0, 1) := by decide +kernel
theorem dL_law_888 : decode cL_law 888 = .ok (.iload_n 3, 1) := by decide +kernel
theorem dL_law_889 : decode cL_law 889 = .ok (.iconst 1, 1) := by decide +kernel
theorem dL_law_890 : decode cL_law 890 = .ok (.iadd, 1) := by decide +kernel
theorem dL_law_891 : decode cL_law 891 = .ok (.iaload, 1) := by decide +kernel
theorem dL_law_892 : decode cL_law 892 = .ok (.aload_n 0, 1) := by decide +kernel
theorem dL_law_893 : decode cL_law 893 = .ok (.iload_n 3, 1) := by decide +kernel
theorem dL_law_894 : decode cL_law 894 = .ok (.iconst 2, 1) := by decide +kernel
theorem dL_law_895 : decode cL_law 895 = .ok (.iadd, 1) := by decide +kernel
theorem dL_law_896 : decode cL_law 896 = .ok (.iaload, 1) := by decide +kernel
theorem dL_law_897 : decode cL_law 897 = .ok (.aload_n 0, 1) := by decide +kernel
theorem dL_law_898 : decode cL_law 898 = .ok (.iload_n 3, 1) := by decide +kernel
theorem dL_law_899 : decode cL_law 899 = .ok (.iconst 3, 1) := by decide +kernel
theorem dL_law_900 : decode cL_law 900 = .ok (.iadd, 1) := by decide +kernel
theorem dL_law_901 : decode cL_law 901 = .ok (.iaload, 1) := by decide +kernel
theorem dL_law_902 : decode cL_law 902 = .ok (.invokevirtual 94, 3) := by decide +kernel
theorem dL_law_905 : decode cL_law 905 = .ok (.aload_n 2, 1) := by decide +kernel
theorem dL_law_906 : decode cL_law 906 = .ok (.aload_n 0, 1) := by decide +kernel
theorem dL_law_907 : decode cL_law 907 = .ok (.iload_n 3, 1) := by decide +kernel
theorem dL_law_908 : decode cL_law 908 = .ok (.iconst 1, 1) := by decide +kernel
theorem dL_law_909 : decode cL_law 909 = .ok (.iadd, 1) := by decide +kernel
theorem dL_law_910 : decode cL_law 910 = .ok (.iaload, 1) := by decide +kernel
theorem dL_law_911 : decode cL_law 911 = .ok (.aload_n 0, 1) := by decide +kernel
theorem dL_law_912 : decode cL_law 912 = .ok (.iload_n 3, 1) := by decide +kernel
theorem dL_law_913 : decode cL_law 913 = .ok (.iconst 2, 1) := by decide +kernel
theorem dL_law_914 : decode cL_law 914 = .ok (.iadd, 1) := by decide +kernel
theorem dL_law_915 : decode cL_law 915 = .ok (.iaload, 1) := by decide +kernel
theorem dL_law_916 : decode cL_law 916 = .ok (.aload_n 0, 1) := by decide +kernel
theorem dL_law_917 : decode cL_law 917 = .ok (.iload_n 3, 1) := by decide +kernel
theorem dL_law_918 : decode cL_law 918 = .ok (.iconst 3, 1) := by decide +kernel
theorem dL_law_919 : decode cL_law 919 = .ok (.iadd, 1) := by decide +kernel
theorem dL_law_920 : decode cL_law 920 = .ok (.iaload, 1) := by decide +kernel
theorem dL_law_921 : decode cL_law 921 = .ok (.invokevirtual 97, 3) := by decide +kernel
theorem dL_law_924 : decode cL_law 924 = .ok (.if_icmp .eq 481, 3) := by decide +kernel
theorem dL_law_927 : decode cL_law 927 = .ok (.iconst 0, 1) := by decide +kernel
theorem dL_law_928 : decode cL_law 928 = .ok (.ireturn, 1) := by decide +kernel
theorem dL_law_929 : decode cL_law 929 = .ok (.aload_n 1, 1) := by decide +kernel
theorem dL_law_930 : decode cL_law 930 = .ok (.aload_n 0, 1) := by decide +kernel
theorem dL_law_931 : decode cL_law 931 = .ok (.iload_n 3, 1) := by decide +kernel
theorem dL_law_932 : decode cL_law 932 = .ok (.iconst 1, 1) := by decide +kernel
theorem dL_law_933 : decode cL_law 933 = .ok (.iadd, 1) := by decide +kernel
theorem dL_law_934 : decode cL_law 934 = .ok (.iaload, 1) := by decide +kernel
theorem dL_law_935 : decode cL_law 935 = .ok (.aload_n 0, 1) := by decide +kernel
theorem dL_law_936 : decode cL_law 936 = .ok (.iload_n 3, 1) := by decide +kernel
theorem dL_law_937 : decode cL_law 937 = .ok (.iconst 2, 1) := by decide +kernel
theorem dL_law_938 : decode cL_law 938 = .ok (.iadd, 1) := by decide +kernel
theorem dL_law_939 : decode cL_law 939 = .ok (.iaload, 1) := by decide +kernel
theorem dL_law_940 : decode cL_law 940 = .ok (.invokevirtual 98, 3) := by decide +kernel
theorem dL_law_943 : decode cL_law 943 = .ok (.aload_n 2, 1) := by decide +kernel
theorem dL_law_944 : decode cL_law 944 = .ok (.aload_n 0, 1) := by decide +kernel
theorem dL_law_945 : decode cL_law 945 = .ok (.iload_n 3, 1) := by decide +kernel
theorem dL_law_946 : decode cL_law 946 = .ok (.iconst 1, 1) := by decide +kernel
theorem dL_law_947 : decode cL_law 947 = .ok (.iadd, 1) := by decide +kernel
theorem dL_law_948 : decode cL_law 948 = .ok (.iaload, 1) := by decide +kernel
theorem dL_law_949 : decode cL_law 949 = .ok (.aload_n 0, 1) := by decide +kernel
theorem dL_law_950 : decode cL_law 950 = .ok (.iload_n 3, 1) := by decide +kernel
theorem dL_law_951 : decode cL_law 951 = .ok (.iconst 2, 1) := by decide +kernel
theorem dL_law_952 : decode cL_law 952 = .ok (.iadd, 1) := by decide +kernel
theorem dL_law_953 : decode cL_law 953 = .ok (.iaload, 1) := by decide +kernel
theorem dL_law_954 : decode cL_law 954 = .ok (.invokevirtual 101, 3) := by decide +kernel
theorem dL_law_957 : decode cL_law 957 = .ok (.if_icmp .eq 448, 3) := by decide +kernel
theorem dL_law_960 : decode cL_law 960 = .ok (.iconst 0, 1) := by decide +kernel
theorem dL_law_961 : decode cL_law 961 = .ok (.ireturn, 1) := by decide +kernel
theorem dL_law_962 : decode cL_law 962 = .ok (.aload_n 1, 1) := by decide +kernel
theorem dL_law_963 : decode cL_law 963 = .ok (.aload_n 0, 1) := by decide +kernel
theorem dL_law_964 : decode cL_law 964 = .ok (.iload_n 3, 1) := by decide +kernel
theorem dL_law_965 : decode cL_law 965 = .ok (.iconst 1, 1) := by decide +kernel
theorem dL_law_966 : decode cL_law 966 = .ok (.iadd, 1) := by decide +kernel
theorem dL_law_967 : decode cL_law 967 = .ok (.iaload, 1) := by decide +kernel
theorem dL_law_968 : decode cL_law 968 = .ok (.aload_n 0, 1) := by decide +kernel
theorem dL_law_969 : decode cL_law 969 = .ok (.iload_n 3, 1) := by decide +kernel
theorem dL_law_970 : decode cL_law 970 = .ok (.iconst 2, 1) := by decide +kernel
theorem dL_law_971 : decode cL_law 971 = .ok (.iadd, 1) := by decide +kernel
theorem dL_law_972 : decode cL_law 972 = .ok (.iaload, 1) := by decide +kernel
theorem dL_law_973 : decode cL_law 973 = .ok (.aload_n 0, 1) := by decide +kernel
theorem dL_law_974 : decode cL_law 974 = .ok (.iload_n 3, 1) := by decide +kernel
theorem dL_law_975 : decode cL_law 975 = .ok (.iconst 3, 1) := by decide +kernel
theorem dL_law_976 : decode cL_law 976 = .ok (.iadd, 1) := by decide +kernel
theorem dL_law_977 : decode cL_law 977 = .ok (.iaload, 1) := by decide +kernel
theorem dL_law_978 : decode cL_law 978 = .ok (.invokevirtual 102, 3) := by decide +kernel
theorem dL_law_981 : decode cL_law 981 = .ok (.aload_n 2, 1) := by decide +kernel
theorem dL_law_982 : decode cL_law 982 = .ok (.aload_n 0, 1) := by decide +kernel
theorem dL_law_983 : decode cL_law 983 = .ok (.iload_n 3, 1) := by decide +kernel
theorem dL_law_984 : decode cL_law 984 = .ok (.iconst 1, 1) := by decide +kernel
theorem dL_law_985 : decode cL_law 985 = .ok (.iadd, 1) := by decide +kernel
theorem dL_law_986 : decode cL_law 986 = .ok (.iaload, 1) := by decide +kernel
theorem dL_law_987 : decode cL_law 987 = .ok (.aload_n 0, 1) := by decide +kernel
theorem dL_law_988 : decode cL_law 988 = .ok (.iload_n 3, 1) := by decide +kernel
theorem dL_law_989 : decode cL_law 989 = .ok (.iconst 2, 1) := by decide +kernel
theorem dL_law_990 : decode cL_law 990 = .ok (.iadd, 1) := by decide +kernel
theorem dL_law_991 : decode cL_law 991 = .ok (.iaload, 1) := by decide +kernel
theorem dL_law_992 : decode cL_law 992 = .ok (.aload_n 0, 1) := by decide +kernel
theorem dL_law_993 : decode cL_law 993 = .ok (.iload_n 3, 1) := by decide +kernel
theorem dL_law_994 : decode cL_law 994 = .ok (.iconst 3, 1) := by decide +kernel
theorem dL_law_995 : decode cL_law 995 = .ok (.iadd, 1) := by decide +kernel
theorem dL_law_996 : decode cL_law 996 = .ok (.iaload, 1) := by decide +kernel
theorem dL_law_997 : decode cL_law 997 = .ok (.invokevirtual 105, 3) := by decide +kernel
theorem dL_law_1000 : decode cL_law 1000 = .ok (.if_icmp .eq 405, 3) := by decide +kernel
theorem dL_law_1003 : decode cL_law 1003 = .ok (.iconst 0, 1) := by decide +kernel
theorem dL_law_1004 : decode cL_law 1004 = .ok (.ireturn, 1) := by decide +kernel
theorem dL_law_1005 : decode cL_law 1005 = .ok (.aload_n 1, 1) := by decide +kernel
theorem dL_law_1006 : decode cL_law 1006 = .ok (.aload_n 0, 1) := by decide +kernel
theorem dL_law_1007 : decode cL_law 1007 = .ok (.iload_n 3, 1) := by decide +kernel
theorem dL_law_1008 : decode cL_law 1008 = .ok (.iconst 1, 1) := by decide +kernel
theorem dL_law_1009 : decode cL_law 1009 = .ok (.iadd, 1) := by decide +kernel
theorem dL_law_1010 : decode cL_law 1010 = .ok (.iaload, 1) := by decide +kernel
theorem dL_law_1011 : decode cL_law 1011 = .ok (.invokevirtual 106, 3) := by decide +kernel
theorem dL_law_1014 : decode cL_law 1014 = .ok (.aload_n 2, 1) := by decide +kernel
theorem dL_law_1015 : decode cL_law 1015 = .ok (.aload_n 0, 1) := by decide +kernel
theorem dL_law_1016 : decode cL_law 1016 = .ok (.iload_n 3, 1) := by decide +kernel
theorem dL_law_1017 : decode cL_law 1017 = .ok (.iconst 1, 1) := by decide +kernel
theorem dL_law_1018 : decode cL_law 1018 = .ok (.iadd, 1) := by decide +kernel
theorem dL_law_1019 : decode cL_law 1019 = .ok (.iaload, 1) := by decide +kernel
theorem dL_law_1020 : decode cL_law 1020 = .ok (.invokevirtual 109, 3) := by decide +kernel
theorem dL_law_1023 : decode cL_law 1023 = .ok (.if_icmp .eq 382, 3) := by decide +kernel
theorem dL_law_1026 : decode cL_law 1026 = .ok (.iconst 0, 1) := by decide +kernel
theorem dL_law_1027 : decode cL_law 1027 = .ok (.ireturn, 1) := by decide +kernel
theorem dL_law_1028 : decode cL_law 1028 = .ok (.aload_n 1, 1) := by decide +kernel
theorem dL_law_1029 : decode cL_law 1029 = .ok (.aload_n 0, 1) := by decide +kernel
theorem dL_law_1030 : decode cL_law 1030 = .ok (.iload_n 3, 1) := by decide +kernel
theorem dL_law_1031 : decode cL_law 1031 = .ok (.iconst 1, 1) := by decide +kernel
theorem dL_law_1032 : decode cL_law 1032 = .ok (.iadd, 1) := by decide +kernel
theorem dL_law_1033 : decode cL_law 1033 = .ok (.iaload, 1) := by decide +kernel
theorem dL_law_1034 : decode cL_law 1034 = .ok (.aload_n 0, 1) := by decide +kernel
theorem dL_law_1035 : decode cL_law 1035 = .ok (.iload_n 3, 1) := by decide +kernel
theorem dL_law_1036 : decode cL_law 1036 = .ok (.iconst 2, 1) := by decide +kernel
theorem dL_law_1037 : decode cL_law 1037 = .ok (.iadd, 1) := by decide +kernel
theorem dL_law_1038 : decode cL_law 1038 = .ok (.iaload, 1) := by decide +kernel
theorem dL_law_1039 : decode cL_law 1039 = .ok (.aload_n 0, 1) := by decide +kernel
theorem dL_law_1040 : decode cL_law 1040 = .ok (.iload_n 3, 1) := by decide +kernel
theorem dL_law_1041 : decode cL_law 1041 = .ok (.iconst 3, 1) := by decide +kernel
theorem dL_law_1042 : decode cL_law 1042 = .ok (.iadd, 1) := by decide +kernel
theorem dL_law_1043 : decode cL_law 1043 = .ok (.iaload, 1) := by decide +kernel
theorem dL_law_1044 : decode cL_law 1044 = .ok (.invokevirtual 110, 3) := by decide +kernel
theorem dL_law_1047 : decode cL_law 1047 = .ok (.aload_n 2, 1) := by decide +kernel
theorem dL_law_1048 : decode cL_law 1048 = .ok (.aload_n 0, 1) := by decide +kernel
theorem dL_law_1049 : decode cL_law 1049 = .ok (.iload_n 3, 1) := by decide +kernel
theorem dL_law_1050 : decode cL_law 1050 = .ok (.iconst 1, 1) := by decide +kernel
theorem dL_law_1051 : decode cL_law 1051 = .ok (.iadd, 1) := by decide +kernel
theorem dL_law_1052 : decode cL_law 1052 = .ok (.iaload, 1) := by decide +kernel
theorem dL_law_1053 : decode cL_law 1053 = .ok (.aload_n 0, 1) := by decide +kernel
theorem dL_law_1054 : decode cL_law 1054 = .ok (.iload_n 3, 1) := by decide +kernel
theorem dL_law_1055 : decode cL_law 1055 = .ok (.iconst 2, 1) := by decide +kernel
theorem dL_law_1056 : decode cL_law 1056 = .ok (.iadd, 1) := by decide +kernel
theorem dL_law_1057 : decode cL_law 1057 = .ok (.iaload, 1) := by decide +kernel
theorem dL_law_1058 : decode cL_law 1058 = .ok (.aload_n 0, 1) := by decide +kernel
theorem dL_law_1059 : decode cL_law 1059 = .ok (.iload_n 3, 1) := by decide +kernel
theorem dL_law_1060 : decode cL_law 1060 = .ok (.iconst 3, 1) := by decide +kernel
theorem dL_law_1061 : decode cL_law 1061 = .ok (.iadd, 1) := by decide +kernel
theorem dL_law_1062 : decode cL_law 1062 = .ok (.iaload, 1) := by decide +kernel
theorem dL_law_1063 : decode cL_law 1063 = .ok (.invokevirtual 113, 3) := by decide +kernel
theorem dL_law_1066 : decode cL_law 1066 = .ok (.if_icmp .eq 339, 3) := by decide +kernel
theorem dL_law_1069 : decode cL_law 1069 = .ok (.iconst 0, 1) := by decide +kernel
theorem dL_law_1070 : decode cL_law 1070 = .ok (.ireturn, 1) := by decide +kernel
theorem dL_law_1071 : decode cL_law 1071 = .ok (.aload_n 1, 1) := by decide +kernel
theorem dL_law_1072 : decode cL_law 1072 = .ok (.aload_n 0, 1) := by decide +kernel
theorem dL_law_1073 : decode cL_law 1073 = .ok (.iload_n 3, 1) := by decide +kernel
theorem dL_law_1074 : decode cL_law 1074 = .ok (.iconst 1, 1) := by decide +kernel
theorem dL_law_1075 : decode cL_law 1075 = .ok (.iadd, 1) := by decide +kernel
theorem dL_law_1076 : decode cL_law 1076 = .ok (.iaload, 1) := by decide +kernel
theorem dL_law_1077 : decode cL_law 1077 = .ok (.invokevirtual 114, 3) := by decide +kernel
theorem dL_law_1080 : decode cL_law 1080 = .ok (.aload_n 2, 1) := by decide +kernel
theorem dL_law_1081 : decode cL_law 1081 = .ok (.aload_n 0, 1) := by decide +kernel
theorem dL_law_1082 : decode cL_law 1082 = .ok (.iload_n 3, 1) := by decide +kernel
theorem dL_law_1083 : decode cL_law 1083 = .ok (.iconst 1, 1) := by decide +kernel
theorem dL_law_1084 : decode cL_law 1084 = .ok (.iadd, 1) := by decide +kernel
theorem dL_law_1085 : decode cL_law 1085 = .ok (.iaload, 1) := by decide +kernel
theorem dL_law_1086 : decode cL_law 1086 = .ok (.invokevirtual 117, 3) := by decide +kernel
theorem dL_law_1089 : decode cL_law 1089 = .ok (.if_icmp .eq 316, 3) := by decide +kernel
theorem dL_law_1092 : decode cL_law 1092 = .ok (.iconst 0, 1) := by decide +kernel
theorem dL_law_1093 : decode cL_law 1093 = .ok (.ireturn, 1) := by decide +kernel
theorem dL_law_1094 : decode cL_law 1094 = .ok (.aload_n 1, 1) := by decide +kernel
theorem dL_law_1095 : decode cL_law 1095 = .ok (.aload_n 0, 1) := by decide +kernel
theorem dL_law_1096 : decode cL_law 1096 = .ok (.iload_n 3, 1) := by decide +kernel
theorem dL_law_1097 : decode cL_law 1097 = .ok (.iconst 1, 1) := by decide +kernel
theorem dL_law_1098 : decode cL_law 1098 = .ok (.iadd, 1) := by decide +kernel
theorem dL_law_1099 : decode cL_law 1099 = .ok (.iaload, 1) := by decide +kernel
theorem dL_law_1100 : decode cL_law 1100 = .ok (.invokevirtual 118, 3) := by decide +kernel
theorem dL_law_1103 : decode cL_law 1103 = .ok (.aload_n 2, 1) := by decide +kernel
theorem dL_law_1104 : decode cL_law 1104 = .ok (.aload_n 0, 1) := by decide +kernel
theorem dL_law_1105 : decode cL_law 1105 = .ok (.iload_n 3, 1) := by decide +kernel
theorem dL_law_1106 : decode cL_law 1106 = .ok (.iconst 1, 1) := by decide +kernel
theorem dL_law_1107 : decode cL_law 1107 = .ok (.iadd, 1) := by decide +kernel
theorem dL_law_1108 : decode cL_law 1108 = .ok (.iaload, 1) := by decide +kernel
theorem dL_law_1109 : decode cL_law 1109 = .ok (.invokevirtual 121, 3) := by decide +kernel
theorem dL_law_1112 : decode cL_law 1112 = .ok (.if_icmp .eq 293, 3) := by decide +kernel
theorem dL_law_1115 : decode cL_law 1115 = .ok (.iconst 0, 1) := by decide +kernel
theorem dL_law_1116 : decode cL_law 1116 = .ok (.ireturn, 1) := by decide +kernel
theorem dL_law_1117 : decode cL_law 1117 = .ok (.aload_n 1, 1) := by decide +kernel
theorem dL_law_1118 : decode cL_law 1118 = .ok (.aload_n 0, 1) := by decide +kernel
theorem dL_law_1119 : decode cL_law 1119 = .ok (.iload_n 3, 1) := by decide +kernel
theorem dL_law_1120 : decode cL_law 1120 = .ok (.iconst 1, 1) := by decide +kernel
theorem dL_law_1121 : decode cL_law 1121 = .ok (.iadd, 1) := by decide +kernel
theorem dL_law_1122 : decode cL_law 1122 = .ok (.iaload, 1) := by decide +kernel
theorem dL_law_1123 : decode cL_law 1123 = .ok (.aload_n 0, 1) := by decide +kernel
theorem dL_law_1124 : decode cL_law 1124 = .ok (.iload_n 3, 1) := by decide +kernel
theorem dL_law_1125 : decode cL_law 1125 = .ok (.iconst 2, 1) := by decide +kernel
theorem dL_law_1126 : decode cL_law 1126 = .ok (.iadd, 1) := by decide +kernel
theorem dL_law_1127 : decode cL_law 1127 = .ok (.iaload, 1) := by decide +kernel
theorem dL_law_1128 : decode cL_law 1128 = .ok (.aload_n 0, 1) := by decide +kernel
theorem dL_law_1129 : decode cL_law 1129 = .ok (.iload_n 3, 1) := by decide +kernel
theorem dL_law_1130 : decode cL_law 1130 = .ok (.iconst 3, 1) := by decide +kernel
theorem dL_law_1131 : decode cL_law 1131 = .ok (.iadd, 1) := by decide +kernel
theorem dL_law_1132 : decode cL_law 1132 = .ok (.iaload, 1) := by decide +kernel
theorem dL_law_1133 : decode cL_law 1133 = .ok (.aload_n 0, 1) := by decide +kernel
theorem dL_law_1134 : decode cL_law 1134 = .ok (.iload_n 3, 1) := by decide +kernel
theorem dL_law_1135 : decode cL_law 1135 = .ok (.iconst 4, 1) := by decide +kernel
theorem dL_law_1136 : decode cL_law 1136 = .ok (.iadd, 1) := by decide +kernel
theorem dL_law_1137 : decode cL_law 1137 = .ok (.iaload, 1) := by decide +kernel
theorem dL_law_1138 : decode cL_law 1138 = .ok (.invokevirtual 122, 3) := by decide +kernel
theorem dL_law_1141 : decode cL_law 1141 = .ok (.aload_n 2, 1) := by decide +kernel
theorem dL_law_1142 : decode cL_law 1142 = .ok (.aload_n 0, 1) := by decide +kernel
theorem dL_law_1143 : decode cL_law 1143 = .ok (.iload_n 3, 1) := by decide +kernel
theorem dL_law_1144 : decode cL_law 1144 = .ok (.iconst 1, 1) := by decide +kernel
theorem dL_law_1145 : decode cL_law 1145 = .ok (.iadd, 1) := by decide +kernel
theorem dL_law_1146 : decode cL_law 1146 = .ok (.iaload, 1) := by decide +kernel
theorem dL_law_1147 : decode cL_law 1147 = .ok (.aload_n 0, 1) := by decide +kernel
theorem dL_law_1148 : decode cL_law 1148 = .ok (.iload_n 3, 1) := by decide +kernel
theorem dL_law_1149 : decode cL_law 1149 = .ok (.iconst 2, 1) := by decide +kernel
theorem dL_law_1150 : decode cL_law 1150 = .ok (.iadd, 1) := by decide +kernel
theorem dL_law_1151 : decode cL_law 1151 = .ok (.iaload, 1) := by decide +kernel
theorem dL_law_1152 : decode cL_law 1152 = .ok (.aload_n 0, 1) := by decide +kernel
theorem dL_law_1153 : decode cL_law 1153 = .ok (.iload_n 3, 1) := by decide +kernel
theorem dL_law_1154 : decode cL_law 1154 = .ok (.iconst 3, 1) := by decide +kernel
theorem dL_law_1155 : decode cL_law 1155 = .ok (.iadd, 1) := by decide +kernel
theorem dL_law_1156 : decode cL_law 1156 = .ok (.iaload, 1) := by decide +kernel
theorem dL_law_1157 : decode cL_law 1157 = .ok (.aload_n 0, 1) := by decide +kernel
theorem dL_law_1158 : decode cL_law 1158 = .ok (.iload_n 3, 1) := by decide +kernel
theorem dL_law_1159 : decode cL_law 1159 = .ok (.iconst 4, 1) := by decide +kernel
theorem dL_law_1160 : decode cL_law 1160 = .ok (.iadd, 1) := by decide +kernel
theorem dL_law_1161 : decode cL_law 1161 = .ok (.iaload, 1) := by decide +kernel
theorem dL_law_1162 : decode cL_law 1162 = .ok (.invokevirtual 126, 3) := by decide +kernel
theorem dL_law_1165 : decode cL_law 1165 = .ok (.lcmp, 1) := by decide +kernel
theorem dL_law_1166 : decode cL_law 1166 = .ok (.ifCond .eq 239, 3) := by decide +kernel
theorem dL_law_1169 : decode cL_law 1169 = .ok (.iconst 0, 1) := by decide +kernel
theorem dL_law_1170 : decode cL_law 1170 = .ok (.ireturn, 1) := by decide +kernel
theorem dL_law_1171 : decode cL_law 1171 = .ok (.aload_n 1, 1) := by decide +kernel
theorem dL_law_1172 : decode cL_law 1172 = .ok (.aload_n 0, 1) := by decide +kernel
theorem dL_law_1173 : decode cL_law 1173 = .ok (.iload_n 3, 1) := by decide +kernel
theorem dL_law_1174 : decode cL_law 1174 = .ok (.iconst 1, 1) := by decide +kernel
theorem dL_law_1175 : decode cL_law 1175 = .ok (.iadd, 1) := by decide +kernel
theorem dL_law_1176 : decode cL_law 1176 = .ok (.iaload, 1) := by decide +kernel
theorem dL_law_1177 : decode cL_law 1177 = .ok (.aload_n 0, 1) := by decide +kernel
theorem dL_law_1178 : decode cL_law 1178 = .ok (.iload_n 3, 1) := by decide +kernel
theorem dL_law_1179 : decode cL_law 1179 = .ok (.iconst 2, 1) := by decide +kernel
theorem dL_law_1180 : decode cL_law 1180 = .ok (.iadd, 1) := by decide +kernel
theorem dL_law_1181 : decode cL_law 1181 = .ok (.iaload, 1) := by decide +kernel
theorem dL_law_1182 : decode cL_law 1182 = .ok (.aload_n 0, 1) := by decide +kernel
theorem dL_law_1183 : decode cL_law 1183 = .ok (.iload_n 3, 1) := by decide +kernel
theorem dL_law_1184 : decode cL_law 1184 = .ok (.iconst 3, 1) := by decide +kernel
theorem dL_law_1185 : decode cL_law 1185 = .ok (.iadd, 1) := by decide +kernel
theorem dL_law_1186 : decode cL_law 1186 = .ok (.iaload, 1) := by decide +kernel
theorem dL_law_1187 : decode cL_law 1187 = .ok (.aload_n 0, 1) := by decide +kernel
theorem dL_law_1188 : decode cL_law 1188 = .ok (.iload_n 3, 1) := by decide +kernel
theorem dL_law_1189 : decode cL_law 1189 = .ok (.iconst 4, 1) := by decide +kernel
theorem dL_law_1190 : decode cL_law 1190 = .ok (.iadd, 1) := by decide +kernel
theorem dL_law_1191 : decode cL_law 1191 = .ok (.iaload, 1) := by decide +kernel
theorem dL_law_1192 : decode cL_law 1192 = .ok (.aload_n 0, 1) := by decide +kernel
theorem dL_law_1193 : decode cL_law 1193 = .ok (.iload_n 3, 1) := by decide +kernel
theorem dL_law_1194 : decode cL_law 1194 = .ok (.iconst 5, 1) := by decide +kernel
theorem dL_law_1195 : decode cL_law 1195 = .ok (.iadd, 1) := by decide +kernel
theorem dL_law_1196 : decode cL_law 1196 = .ok (.iaload, 1) := by decide +kernel
theorem dL_law_1197 : decode cL_law 1197 = .ok (.aload_n 0, 1) := by decide +kernel
theorem dL_law_1198 : decode cL_law 1198 = .ok (.iload_n 3, 1) := by decide +kernel
theorem dL_law_1199 : decode cL_law 1199 = .ok (.bipush 6, 2) := by decide +kernel
theorem dL_law_1201 : decode cL_law 1201 = .ok (.iadd, 1) := by decide +kernel
theorem dL_law_1202 : decode cL_law 1202 = .ok (.iaload, 1) := by decide +kernel
theorem dL_law_1203 : decode cL_law 1203 = .ok (.invokevirtual 127, 3) := by decide +kernel
theorem dL_law_1206 : decode cL_law 1206 = .ok (.aload_n 2, 1) := by decide +kernel
theorem dL_law_1207 : decode cL_law 1207 = .ok (.aload_n 0, 1) := by decide +kernel
theorem dL_law_1208 : decode cL_law 1208 = .ok (.iload_n 3, 1) := by decide +kernel
theorem dL_law_1209 : decode cL_law 1209 = .ok (.iconst 1, 1) := by decide +kernel
theorem dL_law_1210 : decode cL_law 1210 = .ok (.iadd, 1) := by decide +kernel
theorem dL_law_1211 : decode cL_law 1211 = .ok (.iaload, 1) := by decide +kernel
theorem dL_law_1212 : decode cL_law 1212 = .ok (.aload_n 0, 1) := by decide +kernel
theorem dL_law_1213 : decode cL_law 1213 = .ok (.iload_n 3, 1) := by decide +kernel
theorem dL_law_1214 : decode cL_law 1214 = .ok (.iconst 2, 1) := by decide +kernel
theorem dL_law_1215 : decode cL_law 1215 = .ok (.iadd, 1) := by decide +kernel
theorem dL_law_1216 : decode cL_law 1216 = .ok (.iaload, 1) := by decide +kernel
theorem dL_law_1217 : decode cL_law 1217 = .ok (.aload_n 0, 1) := by decide +kernel
theorem dL_law_1218 : decode cL_law 1218 = .ok (.iload_n 3, 1) := by decide +kernel
theorem dL_law_1219 : decode cL_law 1219 = .ok (.iconst 3, 1) := by decide +kernel
theorem dL_law_1220 : decode cL_law 1220 = .ok (.iadd, 1) := by decide +kernel
theorem dL_law_1221 : decode cL_law 1221 = .ok (.iaload, 1) := by decide +kernel
theorem dL_law_1222 : decode cL_law 1222 = .ok (.aload_n 0, 1) := by decide +kernel
theorem dL_law_1223 : decode cL_law 1223 = .ok (.iload_n 3, 1) := by decide +kernel
theorem dL_law_1224 : decode cL_law 1224 = .ok (.iconst 4, 1) := by decide +kernel
theorem dL_law_1225 : decode cL_law 1225 = .ok (.iadd, 1) := by decide +kernel
theorem dL_law_1226 : decode cL_law 1226 = .ok (.iaload, 1) := by decide +kernel
theorem dL_law_1227 : decode cL_law 1227 = .ok (.aload_n 0, 1) := by decide +kernel
theorem dL_law_1228 : decode cL_law 1228 = .ok (.iload_n 3, 1) := by decide +kernel
theorem dL_law_1229 : decode cL_law 1229 = .ok (.iconst 5, 1) := by decide +kernel
theorem dL_law_1230 : decode cL_law 1230 = .ok (.iadd, 1) := by decide +kernel
theorem dL_law_1231 : decode cL_law 1231 = .ok (.iaload, 1) := by decide +kernel
theorem dL_law_1232 : decode cL_law 1232 = .ok (.aload_n 0, 1) := by decide +kernel
theorem dL_law_1233 : decode cL_law 1233 = .ok (.iload_n 3, 1) := by decide +kernel
theorem dL_law_1234 : decode cL_law 1234 = .ok (.bipush 6, 2) := by decide +kernel
theorem dL_law_1236 : decode cL_law 1236 = .ok (.iadd, 1) := by decide +kernel
theorem dL_law_1237 : decode cL_law 1237 = .ok (.iaload, 1) := by decide +kernel
theorem dL_law_1238 : decode cL_law 1238 = .ok (.invokevirtual 131, 3) := by decide +kernel
theorem dL_law_1241 : decode cL_law 1241 = .ok (.lcmp, 1) := by decide +kernel
theorem dL_law_1242 : decode cL_law 1242 = .ok (.ifCond .eq 163, 3) := by decide +kernel
theorem dL_law_1245 : decode cL_law 1245 = .ok (.iconst 0, 1) := by decide +kernel
theorem dL_law_1246 : decode cL_law 1246 = .ok (.ireturn, 1) := by decide +kernel
theorem dL_law_1247 : decode cL_law 1247 = .ok (.aload_n 1, 1) := by decide +kernel
theorem dL_law_1248 : decode cL_law 1248 = .ok (.aload_n 0, 1) := by decide +kernel
theorem dL_law_1249 : decode cL_law 1249 = .ok (.iload_n 3, 1) := by decide +kernel
theorem dL_law_1250 : decode cL_law 1250 = .ok (.iconst 1, 1) := by decide +kernel
theorem dL_law_1251 : decode cL_law 1251 = .ok (.iadd, 1) := by decide +kernel
theorem dL_law_1252 : decode cL_law 1252 = .ok (.iaload, 1) := by decide +kernel
theorem dL_law_1253 : decode cL_law 1253 = .ok (.invokevirtual 132, 3) := by decide +kernel
theorem dL_law_1256 : decode cL_law 1256 = .ok (.aload_n 2, 1) := by decide +kernel
theorem dL_law_1257 : decode cL_law 1257 = .ok (.aload_n 0, 1) := by decide +kernel
theorem dL_law_1258 : decode cL_law 1258 = .ok (.iload_n 3, 1) := by decide +kernel
theorem dL_law_1259 : decode cL_law 1259 = .ok (.iconst 1, 1) := by decide +kernel
theorem dL_law_1260 : decode cL_law 1260 = .ok (.iadd, 1) := by decide +kernel
theorem dL_law_1261 : decode cL_law 1261 = .ok (.iaload, 1) := by decide +kernel
theorem dL_law_1262 : decode cL_law 1262 = .ok (.invokevirtual 135, 3) := by decide +kernel
theorem dL_law_1265 : decode cL_law 1265 = .ok (.if_icmp .eq 140, 3) := by decide +kernel
theorem dL_law_1268 : decode cL_law 1268 = .ok (.iconst 0, 1) := by decide +kernel
theorem dL_law_1269 : decode cL_law 1269 = .ok (.ireturn, 1) := by decide +kernel
theorem dL_law_1270 : decode cL_law 1270 = .ok (.aload_n 1, 1) := by decide +kernel
theorem dL_law_1271 : decode cL_law 1271 = .ok (.aload_n 0, 1) := by decide +kernel
theorem dL_law_1272 : decode cL_law 1272 = .ok (.iload_n 3, 1) := by decide +kernel
theorem dL_law_1273 : decode cL_law 1273 = .ok (.iconst 1, 1) := by decide +kernel
theorem dL_law_1274 : decode cL_law 1274 = .ok (.iadd, 1) := by decide +kernel
theorem dL_law_1275 : decode cL_law 1275 = .ok (.iaload, 1) := by decide +kernel
theorem dL_law_1276 : decode cL_law 1276 = .ok (.aload_n 0, 1) := by decide +kernel
theorem dL_law_1277 : decode cL_law 1277 = .ok (.iload_n 3, 1) := by decide +kernel
theorem dL_law_1278 : decode cL_law 1278 = .ok (.iconst 2, 1) := by decide +kernel
theorem dL_law_1279 : decode cL_law 1279 = .ok (.iadd, 1) := by decide +kernel
theorem dL_law_1280 : decode cL_law 1280 = .ok (.iaload, 1) := by decide +kernel
theorem dL_law_1281 : decode cL_law 1281 = .ok (.invokevirtual 136, 3) := by decide +kernel
theorem dL_law_1284 : decode cL_law 1284 = .ok (.aload_n 2, 1) := by decide +kernel
theorem dL_law_1285 : decode cL_law 1285 = .ok (.aload_n 0, 1) := by decide +kernel
theorem dL_law_1286 : decode cL_law 1286 = .ok (.iload_n 3, 1) := by decide +kernel
theorem dL_law_1287 : decode cL_law 1287 = .ok (.iconst 1, 1) := by decide +kernel
theorem dL_law_1288 : decode cL_law 1288 = .ok (.iadd, 1) := by decide +kernel
theorem dL_law_1289 : decode cL_law 1289 = .ok (.iaload, 1) := by decide +kernel
theorem dL_law_1290 : decode cL_law 1290 = .ok (.aload_n 0, 1) := by decide +kernel
theorem dL_law_1291 : decode cL_law 1291 = .ok (.iload_n 3, 1) := by decide +kernel
theorem dL_law_1292 : decode cL_law 1292 = .ok (.iconst 2, 1) := by decide +kernel
theorem dL_law_1293 : decode cL_law 1293 = .ok (.iadd, 1) := by decide +kernel
theorem dL_law_1294 : decode cL_law 1294 = .ok (.iaload, 1) := by decide +kernel
theorem dL_law_1295 : decode cL_law 1295 = .ok (.invokevirtual 139, 3) := by decide +kernel
theorem dL_law_1298 : decode cL_law 1298 = .ok (.if_icmp .eq 107, 3) := by decide +kernel
theorem dL_law_1301 : decode cL_law 1301 = .ok (.iconst 0, 1) := by decide +kernel
theorem dL_law_1302 : decode cL_law 1302 = .ok (.ireturn, 1) := by decide +kernel
theorem dL_law_1303 : decode cL_law 1303 = .ok (.aload_n 1, 1) := by decide +kernel
theorem dL_law_1304 : decode cL_law 1304 = .ok (.aload_n 0, 1) := by decide +kernel
theorem dL_law_1305 : decode cL_law 1305 = .ok (.iload_n 3, 1) := by decide +kernel
theorem dL_law_1306 : decode cL_law 1306 = .ok (.iconst 1, 1) := by decide +kernel
theorem dL_law_1307 : decode cL_law 1307 = .ok (.iadd, 1) := by decide +kernel
theorem dL_law_1308 : decode cL_law 1308 = .ok (.iaload, 1) := by decide +kernel
theorem dL_law_1309 : decode cL_law 1309 = .ok (.aload_n 0, 1) := by decide +kernel
theorem dL_law_1310 : decode cL_law 1310 = .ok (.iload_n 3, 1) := by decide +kernel
theorem dL_law_1311 : decode cL_law 1311 = .ok (.iconst 2, 1) := by decide +kernel
theorem dL_law_1312 : decode cL_law 1312 = .ok (.iadd, 1) := by decide +kernel
theorem dL_law_1313 : decode cL_law 1313 = .ok (.iaload, 1) := by decide +kernel
theorem dL_law_1314 : decode cL_law 1314 = .ok (.invokevirtual 140, 3) := by decide +kernel
theorem dL_law_1317 : decode cL_law 1317 = .ok (.aload_n 2, 1) := by decide +kernel
theorem dL_law_1318 : decode cL_law 1318 = .ok (.aload_n 0, 1) := by decide +kernel
theorem dL_law_1319 : decode cL_law 1319 = .ok (.iload_n 3, 1) := by decide +kernel
theorem dL_law_1320 : decode cL_law 1320 = .ok (.iconst 1, 1) := by decide +kernel
theorem dL_law_1321 : decode cL_law 1321 = .ok (.iadd, 1) := by decide +kernel
theorem dL_law_1322 : decode cL_law 1322 = .ok (.iaload, 1) := by decide +kernel
theorem dL_law_1323 : decode cL_law 1323 = .ok (.aload_n 0, 1) := by decide +kernel
theorem dL_law_1324 : decode cL_law 1324 = .ok (.iload_n 3, 1) := by decide +kernel
theorem dL_law_1325 : decode cL_law 1325 = .ok (.iconst 2, 1) := by decide +kernel
theorem dL_law_1326 : decode cL_law 1326 = .ok (.iadd, 1) := by decide +kernel
theorem dL_law_1327 : decode cL_law 1327 = .ok (.iaload, 1) := by decide +kernel
theorem dL_law_1328 : decode cL_law 1328 = .ok (.invokevirtual 143, 3) := by decide +kernel
theorem dL_law_1331 : decode cL_law 1331 = .ok (.if_icmp .eq 74, 3) := by decide +kernel
theorem dL_law_1334 : decode cL_law 1334 = .ok (.iconst 0, 1) := by decide +kernel
theorem dL_law_1335 : decode cL_law 1335 = .ok (.ireturn, 1) := by decide +kernel
theorem dL_law_1336 : decode cL_law 1336 = .ok (.aload_n 1, 1) := by decide +kernel
theorem dL_law_1337 : decode cL_law 1337 = .ok (.aload_n 0, 1) := by decide +kernel
theorem dL_law_1338 : decode cL_law 1338 = .ok (.iload_n 3, 1) := by decide +kernel
theorem dL_law_1339 : decode cL_law 1339 = .ok (.iconst 1, 1) := by decide +kernel
theorem dL_law_1340 : decode cL_law 1340 = .ok (.iadd, 1) := by decide +kernel
theorem dL_law_1341 : decode cL_law 1341 = .ok (.iaload, 1) := by decide +kernel
theorem dL_law_1342 : decode cL_law 1342 = .ok (.invokevirtual 144, 3) := by decide +kernel
theorem dL_law_1345 : decode cL_law 1345 = .ok (.aload_n 2, 1) := by decide +kernel
theorem dL_law_1346 : decode cL_law 1346 = .ok (.aload_n 0, 1) := by decide +kernel
theorem dL_law_1347 : decode cL_law 1347 = .ok (.iload_n 3, 1) := by decide +kernel
theorem dL_law_1348 : decode cL_law 1348 = .ok (.iconst 1, 1) := by decide +kernel
theorem dL_law_1349 : decode cL_law 1349 = .ok (.iadd, 1) := by decide +kernel
theorem dL_law_1350 : decode cL_law 1350 = .ok (.iaload, 1) := by decide +kernel
theorem dL_law_1351 : decode cL_law 1351 = .ok (.invokevirtual 147, 3) := by decide +kernel
theorem dL_law_1354 : decode cL_law 1354 = .ok (.if_icmp .eq 51, 3) := by decide +kernel
theorem dL_law_1357 : decode cL_law 1357 = .ok (.iconst 0, 1) := by decide +kernel
theorem dL_law_1358 : decode cL_law 1358 = .ok (.ireturn, 1) := by decide +kernel
theorem dL_law_1359 : decode cL_law 1359 = .ok (.aload_n 1, 1) := by decide +kernel
theorem dL_law_1360 : decode cL_law 1360 = .ok (.aload_n 0, 1) := by decide +kernel
theorem dL_law_1361 : decode cL_law 1361 = .ok (.iload_n 3, 1) := by decide +kernel
theorem dL_law_1362 : decode cL_law 1362 = .ok (.iconst 1, 1) := by decide +kernel
theorem dL_law_1363 : decode cL_law 1363 = .ok (.iadd, 1) := by decide +kernel
theorem dL_law_1364 : decode cL_law 1364 = .ok (.iaload, 1) := by decide +kernel
theorem dL_law_1365 : decode cL_law 1365 = .ok (.aload_n 0, 1) := by decide +kernel
theorem dL_law_1366 : decode cL_law 1366 = .ok (.iload_n 3, 1) := by decide +kernel
theorem dL_law_1367 : decode cL_law 1367 = .ok (.iconst 2, 1) := by decide +kernel
theorem dL_law_1368 : decode cL_law 1368 = .ok (.iadd, 1) := by decide +kernel
theorem dL_law_1369 : decode cL_law 1369 = .ok (.iaload, 1) := by decide +kernel
theorem dL_law_1370 : decode cL_law 1370 = .ok (.invokevirtual 148, 3) := by decide +kernel
theorem dL_law_1373 : decode cL_law 1373 = .ok (.aload_n 2, 1) := by decide +kernel
theorem dL_law_1374 : decode cL_law 1374 = .ok (.aload_n 0, 1) := by decide +kernel
theorem dL_law_1375 : decode cL_law 1375 = .ok (.iload_n 3, 1) := by decide +kernel
theorem dL_law_1376 : decode cL_law 1376 = .ok (.iconst 1, 1) := by decide +kernel
theorem dL_law_1377 : decode cL_law 1377 = .ok (.iadd, 1) := by decide +kernel
theorem dL_law_1378 : decode cL_law 1378 = .ok (.iaload, 1) := by decide +kernel
theorem dL_law_1379 : decode cL_law 1379 = .ok (.aload_n 0, 1) := by decide +kernel
theorem dL_law_1380 : decode cL_law 1380 = .ok (.iload_n 3, 1) := by decide +kernel
theorem dL_law_1381 : decode cL_law 1381 = .ok (.iconst 2, 1) := by decide +kernel
theorem dL_law_1382 : decode cL_law 1382 = .ok (.iadd, 1) := by decide +kernel
theorem dL_law_1383 : decode cL_law 1383 = .ok (.iaload, 1) := by decide +kernel
theorem dL_law_1384 : decode cL_law 1384 = .ok (.invokevirtual 151, 3) := by decide +kernel
theorem dL_law_1387 : decode cL_law 1387 = .ok (.if_icmp .eq 18, 3) := by decide +kernel
theorem dL_law_1390 : decode cL_law 1390 = .ok (.iconst 0, 1) := by decide +kernel
theorem dL_law_1391 : decode cL_law 1391 = .ok (.ireturn, 1) := by decide +kernel
theorem dL_law_1392 : decode cL_law 1392 = .ok (.aload_n 1, 1) := by decide +kernel
theorem dL_law_1393 : decode cL_law 1393 = .ok (.invokevirtual 152, 3) := by decide +kernel
theorem dL_law_1396 : decode cL_law 1396 = .ok (.aload_n 2, 1) := by decide +kernel
theorem dL_law_1397 : decode cL_law 1397 = .ok (.invokevirtual 156, 3) := by decide +kernel
theorem dL_law_1400 : decode cL_law 1400 = .ok (.if_icmp .eq 5, 3) := by decide +kernel
theorem dL_law_1403 : decode cL_law 1403 = .ok (.iconst 0, 1) := by decide +kernel
theorem dL_law_1404 : decode cL_law 1404 = .ok (.ireturn, 1) := by decide +kernel
theorem dL_law_1405 : decode cL_law 1405 = .ok (.iinc 3 7, 3) := by decide +kernel
theorem dL_law_1408 : decode cL_law 1408 = .ok (.goto (-1390), 3) := by decide +kernel
theorem dL_law_1411 : decode cL_law 1411 = .ok (.iconst 1, 1) := by decide +kernel
theorem dL_law_1412 : decode cL_law 1412 = .ok (.ireturn, 1) := by decide +kernel
end
section
/-! the words of the tables that a call may carry on, each by its place -/
def zTT : List Cond := lw_tbl.filter goodWord
theorem zTT_of {w : Cond} (i : Nat) (h : lw_tbl[i]? = some w) (g : goodWord w = true) : w ∈ zTT := List.mem_filter.mpr ⟨List.mem_of_getElem? h, g⟩
theorem zTT_in {w : Cond} (h : w ∈ zTT) : w ∈ lw_tbl := (List.mem_filter.mp h).1
theorem zTT_good {w : Cond} (h : w ∈ zTT) : goodWord w = true := (List.mem_filter.mp h).2
theorem tw_0 : Cond.selects "WholeTurns" yX10_found yX10_found ∈ zTT := zTT_of 0 (by decide +kernel) rfl
theorem tw_1 : Cond.selects "WholeTurns" yX10_answered yX10_answered ∈ zTT := zTT_of 1 (by decide +kernel) rfl
theorem tw_2 : Cond.selects "WholeTurns" yX10_standing yX10_standing ∈ zTT := zTT_of 2 (by decide +kernel) rfl
theorem tw_3 : Cond.selects "WholeTurns" yX10_keep yX10_keep ∈ zTT := zTT_of 3 (by decide +kernel) rfl
theorem tw_4 : Cond.selects "WholeTurns" yX10_held yX10_held ∈ zTT := zTT_of 4 (by decide +kernel) rfl
theorem tw_5 : Cond.selects "WholeTurns$Asks" yX0_unitSize yX0_unitSize ∈ zTT := zTT_of 5 (by decide +kernel) rfl
theorem tw_6 : Cond.selects "WholeTurns$Asks" yX0_begin yX0_begin ∈ zTT := zTT_of 6 (by decide +kernel) rfl
theorem tw_7 : Cond.selects "WholeTurns$Asks" yX0_primeSize yX0_primeSize ∈ zTT := zTT_of 7 (by decide +kernel) rfl
theorem tw_8 : Cond.selects "WholeTurns$Asks" yX0_lentSize yX0_lentSize ∈ zTT := zTT_of 8 (by decide +kernel) rfl
theorem tw_9 : Cond.selects "WholeTurns$Asks" yX0_unitShare yX0_unitShare ∈ zTT := zTT_of 9 (by decide +kernel) rfl
theorem tw_10 : Cond.selects "WholeTurns$Asks" yX0_plainShare yX0_plainShare ∈ zTT := zTT_of 10 (by decide +kernel) rfl
theorem tw_11 : Cond.selects "WholeTurns$Asks" yX0_fourShare yX0_fourShare ∈ zTT := zTT_of 11 (by decide +kernel) rfl
theorem tw_12 : Cond.selects "WholeTurns$Asks" yX0_halfShare yX0_halfShare ∈ zTT := zTT_of 12 (by decide +kernel) rfl
theorem tw_13 : Cond.selects "WholeTurns$Asks" yX0_primeMark yX0_primeMark ∈ zTT := zTT_of 13 (by decide +kernel) rfl
theorem tw_14 : Cond.selects "WholeTurns$Asks" yX0_plainMark yX0_plainMark ∈ zTT := zTT_of 14 (by decide +kernel) rfl
theorem tw_15 : Cond.selects "WholeTurns$Asks" yX0_lentMark yX0_lentMark ∈ zTT := zTT_of 15 (by decide +kernel) rfl
theorem tw_16 : Cond.selects "WholeTurns$Division" yX3_roundFraction yX3_roundFraction ∈ zTT := zTT_of 16 (by decide +kernel) rfl
theorem tw_17 : Cond.selects "WholeTurns$Division" yX3_between yX3_between ∈ zTT := zTT_of 17 (by decide +kernel) rfl
theorem tw_18 : Cond.selects "WholeTurns$Parts" yX7_splitOff yX7_splitOff ∈ zTT := zTT_of 18 (by decide +kernel) rfl
theorem tw_19 : Cond.selects "WholeTurns$Listing" yX6_root yX6_root ∈ zTT := zTT_of 19 (by decide +kernel) rfl
theorem tw_20 : Cond.selects "WholeTurns$Listing" yX6_seekBehind yX6_seekBehind ∈ zTT := zTT_of 20 (by decide +kernel) rfl
theorem tw_21 : Cond.selects "WholeTurns$Listing" yX6_isReached yX6_isReached ∈ zTT := zTT_of 21 (by decide +kernel) rfl
theorem tw_22 : Cond.selects "WholeTurns$Cell" yX2_seekFirst yX2_seekFirst ∈ zTT := zTT_of 22 (by decide +kernel) rfl
theorem tw_23 : Cond.selects "WholeTurns$Cell" yX2_seekSecond yX2_seekSecond ∈ zTT := zTT_of 23 (by decide +kernel) rfl
theorem tw_24 : Cond.selects "WholeTurns$Cell" yX2_seekThird yX2_seekThird ∈ zTT := zTT_of 24 (by decide +kernel) rfl
theorem tw_25 : Cond.selects "WholeTurnsModel" yX11_finds yX11_finds ∈ zTT := zTT_of 25 (by decide +kernel) rfl
theorem tw_26 : Cond.selects "WholeTurnsModel" yX11_well yX11_well ∈ zTT := zTT_of 26 (by decide +kernel) rfl
theorem tw_27 : Cond.selects "WholeTurnsModel" yX11_put yX11_put ∈ zTT := zTT_of 27 (by decide +kernel) rfl
theorem tw_28 : Cond.selects "WholeTurnsModel" yX11_norm4 yX11_norm4 ∈ zTT := zTT_of 28 (by decide +kernel) rfl
theorem tw_29 : Cond.selects "WholeTurnsModel" yX11_hold yX11_hold ∈ zTT := zTT_of 29 (by decide +kernel) rfl
theorem tw_30 : Cond.selects "WholeTurnsModel" yX11_kindOf yX11_kindOf ∈ zTT := zTT_of 30 (by decide +kernel) rfl
theorem tw_31 : Cond.selects "WholeTurnsModel" yX11_isNought yX11_isNought ∈ zTT := zTT_of 31 (by decide +kernel) rfl
theorem tw_32 : Cond.selects "WholeTurnsModel" yX11_greatestWhole yX11_greatestWhole ∈ zTT := zTT_of 32 (by decide +kernel) rfl
theorem tw_33 : Cond.selects "WholeTurnsModel" yX11_load yX11_load ∈ zTT := zTT_of 33 (by decide +kernel) rfl
theorem tw_34 : Cond.selects "WholeTurnsModel" yX11_sizeOf yX11_sizeOf ∈ zTT := zTT_of 34 (by decide +kernel) rfl
theorem tw_35 : Cond.selects "WholeTurnsModel" yX11_begins yX11_begins ∈ zTT := zTT_of 35 (by decide +kernel) rfl
theorem tw_36 : Cond.selects "WholeTurnsModel" yX11_share yX11_share ∈ zTT := zTT_of 36 (by decide +kernel) rfl
theorem tw_37 : Cond.selects "WholeTurnsModel" yX11_mark yX11_mark ∈ zTT := zTT_of 37 (by decide +kernel) rfl
theorem tw_38 : Cond.selects "WholeTurnsModel" yX11_multiply yX11_multiply ∈ zTT := zTT_of 38 (by decide +kernel) rfl
theorem tw_39 : Cond.selects "WholeTurnsModel" yX11_comes yX11_comes ∈ zTT := zTT_of 39 (by decide +kernel) rfl
theorem tw_40 : Cond.selects "WholeTurnsModel" yX11_turnBack yX11_turnBack ∈ zTT := zTT_of 40 (by decide +kernel) rfl
theorem tw_41 : Cond.selects "WholeTurnsModel" yX11_divide yX11_divide ∈ zTT := zTT_of 41 (by decide +kernel) rfl
theorem tw_42 : Cond.selects "WholeTurnsModel" yX11_greatestP yX11_greatestP ∈ zTT := zTT_of 42 (by decide +kernel) rfl
theorem tw_43 : Cond.selects "WholeTurnsModel" yX11_copyOf yX11_copyOf ∈ zTT := zTT_of 43 (by decide +kernel) rfl
theorem tw_44 : Cond.selects "WholeTurnsModel" yX11_associateP yX11_associateP ∈ zTT := zTT_of 44 (by decide +kernel) rfl
theorem tw_45 : Cond.selects "WholeTurnsModel" yX11_unit yX11_unit ∈ zTT := zTT_of 45 (by decide +kernel) rfl
theorem tw_46 : Cond.selects "WholeTurnsModel" yX11_isLess yX11_isLess ∈ zTT := zTT_of 46 (by decide +kernel) rfl
theorem tw_47 : Cond.selects "WholeTurnsModel" yX11_refusal yX11_refusal ∈ zTT := zTT_of 47 (by decide +kernel) rfl
theorem tw_48 : Cond.selects "WholeTurnsModel" yX11_upper yX11_upper ∈ zTT := zTT_of 48 (by decide +kernel) rfl
theorem tw_49 : Cond.selects "WholeTurnsModel" yX11_part2 yX11_part2 ∈ zTT := zTT_of 49 (by decide +kernel) rfl
theorem tw_50 : Cond.selects "WholeTurnsModel" yX11_indexOf yX11_indexOf ∈ zTT := zTT_of 50 (by decide +kernel) rfl
theorem tw_51 : Cond.selects "WholeTurnsModel" yX11_isCommon yX11_isCommon ∈ zTT := zTT_of 51 (by decide +kernel) rfl
theorem tw_52 : Cond.initialized "WholeTurnsLaw" ∈ zTT := zTT_of 52 (by decide +kernel) rfl
theorem tw_53 : Cond.initialized "WholeTurns" ∈ zTT := zTT_of 53 (by decide +kernel) rfl
theorem tw_54 : Cond.initialized "WholeTurns$Tray" ∈ zTT := zTT_of 54 (by decide +kernel) rfl
theorem tw_55 : Cond.initialized "WholeTurns$Four" ∈ zTT := zTT_of 55 (by decide +kernel) rfl
theorem tw_56 : Cond.initialized "WholeTurns$Division" ∈ zTT := zTT_of 56 (by decide +kernel) rfl
theorem tw_57 : Cond.initialized "WholeTurns$Associate" ∈ zTT := zTT_of 57 (by decide +kernel) rfl
theorem tw_58 : Cond.initialized "WholeTurns$Greatest" ∈ zTT := zTT_of 58 (by decide +kernel) rfl
theorem tw_59 : Cond.initialized "WholeTurns$Parts" ∈ zTT := zTT_of 59 (by decide +kernel) rfl
theorem tw_60 : Cond.initialized "WholeTurns$Listing" ∈ zTT := zTT_of 60 (by decide +kernel) rfl
theorem tw_61 : Cond.initialized "WholeTurns$Table" ∈ zTT := zTT_of 61 (by decide +kernel) rfl
theorem tw_62 : Cond.initialized "WholeTurns$Cell" ∈ zTT := zTT_of 62 (by decide +kernel) rfl
theorem tw_63 : Cond.initialized "WholeTurns$Asks" ∈ zTT := zTT_of 63 (by decide +kernel) rfl
theorem tw_64 : Cond.initialized "WholeTurnsModel" ∈ zTT := zTT_of 64 (by decide +kernel) rfl
theorem tw_65 : Cond.initialized "java/lang/System" ∈ zTT := zTT_of 65 (by decide +kernel) rfl
theorem tw_66 : Cond.initialized "java/lang/Math" ∈ zTT := zTT_of 66 (by decide +kernel) rfl
theorem tw_67 : Cond.classLink "WholeTurnsLaw" (7) "WholeTurns" ∈ zTT := zTT_of 67 (by decide +kernel) rfl
theorem tw_68 : Cond.instantiable "WholeTurns" (13) ∈ zTT := zTT_of 68 (by decide +kernel) rfl
theorem tw_69 : Cond.methodLink "WholeTurnsLaw" (9) yX10_init ∈ zTT := zTT_of 69 (by decide +kernel) rfl
theorem tw_70 : Cond.instanceMethod yX10_init ∈ zTT := zTT_of 70 (by decide +kernel) rfl
theorem tw_71 : Cond.code yX10_init prog_1_method_1_code (2) (Option.none : Option FieldType) ∈ zTT := zTT_of 71 (by decide +kernel) rfl
theorem tw_72 : Cond.methodLink "WholeTurns" (1) objectInit ∈ zTT := zTT_of 72 (by decide +kernel) rfl
theorem tw_73 : Cond.instanceMethod objectInit ∈ zTT := zTT_of 73 (by decide +kernel) rfl
theorem tw_74 : Cond.code objectInit object_method_1_code (1) (Option.none : Option FieldType) ∈ zTT := zTT_of 74 (by decide +kernel) rfl
theorem tw_75 : Cond.classLink "WholeTurns" (9) "WholeTurns$Tray" ∈ zTT := zTT_of 75 (by decide +kernel) rfl
theorem tw_77 : Cond.instantiable "WholeTurns$Tray" (3) ∈ zTT := zTT_of 77 (by decide +kernel) rfl
theorem tw_78 : Cond.methodLink "WholeTurns" (15) yX9_init ∈ zTT := zTT_of 78 (by decide +kernel) rfl
theorem tw_79 : Cond.instanceMethod yX9_init ∈ zTT := zTT_of 79 (by decide +kernel) rfl
theorem tw_80 : Cond.code yX9_init prog_11_method_1_code (1) (Option.none : Option FieldType) ∈ zTT := zTT_of 80 (by decide +kernel) rfl
theorem tw_81 : Cond.methodLink "WholeTurns$Tray" (3) objectInit ∈ zTT := zTT_of 81 (by decide +kernel) rfl
theorem tw_82 : Cond.fieldLink "WholeTurns$Tray" (9) "WholeTurns$Tray" "items" "[J" ∈ zTT := zTT_of 82 (by decide +kernel) rfl
theorem tw_83 : Cond.fieldLink "WholeTurns" (130) "WholeTurns$Tray" "items" "[J" ∈ zTT := zTT_of 83 (by decide +kernel) rfl
theorem tw_84 : Cond.fieldLink "WholeTurns$Tray" (15) "WholeTurns$Tray" "lane" "I" ∈ zTT := zTT_of 84 (by decide +kernel) rfl
theorem tw_85 : Cond.fieldLink "WholeTurns" (124) "WholeTurns$Tray" "lane" "I" ∈ zTT := zTT_of 85 (by decide +kernel) rfl
theorem tw_86 : Cond.fieldLink "WholeTurns$Tray" (19) "WholeTurns$Tray" "size" "I" ∈ zTT := zTT_of 86 (by decide +kernel) rfl
theorem tw_87 : Cond.fieldLink "WholeTurns" (113) "WholeTurns$Tray" "size" "I" ∈ zTT := zTT_of 87 (by decide +kernel) rfl
theorem tw_88 : Cond.laysFinal "WholeTurns$Tray" "WholeTurns$Tray" "items" "[J" ∈ zTT := zTT_of 88 (by decide +kernel) rfl
theorem tw_90 : Cond.lays "WholeTurns$Tray" "WholeTurns$Tray" "lane" "I" ∈ zTT := zTT_of 90 (by decide +kernel) rfl
theorem tw_92 : Cond.lays "WholeTurns$Tray" "WholeTurns$Tray" "size" "I" ∈ zTT := zTT_of 92 (by decide +kernel) rfl
theorem tw_95 : Cond.arrayClass FieldType.long ∈ zTT := zTT_of 95 (by decide +kernel) rfl
theorem tw_96 : Cond.classLink "WholeTurns" (16) "WholeTurns$Four" ∈ zTT := zTT_of 96 (by decide +kernel) rfl
theorem tw_98 : Cond.instantiable "WholeTurns$Four" (4) ∈ zTT := zTT_of 98 (by decide +kernel) rfl
theorem tw_100 : Cond.instanceMethod yX4_init ∈ zTT := zTT_of 100 (by decide +kernel) rfl
theorem tw_101 : Cond.code yX4_init prog_6_method_1_code (1) (Option.none : Option FieldType) ∈ zTT := zTT_of 101 (by decide +kernel) rfl
theorem tw_102 : Cond.methodLink "WholeTurns$Four" (3) objectInit ∈ zTT := zTT_of 102 (by decide +kernel) rfl
theorem tw_103 : Cond.fieldLink "WholeTurns$Four" (9) "WholeTurns$Four" "w" "J" ∈ zTT := zTT_of 103 (by decide +kernel) rfl
theorem tw_104 : Cond.fieldLink "WholeTurns$Table" (23) "WholeTurns$Four" "w" "J" ∈ zTT := zTT_of 104 (by decide +kernel) rfl
theorem tw_105 : Cond.fieldLink "WholeTurns$Division" (56) "WholeTurns$Four" "w" "J" ∈ zTT := zTT_of 105 (by decide +kernel) rfl
theorem tw_106 : Cond.fieldLink "WholeTurns$Asks" (68) "WholeTurns$Four" "w" "J" ∈ zTT := zTT_of 106 (by decide +kernel) rfl
theorem tw_107 : Cond.fieldLink "WholeTurns" (311) "WholeTurns$Four" "w" "J" ∈ zTT := zTT_of 107 (by decide +kernel) rfl
theorem tw_108 : Cond.fieldLink "WholeTurns$Four" (15) "WholeTurns$Four" "x" "J" ∈ zTT := zTT_of 108 (by decide +kernel) rfl
theorem tw_109 : Cond.fieldLink "WholeTurns$Table" (26) "WholeTurns$Four" "x" "J" ∈ zTT := zTT_of 109 (by decide +kernel) rfl
theorem tw_110 : Cond.fieldLink "WholeTurns$Division" (63) "WholeTurns$Four" "x" "J" ∈ zTT := zTT_of 110 (by decide +kernel) rfl
theorem tw_111 : Cond.fieldLink "WholeTurns$Asks" (72) "WholeTurns$Four" "x" "J" ∈ zTT := zTT_of 111 (by decide +kernel) rfl
theorem tw_112 : Cond.fieldLink "WholeTurns" (320) "WholeTurns$Four" "x" "J" ∈ zTT := zTT_of 112 (by decide +kernel) rfl
theorem tw_113 : Cond.fieldLink "WholeTurns$Four" (18) "WholeTurns$Four" "y" "J" ∈ zTT := zTT_of 113 (by decide +kernel) rfl
theorem tw_114 : Cond.fieldLink "WholeTurns$Table" (29) "WholeTurns$Four" "y" "J" ∈ zTT := zTT_of 114 (by decide +kernel) rfl
theorem tw_115 : Cond.fieldLink "WholeTurns$Division" (66) "WholeTurns$Four" "y" "J" ∈ zTT := zTT_of 115 (by decide +kernel) rfl
theorem tw_116 : Cond.fieldLink "WholeTurns$Asks" (75) "WholeTurns$Four" "y" "J" ∈ zTT := zTT_of 116 (by decide +kernel) rfl
theorem tw_117 : Cond.fieldLink "WholeTurns" (323) "WholeTurns$Four" "y" "J" ∈ zTT := zTT_of 117 (by decide +kernel) rfl
theorem tw_118 : Cond.fieldLink "WholeTurns$Four" (21) "WholeTurns$Four" "z" "J" ∈ zTT := zTT_of 118 (by decide +kernel) rfl
theorem tw_119 : Cond.fieldLink "WholeTurns$Table" (32) "WholeTurns$Four" "z" "J" ∈ zTT := zTT_of 119 (by decide +kernel) rfl
theorem tw_120 : Cond.fieldLink "WholeTurns$Division" (69) "WholeTurns$Four" "z" "J" ∈ zTT := zTT_of 120 (by decide +kernel) rfl
theorem tw_121 : Cond.fieldLink "WholeTurns$Asks" (78) "WholeTurns$Four" "z" "J" ∈ zTT := zTT_of 121 (by decide +kernel) rfl
theorem tw_122 : Cond.fieldLink "WholeTurns" (330) "WholeTurns$Four" "z" "J" ∈ zTT := zTT_of 122 (by decide +kernel) rfl
theorem tw_123 : Cond.lays "WholeTurns$Four" "WholeTurns$Four" "w" "J" ∈ zTT := zTT_of 123 (by decide +kernel) rfl
theorem tw_125 : Cond.lays "WholeTurns$Four" "WholeTurns$Four" "x" "J" ∈ zTT := zTT_of 125 (by decide +kernel) rfl
theorem tw_127 : Cond.lays "WholeTurns$Four" "WholeTurns$Four" "y" "J" ∈ zTT := zTT_of 127 (by decide +kernel) rfl
theorem tw_129 : Cond.lays "WholeTurns$Four" "WholeTurns$Four" "z" "J" ∈ zTT := zTT_of 129 (by decide +kernel) rfl
theorem tw_132 : Cond.arrayClass FieldType.int ∈ zTT := zTT_of 132 (by decide +kernel) rfl
theorem tw_133 : Cond.classLink "WholeTurns" (31) "WholeTurns$Division" ∈ zTT := zTT_of 133 (by decide +kernel) rfl
theorem tw_134 : Cond.instantiable "WholeTurns$Division" (4) ∈ zTT := zTT_of 134 (by decide +kernel) rfl
theorem tw_135 : Cond.methodLink "WholeTurns" (33) yX3_init ∈ zTT := zTT_of 135 (by decide +kernel) rfl
theorem tw_136 : Cond.instanceMethod yX3_init ∈ zTT := zTT_of 136 (by decide +kernel) rfl
theorem tw_137 : Cond.code yX3_init prog_5_method_1_code (1) (Option.none : Option FieldType) ∈ zTT := zTT_of 137 (by decide +kernel) rfl
theorem tw_138 : Cond.methodLink "WholeTurns$Division" (3) objectInit ∈ zTT := zTT_of 138 (by decide +kernel) rfl
theorem tw_139 : Cond.classLink "WholeTurns$Division" (9) "WholeTurns$Four" ∈ zTT := zTT_of 139 (by decide +kernel) rfl
theorem tw_141 : Cond.fieldLink "WholeTurns$Division" (12) "WholeTurns$Division" "quotient" "LWholeTurns$Four;" ∈ zTT := zTT_of 141 (by decide +kernel) rfl
theorem tw_142 : Cond.fieldLink "WholeTurns" (211) "WholeTurns$Division" "quotient" "LWholeTurns$Four;" ∈ zTT := zTT_of 142 (by decide +kernel) rfl
theorem tw_143 : Cond.fieldLink "WholeTurns$Division" (18) "WholeTurns$Division" "rest" "LWholeTurns$Four;" ∈ zTT := zTT_of 143 (by decide +kernel) rfl
theorem tw_144 : Cond.fieldLink "WholeTurns$Greatest" (51) "WholeTurns$Division" "rest" "LWholeTurns$Four;" ∈ zTT := zTT_of 144 (by decide +kernel) rfl
theorem tw_145 : Cond.fieldLink "WholeTurns" (208) "WholeTurns$Division" "rest" "LWholeTurns$Four;" ∈ zTT := zTT_of 145 (by decide +kernel) rfl
theorem tw_146 : Cond.fieldLink "WholeTurns$Division" (21) "WholeTurns$Division" "fraction" "LWholeTurns$Four;" ∈ zTT := zTT_of 146 (by decide +kernel) rfl
theorem tw_147 : Cond.fieldLink "WholeTurns$Division" (24) "WholeTurns$Division" "halves" "LWholeTurns$Four;" ∈ zTT := zTT_of 147 (by decide +kernel) rfl
theorem tw_148 : Cond.laysFinal "WholeTurns$Division" "WholeTurns$Division" "quotient" "LWholeTurns$Four;" ∈ zTT := zTT_of 148 (by decide +kernel) rfl
theorem tw_150 : Cond.laysFinal "WholeTurns$Division" "WholeTurns$Division" "rest" "LWholeTurns$Four;" ∈ zTT := zTT_of 150 (by decide +kernel) rfl
theorem tw_152 : Cond.laysFinal "WholeTurns$Division" "WholeTurns$Division" "fraction" "LWholeTurns$Four;" ∈ zTT := zTT_of 152 (by decide +kernel) rfl
theorem tw_154 : Cond.laysFinal "WholeTurns$Division" "WholeTurns$Division" "halves" "LWholeTurns$Four;" ∈ zTT := zTT_of 154 (by decide +kernel) rfl
theorem tw_157 : Cond.classLink "WholeTurns" (38) "WholeTurns$Associate" ∈ zTT := zTT_of 157 (by decide +kernel) rfl
theorem tw_158 : Cond.instantiable "WholeTurns$Associate" (3) ∈ zTT := zTT_of 158 (by decide +kernel) rfl
theorem tw_159 : Cond.methodLink "WholeTurns" (40) yX1_init ∈ zTT := zTT_of 159 (by decide +kernel) rfl
theorem tw_160 : Cond.instanceMethod yX1_init ∈ zTT := zTT_of 160 (by decide +kernel) rfl
theorem tw_161 : Cond.code yX1_init prog_3_method_1_code (1) (Option.none : Option FieldType) ∈ zTT := zTT_of 161 (by decide +kernel) rfl
theorem tw_162 : Cond.methodLink "WholeTurns$Associate" (3) objectInit ∈ zTT := zTT_of 162 (by decide +kernel) rfl
theorem tw_163 : Cond.classLink "WholeTurns$Associate" (9) "WholeTurns$Four" ∈ zTT := zTT_of 163 (by decide +kernel) rfl
theorem tw_165 : Cond.fieldLink "WholeTurns$Associate" (12) "WholeTurns$Associate" "result" "LWholeTurns$Four;" ∈ zTT := zTT_of 165 (by decide +kernel) rfl
theorem tw_166 : Cond.fieldLink "WholeTurns$Greatest" (58) "WholeTurns$Associate" "result" "LWholeTurns$Four;" ∈ zTT := zTT_of 166 (by decide +kernel) rfl
theorem tw_167 : Cond.fieldLink "WholeTurns" (223) "WholeTurns$Associate" "result" "LWholeTurns$Four;" ∈ zTT := zTT_of 167 (by decide +kernel) rfl
theorem tw_168 : Cond.fieldLink "WholeTurns$Associate" (18) "WholeTurns$Associate" "unit" "LWholeTurns$Four;" ∈ zTT := zTT_of 168 (by decide +kernel) rfl
theorem tw_169 : Cond.fieldLink "WholeTurns$Associate" (21) "WholeTurns$Associate" "product" "LWholeTurns$Four;" ∈ zTT := zTT_of 169 (by decide +kernel) rfl
theorem tw_170 : Cond.laysFinal "WholeTurns$Associate" "WholeTurns$Associate" "result" "LWholeTurns$Four;" ∈ zTT := zTT_of 170 (by decide +kernel) rfl
theorem tw_172 : Cond.laysFinal "WholeTurns$Associate" "WholeTurns$Associate" "unit" "LWholeTurns$Four;" ∈ zTT := zTT_of 172 (by decide +kernel) rfl
theorem tw_174 : Cond.laysFinal "WholeTurns$Associate" "WholeTurns$Associate" "product" "LWholeTurns$Four;" ∈ zTT := zTT_of 174 (by decide +kernel) rfl
theorem tw_177 : Cond.classLink "WholeTurns" (45) "WholeTurns$Greatest" ∈ zTT := zTT_of 177 (by decide +kernel) rfl
theorem tw_178 : Cond.instantiable "WholeTurns$Greatest" (5) ∈ zTT := zTT_of 178 (by decide +kernel) rfl
theorem tw_179 : Cond.methodLink "WholeTurns" (47) yX5_init ∈ zTT := zTT_of 179 (by decide +kernel) rfl
theorem tw_180 : Cond.instanceMethod yX5_init ∈ zTT := zTT_of 180 (by decide +kernel) rfl
theorem tw_181 : Cond.code yX5_init prog_7_method_1_code (1) (Option.none : Option FieldType) ∈ zTT := zTT_of 181 (by decide +kernel) rfl
theorem tw_182 : Cond.methodLink "WholeTurns$Greatest" (3) objectInit ∈ zTT := zTT_of 182 (by decide +kernel) rfl
theorem tw_183 : Cond.classLink "WholeTurns$Greatest" (9) "WholeTurns$Four" ∈ zTT := zTT_of 183 (by decide +kernel) rfl
theorem tw_185 : Cond.classLink "WholeTurns$Greatest" (24) "WholeTurns$Division" ∈ zTT := zTT_of 185 (by decide +kernel) rfl
theorem tw_186 : Cond.methodLink "WholeTurns$Greatest" (26) yX3_init ∈ zTT := zTT_of 186 (by decide +kernel) rfl
theorem tw_187 : Cond.classLink "WholeTurns$Greatest" (31) "WholeTurns$Associate" ∈ zTT := zTT_of 187 (by decide +kernel) rfl
theorem tw_188 : Cond.methodLink "WholeTurns$Greatest" (33) yX1_init ∈ zTT := zTT_of 188 (by decide +kernel) rfl
theorem tw_189 : Cond.fieldLink "WholeTurns$Greatest" (12) "WholeTurns$Greatest" "result" "LWholeTurns$Four;" ∈ zTT := zTT_of 189 (by decide +kernel) rfl
theorem tw_190 : Cond.fieldLink "WholeTurns$Parts" (52) "WholeTurns$Greatest" "result" "LWholeTurns$Four;" ∈ zTT := zTT_of 190 (by decide +kernel) rfl
theorem tw_191 : Cond.fieldLink "WholeTurns" (217) "WholeTurns$Greatest" "result" "LWholeTurns$Four;" ∈ zTT := zTT_of 191 (by decide +kernel) rfl
theorem tw_192 : Cond.fieldLink "WholeTurns$Greatest" (18) "WholeTurns$Greatest" "first" "LWholeTurns$Four;" ∈ zTT := zTT_of 192 (by decide +kernel) rfl
theorem tw_193 : Cond.fieldLink "WholeTurns$Greatest" (21) "WholeTurns$Greatest" "second" "LWholeTurns$Four;" ∈ zTT := zTT_of 193 (by decide +kernel) rfl
theorem tw_194 : Cond.fieldLink "WholeTurns$Greatest" (27) "WholeTurns$Greatest" "division" "LWholeTurns$Division;" ∈ zTT := zTT_of 194 (by decide +kernel) rfl
theorem tw_195 : Cond.fieldLink "WholeTurns$Greatest" (34) "WholeTurns$Greatest" "associate" "LWholeTurns$Associate;" ∈ zTT := zTT_of 195 (by decide +kernel) rfl
theorem tw_196 : Cond.laysFinal "WholeTurns$Greatest" "WholeTurns$Greatest" "result" "LWholeTurns$Four;" ∈ zTT := zTT_of 196 (by decide +kernel) rfl
theorem tw_198 : Cond.laysFinal "WholeTurns$Greatest" "WholeTurns$Greatest" "first" "LWholeTurns$Four;" ∈ zTT := zTT_of 198 (by decide +kernel) rfl
theorem tw_200 : Cond.laysFinal "WholeTurns$Greatest" "WholeTurns$Greatest" "second" "LWholeTurns$Four;" ∈ zTT := zTT_of 200 (by decide +kernel) rfl
theorem tw_202 : Cond.laysFinal "WholeTurns$Greatest" "WholeTurns$Greatest" "division" "LWholeTurns$Division;" ∈ zTT := zTT_of 202 (by decide +kernel) rfl
theorem tw_204 : Cond.laysFinal "WholeTurns$Greatest" "WholeTurns$Greatest" "associate" "LWholeTurns$Associate;" ∈ zTT := zTT_of 204 (by decide +kernel) rfl
theorem tw_207 : Cond.classLink "WholeTurns" (52) "WholeTurns$Parts" ∈ zTT := zTT_of 207 (by decide +kernel) rfl
theorem tw_208 : Cond.instantiable "WholeTurns$Parts" (5) ∈ zTT := zTT_of 208 (by decide +kernel) rfl
theorem tw_209 : Cond.methodLink "WholeTurns" (54) yX7_init ∈ zTT := zTT_of 209 (by decide +kernel) rfl
theorem tw_210 : Cond.instanceMethod yX7_init ∈ zTT := zTT_of 210 (by decide +kernel) rfl
theorem tw_211 : Cond.code yX7_init prog_9_method_1_code (1) (Option.none : Option FieldType) ∈ zTT := zTT_of 211 (by decide +kernel) rfl
theorem tw_212 : Cond.methodLink "WholeTurns$Parts" (3) objectInit ∈ zTT := zTT_of 212 (by decide +kernel) rfl
theorem tw_213 : Cond.classLink "WholeTurns$Parts" (9) "WholeTurns$Four" ∈ zTT := zTT_of 213 (by decide +kernel) rfl
theorem tw_215 : Cond.classLink "WholeTurns$Parts" (27) "WholeTurns$Greatest" ∈ zTT := zTT_of 215 (by decide +kernel) rfl
theorem tw_216 : Cond.methodLink "WholeTurns$Parts" (29) yX5_init ∈ zTT := zTT_of 216 (by decide +kernel) rfl
theorem tw_217 : Cond.fieldLink "WholeTurns$Parts" (12) "WholeTurns$Parts" "wanted" "LWholeTurns$Four;" ∈ zTT := zTT_of 217 (by decide +kernel) rfl
theorem tw_218 : Cond.fieldLink "WholeTurns" (237) "WholeTurns$Parts" "wanted" "LWholeTurns$Four;" ∈ zTT := zTT_of 218 (by decide +kernel) rfl
theorem tw_219 : Cond.fieldLink "WholeTurns$Parts" (18) "WholeTurns$Parts" "left" "LWholeTurns$Four;" ∈ zTT := zTT_of 219 (by decide +kernel) rfl
theorem tw_220 : Cond.fieldLink "WholeTurns$Parts" (21) "WholeTurns$Parts" "whole" "LWholeTurns$Four;" ∈ zTT := zTT_of 220 (by decide +kernel) rfl
theorem tw_221 : Cond.fieldLink "WholeTurns$Parts" (24) "WholeTurns$Parts" "mirrored" "LWholeTurns$Four;" ∈ zTT := zTT_of 221 (by decide +kernel) rfl
theorem tw_222 : Cond.fieldLink "WholeTurns$Parts" (30) "WholeTurns$Parts" "greatest" "LWholeTurns$Greatest;" ∈ zTT := zTT_of 222 (by decide +kernel) rfl
theorem tw_223 : Cond.laysFinal "WholeTurns$Parts" "WholeTurns$Parts" "wanted" "LWholeTurns$Four;" ∈ zTT := zTT_of 223 (by decide +kernel) rfl
theorem tw_225 : Cond.laysFinal "WholeTurns$Parts" "WholeTurns$Parts" "left" "LWholeTurns$Four;" ∈ zTT := zTT_of 225 (by decide +kernel) rfl
theorem tw_227 : Cond.laysFinal "WholeTurns$Parts" "WholeTurns$Parts" "whole" "LWholeTurns$Four;" ∈ zTT := zTT_of 227 (by decide +kernel) rfl
theorem tw_229 : Cond.laysFinal "WholeTurns$Parts" "WholeTurns$Parts" "mirrored" "LWholeTurns$Four;" ∈ zTT := zTT_of 229 (by decide +kernel) rfl
theorem tw_231 : Cond.laysFinal "WholeTurns$Parts" "WholeTurns$Parts" "greatest" "LWholeTurns$Greatest;" ∈ zTT := zTT_of 231 (by decide +kernel) rfl
theorem tw_234 : Cond.classLink "WholeTurns" (59) "WholeTurns$Listing" ∈ zTT := zTT_of 234 (by decide +kernel) rfl
theorem tw_235 : Cond.instantiable "WholeTurns$Listing" (3) ∈ zTT := zTT_of 235 (by decide +kernel) rfl
theorem tw_236 : Cond.methodLink "WholeTurns" (61) yX6_init ∈ zTT := zTT_of 236 (by decide +kernel) rfl
theorem tw_237 : Cond.instanceMethod yX6_init ∈ zTT := zTT_of 237 (by decide +kernel) rfl
theorem tw_238 : Cond.code yX6_init prog_8_method_1_code (3) (Option.none : Option FieldType) ∈ zTT := zTT_of 238 (by decide +kernel) rfl
theorem tw_239 : Cond.methodLink "WholeTurns$Listing" (3) objectInit ∈ zTT := zTT_of 239 (by decide +kernel) rfl
theorem tw_240 : Cond.classLink "WholeTurns$Listing" (9) "WholeTurns$Four" ∈ zTT := zTT_of 240 (by decide +kernel) rfl
theorem tw_242 : Cond.fieldLink "WholeTurns$Listing" (12) "WholeTurns$Listing" "result" "LWholeTurns$Four;" ∈ zTT := zTT_of 242 (by decide +kernel) rfl
theorem tw_243 : Cond.fieldLink "WholeTurns" (247) "WholeTurns$Listing" "result" "LWholeTurns$Four;" ∈ zTT := zTT_of 243 (by decide +kernel) rfl
theorem tw_244 : Cond.fieldLink "WholeTurns$Listing" (18) "WholeTurns$Listing" "roots" "[I" ∈ zTT := zTT_of 244 (by decide +kernel) rfl
theorem tw_245 : Cond.fieldLink "WholeTurns$Listing" (22) "WholeTurns$Listing" "ahead" "I" ∈ zTT := zTT_of 245 (by decide +kernel) rfl
theorem tw_246 : Cond.laysFinal "WholeTurns$Listing" "WholeTurns$Listing" "result" "LWholeTurns$Four;" ∈ zTT := zTT_of 246 (by decide +kernel) rfl
theorem tw_248 : Cond.laysFinal "WholeTurns$Listing" "WholeTurns$Listing" "roots" "[I" ∈ zTT := zTT_of 248 (by decide +kernel) rfl
theorem tw_250 : Cond.lays "WholeTurns$Listing" "WholeTurns$Listing" "ahead" "I" ∈ zTT := zTT_of 250 (by decide +kernel) rfl
theorem tw_253 : Cond.classLink "WholeTurns" (66) "WholeTurns$Table" ∈ zTT := zTT_of 253 (by decide +kernel) rfl
theorem tw_254 : Cond.instantiable "WholeTurns$Table" (2) ∈ zTT := zTT_of 254 (by decide +kernel) rfl
theorem tw_255 : Cond.methodLink "WholeTurns" (68) yX8_init ∈ zTT := zTT_of 255 (by decide +kernel) rfl
theorem tw_256 : Cond.instanceMethod yX8_init ∈ zTT := zTT_of 256 (by decide +kernel) rfl
theorem tw_257 : Cond.code yX8_init prog_10_method_1_code (1) (Option.none : Option FieldType) ∈ zTT := zTT_of 257 (by decide +kernel) rfl
theorem tw_258 : Cond.methodLink "WholeTurns$Table" (1) objectInit ∈ zTT := zTT_of 258 (by decide +kernel) rfl
theorem tw_259 : Cond.fieldLink "WholeTurns$Table" (13) "WholeTurns$Table" "lower" "J" ∈ zTT := zTT_of 259 (by decide +kernel) rfl
theorem tw_260 : Cond.fieldLink "WholeTurns" (265) "WholeTurns$Table" "lower" "J" ∈ zTT := zTT_of 260 (by decide +kernel) rfl
theorem tw_261 : Cond.fieldLink "WholeTurns$Table" (7) "WholeTurns$Table" "uppers" "[J" ∈ zTT := zTT_of 261 (by decide +kernel) rfl
theorem tw_262 : Cond.lays "WholeTurns$Table" "WholeTurns$Table" "lower" "J" ∈ zTT := zTT_of 262 (by decide +kernel) rfl
theorem tw_264 : Cond.laysFinal "WholeTurns$Table" "WholeTurns$Table" "uppers" "[J" ∈ zTT := zTT_of 264 (by decide +kernel) rfl
theorem tw_267 : Cond.classLink "WholeTurns" (73) "WholeTurns$Cell" ∈ zTT := zTT_of 267 (by decide +kernel) rfl
theorem tw_268 : Cond.instantiable "WholeTurns$Cell" (7) ∈ zTT := zTT_of 268 (by decide +kernel) rfl
theorem tw_269 : Cond.methodLink "WholeTurns" (75) yX2_init ∈ zTT := zTT_of 269 (by decide +kernel) rfl
theorem tw_270 : Cond.instanceMethod yX2_init ∈ zTT := zTT_of 270 (by decide +kernel) rfl
theorem tw_271 : Cond.code yX2_init prog_4_method_1_code (1) (Option.none : Option FieldType) ∈ zTT := zTT_of 271 (by decide +kernel) rfl
theorem tw_272 : Cond.methodLink "WholeTurns$Cell" (3) objectInit ∈ zTT := zTT_of 272 (by decide +kernel) rfl
theorem tw_273 : Cond.classLink "WholeTurns$Cell" (9) "WholeTurns$Table" ∈ zTT := zTT_of 273 (by decide +kernel) rfl
theorem tw_274 : Cond.methodLink "WholeTurns$Cell" (11) yX8_init ∈ zTT := zTT_of 274 (by decide +kernel) rfl
theorem tw_275 : Cond.fieldLink "WholeTurns$Cell" (12) "WholeTurns$Cell" "table" "LWholeTurns$Table;" ∈ zTT := zTT_of 275 (by decide +kernel) rfl
theorem tw_276 : Cond.fieldLink "WholeTurns$Cell" (31) "WholeTurns$Cell" "a" "I" ∈ zTT := zTT_of 276 (by decide +kernel) rfl
theorem tw_277 : Cond.fieldLink "WholeTurns$Cell" (35) "WholeTurns$Cell" "b" "I" ∈ zTT := zTT_of 277 (by decide +kernel) rfl
theorem tw_278 : Cond.fieldLink "WholeTurns$Cell" (38) "WholeTurns$Cell" "c" "I" ∈ zTT := zTT_of 278 (by decide +kernel) rfl
theorem tw_279 : Cond.fieldLink "WholeTurns$Cell" (41) "WholeTurns$Cell" "d" "I" ∈ zTT := zTT_of 279 (by decide +kernel) rfl
theorem tw_280 : Cond.fieldLink "WholeTurns$Cell" (44) "WholeTurns$Cell" "e" "I" ∈ zTT := zTT_of 280 (by decide +kernel) rfl
theorem tw_281 : Cond.fieldLink "WholeTurns$Cell" (47) "WholeTurns$Cell" "f" "I" ∈ zTT := zTT_of 281 (by decide +kernel) rfl
theorem tw_282 : Cond.laysFinal "WholeTurns$Cell" "WholeTurns$Cell" "table" "LWholeTurns$Table;" ∈ zTT := zTT_of 282 (by decide +kernel) rfl
theorem tw_284 : Cond.lays "WholeTurns$Cell" "WholeTurns$Cell" "a" "I" ∈ zTT := zTT_of 284 (by decide +kernel) rfl
theorem tw_286 : Cond.lays "WholeTurns$Cell" "WholeTurns$Cell" "b" "I" ∈ zTT := zTT_of 286 (by decide +kernel) rfl
theorem tw_288 : Cond.lays "WholeTurns$Cell" "WholeTurns$Cell" "c" "I" ∈ zTT := zTT_of 288 (by decide +kernel) rfl
theorem tw_290 : Cond.lays "WholeTurns$Cell" "WholeTurns$Cell" "d" "I" ∈ zTT := zTT_of 290 (by decide +kernel) rfl
theorem tw_292 : Cond.lays "WholeTurns$Cell" "WholeTurns$Cell" "e" "I" ∈ zTT := zTT_of 292 (by decide +kernel) rfl
theorem tw_294 : Cond.lays "WholeTurns$Cell" "WholeTurns$Cell" "f" "I" ∈ zTT := zTT_of 294 (by decide +kernel) rfl
theorem tw_297 : Cond.classLink "WholeTurns" (80) "WholeTurns$Asks" ∈ zTT := zTT_of 297 (by decide +kernel) rfl
theorem tw_298 : Cond.instantiable "WholeTurns$Asks" (2) ∈ zTT := zTT_of 298 (by decide +kernel) rfl
theorem tw_299 : Cond.methodLink "WholeTurns" (82) yX0_init ∈ zTT := zTT_of 299 (by decide +kernel) rfl
theorem tw_300 : Cond.instanceMethod yX0_init ∈ zTT := zTT_of 300 (by decide +kernel) rfl
theorem tw_301 : Cond.code yX0_init prog_2_method_1_code (1) (Option.none : Option FieldType) ∈ zTT := zTT_of 301 (by decide +kernel) rfl
theorem tw_302 : Cond.methodLink "WholeTurns$Asks" (3) objectInit ∈ zTT := zTT_of 302 (by decide +kernel) rfl
theorem tw_303 : Cond.fieldLink "WholeTurns$Asks" (9) "WholeTurns$Asks" "traces" "[I" ∈ zTT := zTT_of 303 (by decide +kernel) rfl
theorem tw_304 : Cond.fieldLink "WholeTurns$Asks" (15) "WholeTurns$Asks" "count" "I" ∈ zTT := zTT_of 304 (by decide +kernel) rfl
theorem tw_305 : Cond.laysFinal "WholeTurns$Asks" "WholeTurns$Asks" "traces" "[I" ∈ zTT := zTT_of 305 (by decide +kernel) rfl
theorem tw_307 : Cond.lays "WholeTurns$Asks" "WholeTurns$Asks" "count" "I" ∈ zTT := zTT_of 307 (by decide +kernel) rfl
theorem tw_310 : Cond.fieldLink "WholeTurns" (11) "WholeTurns" "trays" "[LWholeTurns$Tray;" ∈ zTT := zTT_of 310 (by decide +kernel) rfl
theorem tw_311 : Cond.fieldLink "WholeTurns" (18) "WholeTurns" "fours" "[LWholeTurns$Four;" ∈ zTT := zTT_of 311 (by decide +kernel) rfl
theorem tw_312 : Cond.fieldLink "WholeTurns" (22) "WholeTurns" "kinds" "[I" ∈ zTT := zTT_of 312 (by decide +kernel) rfl
theorem tw_313 : Cond.fieldLink "WholeTurns" (27) "WholeTurns" "made" "LWholeTurns$Four;" ∈ zTT := zTT_of 313 (by decide +kernel) rfl
theorem tw_314 : Cond.fieldLink "WholeTurns" (34) "WholeTurns" "division" "LWholeTurns$Division;" ∈ zTT := zTT_of 314 (by decide +kernel) rfl
theorem tw_315 : Cond.fieldLink "WholeTurns" (41) "WholeTurns" "associate" "LWholeTurns$Associate;" ∈ zTT := zTT_of 315 (by decide +kernel) rfl
theorem tw_316 : Cond.fieldLink "WholeTurns" (48) "WholeTurns" "greatest" "LWholeTurns$Greatest;" ∈ zTT := zTT_of 316 (by decide +kernel) rfl
theorem tw_317 : Cond.fieldLink "WholeTurns" (55) "WholeTurns" "parts" "LWholeTurns$Parts;" ∈ zTT := zTT_of 317 (by decide +kernel) rfl
theorem tw_318 : Cond.fieldLink "WholeTurns" (62) "WholeTurns" "listing" "LWholeTurns$Listing;" ∈ zTT := zTT_of 318 (by decide +kernel) rfl
theorem tw_319 : Cond.fieldLink "WholeTurns" (69) "WholeTurns" "table" "LWholeTurns$Table;" ∈ zTT := zTT_of 319 (by decide +kernel) rfl
theorem tw_320 : Cond.fieldLink "WholeTurns" (76) "WholeTurns" "cell" "LWholeTurns$Cell;" ∈ zTT := zTT_of 320 (by decide +kernel) rfl
theorem tw_321 : Cond.fieldLink "WholeTurns" (83) "WholeTurns" "asks" "LWholeTurns$Asks;" ∈ zTT := zTT_of 321 (by decide +kernel) rfl
theorem tw_322 : Cond.fieldLink "WholeTurns" (87) "WholeTurns" "finding" "I" ∈ zTT := zTT_of 322 (by decide +kernel) rfl
theorem tw_323 : Cond.laysFinal "WholeTurns" "WholeTurns" "trays" "[LWholeTurns$Tray;" ∈ zTT := zTT_of 323 (by decide +kernel) rfl
theorem tw_325 : Cond.laysFinal "WholeTurns" "WholeTurns" "fours" "[LWholeTurns$Four;" ∈ zTT := zTT_of 325 (by decide +kernel) rfl
theorem tw_327 : Cond.laysFinal "WholeTurns" "WholeTurns" "kinds" "[I" ∈ zTT := zTT_of 327 (by decide +kernel) rfl
theorem tw_329 : Cond.laysFinal "WholeTurns" "WholeTurns" "made" "LWholeTurns$Four;" ∈ zTT := zTT_of 329 (by decide +kernel) rfl
theorem tw_331 : Cond.laysFinal "WholeTurns" "WholeTurns" "division" "LWholeTurns$Division;" ∈ zTT := zTT_of 331 (by decide +kernel) rfl
theorem tw_333 : Cond.laysFinal "WholeTurns" "WholeTurns" "associate" "LWholeTurns$Associate;" ∈ zTT := zTT_of 333 (by decide +kernel) rfl
theorem tw_335 : Cond.laysFinal "WholeTurns" "WholeTurns" "greatest" "LWholeTurns$Greatest;" ∈ zTT := zTT_of 335 (by decide +kernel) rfl
theorem tw_337 : Cond.laysFinal "WholeTurns" "WholeTurns" "parts" "LWholeTurns$Parts;" ∈ zTT := zTT_of 337 (by decide +kernel) rfl
theorem tw_339 : Cond.laysFinal "WholeTurns" "WholeTurns" "listing" "LWholeTurns$Listing;" ∈ zTT := zTT_of 339 (by decide +kernel) rfl
theorem tw_341 : Cond.laysFinal "WholeTurns" "WholeTurns" "table" "LWholeTurns$Table;" ∈ zTT := zTT_of 341 (by decide +kernel) rfl
theorem tw_343 : Cond.laysFinal "WholeTurns" "WholeTurns" "cell" "LWholeTurns$Cell;" ∈ zTT := zTT_of 343 (by decide +kernel) rfl
theorem tw_345 : Cond.laysFinal "WholeTurns" "WholeTurns" "asks" "LWholeTurns$Asks;" ∈ zTT := zTT_of 345 (by decide +kernel) rfl
theorem tw_347 : Cond.lays "WholeTurns" "WholeTurns" "finding" "I" ∈ zTT := zTT_of 347 (by decide +kernel) rfl
theorem tw_350 : Cond.methodLink "WholeTurnsLaw" (13) yX10_tray ∈ zTT := zTT_of 350 (by decide +kernel) rfl
theorem tw_351 : Cond.instanceMethod yX10_tray ∈ zTT := zTT_of 351 (by decide +kernel) rfl
theorem tw_352 : Cond.selects "WholeTurns" yX10_tray yX10_tray ∈ zTT := zTT_of 352 (by decide +kernel) rfl
theorem tw_353 : Cond.code yX10_tray prog_1_method_2_code (5) (Option.some FieldType.int) ∈ zTT := zTT_of 353 (by decide +kernel) rfl
theorem tw_354 : Cond.methodLink "WholeTurns" (91) yX10_outside ∈ zTT := zTT_of 354 (by decide +kernel) rfl
theorem tw_355 : Cond.static yX10_outside ∈ zTT := zTT_of 355 (by decide +kernel) rfl
theorem tw_356 : Cond.code yX10_outside prog_1_method_35_code (2) (Option.some FieldType.boolean) ∈ zTT := zTT_of 356 (by decide +kernel) rfl
theorem tw_357 : Cond.constant "WholeTurns" (95) (-1000001) ∈ zTT := zTT_of 357 (by decide +kernel) rfl
theorem tw_358 : Cond.methodLink "WholeTurns" (96) yX10_found ∈ zTT := zTT_of 358 (by decide +kernel) rfl
theorem tw_360 : Cond.instanceMethod yX10_found ∈ zTT := zTT_of 360 (by decide +kernel) rfl
theorem tw_361 : Cond.code yX10_found prog_1_method_37_code (2) (Option.some FieldType.int) ∈ zTT := zTT_of 361 (by decide +kernel) rfl
theorem tw_362 : Cond.constant "WholeTurns" (300) (-1000010) ∈ zTT := zTT_of 362 (by decide +kernel) rfl
theorem tw_363 : Cond.methodLink "WholeTurns" (100) yX9_begin ∈ zTT := zTT_of 363 (by decide +kernel) rfl
theorem tw_364 : Cond.instanceMethod yX9_begin ∈ zTT := zTT_of 364 (by decide +kernel) rfl
theorem tw_365 : Cond.selects "WholeTurns$Tray" yX9_begin yX9_begin ∈ zTT := zTT_of 365 (by decide +kernel) rfl
theorem tw_366 : Cond.code yX9_begin prog_11_method_2_code (4) (Option.none : Option FieldType) ∈ zTT := zTT_of 366 (by decide +kernel) rfl
theorem tw_367 : Cond.methodLink "WholeTurns" (104) yX10_answered ∈ zTT := zTT_of 367 (by decide +kernel) rfl
theorem tw_369 : Cond.instanceMethod yX10_answered ∈ zTT := zTT_of 369 (by decide +kernel) rfl
theorem tw_370 : Cond.code yX10_answered prog_1_method_38_code (2) (Option.some FieldType.int) ∈ zTT := zTT_of 370 (by decide +kernel) rfl
theorem tw_371 : Cond.methodLink "WholeTurnsLaw" (20) yX10_set ∈ zTT := zTT_of 371 (by decide +kernel) rfl
theorem tw_372 : Cond.instanceMethod yX10_set ∈ zTT := zTT_of 372 (by decide +kernel) rfl
theorem tw_373 : Cond.selects "WholeTurns" yX10_set yX10_set ∈ zTT := zTT_of 373 (by decide +kernel) rfl
theorem tw_374 : Cond.code yX10_set prog_1_method_3_code (6) (Option.some FieldType.long) ∈ zTT := zTT_of 374 (by decide +kernel) rfl
theorem tw_375 : Cond.constantLong "WholeTurns" (107) (-1000001) ∈ zTT := zTT_of 375 (by decide +kernel) rfl
theorem tw_376 : Cond.methodLink "WholeTurns" (109) yX10_standing ∈ zTT := zTT_of 376 (by decide +kernel) rfl
theorem tw_378 : Cond.instanceMethod yX10_standing ∈ zTT := zTT_of 378 (by decide +kernel) rfl
theorem tw_379 : Cond.code yX10_standing prog_1_method_39_code (3) (Option.some (FieldType.object "WholeTurns$Tray")) ∈ zTT := zTT_of 379 (by decide +kernel) rfl
theorem tw_380 : Cond.methodLink "WholeTurns" (116) yX9_write ∈ zTT := zTT_of 380 (by decide +kernel) rfl
theorem tw_381 : Cond.instanceMethod yX9_write ∈ zTT := zTT_of 381 (by decide +kernel) rfl
theorem tw_382 : Cond.selects "WholeTurns$Tray" yX9_write yX9_write ∈ zTT := zTT_of 382 (by decide +kernel) rfl
theorem tw_383 : Cond.code yX9_write prog_11_method_5_code (4) (Option.none : Option FieldType) ∈ zTT := zTT_of 383 (by decide +kernel) rfl
theorem tw_384 : Cond.methodLink "WholeTurns" (120) yX9_item ∈ zTT := zTT_of 384 (by decide +kernel) rfl
theorem tw_385 : Cond.instanceMethod yX9_item ∈ zTT := zTT_of 385 (by decide +kernel) rfl
theorem tw_386 : Cond.selects "WholeTurns$Tray" yX9_item yX9_item ∈ zTT := zTT_of 386 (by decide +kernel) rfl
theorem tw_387 : Cond.code yX9_item prog_11_method_4_code (2) (Option.some FieldType.long) ∈ zTT := zTT_of 387 (by decide +kernel) rfl
theorem tw_388 : Cond.methodLink "WholeTurnsLaw" (25) yX10_copy ∈ zTT := zTT_of 388 (by decide +kernel) rfl
theorem tw_389 : Cond.instanceMethod yX10_copy ∈ zTT := zTT_of 389 (by decide +kernel) rfl
theorem tw_390 : Cond.selects "WholeTurns" yX10_copy yX10_copy ∈ zTT := zTT_of 390 (by decide +kernel) rfl
theorem tw_391 : Cond.code yX10_copy prog_1_method_4_code (8) (Option.some FieldType.int) ∈ zTT := zTT_of 391 (by decide +kernel) rfl
theorem tw_392 : Cond.methodLink "WholeTurns" (127) yX9_hasRun ∈ zTT := zTT_of 392 (by decide +kernel) rfl
theorem tw_393 : Cond.instanceMethod yX9_hasRun ∈ zTT := zTT_of 393 (by decide +kernel) rfl
theorem tw_394 : Cond.selects "WholeTurns$Tray" yX9_hasRun yX9_hasRun ∈ zTT := zTT_of 394 (by decide +kernel) rfl
theorem tw_395 : Cond.code yX9_hasRun prog_11_method_3_code (3) (Option.some FieldType.boolean) ∈ zTT := zTT_of 395 (by decide +kernel) rfl
theorem tw_396 : Cond.methodLink "WholeTurns" (134) ⟨"java/lang/System", "arraycopy", "(Ljava/lang/Object;ILjava/lang/Object;II)V"⟩ ∈ zTT := zTT_of 396 (by decide +kernel) rfl
theorem tw_397 : Cond.static ⟨"java/lang/System", "arraycopy", "(Ljava/lang/Object;ILjava/lang/Object;II)V"⟩ ∈ zTT := zTT_of 397 (by decide +kernel) rfl
theorem tw_398 : Cond.native ⟨"java/lang/System", "arraycopy", "(Ljava/lang/Object;ILjava/lang/Object;II)V"⟩ ∈ zTT := zTT_of 398 (by decide +kernel) rfl
theorem tw_399 : Cond.methodLink "WholeTurnsLaw" (30) yX10_drop ∈ zTT := zTT_of 399 (by decide +kernel) rfl
theorem tw_400 : Cond.instanceMethod yX10_drop ∈ zTT := zTT_of 400 (by decide +kernel) rfl
theorem tw_401 : Cond.selects "WholeTurns" yX10_drop yX10_drop ∈ zTT := zTT_of 401 (by decide +kernel) rfl
theorem tw_402 : Cond.code yX10_drop prog_1_method_5_code (3) (Option.some FieldType.int) ∈ zTT := zTT_of 402 (by decide +kernel) rfl
theorem tw_403 : Cond.methodLink "WholeTurnsLaw" (35) yX10_take ∈ zTT := zTT_of 403 (by decide +kernel) rfl
theorem tw_404 : Cond.instanceMethod yX10_take ∈ zTT := zTT_of 404 (by decide +kernel) rfl
theorem tw_405 : Cond.selects "WholeTurns" yX10_take yX10_take ∈ zTT := zTT_of 405 (by decide +kernel) rfl
theorem tw_406 : Cond.code yX10_take prog_1_method_6_code (5) (Option.some FieldType.int) ∈ zTT := zTT_of 406 (by decide +kernel) rfl
theorem tw_407 : Cond.methodLink "WholeTurns" (140) yX4_become ∈ zTT := zTT_of 407 (by decide +kernel) rfl
theorem tw_408 : Cond.instanceMethod yX4_become ∈ zTT := zTT_of 408 (by decide +kernel) rfl
theorem tw_409 : Cond.selects "WholeTurns$Four" yX4_become yX4_become ∈ zTT := zTT_of 409 (by decide +kernel) rfl
theorem tw_410 : Cond.code yX4_become prog_6_method_2_code (9) (Option.none : Option FieldType) ∈ zTT := zTT_of 410 (by decide +kernel) rfl
theorem tw_411 : Cond.methodLink "WholeTurns" (144) yX4_isAllEven ∈ zTT := zTT_of 411 (by decide +kernel) rfl
theorem tw_412 : Cond.instanceMethod yX4_isAllEven ∈ zTT := zTT_of 412 (by decide +kernel) rfl
theorem tw_413 : Cond.selects "WholeTurns$Four" yX4_isAllEven yX4_isAllEven ∈ zTT := zTT_of 413 (by decide +kernel) rfl
theorem tw_414 : Cond.code yX4_isAllEven prog_6_method_14_code (1) (Option.some FieldType.boolean) ∈ zTT := zTT_of 414 (by decide +kernel) rfl
theorem tw_415 : Cond.methodLink "WholeTurns" (148) yX4_isAllOdd ∈ zTT := zTT_of 415 (by decide +kernel) rfl
theorem tw_416 : Cond.instanceMethod yX4_isAllOdd ∈ zTT := zTT_of 416 (by decide +kernel) rfl
theorem tw_417 : Cond.selects "WholeTurns$Four" yX4_isAllOdd yX4_isAllOdd ∈ zTT := zTT_of 417 (by decide +kernel) rfl
theorem tw_418 : Cond.code yX4_isAllOdd prog_6_method_15_code (1) (Option.some FieldType.boolean) ∈ zTT := zTT_of 418 (by decide +kernel) rfl
theorem tw_419 : Cond.methodLink "WholeTurns" (151) yX4_isTooGreat ∈ zTT := zTT_of 419 (by decide +kernel) rfl
theorem tw_420 : Cond.instanceMethod yX4_isTooGreat ∈ zTT := zTT_of 420 (by decide +kernel) rfl
theorem tw_421 : Cond.selects "WholeTurns$Four" yX4_isTooGreat yX4_isTooGreat ∈ zTT := zTT_of 421 (by decide +kernel) rfl
theorem tw_422 : Cond.code yX4_isTooGreat prog_6_method_16_code (1) (Option.some FieldType.boolean) ∈ zTT := zTT_of 422 (by decide +kernel) rfl
theorem tw_423 : Cond.methodLink "WholeTurns$Four" (38) yX4_isFar ∈ zTT := zTT_of 423 (by decide +kernel) rfl
theorem tw_424 : Cond.static yX4_isFar ∈ zTT := zTT_of 424 (by decide +kernel) rfl
theorem tw_425 : Cond.code yX4_isFar prog_6_method_17_code (2) (Option.some FieldType.boolean) ∈ zTT := zTT_of 425 (by decide +kernel) rfl
theorem tw_426 : Cond.constantLong "WholeTurns$Four" (47) (-63245) ∈ zTT := zTT_of 426 (by decide +kernel) rfl
theorem tw_427 : Cond.constantLong "WholeTurns$Four" (49) (63245) ∈ zTT := zTT_of 427 (by decide +kernel) rfl
theorem tw_428 : Cond.methodLink "WholeTurns$Four" (42) yX4_ownNorm ∈ zTT := zTT_of 428 (by decide +kernel) rfl
theorem tw_429 : Cond.instanceMethod yX4_ownNorm ∈ zTT := zTT_of 429 (by decide +kernel) rfl
theorem tw_430 : Cond.selects "WholeTurns$Four" yX4_ownNorm yX4_ownNorm ∈ zTT := zTT_of 430 (by decide +kernel) rfl
theorem tw_431 : Cond.code yX4_ownNorm prog_6_method_12_code (1) (Option.some FieldType.long) ∈ zTT := zTT_of 431 (by decide +kernel) rfl
theorem tw_432 : Cond.methodLink "WholeTurns$Four" (32) yX4_squareSum ∈ zTT := zTT_of 432 (by decide +kernel) rfl
theorem tw_433 : Cond.instanceMethod yX4_squareSum ∈ zTT := zTT_of 433 (by decide +kernel) rfl
theorem tw_434 : Cond.selects "WholeTurns$Four" yX4_squareSum yX4_squareSum ∈ zTT := zTT_of 434 (by decide +kernel) rfl
theorem tw_435 : Cond.code yX4_squareSum prog_6_method_11_code (1) (Option.some FieldType.long) ∈ zTT := zTT_of 435 (by decide +kernel) rfl
theorem tw_436 : Cond.constantLong "WholeTurns$Four" (36) (4) ∈ zTT := zTT_of 436 (by decide +kernel) rfl
theorem tw_437 : Cond.constantLong "WholeTurns$Four" (45) (1000000000) ∈ zTT := zTT_of 437 (by decide +kernel) rfl
theorem tw_438 : Cond.constant "WholeTurns" (154) (-1000003) ∈ zTT := zTT_of 438 (by decide +kernel) rfl
theorem tw_439 : Cond.methodLink "WholeTurns" (155) yX10_keep ∈ zTT := zTT_of 439 (by decide +kernel) rfl
theorem tw_441 : Cond.instanceMethod yX10_keep ∈ zTT := zTT_of 441 (by decide +kernel) rfl
theorem tw_442 : Cond.code yX10_keep prog_1_method_41_code (3) (Option.some FieldType.int) ∈ zTT := zTT_of 442 (by decide +kernel) rfl
theorem tw_443 : Cond.methodLink "WholeTurns" (227) yX4_become_ ∈ zTT := zTT_of 443 (by decide +kernel) rfl
theorem tw_444 : Cond.instanceMethod yX4_become_ ∈ zTT := zTT_of 444 (by decide +kernel) rfl
theorem tw_445 : Cond.selects "WholeTurns$Four" yX4_become_ yX4_become_ ∈ zTT := zTT_of 445 (by decide +kernel) rfl
theorem tw_446 : Cond.code yX4_become_ prog_6_method_3_code (2) (Option.none : Option FieldType) ∈ zTT := zTT_of 446 (by decide +kernel) rfl
theorem tw_447 : Cond.methodLink "WholeTurns$Four" (24) yX4_become ∈ zTT := zTT_of 447 (by decide +kernel) rfl
theorem tw_448 : Cond.methodLink "WholeTurns" (301) yX10_kindOf ∈ zTT := zTT_of 448 (by decide +kernel) rfl
theorem tw_449 : Cond.static yX10_kindOf ∈ zTT := zTT_of 449 (by decide +kernel) rfl
theorem tw_450 : Cond.code yX10_kindOf prog_1_method_42_code (3) (Option.some FieldType.int) ∈ zTT := zTT_of 450 (by decide +kernel) rfl
theorem tw_451 : Cond.methodLink "WholeTurns" (200) yX4_isZero ∈ zTT := zTT_of 451 (by decide +kernel) rfl
theorem tw_452 : Cond.instanceMethod yX4_isZero ∈ zTT := zTT_of 452 (by decide +kernel) rfl
theorem tw_453 : Cond.selects "WholeTurns$Four" yX4_isZero yX4_isZero ∈ zTT := zTT_of 453 (by decide +kernel) rfl
theorem tw_454 : Cond.code yX4_isZero prog_6_method_13_code (1) (Option.some FieldType.boolean) ∈ zTT := zTT_of 454 (by decide +kernel) rfl
theorem tw_455 : Cond.methodLink "WholeTurns" (166) yX4_ownNorm ∈ zTT := zTT_of 455 (by decide +kernel) rfl
theorem tw_456 : Cond.methodLink "WholeTurns" (304) yX10_leastPrime ∈ zTT := zTT_of 456 (by decide +kernel) rfl
theorem tw_457 : Cond.static yX10_leastPrime ∈ zTT := zTT_of 457 (by decide +kernel) rfl
theorem tw_458 : Cond.code yX10_leastPrime prog_1_method_48_code (4) (Option.some FieldType.long) ∈ zTT := zTT_of 458 (by decide +kernel) rfl
theorem tw_459 : Cond.constantLong "WholeTurns" (316) (2) ∈ zTT := zTT_of 459 (by decide +kernel) rfl
theorem tw_460 : Cond.constantLong "WholeTurns" (318) (3) ∈ zTT := zTT_of 460 (by decide +kernel) rfl
theorem tw_461 : Cond.methodLink "WholeTurns" (224) yX4_wholeDivisor ∈ zTT := zTT_of 461 (by decide +kernel) rfl
theorem tw_462 : Cond.instanceMethod yX4_wholeDivisor ∈ zTT := zTT_of 462 (by decide +kernel) rfl
theorem tw_463 : Cond.selects "WholeTurns$Four" yX4_wholeDivisor yX4_wholeDivisor ∈ zTT := zTT_of 463 (by decide +kernel) rfl
theorem tw_464 : Cond.code yX4_wholeDivisor prog_6_method_21_code (4) (Option.some FieldType.long) ∈ zTT := zTT_of 464 (by decide +kernel) rfl
theorem tw_465 : Cond.methodLink "WholeTurns$Four" (55) yX4_numbersDivisor ∈ zTT := zTT_of 465 (by decide +kernel) rfl
theorem tw_466 : Cond.instanceMethod yX4_numbersDivisor ∈ zTT := zTT_of 466 (by decide +kernel) rfl
theorem tw_467 : Cond.selects "WholeTurns$Four" yX4_numbersDivisor yX4_numbersDivisor ∈ zTT := zTT_of 467 (by decide +kernel) rfl
theorem tw_468 : Cond.code yX4_numbersDivisor prog_6_method_20_code (1) (Option.some FieldType.long) ∈ zTT := zTT_of 468 (by decide +kernel) rfl
theorem tw_470 : Cond.static yX10_commonDivisor ∈ zTT := zTT_of 470 (by decide +kernel) rfl
theorem tw_471 : Cond.code yX10_commonDivisor prog_1_method_47_code (11) (Option.some FieldType.long) ∈ zTT := zTT_of 471 (by decide +kernel) rfl
theorem tw_472 : Cond.methodLink "WholeTurns" (333) yJ9_abs_067f4 ∈ zTT := zTT_of 472 (by decide +kernel) rfl
theorem tw_473 : Cond.static yJ9_abs_067f4 ∈ zTT := zTT_of 473 (by decide +kernel) rfl
theorem tw_474 : Cond.code yJ9_abs_067f4 prog_14_method_61_code (2) (Option.some FieldType.long) ∈ zTT := zTT_of 474 (by decide +kernel) rfl
theorem tw_475 : Cond.constant "WholeTurns" (240) (1000000) ∈ zTT := zTT_of 475 (by decide +kernel) rfl
theorem tw_476 : Cond.constantLong "WholeTurns$Four" (28) (2) ∈ zTT := zTT_of 476 (by decide +kernel) rfl
theorem tw_477 : Cond.methodLink "WholeTurnsLaw" (39) yX10_clear ∈ zTT := zTT_of 477 (by decide +kernel) rfl
theorem tw_478 : Cond.instanceMethod yX10_clear ∈ zTT := zTT_of 478 (by decide +kernel) rfl
theorem tw_479 : Cond.selects "WholeTurns" yX10_clear yX10_clear ∈ zTT := zTT_of 479 (by decide +kernel) rfl
theorem tw_480 : Cond.code yX10_clear prog_1_method_7_code (3) (Option.some FieldType.int) ∈ zTT := zTT_of 480 (by decide +kernel) rfl
theorem tw_481 : Cond.methodLink "WholeTurnsLaw" (43) yX10_number ∈ zTT := zTT_of 481 (by decide +kernel) rfl
theorem tw_482 : Cond.instanceMethod yX10_number ∈ zTT := zTT_of 482 (by decide +kernel) rfl
theorem tw_483 : Cond.selects "WholeTurns" yX10_number yX10_number ∈ zTT := zTT_of 483 (by decide +kernel) rfl
theorem tw_484 : Cond.code yX10_number prog_1_method_8_code (4) (Option.some FieldType.long) ∈ zTT := zTT_of 484 (by decide +kernel) rfl
theorem tw_485 : Cond.methodLink "WholeTurns" (159) yX10_held ∈ zTT := zTT_of 485 (by decide +kernel) rfl
theorem tw_487 : Cond.instanceMethod yX10_held ∈ zTT := zTT_of 487 (by decide +kernel) rfl
theorem tw_488 : Cond.code yX10_held prog_1_method_40_code (2) (Option.some (FieldType.object "WholeTurns$Four")) ∈ zTT := zTT_of 488 (by decide +kernel) rfl
theorem tw_489 : Cond.methodLink "WholeTurns" (163) yX4_numberAt ∈ zTT := zTT_of 489 (by decide +kernel) rfl
theorem tw_490 : Cond.instanceMethod yX4_numberAt ∈ zTT := zTT_of 490 (by decide +kernel) rfl
theorem tw_491 : Cond.selects "WholeTurns$Four" yX4_numberAt yX4_numberAt ∈ zTT := zTT_of 491 (by decide +kernel) rfl
theorem tw_492 : Cond.code yX4_numberAt prog_6_method_10_code (2) (Option.some FieldType.long) ∈ zTT := zTT_of 492 (by decide +kernel) rfl
theorem tw_493 : Cond.methodLink "WholeTurnsLaw" (48) yX10_norm ∈ zTT := zTT_of 493 (by decide +kernel) rfl
theorem tw_494 : Cond.instanceMethod yX10_norm ∈ zTT := zTT_of 494 (by decide +kernel) rfl
theorem tw_495 : Cond.selects "WholeTurns" yX10_norm yX10_norm ∈ zTT := zTT_of 495 (by decide +kernel) rfl
theorem tw_496 : Cond.code yX10_norm prog_1_method_9_code (3) (Option.some FieldType.int) ∈ zTT := zTT_of 496 (by decide +kernel) rfl
theorem tw_497 : Cond.methodLink "WholeTurnsLaw" (52) yX10_kind ∈ zTT := zTT_of 497 (by decide +kernel) rfl
theorem tw_498 : Cond.instanceMethod yX10_kind ∈ zTT := zTT_of 498 (by decide +kernel) rfl
theorem tw_499 : Cond.selects "WholeTurns" yX10_kind yX10_kind ∈ zTT := zTT_of 499 (by decide +kernel) rfl
theorem tw_500 : Cond.code yX10_kind prog_1_method_10_code (2) (Option.some FieldType.int) ∈ zTT := zTT_of 500 (by decide +kernel) rfl
theorem tw_501 : Cond.methodLink "WholeTurnsLaw" (56) yX10_is ∈ zTT := zTT_of 501 (by decide +kernel) rfl
theorem tw_502 : Cond.instanceMethod yX10_is ∈ zTT := zTT_of 502 (by decide +kernel) rfl
theorem tw_503 : Cond.selects "WholeTurns" yX10_is yX10_is ∈ zTT := zTT_of 503 (by decide +kernel) rfl
theorem tw_504 : Cond.code yX10_is prog_1_method_11_code (3) (Option.some FieldType.int) ∈ zTT := zTT_of 504 (by decide +kernel) rfl
theorem tw_505 : Cond.methodLink "WholeTurns" (170) yX10_isToo ∈ zTT := zTT_of 505 (by decide +kernel) rfl
theorem tw_506 : Cond.static yX10_isToo ∈ zTT := zTT_of 506 (by decide +kernel) rfl
theorem tw_507 : Cond.code yX10_isToo prog_1_method_43_code (2) (Option.some FieldType.boolean) ∈ zTT := zTT_of 507 (by decide +kernel) rfl
theorem tw_508 : Cond.methodLink "WholeTurnsLaw" (61) yX10_as ∈ zTT := zTT_of 508 (by decide +kernel) rfl
theorem tw_509 : Cond.instanceMethod yX10_as ∈ zTT := zTT_of 509 (by decide +kernel) rfl
theorem tw_510 : Cond.selects "WholeTurns" yX10_as yX10_as ∈ zTT := zTT_of 510 (by decide +kernel) rfl
theorem tw_511 : Cond.code yX10_as prog_1_method_12_code (4) (Option.some FieldType.int) ∈ zTT := zTT_of 511 (by decide +kernel) rfl
theorem tw_512 : Cond.methodLink "WholeTurnsLaw" (65) yX10_ask ∈ zTT := zTT_of 512 (by decide +kernel) rfl
theorem tw_513 : Cond.instanceMethod yX10_ask ∈ zTT := zTT_of 513 (by decide +kernel) rfl
theorem tw_514 : Cond.selects "WholeTurns" yX10_ask yX10_ask ∈ zTT := zTT_of 514 (by decide +kernel) rfl
theorem tw_515 : Cond.code yX10_ask prog_1_method_13_code (4) (Option.some FieldType.int) ∈ zTT := zTT_of 515 (by decide +kernel) rfl
theorem tw_516 : Cond.methodLink "WholeTurns" (173) yX0_forget ∈ zTT := zTT_of 516 (by decide +kernel) rfl
theorem tw_517 : Cond.instanceMethod yX0_forget ∈ zTT := zTT_of 517 (by decide +kernel) rfl
theorem tw_518 : Cond.selects "WholeTurns$Asks" yX0_forget yX0_forget ∈ zTT := zTT_of 518 (by decide +kernel) rfl
theorem tw_519 : Cond.code yX0_forget prog_2_method_2_code (1) (Option.none : Option FieldType) ∈ zTT := zTT_of 519 (by decide +kernel) rfl
theorem tw_520 : Cond.methodLink "WholeTurns" (176) yX0_sizeOf ∈ zTT := zTT_of 520 (by decide +kernel) rfl
theorem tw_521 : Cond.instanceMethod yX0_sizeOf ∈ zTT := zTT_of 521 (by decide +kernel) rfl
theorem tw_522 : Cond.selects "WholeTurns$Asks" yX0_sizeOf yX0_sizeOf ∈ zTT := zTT_of 522 (by decide +kernel) rfl
theorem tw_523 : Cond.code yX0_sizeOf prog_2_method_5_code (3) (Option.some FieldType.int) ∈ zTT := zTT_of 523 (by decide +kernel) rfl
theorem tw_524 : Cond.methodLink "WholeTurns$Asks" (20) yX0_unitSize ∈ zTT := zTT_of 524 (by decide +kernel) rfl
theorem tw_526 : Cond.instanceMethod yX0_unitSize ∈ zTT := zTT_of 526 (by decide +kernel) rfl
theorem tw_527 : Cond.code yX0_unitSize prog_2_method_7_code (1) (Option.some FieldType.int) ∈ zTT := zTT_of 527 (by decide +kernel) rfl
theorem tw_528 : Cond.methodLink "WholeTurns$Asks" (31) yX0_begin ∈ zTT := zTT_of 528 (by decide +kernel) rfl
theorem tw_530 : Cond.instanceMethod yX0_begin ∈ zTT := zTT_of 530 (by decide +kernel) rfl
theorem tw_531 : Cond.code yX0_begin prog_2_method_4_code (2) (Option.none : Option FieldType) ∈ zTT := zTT_of 531 (by decide +kernel) rfl
theorem tw_532 : Cond.methodLink "WholeTurns$Asks" (24) yX0_primeSize ∈ zTT := zTT_of 532 (by decide +kernel) rfl
theorem tw_534 : Cond.instanceMethod yX0_primeSize ∈ zTT := zTT_of 534 (by decide +kernel) rfl
theorem tw_535 : Cond.code yX0_primeSize prog_2_method_8_code (2) (Option.some FieldType.int) ∈ zTT := zTT_of 535 (by decide +kernel) rfl
theorem tw_536 : Cond.methodLink "WholeTurns$Asks" (28) yX0_lentSize ∈ zTT := zTT_of 536 (by decide +kernel) rfl
theorem tw_538 : Cond.instanceMethod yX0_lentSize ∈ zTT := zTT_of 538 (by decide +kernel) rfl
theorem tw_539 : Cond.code yX0_lentSize prog_2_method_6_code (2) (Option.some FieldType.int) ∈ zTT := zTT_of 539 (by decide +kernel) rfl
theorem tw_540 : Cond.methodLink "WholeTurns$Asks" (35) yX4_ownNorm ∈ zTT := zTT_of 540 (by decide +kernel) rfl
theorem tw_541 : Cond.constantLong "WholeTurns$Asks" (41) (1000003) ∈ zTT := zTT_of 541 (by decide +kernel) rfl
theorem tw_542 : Cond.methodLink "WholeTurns" (180) yX0_shareOf ∈ zTT := zTT_of 542 (by decide +kernel) rfl
theorem tw_543 : Cond.instanceMethod yX0_shareOf ∈ zTT := zTT_of 543 (by decide +kernel) rfl
theorem tw_544 : Cond.selects "WholeTurns$Asks" yX0_shareOf yX0_shareOf ∈ zTT := zTT_of 544 (by decide +kernel) rfl
theorem tw_545 : Cond.code yX0_shareOf prog_2_method_9_code (3) (Option.some FieldType.int) ∈ zTT := zTT_of 545 (by decide +kernel) rfl
theorem tw_546 : Cond.methodLink "WholeTurns$Asks" (43) yX0_unitShare ∈ zTT := zTT_of 546 (by decide +kernel) rfl
theorem tw_548 : Cond.instanceMethod yX0_unitShare ∈ zTT := zTT_of 548 (by decide +kernel) rfl
theorem tw_549 : Cond.code yX0_unitShare prog_2_method_13_code (3) (Option.some FieldType.int) ∈ zTT := zTT_of 549 (by decide +kernel) rfl
theorem tw_550 : Cond.methodLink "WholeTurns$Asks" (47) yX0_plainShare ∈ zTT := zTT_of 550 (by decide +kernel) rfl
theorem tw_552 : Cond.instanceMethod yX0_plainShare ∈ zTT := zTT_of 552 (by decide +kernel) rfl
theorem tw_553 : Cond.code yX0_plainShare prog_2_method_12_code (4) (Option.some FieldType.int) ∈ zTT := zTT_of 553 (by decide +kernel) rfl
theorem tw_554 : Cond.methodLink "WholeTurns$Asks" (53) yX0_fourShare ∈ zTT := zTT_of 554 (by decide +kernel) rfl
theorem tw_556 : Cond.instanceMethod yX0_fourShare ∈ zTT := zTT_of 556 (by decide +kernel) rfl
theorem tw_557 : Cond.code yX0_fourShare prog_2_method_10_code (1) (Option.some FieldType.int) ∈ zTT := zTT_of 557 (by decide +kernel) rfl
theorem tw_558 : Cond.methodLink "WholeTurns$Asks" (56) yX0_sizeOf ∈ zTT := zTT_of 558 (by decide +kernel) rfl
theorem tw_559 : Cond.methodLink "WholeTurns$Asks" (50) yX0_halfShare ∈ zTT := zTT_of 559 (by decide +kernel) rfl
theorem tw_561 : Cond.instanceMethod yX0_halfShare ∈ zTT := zTT_of 561 (by decide +kernel) rfl
theorem tw_562 : Cond.code yX0_halfShare prog_2_method_11_code (1) (Option.some FieldType.int) ∈ zTT := zTT_of 562 (by decide +kernel) rfl
theorem tw_563 : Cond.methodLink "WholeTurns" (183) yX0_markOf ∈ zTT := zTT_of 563 (by decide +kernel) rfl
theorem tw_564 : Cond.instanceMethod yX0_markOf ∈ zTT := zTT_of 564 (by decide +kernel) rfl
theorem tw_565 : Cond.selects "WholeTurns$Asks" yX0_markOf yX0_markOf ∈ zTT := zTT_of 565 (by decide +kernel) rfl
theorem tw_566 : Cond.code yX0_markOf prog_2_method_14_code (3) (Option.some FieldType.int) ∈ zTT := zTT_of 566 (by decide +kernel) rfl
theorem tw_567 : Cond.methodLink "WholeTurns$Asks" (59) yX0_primeMark ∈ zTT := zTT_of 567 (by decide +kernel) rfl
theorem tw_569 : Cond.instanceMethod yX0_primeMark ∈ zTT := zTT_of 569 (by decide +kernel) rfl
theorem tw_570 : Cond.code yX0_primeMark prog_2_method_17_code (2) (Option.some FieldType.int) ∈ zTT := zTT_of 570 (by decide +kernel) rfl
theorem tw_571 : Cond.methodLink "WholeTurns$Asks" (62) yX0_plainMark ∈ zTT := zTT_of 571 (by decide +kernel) rfl
theorem tw_573 : Cond.instanceMethod yX0_plainMark ∈ zTT := zTT_of 573 (by decide +kernel) rfl
theorem tw_574 : Cond.code yX0_plainMark prog_2_method_16_code (2) (Option.some FieldType.int) ∈ zTT := zTT_of 574 (by decide +kernel) rfl
theorem tw_575 : Cond.methodLink "WholeTurns$Asks" (65) yX0_lentMark ∈ zTT := zTT_of 575 (by decide +kernel) rfl
theorem tw_577 : Cond.instanceMethod yX0_lentMark ∈ zTT := zTT_of 577 (by decide +kernel) rfl
theorem tw_578 : Cond.code yX0_lentMark prog_2_method_15_code (2) (Option.some FieldType.int) ∈ zTT := zTT_of 578 (by decide +kernel) rfl
theorem tw_579 : Cond.constantLong "WholeTurns$Asks" (81) (97) ∈ zTT := zTT_of 579 (by decide +kernel) rfl
theorem tw_580 : Cond.methodLink "WholeTurns$Asks" (83) yJ9_floorMod_f86c9 ∈ zTT := zTT_of 580 (by decide +kernel) rfl
theorem tw_581 : Cond.static yJ9_floorMod_f86c9 ∈ zTT := zTT_of 581 (by decide +kernel) rfl
theorem tw_582 : Cond.code yJ9_floorMod_f86c9 prog_14_method_52_code (6) (Option.some FieldType.long) ∈ zTT := zTT_of 582 (by decide +kernel) rfl
theorem tw_583 : Cond.methodLink "WholeTurnsLaw" (69) yX10_trace ∈ zTT := zTT_of 583 (by decide +kernel) rfl
theorem tw_584 : Cond.instanceMethod yX10_trace ∈ zTT := zTT_of 584 (by decide +kernel) rfl
theorem tw_585 : Cond.selects "WholeTurns" yX10_trace yX10_trace ∈ zTT := zTT_of 585 (by decide +kernel) rfl
theorem tw_586 : Cond.code yX10_trace prog_1_method_14_code (2) (Option.some FieldType.int) ∈ zTT := zTT_of 586 (by decide +kernel) rfl
theorem tw_587 : Cond.methodLink "WholeTurns" (186) yX0_traceAt ∈ zTT := zTT_of 587 (by decide +kernel) rfl
theorem tw_588 : Cond.instanceMethod yX0_traceAt ∈ zTT := zTT_of 588 (by decide +kernel) rfl
theorem tw_589 : Cond.selects "WholeTurns$Asks" yX0_traceAt yX0_traceAt ∈ zTT := zTT_of 589 (by decide +kernel) rfl
theorem tw_590 : Cond.code yX0_traceAt prog_2_method_3_code (2) (Option.some FieldType.int) ∈ zTT := zTT_of 590 (by decide +kernel) rfl
theorem tw_591 : Cond.constant "WholeTurns$Asks" (19) (-1000000) ∈ zTT := zTT_of 591 (by decide +kernel) rfl
theorem tw_592 : Cond.methodLink "WholeTurnsLaw" (73) yX10_times ∈ zTT := zTT_of 592 (by decide +kernel) rfl
theorem tw_593 : Cond.instanceMethod yX10_times ∈ zTT := zTT_of 593 (by decide +kernel) rfl
theorem tw_594 : Cond.selects "WholeTurns" yX10_times yX10_times ∈ zTT := zTT_of 594 (by decide +kernel) rfl
theorem tw_595 : Cond.code yX10_times prog_1_method_15_code (6) (Option.some FieldType.int) ∈ zTT := zTT_of 595 (by decide +kernel) rfl
theorem tw_596 : Cond.methodLink "WholeTurns" (189) yX4_becomeProduct ∈ zTT := zTT_of 596 (by decide +kernel) rfl
theorem tw_597 : Cond.instanceMethod yX4_becomeProduct ∈ zTT := zTT_of 597 (by decide +kernel) rfl
theorem tw_598 : Cond.selects "WholeTurns$Four" yX4_becomeProduct yX4_becomeProduct ∈ zTT := zTT_of 598 (by decide +kernel) rfl
theorem tw_599 : Cond.code yX4_becomeProduct prog_6_method_7_code (11) (Option.none : Option FieldType) ∈ zTT := zTT_of 599 (by decide +kernel) rfl
theorem tw_600 : Cond.methodLink "WholeTurnsLaw" (77) yX10_sum ∈ zTT := zTT_of 600 (by decide +kernel) rfl
theorem tw_601 : Cond.instanceMethod yX10_sum ∈ zTT := zTT_of 601 (by decide +kernel) rfl
theorem tw_602 : Cond.selects "WholeTurns" yX10_sum yX10_sum ∈ zTT := zTT_of 602 (by decide +kernel) rfl
theorem tw_603 : Cond.code yX10_sum prog_1_method_16_code (6) (Option.some FieldType.int) ∈ zTT := zTT_of 603 (by decide +kernel) rfl
theorem tw_604 : Cond.methodLink "WholeTurns" (193) yX4_becomeSum ∈ zTT := zTT_of 604 (by decide +kernel) rfl
theorem tw_605 : Cond.instanceMethod yX4_becomeSum ∈ zTT := zTT_of 605 (by decide +kernel) rfl
theorem tw_606 : Cond.selects "WholeTurns$Four" yX4_becomeSum yX4_becomeSum ∈ zTT := zTT_of 606 (by decide +kernel) rfl
theorem tw_607 : Cond.code yX4_becomeSum prog_6_method_4_code (3) (Option.none : Option FieldType) ∈ zTT := zTT_of 607 (by decide +kernel) rfl
theorem tw_608 : Cond.methodLink "WholeTurnsLaw" (81) yX10_back ∈ zTT := zTT_of 608 (by decide +kernel) rfl
theorem tw_609 : Cond.instanceMethod yX10_back ∈ zTT := zTT_of 609 (by decide +kernel) rfl
theorem tw_610 : Cond.selects "WholeTurns" yX10_back yX10_back ∈ zTT := zTT_of 610 (by decide +kernel) rfl
theorem tw_611 : Cond.code yX10_back prog_1_method_17_code (4) (Option.some FieldType.int) ∈ zTT := zTT_of 611 (by decide +kernel) rfl
theorem tw_612 : Cond.methodLink "WholeTurns" (196) yX4_becomeBack ∈ zTT := zTT_of 612 (by decide +kernel) rfl
theorem tw_613 : Cond.instanceMethod yX4_becomeBack ∈ zTT := zTT_of 613 (by decide +kernel) rfl
theorem tw_614 : Cond.selects "WholeTurns$Four" yX4_becomeBack yX4_becomeBack ∈ zTT := zTT_of 614 (by decide +kernel) rfl
theorem tw_615 : Cond.code yX4_becomeBack prog_6_method_6_code (2) (Option.none : Option FieldType) ∈ zTT := zTT_of 615 (by decide +kernel) rfl
theorem tw_616 : Cond.methodLink "WholeTurnsLaw" (85) yX10_over ∈ zTT := zTT_of 616 (by decide +kernel) rfl
theorem tw_617 : Cond.instanceMethod yX10_over ∈ zTT := zTT_of 617 (by decide +kernel) rfl
theorem tw_618 : Cond.selects "WholeTurns" yX10_over yX10_over ∈ zTT := zTT_of 618 (by decide +kernel) rfl
theorem tw_619 : Cond.code yX10_over prog_1_method_18_code (8) (Option.some FieldType.int) ∈ zTT := zTT_of 619 (by decide +kernel) rfl
theorem tw_620 : Cond.constant "WholeTurns" (203) (-1000002) ∈ zTT := zTT_of 620 (by decide +kernel) rfl
theorem tw_621 : Cond.methodLink "WholeTurns" (204) yX3_divide ∈ zTT := zTT_of 621 (by decide +kernel) rfl
theorem tw_622 : Cond.instanceMethod yX3_divide ∈ zTT := zTT_of 622 (by decide +kernel) rfl
theorem tw_623 : Cond.selects "WholeTurns$Division" yX3_divide yX3_divide ∈ zTT := zTT_of 623 (by decide +kernel) rfl
theorem tw_624 : Cond.code yX3_divide prog_5_method_2_code (8) (Option.none : Option FieldType) ∈ zTT := zTT_of 624 (by decide +kernel) rfl
theorem tw_625 : Cond.methodLink "WholeTurns$Division" (27) yX4_becomeBack ∈ zTT := zTT_of 625 (by decide +kernel) rfl
theorem tw_626 : Cond.methodLink "WholeTurns$Division" (31) yX4_becomeProduct ∈ zTT := zTT_of 626 (by decide +kernel) rfl
theorem tw_627 : Cond.methodLink "WholeTurns$Division" (35) yX4_ownNorm ∈ zTT := zTT_of 627 (by decide +kernel) rfl
theorem tw_628 : Cond.methodLink "WholeTurns$Division" (39) yX4_numbersDivisor ∈ zTT := zTT_of 628 (by decide +kernel) rfl
theorem tw_630 : Cond.methodLink "WholeTurns$Division" (46) yX4_divideBy ∈ zTT := zTT_of 630 (by decide +kernel) rfl
theorem tw_631 : Cond.instanceMethod yX4_divideBy ∈ zTT := zTT_of 631 (by decide +kernel) rfl
theorem tw_632 : Cond.selects "WholeTurns$Four" yX4_divideBy yX4_divideBy ∈ zTT := zTT_of 632 (by decide +kernel) rfl
theorem tw_633 : Cond.code yX4_divideBy prog_6_method_9_code (3) (Option.none : Option FieldType) ∈ zTT := zTT_of 633 (by decide +kernel) rfl
theorem tw_634 : Cond.methodLink "WholeTurns$Division" (50) yX3_roundFraction ∈ zTT := zTT_of 634 (by decide +kernel) rfl
theorem tw_636 : Cond.instanceMethod yX3_roundFraction ∈ zTT := zTT_of 636 (by decide +kernel) rfl
theorem tw_637 : Cond.code yX3_roundFraction prog_5_method_3_code (4) (Option.none : Option FieldType) ∈ zTT := zTT_of 637 (by decide +kernel) rfl
theorem tw_638 : Cond.methodLink "WholeTurns$Division" (60) yX3_nearest ∈ zTT := zTT_of 638 (by decide +kernel) rfl
theorem tw_639 : Cond.static yX3_nearest ∈ zTT := zTT_of 639 (by decide +kernel) rfl
theorem tw_640 : Cond.code yX3_nearest prog_5_method_4_code (4) (Option.some FieldType.long) ∈ zTT := zTT_of 640 (by decide +kernel) rfl
theorem tw_641 : Cond.constantLong "WholeTurns$Division" (85) (2) ∈ zTT := zTT_of 641 (by decide +kernel) rfl
theorem tw_642 : Cond.methodLink "WholeTurns$Division" (87) yJ9_floorDiv_f86c9 ∈ zTT := zTT_of 642 (by decide +kernel) rfl
theorem tw_643 : Cond.static yJ9_floorDiv_f86c9 ∈ zTT := zTT_of 643 (by decide +kernel) rfl
theorem tw_644 : Cond.code yJ9_floorDiv_f86c9 prog_14_method_49_code (6) (Option.some FieldType.long) ∈ zTT := zTT_of 644 (by decide +kernel) rfl
theorem tw_645 : Cond.methodLink "WholeTurns$Division" (72) yX4_become ∈ zTT := zTT_of 645 (by decide +kernel) rfl
theorem tw_646 : Cond.methodLink "WholeTurns$Division" (76) yX3_half ∈ zTT := zTT_of 646 (by decide +kernel) rfl
theorem tw_647 : Cond.static yX3_half ∈ zTT := zTT_of 647 (by decide +kernel) rfl
theorem tw_648 : Cond.code yX3_half prog_5_method_5_code (4) (Option.some FieldType.long) ∈ zTT := zTT_of 648 (by decide +kernel) rfl
theorem tw_649 : Cond.methodLink "WholeTurns$Division" (79) yX3_between ∈ zTT := zTT_of 649 (by decide +kernel) rfl
theorem tw_651 : Cond.instanceMethod yX3_between ∈ zTT := zTT_of 651 (by decide +kernel) rfl
theorem tw_652 : Cond.code yX3_between prog_5_method_6_code (12) (Option.some FieldType.long) ∈ zTT := zTT_of 652 (by decide +kernel) rfl
theorem tw_653 : Cond.methodLink "WholeTurns$Division" (83) yX4_become_ ∈ zTT := zTT_of 653 (by decide +kernel) rfl
theorem tw_654 : Cond.methodLink "WholeTurns$Division" (53) yX4_becomeDifference ∈ zTT := zTT_of 654 (by decide +kernel) rfl
theorem tw_655 : Cond.instanceMethod yX4_becomeDifference ∈ zTT := zTT_of 655 (by decide +kernel) rfl
theorem tw_656 : Cond.selects "WholeTurns$Four" yX4_becomeDifference yX4_becomeDifference ∈ zTT := zTT_of 656 (by decide +kernel) rfl
theorem tw_657 : Cond.code yX4_becomeDifference prog_6_method_5_code (3) (Option.none : Option FieldType) ∈ zTT := zTT_of 657 (by decide +kernel) rfl
theorem tw_658 : Cond.methodLink "WholeTurnsLaw" (89) yX10_greatest ∈ zTT := zTT_of 658 (by decide +kernel) rfl
theorem tw_659 : Cond.instanceMethod yX10_greatest ∈ zTT := zTT_of 659 (by decide +kernel) rfl
theorem tw_660 : Cond.selects "WholeTurns" yX10_greatest yX10_greatest ∈ zTT := zTT_of 660 (by decide +kernel) rfl
theorem tw_661 : Cond.code yX10_greatest prog_1_method_19_code (7) (Option.some FieldType.int) ∈ zTT := zTT_of 661 (by decide +kernel) rfl
theorem tw_662 : Cond.methodLink "WholeTurns" (214) yX5_seek ∈ zTT := zTT_of 662 (by decide +kernel) rfl
theorem tw_663 : Cond.instanceMethod yX5_seek ∈ zTT := zTT_of 663 (by decide +kernel) rfl
theorem tw_664 : Cond.selects "WholeTurns$Greatest" yX5_seek yX5_seek ∈ zTT := zTT_of 664 (by decide +kernel) rfl
theorem tw_665 : Cond.code yX5_seek prog_7_method_2_code (5) (Option.none : Option FieldType) ∈ zTT := zTT_of 665 (by decide +kernel) rfl
theorem tw_666 : Cond.methodLink "WholeTurns$Greatest" (38) yX4_become_ ∈ zTT := zTT_of 666 (by decide +kernel) rfl
theorem tw_667 : Cond.constant "WholeTurns$Greatest" (42) (1000000) ∈ zTT := zTT_of 667 (by decide +kernel) rfl
theorem tw_668 : Cond.methodLink "WholeTurns$Greatest" (43) yX4_isZero ∈ zTT := zTT_of 668 (by decide +kernel) rfl
theorem tw_669 : Cond.methodLink "WholeTurns$Greatest" (47) yX3_divide ∈ zTT := zTT_of 669 (by decide +kernel) rfl
theorem tw_670 : Cond.methodLink "WholeTurns$Greatest" (54) yX1_seek ∈ zTT := zTT_of 670 (by decide +kernel) rfl
theorem tw_671 : Cond.instanceMethod yX1_seek ∈ zTT := zTT_of 671 (by decide +kernel) rfl
theorem tw_672 : Cond.selects "WholeTurns$Associate" yX1_seek yX1_seek ∈ zTT := zTT_of 672 (by decide +kernel) rfl
theorem tw_673 : Cond.code yX1_seek prog_3_method_2_code (4) (Option.none : Option FieldType) ∈ zTT := zTT_of 673 (by decide +kernel) rfl
theorem tw_674 : Cond.methodLink "WholeTurns$Associate" (24) yX4_become_ ∈ zTT := zTT_of 674 (by decide +kernel) rfl
theorem tw_675 : Cond.methodLink "WholeTurns$Associate" (28) yX4_becomeUnit ∈ zTT := zTT_of 675 (by decide +kernel) rfl
theorem tw_676 : Cond.instanceMethod yX4_becomeUnit ∈ zTT := zTT_of 676 (by decide +kernel) rfl
theorem tw_677 : Cond.selects "WholeTurns$Four" yX4_becomeUnit yX4_becomeUnit ∈ zTT := zTT_of 677 (by decide +kernel) rfl
theorem tw_678 : Cond.code yX4_becomeUnit prog_6_method_8_code (5) (Option.none : Option FieldType) ∈ zTT := zTT_of 678 (by decide +kernel) rfl
theorem tw_679 : Cond.constantLong "WholeTurns$Four" (30) (-2) ∈ zTT := zTT_of 679 (by decide +kernel) rfl
theorem tw_680 : Cond.methodLink "WholeTurns$Associate" (32) yX4_becomeProduct ∈ zTT := zTT_of 680 (by decide +kernel) rfl
theorem tw_681 : Cond.methodLink "WholeTurns$Associate" (36) yX4_isLessThan ∈ zTT := zTT_of 681 (by decide +kernel) rfl
theorem tw_682 : Cond.instanceMethod yX4_isLessThan ∈ zTT := zTT_of 682 (by decide +kernel) rfl
theorem tw_683 : Cond.selects "WholeTurns$Four" yX4_isLessThan yX4_isLessThan ∈ zTT := zTT_of 683 (by decide +kernel) rfl
theorem tw_684 : Cond.code yX4_isLessThan prog_6_method_18_code (2) (Option.some FieldType.boolean) ∈ zTT := zTT_of 684 (by decide +kernel) rfl
theorem tw_685 : Cond.methodLink "WholeTurnsLaw" (94) yX10_associate ∈ zTT := zTT_of 685 (by decide +kernel) rfl
theorem tw_686 : Cond.instanceMethod yX10_associate ∈ zTT := zTT_of 686 (by decide +kernel) rfl
theorem tw_687 : Cond.selects "WholeTurns" yX10_associate yX10_associate ∈ zTT := zTT_of 687 (by decide +kernel) rfl
theorem tw_688 : Cond.code yX10_associate prog_1_method_20_code (5) (Option.some FieldType.int) ∈ zTT := zTT_of 688 (by decide +kernel) rfl
theorem tw_689 : Cond.methodLink "WholeTurns" (220) yX1_seek ∈ zTT := zTT_of 689 (by decide +kernel) rfl
theorem tw_690 : Cond.methodLink "WholeTurnsLaw" (98) yX10_plain ∈ zTT := zTT_of 690 (by decide +kernel) rfl
theorem tw_691 : Cond.instanceMethod yX10_plain ∈ zTT := zTT_of 691 (by decide +kernel) rfl
theorem tw_692 : Cond.selects "WholeTurns" yX10_plain yX10_plain ∈ zTT := zTT_of 692 (by decide +kernel) rfl
theorem tw_693 : Cond.code yX10_plain prog_1_method_21_code (6) (Option.some FieldType.int) ∈ zTT := zTT_of 693 (by decide +kernel) rfl
theorem tw_694 : Cond.methodLink "WholeTurns" (229) yX4_divideBy ∈ zTT := zTT_of 694 (by decide +kernel) rfl
theorem tw_695 : Cond.methodLink "WholeTurnsLaw" (102) yX10_part ∈ zTT := zTT_of 695 (by decide +kernel) rfl
theorem tw_696 : Cond.instanceMethod yX10_part ∈ zTT := zTT_of 696 (by decide +kernel) rfl
theorem tw_697 : Cond.selects "WholeTurns" yX10_part yX10_part ∈ zTT := zTT_of 697 (by decide +kernel) rfl
theorem tw_698 : Cond.code yX10_part prog_1_method_22_code (6) (Option.some FieldType.int) ∈ zTT := zTT_of 698 (by decide +kernel) rfl
theorem tw_699 : Cond.methodLink "WholeTurns" (233) yX7_split ∈ zTT := zTT_of 699 (by decide +kernel) rfl
theorem tw_700 : Cond.instanceMethod yX7_split ∈ zTT := zTT_of 700 (by decide +kernel) rfl
theorem tw_701 : Cond.selects "WholeTurns$Parts" yX7_split yX7_split ∈ zTT := zTT_of 701 (by decide +kernel) rfl
theorem tw_702 : Cond.code yX7_split prog_9_method_2_code (9) (Option.some FieldType.int) ∈ zTT := zTT_of 702 (by decide +kernel) rfl
theorem tw_703 : Cond.methodLink "WholeTurns$Parts" (34) yX4_become_ ∈ zTT := zTT_of 703 (by decide +kernel) rfl
theorem tw_704 : Cond.methodLink "WholeTurns$Parts" (38) yX4_ownNorm ∈ zTT := zTT_of 704 (by decide +kernel) rfl
theorem tw_706 : Cond.constantLong "WholeTurns$Parts" (46) (2) ∈ zTT := zTT_of 706 (by decide +kernel) rfl
theorem tw_707 : Cond.methodLink "WholeTurns$Parts" (48) yX7_splitOff ∈ zTT := zTT_of 707 (by decide +kernel) rfl
theorem tw_709 : Cond.instanceMethod yX7_splitOff ∈ zTT := zTT_of 709 (by decide +kernel) rfl
theorem tw_710 : Cond.code yX7_splitOff prog_9_method_3_code (3) (Option.none : Option FieldType) ∈ zTT := zTT_of 710 (by decide +kernel) rfl
theorem tw_711 : Cond.methodLink "WholeTurns$Parts" (55) yX4_become ∈ zTT := zTT_of 711 (by decide +kernel) rfl
theorem tw_712 : Cond.methodLink "WholeTurns$Parts" (58) yX5_seek ∈ zTT := zTT_of 712 (by decide +kernel) rfl
theorem tw_713 : Cond.methodLink "WholeTurns$Parts" (62) yX4_becomeBack ∈ zTT := zTT_of 713 (by decide +kernel) rfl
theorem tw_714 : Cond.methodLink "WholeTurns$Parts" (65) yX4_becomeProduct ∈ zTT := zTT_of 714 (by decide +kernel) rfl
theorem tw_715 : Cond.methodLink "WholeTurns$Parts" (69) yX4_divideBy ∈ zTT := zTT_of 715 (by decide +kernel) rfl
theorem tw_716 : Cond.constant "WholeTurns" (236) (-1000000) ∈ zTT := zTT_of 716 (by decide +kernel) rfl
theorem tw_717 : Cond.methodLink "WholeTurnsLaw" (106) yX10_many ∈ zTT := zTT_of 717 (by decide +kernel) rfl
theorem tw_718 : Cond.instanceMethod yX10_many ∈ zTT := zTT_of 718 (by decide +kernel) rfl
theorem tw_719 : Cond.selects "WholeTurns" yX10_many yX10_many ∈ zTT := zTT_of 719 (by decide +kernel) rfl
theorem tw_720 : Cond.code yX10_many prog_1_method_23_code (2) (Option.some FieldType.int) ∈ zTT := zTT_of 720 (by decide +kernel) rfl
theorem tw_721 : Cond.methodLink "WholeTurns" (241) yX10_sumOfDivisors ∈ zTT := zTT_of 721 (by decide +kernel) rfl
theorem tw_722 : Cond.static yX10_sumOfDivisors ∈ zTT := zTT_of 722 (by decide +kernel) rfl
theorem tw_723 : Cond.code yX10_sumOfDivisors prog_1_method_50_code (5) (Option.some FieldType.int) ∈ zTT := zTT_of 723 (by decide +kernel) rfl
theorem tw_724 : Cond.methodLink "WholeTurnsLaw" (110) yX10_list ∈ zTT := zTT_of 724 (by decide +kernel) rfl
theorem tw_725 : Cond.instanceMethod yX10_list ∈ zTT := zTT_of 725 (by decide +kernel) rfl
theorem tw_726 : Cond.selects "WholeTurns" yX10_list yX10_list ∈ zTT := zTT_of 726 (by decide +kernel) rfl
theorem tw_727 : Cond.code yX10_list prog_1_method_24_code (4) (Option.some FieldType.int) ∈ zTT := zTT_of 727 (by decide +kernel) rfl
theorem tw_728 : Cond.methodLink "WholeTurns" (245) yX6_seek ∈ zTT := zTT_of 728 (by decide +kernel) rfl
theorem tw_729 : Cond.instanceMethod yX6_seek ∈ zTT := zTT_of 729 (by decide +kernel) rfl
theorem tw_730 : Cond.selects "WholeTurns$Listing" yX6_seek yX6_seek ∈ zTT := zTT_of 730 (by decide +kernel) rfl
theorem tw_731 : Cond.code yX6_seek prog_8_method_2_code (9) (Option.some FieldType.boolean) ∈ zTT := zTT_of 731 (by decide +kernel) rfl
theorem tw_732 : Cond.methodLink "WholeTurns$Listing" (26) yX6_root ∈ zTT := zTT_of 732 (by decide +kernel) rfl
theorem tw_734 : Cond.instanceMethod yX6_root ∈ zTT := zTT_of 734 (by decide +kernel) rfl
theorem tw_735 : Cond.code yX6_root prog_8_method_5_code (2) (Option.some FieldType.int) ∈ zTT := zTT_of 735 (by decide +kernel) rfl
theorem tw_736 : Cond.methodLink "WholeTurns$Listing" (30) yX6_seekBehind ∈ zTT := zTT_of 736 (by decide +kernel) rfl
theorem tw_738 : Cond.instanceMethod yX6_seekBehind ∈ zTT := zTT_of 738 (by decide +kernel) rfl
theorem tw_739 : Cond.code yX6_seekBehind prog_8_method_3_code (7) (Option.some FieldType.boolean) ∈ zTT := zTT_of 739 (by decide +kernel) rfl
theorem tw_740 : Cond.methodLink "WholeTurns$Listing" (34) yX6_isReached ∈ zTT := zTT_of 740 (by decide +kernel) rfl
theorem tw_742 : Cond.instanceMethod yX6_isReached ∈ zTT := zTT_of 742 (by decide +kernel) rfl
theorem tw_743 : Cond.code yX6_isReached prog_8_method_4_code (5) (Option.some FieldType.boolean) ∈ zTT := zTT_of 743 (by decide +kernel) rfl
theorem tw_744 : Cond.methodLink "WholeTurns$Listing" (38) yX4_become ∈ zTT := zTT_of 744 (by decide +kernel) rfl
theorem tw_745 : Cond.methodLink "WholeTurnsLaw" (114) yX10_squares ∈ zTT := zTT_of 745 (by decide +kernel) rfl
theorem tw_746 : Cond.instanceMethod yX10_squares ∈ zTT := zTT_of 746 (by decide +kernel) rfl
theorem tw_747 : Cond.selects "WholeTurns" yX10_squares yX10_squares ∈ zTT := zTT_of 747 (by decide +kernel) rfl
theorem tw_748 : Cond.code yX10_squares prog_1_method_25_code (2) (Option.some FieldType.int) ∈ zTT := zTT_of 748 (by decide +kernel) rfl
theorem tw_749 : Cond.methodLink "WholeTurnsLaw" (118) yX10_three ∈ zTT := zTT_of 749 (by decide +kernel) rfl
theorem tw_750 : Cond.instanceMethod yX10_three ∈ zTT := zTT_of 750 (by decide +kernel) rfl
theorem tw_751 : Cond.selects "WholeTurns" yX10_three yX10_three ∈ zTT := zTT_of 751 (by decide +kernel) rfl
theorem tw_752 : Cond.code yX10_three prog_1_method_26_code (2) (Option.some FieldType.int) ∈ zTT := zTT_of 752 (by decide +kernel) rfl
theorem tw_753 : Cond.methodLink "WholeTurns" (248) yX10_withoutFactor ∈ zTT := zTT_of 753 (by decide +kernel) rfl
theorem tw_754 : Cond.static yX10_withoutFactor ∈ zTT := zTT_of 754 (by decide +kernel) rfl
theorem tw_755 : Cond.code yX10_withoutFactor prog_1_method_49_code (6) (Option.some FieldType.long) ∈ zTT := zTT_of 755 (by decide +kernel) rfl
theorem tw_756 : Cond.constantLong "WholeTurns" (252) (8) ∈ zTT := zTT_of 756 (by decide +kernel) rfl
theorem tw_757 : Cond.constantLong "WholeTurns" (254) (7) ∈ zTT := zTT_of 757 (by decide +kernel) rfl
theorem tw_758 : Cond.methodLink "WholeTurnsLaw" (122) yX10_table ∈ zTT := zTT_of 758 (by decide +kernel) rfl
theorem tw_759 : Cond.instanceMethod yX10_table ∈ zTT := zTT_of 759 (by decide +kernel) rfl
theorem tw_760 : Cond.selects "WholeTurns" yX10_table yX10_table ∈ zTT := zTT_of 760 (by decide +kernel) rfl
theorem tw_761 : Cond.code yX10_table prog_1_method_27_code (6) (Option.some FieldType.long) ∈ zTT := zTT_of 761 (by decide +kernel) rfl
theorem tw_762 : Cond.constantLong "WholeTurns" (256) (-1000002) ∈ zTT := zTT_of 762 (by decide +kernel) rfl
theorem tw_763 : Cond.methodLink "WholeTurns" (258) yX8_fill ∈ zTT := zTT_of 763 (by decide +kernel) rfl
theorem tw_764 : Cond.instanceMethod yX8_fill ∈ zTT := zTT_of 764 (by decide +kernel) rfl
theorem tw_765 : Cond.selects "WholeTurns$Table" yX8_fill yX8_fill ∈ zTT := zTT_of 765 (by decide +kernel) rfl
theorem tw_766 : Cond.code yX8_fill prog_10_method_2_code (22) (Option.none : Option FieldType) ∈ zTT := zTT_of 766 (by decide +kernel) rfl
theorem tw_767 : Cond.methodLink "WholeTurns$Table" (17) yX4_squareSum ∈ zTT := zTT_of 767 (by decide +kernel) rfl
theorem tw_768 : Cond.constantLong "WholeTurns$Table" (35) (2) ∈ zTT := zTT_of 768 (by decide +kernel) rfl
theorem tw_769 : Cond.methodLink "WholeTurns" (261) yX8_upper ∈ zTT := zTT_of 769 (by decide +kernel) rfl
theorem tw_770 : Cond.instanceMethod yX8_upper ∈ zTT := zTT_of 770 (by decide +kernel) rfl
theorem tw_771 : Cond.selects "WholeTurns$Table" yX8_upper yX8_upper ∈ zTT := zTT_of 771 (by decide +kernel) rfl
theorem tw_772 : Cond.code yX8_upper prog_10_method_3_code (3) (Option.some FieldType.long) ∈ zTT := zTT_of 772 (by decide +kernel) rfl
theorem tw_774 : Cond.methodLink "WholeTurns" (269) yX10_inLeastTerms ∈ zTT := zTT_of 774 (by decide +kernel) rfl
theorem tw_775 : Cond.static yX10_inLeastTerms ∈ zTT := zTT_of 775 (by decide +kernel) rfl
theorem tw_776 : Cond.code yX10_inLeastTerms prog_1_method_46_code (7) (Option.some FieldType.long) ∈ zTT := zTT_of 776 (by decide +kernel) rfl
theorem tw_777 : Cond.methodLink "WholeTurns" (326) yX10_commonDivisor ∈ zTT := zTT_of 777 (by decide +kernel) rfl
theorem tw_778 : Cond.methodLink "WholeTurnsLaw" (127) yX10_turn ∈ zTT := zTT_of 778 (by decide +kernel) rfl
theorem tw_779 : Cond.instanceMethod yX10_turn ∈ zTT := zTT_of 779 (by decide +kernel) rfl
theorem tw_780 : Cond.selects "WholeTurns" yX10_turn yX10_turn ∈ zTT := zTT_of 780 (by decide +kernel) rfl
theorem tw_781 : Cond.code yX10_turn prog_1_method_28_code (8) (Option.some FieldType.long) ∈ zTT := zTT_of 781 (by decide +kernel) rfl
theorem tw_782 : Cond.methodLink "WholeTurns" (273) yX10_tooFar ∈ zTT := zTT_of 782 (by decide +kernel) rfl
theorem tw_783 : Cond.static yX10_tooFar ∈ zTT := zTT_of 783 (by decide +kernel) rfl
theorem tw_784 : Cond.code yX10_tooFar prog_1_method_36_code (1) (Option.some FieldType.boolean) ∈ zTT := zTT_of 784 (by decide +kernel) rfl
theorem tw_785 : Cond.methodLink "WholeTurns" (277) yX8_turned ∈ zTT := zTT_of 785 (by decide +kernel) rfl
theorem tw_786 : Cond.instanceMethod yX8_turned ∈ zTT := zTT_of 786 (by decide +kernel) rfl
theorem tw_787 : Cond.selects "WholeTurns$Table" yX8_turned yX8_turned ∈ zTT := zTT_of 787 (by decide +kernel) rfl
theorem tw_788 : Cond.code yX8_turned prog_10_method_4_code (8) (Option.some FieldType.long) ∈ zTT := zTT_of 788 (by decide +kernel) rfl
theorem tw_789 : Cond.methodLink "WholeTurns$Table" (43) yX8_upper ∈ zTT := zTT_of 789 (by decide +kernel) rfl
theorem tw_790 : Cond.methodLink "WholeTurnsLaw" (132) yX10_order ∈ zTT := zTT_of 790 (by decide +kernel) rfl
theorem tw_791 : Cond.instanceMethod yX10_order ∈ zTT := zTT_of 791 (by decide +kernel) rfl
theorem tw_792 : Cond.selects "WholeTurns" yX10_order yX10_order ∈ zTT := zTT_of 792 (by decide +kernel) rfl
theorem tw_793 : Cond.code yX10_order prog_1_method_29_code (3) (Option.some FieldType.int) ∈ zTT := zTT_of 793 (by decide +kernel) rfl
theorem tw_794 : Cond.methodLink "WholeTurns" (281) yX10_orderOf ∈ zTT := zTT_of 794 (by decide +kernel) rfl
theorem tw_795 : Cond.static yX10_orderOf ∈ zTT := zTT_of 795 (by decide +kernel) rfl
theorem tw_796 : Cond.code yX10_orderOf prog_1_method_44_code (5) (Option.some FieldType.int) ∈ zTT := zTT_of 796 (by decide +kernel) rfl
theorem tw_797 : Cond.methodLink "WholeTurns" (308) yX4_squareSum ∈ zTT := zTT_of 797 (by decide +kernel) rfl
theorem tw_798 : Cond.constantLong "WholeTurns" (314) (4) ∈ zTT := zTT_of 798 (by decide +kernel) rfl
theorem tw_799 : Cond.methodLink "WholeTurnsLaw" (136) yX10_axis ∈ zTT := zTT_of 799 (by decide +kernel) rfl
theorem tw_800 : Cond.instanceMethod yX10_axis ∈ zTT := zTT_of 800 (by decide +kernel) rfl
theorem tw_801 : Cond.selects "WholeTurns" yX10_axis yX10_axis ∈ zTT := zTT_of 801 (by decide +kernel) rfl
theorem tw_802 : Cond.code yX10_axis prog_1_method_30_code (4) (Option.some FieldType.int) ∈ zTT := zTT_of 802 (by decide +kernel) rfl
theorem tw_803 : Cond.methodLink "WholeTurns" (285) yX10_axisNumber ∈ zTT := zTT_of 803 (by decide +kernel) rfl
theorem tw_804 : Cond.static yX10_axisNumber ∈ zTT := zTT_of 804 (by decide +kernel) rfl
theorem tw_805 : Cond.code yX10_axisNumber prog_1_method_45_code (8) (Option.some FieldType.int) ∈ zTT := zTT_of 805 (by decide +kernel) rfl
theorem tw_806 : Cond.methodLink "WholeTurnsLaw" (140) yX10_alike ∈ zTT := zTT_of 806 (by decide +kernel) rfl
theorem tw_807 : Cond.instanceMethod yX10_alike ∈ zTT := zTT_of 807 (by decide +kernel) rfl
theorem tw_808 : Cond.selects "WholeTurns" yX10_alike yX10_alike ∈ zTT := zTT_of 808 (by decide +kernel) rfl
theorem tw_809 : Cond.code yX10_alike prog_1_method_31_code (5) (Option.some FieldType.int) ∈ zTT := zTT_of 809 (by decide +kernel) rfl
theorem tw_810 : Cond.methodLink "WholeTurns" (288) yX4_isMultipleOf ∈ zTT := zTT_of 810 (by decide +kernel) rfl
theorem tw_811 : Cond.instanceMethod yX4_isMultipleOf ∈ zTT := zTT_of 811 (by decide +kernel) rfl
theorem tw_812 : Cond.selects "WholeTurns$Four" yX4_isMultipleOf yX4_isMultipleOf ∈ zTT := zTT_of 812 (by decide +kernel) rfl
theorem tw_813 : Cond.code yX4_isMultipleOf prog_6_method_19_code (2) (Option.some FieldType.boolean) ∈ zTT := zTT_of 813 (by decide +kernel) rfl
theorem tw_814 : Cond.methodLink "WholeTurnsLaw" (144) yX10_index ∈ zTT := zTT_of 814 (by decide +kernel) rfl
theorem tw_815 : Cond.instanceMethod yX10_index ∈ zTT := zTT_of 815 (by decide +kernel) rfl
theorem tw_816 : Cond.selects "WholeTurns" yX10_index yX10_index ∈ zTT := zTT_of 816 (by decide +kernel) rfl
theorem tw_817 : Cond.code yX10_index prog_1_method_32_code (3) (Option.some FieldType.int) ∈ zTT := zTT_of 817 (by decide +kernel) rfl
theorem tw_818 : Cond.methodLink "WholeTurns" (292) yX4_ownIndex ∈ zTT := zTT_of 818 (by decide +kernel) rfl
theorem tw_819 : Cond.instanceMethod yX4_ownIndex ∈ zTT := zTT_of 819 (by decide +kernel) rfl
theorem tw_820 : Cond.selects "WholeTurns$Four" yX4_ownIndex yX4_ownIndex ∈ zTT := zTT_of 820 (by decide +kernel) rfl
theorem tw_821 : Cond.code yX4_ownIndex prog_6_method_22_code (3) (Option.some FieldType.long) ∈ zTT := zTT_of 821 (by decide +kernel) rfl
theorem tw_822 : Cond.methodLink "WholeTurns$Four" (58) yX4_wholeDivisor ∈ zTT := zTT_of 822 (by decide +kernel) rfl
theorem tw_824 : Cond.methodLink "WholeTurnsLaw" (148) yX10_cell ∈ zTT := zTT_of 824 (by decide +kernel) rfl
theorem tw_825 : Cond.instanceMethod yX10_cell ∈ zTT := zTT_of 825 (by decide +kernel) rfl
theorem tw_826 : Cond.selects "WholeTurns" yX10_cell yX10_cell ∈ zTT := zTT_of 826 (by decide +kernel) rfl
theorem tw_827 : Cond.code yX10_cell prog_1_method_33_code (4) (Option.some FieldType.int) ∈ zTT := zTT_of 827 (by decide +kernel) rfl
theorem tw_828 : Cond.constantLong "WholeTurns" (295) (300) ∈ zTT := zTT_of 828 (by decide +kernel) rfl
theorem tw_829 : Cond.methodLink "WholeTurns" (297) yX2_fill ∈ zTT := zTT_of 829 (by decide +kernel) rfl
theorem tw_830 : Cond.instanceMethod yX2_fill ∈ zTT := zTT_of 830 (by decide +kernel) rfl
theorem tw_831 : Cond.selects "WholeTurns$Cell" yX2_fill yX2_fill ∈ zTT := zTT_of 831 (by decide +kernel) rfl
theorem tw_832 : Cond.code yX2_fill prog_4_method_2_code (2) (Option.none : Option FieldType) ∈ zTT := zTT_of 832 (by decide +kernel) rfl
theorem tw_833 : Cond.methodLink "WholeTurns$Cell" (18) yX8_fill ∈ zTT := zTT_of 833 (by decide +kernel) rfl
theorem tw_834 : Cond.methodLink "WholeTurns$Cell" (22) yX2_seekFirst ∈ zTT := zTT_of 834 (by decide +kernel) rfl
theorem tw_836 : Cond.instanceMethod yX2_seekFirst ∈ zTT := zTT_of 836 (by decide +kernel) rfl
theorem tw_837 : Cond.code yX2_seekFirst prog_4_method_4_code (2) (Option.none : Option FieldType) ∈ zTT := zTT_of 837 (by decide +kernel) rfl
theorem tw_838 : Cond.methodLink "WholeTurns$Cell" (50) yX8_isCommon ∈ zTT := zTT_of 838 (by decide +kernel) rfl
theorem tw_839 : Cond.instanceMethod yX8_isCommon ∈ zTT := zTT_of 839 (by decide +kernel) rfl
theorem tw_840 : Cond.selects "WholeTurns$Table" yX8_isCommon yX8_isCommon ∈ zTT := zTT_of 840 (by decide +kernel) rfl
theorem tw_841 : Cond.code yX8_isCommon prog_10_method_5_code (10) (Option.some FieldType.boolean) ∈ zTT := zTT_of 841 (by decide +kernel) rfl
theorem tw_842 : Cond.methodLink "WholeTurns$Cell" (25) yX2_seekSecond ∈ zTT := zTT_of 842 (by decide +kernel) rfl
theorem tw_844 : Cond.instanceMethod yX2_seekSecond ∈ zTT := zTT_of 844 (by decide +kernel) rfl
theorem tw_845 : Cond.code yX2_seekSecond prog_4_method_5_code (3) (Option.none : Option FieldType) ∈ zTT := zTT_of 845 (by decide +kernel) rfl
theorem tw_846 : Cond.methodLink "WholeTurns$Cell" (28) yX2_seekThird ∈ zTT := zTT_of 846 (by decide +kernel) rfl
theorem tw_848 : Cond.instanceMethod yX2_seekThird ∈ zTT := zTT_of 848 (by decide +kernel) rfl
theorem tw_849 : Cond.code yX2_seekThird prog_4_method_6_code (4) (Option.none : Option FieldType) ∈ zTT := zTT_of 849 (by decide +kernel) rfl
theorem tw_850 : Cond.methodLink "WholeTurns" (298) yX2_numberAt ∈ zTT := zTT_of 850 (by decide +kernel) rfl
theorem tw_851 : Cond.instanceMethod yX2_numberAt ∈ zTT := zTT_of 851 (by decide +kernel) rfl
theorem tw_852 : Cond.selects "WholeTurns$Cell" yX2_numberAt yX2_numberAt ∈ zTT := zTT_of 852 (by decide +kernel) rfl
theorem tw_853 : Cond.code yX2_numberAt prog_4_method_3_code (2) (Option.some FieldType.int) ∈ zTT := zTT_of 853 (by decide +kernel) rfl
theorem tw_854 : Cond.methodLink "WholeTurnsLaw" (152) yX10_status ∈ zTT := zTT_of 854 (by decide +kernel) rfl
theorem tw_855 : Cond.instanceMethod yX10_status ∈ zTT := zTT_of 855 (by decide +kernel) rfl
theorem tw_856 : Cond.selects "WholeTurns" yX10_status yX10_status ∈ zTT := zTT_of 856 (by decide +kernel) rfl
theorem tw_857 : Cond.code yX10_status prog_1_method_34_code (1) (Option.some FieldType.int) ∈ zTT := zTT_of 857 (by decide +kernel) rfl
theorem tw_858 : Cond.classLink "WholeTurnsLaw" (10) "WholeTurnsModel" ∈ zTT := zTT_of 858 (by decide +kernel) rfl
theorem tw_859 : Cond.instantiable "WholeTurnsModel" (11) ∈ zTT := zTT_of 859 (by decide +kernel) rfl
theorem tw_860 : Cond.methodLink "WholeTurnsLaw" (12) yX11_init ∈ zTT := zTT_of 860 (by decide +kernel) rfl
theorem tw_861 : Cond.instanceMethod yX11_init ∈ zTT := zTT_of 861 (by decide +kernel) rfl
theorem tw_862 : Cond.code yX11_init prog_13_method_1_code (1) (Option.none : Option FieldType) ∈ zTT := zTT_of 862 (by decide +kernel) rfl
theorem tw_863 : Cond.methodLink "WholeTurnsModel" (1) objectInit ∈ zTT := zTT_of 863 (by decide +kernel) rfl
theorem tw_864 : Cond.fieldLink "WholeTurnsModel" (7) "WholeTurnsModel" "has" "[Z" ∈ zTT := zTT_of 864 (by decide +kernel) rfl
theorem tw_865 : Cond.fieldLink "WholeTurnsModel" (13) "WholeTurnsModel" "slot" "[J" ∈ zTT := zTT_of 865 (by decide +kernel) rfl
theorem tw_866 : Cond.fieldLink "WholeTurnsModel" (17) "WholeTurnsModel" "lane" "[I" ∈ zTT := zTT_of 866 (by decide +kernel) rfl
theorem tw_867 : Cond.fieldLink "WholeTurnsModel" (21) "WholeTurnsModel" "size" "[I" ∈ zTT := zTT_of 867 (by decide +kernel) rfl
theorem tw_868 : Cond.fieldLink "WholeTurnsModel" (24) "WholeTurnsModel" "item" "[J" ∈ zTT := zTT_of 868 (by decide +kernel) rfl
theorem tw_869 : Cond.fieldLink "WholeTurnsModel" (27) "WholeTurnsModel" "moving" "[J" ∈ zTT := zTT_of 869 (by decide +kernel) rfl
theorem tw_870 : Cond.fieldLink "WholeTurnsModel" (39) "WholeTurnsModel" "status" "I" ∈ zTT := zTT_of 870 (by decide +kernel) rfl
theorem tw_871 : Cond.fieldLink "WholeTurnsModel" (30) "WholeTurnsModel" "trace" "[I" ∈ zTT := zTT_of 871 (by decide +kernel) rfl
theorem tw_872 : Cond.fieldLink "WholeTurnsModel" (118) "WholeTurnsModel" "traced" "I" ∈ zTT := zTT_of 872 (by decide +kernel) rfl
theorem tw_873 : Cond.fieldLink "WholeTurnsModel" (33) "WholeTurnsModel" "r" "[J" ∈ zTT := zTT_of 873 (by decide +kernel) rfl
theorem tw_874 : Cond.fieldLink "WholeTurnsModel" (36) "WholeTurnsModel" "table" "[J" ∈ zTT := zTT_of 874 (by decide +kernel) rfl
theorem tw_875 : Cond.laysFinal "WholeTurnsModel" "WholeTurnsModel" "has" "[Z" ∈ zTT := zTT_of 875 (by decide +kernel) rfl
theorem tw_877 : Cond.laysFinal "WholeTurnsModel" "WholeTurnsModel" "slot" "[J" ∈ zTT := zTT_of 877 (by decide +kernel) rfl
theorem tw_879 : Cond.laysFinal "WholeTurnsModel" "WholeTurnsModel" "lane" "[I" ∈ zTT := zTT_of 879 (by decide +kernel) rfl
theorem tw_881 : Cond.laysFinal "WholeTurnsModel" "WholeTurnsModel" "size" "[I" ∈ zTT := zTT_of 881 (by decide +kernel) rfl
theorem tw_883 : Cond.laysFinal "WholeTurnsModel" "WholeTurnsModel" "item" "[J" ∈ zTT := zTT_of 883 (by decide +kernel) rfl
theorem tw_885 : Cond.laysFinal "WholeTurnsModel" "WholeTurnsModel" "moving" "[J" ∈ zTT := zTT_of 885 (by decide +kernel) rfl
theorem tw_887 : Cond.lays "WholeTurnsModel" "WholeTurnsModel" "status" "I" ∈ zTT := zTT_of 887 (by decide +kernel) rfl
theorem tw_889 : Cond.laysFinal "WholeTurnsModel" "WholeTurnsModel" "trace" "[I" ∈ zTT := zTT_of 889 (by decide +kernel) rfl
theorem tw_891 : Cond.lays "WholeTurnsModel" "WholeTurnsModel" "traced" "I" ∈ zTT := zTT_of 891 (by decide +kernel) rfl
theorem tw_893 : Cond.laysFinal "WholeTurnsModel" "WholeTurnsModel" "r" "[J" ∈ zTT := zTT_of 893 (by decide +kernel) rfl
theorem tw_895 : Cond.laysFinal "WholeTurnsModel" "WholeTurnsModel" "table" "[J" ∈ zTT := zTT_of 895 (by decide +kernel) rfl
theorem tw_898 : Cond.arrayClass FieldType.boolean ∈ zTT := zTT_of 898 (by decide +kernel) rfl
theorem tw_899 : Cond.methodLink "WholeTurnsLaw" (17) yX11_tray ∈ zTT := zTT_of 899 (by decide +kernel) rfl
theorem tw_900 : Cond.instanceMethod yX11_tray ∈ zTT := zTT_of 900 (by decide +kernel) rfl
theorem tw_901 : Cond.selects "WholeTurnsModel" yX11_tray yX11_tray ∈ zTT := zTT_of 901 (by decide +kernel) rfl
theorem tw_902 : Cond.code yX11_tray prog_13_method_6_code (5) (Option.some FieldType.int) ∈ zTT := zTT_of 902 (by decide +kernel) rfl
theorem tw_903 : Cond.methodLink "WholeTurnsModel" (50) yX11_isTray ∈ zTT := zTT_of 903 (by decide +kernel) rfl
theorem tw_904 : Cond.static yX11_isTray ∈ zTT := zTT_of 904 (by decide +kernel) rfl
theorem tw_905 : Cond.code yX11_isTray prog_13_method_5_code (1) (Option.some FieldType.boolean) ∈ zTT := zTT_of 905 (by decide +kernel) rfl
theorem tw_906 : Cond.constantLong "WholeTurnsModel" (44) (7) ∈ zTT := zTT_of 906 (by decide +kernel) rfl
theorem tw_907 : Cond.methodLink "WholeTurnsModel" (46) yX11_in ∈ zTT := zTT_of 907 (by decide +kernel) rfl
theorem tw_908 : Cond.static yX11_in ∈ zTT := zTT_of 908 (by decide +kernel) rfl
theorem tw_909 : Cond.code yX11_in prog_13_method_2_code (6) (Option.some FieldType.boolean) ∈ zTT := zTT_of 909 (by decide +kernel) rfl
theorem tw_910 : Cond.constantLong "WholeTurnsModel" (54) (2) ∈ zTT := zTT_of 910 (by decide +kernel) rfl
theorem tw_911 : Cond.constant "WholeTurnsModel" (56) (-1000001) ∈ zTT := zTT_of 911 (by decide +kernel) rfl
theorem tw_912 : Cond.methodLink "WholeTurnsModel" (57) yX11_finds ∈ zTT := zTT_of 912 (by decide +kernel) rfl
theorem tw_914 : Cond.instanceMethod yX11_finds ∈ zTT := zTT_of 914 (by decide +kernel) rfl
theorem tw_915 : Cond.code yX11_finds prog_13_method_3_code (2) (Option.some FieldType.int) ∈ zTT := zTT_of 915 (by decide +kernel) rfl
theorem tw_916 : Cond.constant "WholeTurnsModel" (43) (-1000010) ∈ zTT := zTT_of 916 (by decide +kernel) rfl
theorem tw_917 : Cond.methodLink "WholeTurnsModel" (61) yX11_well ∈ zTT := zTT_of 917 (by decide +kernel) rfl
theorem tw_919 : Cond.instanceMethod yX11_well ∈ zTT := zTT_of 919 (by decide +kernel) rfl
theorem tw_920 : Cond.code yX11_well prog_13_method_4_code (2) (Option.some FieldType.int) ∈ zTT := zTT_of 920 (by decide +kernel) rfl
theorem tw_921 : Cond.methodLink "WholeTurnsLaw" (24) yX11_set ∈ zTT := zTT_of 921 (by decide +kernel) rfl
theorem tw_922 : Cond.instanceMethod yX11_set ∈ zTT := zTT_of 922 (by decide +kernel) rfl
theorem tw_923 : Cond.selects "WholeTurnsModel" yX11_set yX11_set ∈ zTT := zTT_of 923 (by decide +kernel) rfl
theorem tw_924 : Cond.code yX11_set prog_13_method_7_code (7) (Option.some FieldType.long) ∈ zTT := zTT_of 924 (by decide +kernel) rfl
theorem tw_925 : Cond.constantLong "WholeTurnsModel" (64) (-1000001) ∈ zTT := zTT_of 925 (by decide +kernel) rfl
theorem tw_926 : Cond.methodLink "WholeTurnsLaw" (29) yX11_copy ∈ zTT := zTT_of 926 (by decide +kernel) rfl
theorem tw_927 : Cond.instanceMethod yX11_copy ∈ zTT := zTT_of 927 (by decide +kernel) rfl
theorem tw_928 : Cond.selects "WholeTurnsModel" yX11_copy yX11_copy ∈ zTT := zTT_of 928 (by decide +kernel) rfl
theorem tw_929 : Cond.code yX11_copy prog_13_method_8_code (7) (Option.some FieldType.int) ∈ zTT := zTT_of 929 (by decide +kernel) rfl
theorem tw_930 : Cond.methodLink "WholeTurnsLaw" (34) yX11_drop ∈ zTT := zTT_of 930 (by decide +kernel) rfl
theorem tw_931 : Cond.instanceMethod yX11_drop ∈ zTT := zTT_of 931 (by decide +kernel) rfl
theorem tw_932 : Cond.selects "WholeTurnsModel" yX11_drop yX11_drop ∈ zTT := zTT_of 932 (by decide +kernel) rfl
theorem tw_933 : Cond.code yX11_drop prog_13_method_9_code (2) (Option.some FieldType.int) ∈ zTT := zTT_of 933 (by decide +kernel) rfl
theorem tw_934 : Cond.methodLink "WholeTurnsLaw" (38) yX11_take ∈ zTT := zTT_of 934 (by decide +kernel) rfl
theorem tw_935 : Cond.instanceMethod yX11_take ∈ zTT := zTT_of 935 (by decide +kernel) rfl
theorem tw_936 : Cond.selects "WholeTurnsModel" yX11_take yX11_take ∈ zTT := zTT_of 936 (by decide +kernel) rfl
theorem tw_937 : Cond.code yX11_take prog_13_method_25_code (8) (Option.some FieldType.int) ∈ zTT := zTT_of 937 (by decide +kernel) rfl
theorem tw_938 : Cond.methodLink "WholeTurnsModel" (92) yX11_isSlot ∈ zTT := zTT_of 938 (by decide +kernel) rfl
theorem tw_939 : Cond.static yX11_isSlot ∈ zTT := zTT_of 939 (by decide +kernel) rfl
theorem tw_940 : Cond.code yX11_isSlot prog_13_method_24_code (1) (Option.some FieldType.boolean) ∈ zTT := zTT_of 940 (by decide +kernel) rfl
theorem tw_941 : Cond.constantLong "WholeTurnsModel" (90) (19) ∈ zTT := zTT_of 941 (by decide +kernel) rfl
theorem tw_942 : Cond.constantLong "WholeTurnsModel" (95) (-70000) ∈ zTT := zTT_of 942 (by decide +kernel) rfl
theorem tw_943 : Cond.constantLong "WholeTurnsModel" (97) (70000) ∈ zTT := zTT_of 943 (by decide +kernel) rfl
theorem tw_944 : Cond.constant "WholeTurnsModel" (99) (-1000003) ∈ zTT := zTT_of 944 (by decide +kernel) rfl
theorem tw_945 : Cond.methodLink "WholeTurnsModel" (68) yX11_put ∈ zTT := zTT_of 945 (by decide +kernel) rfl
theorem tw_947 : Cond.instanceMethod yX11_put ∈ zTT := zTT_of 947 (by decide +kernel) rfl
theorem tw_948 : Cond.code yX11_put prog_13_method_12_code (10) (Option.none : Option FieldType) ∈ zTT := zTT_of 948 (by decide +kernel) rfl
theorem tw_949 : Cond.methodLink "WholeTurnsModel" (83) yX11_norm4 ∈ zTT := zTT_of 949 (by decide +kernel) rfl
theorem tw_951 : Cond.instanceMethod yX11_norm4 ∈ zTT := zTT_of 951 (by decide +kernel) rfl
theorem tw_952 : Cond.code yX11_norm4 prog_13_method_14_code (2) (Option.some FieldType.long) ∈ zTT := zTT_of 952 (by decide +kernel) rfl
theorem tw_953 : Cond.constantLong "WholeTurnsModel" (66) (4) ∈ zTT := zTT_of 953 (by decide +kernel) rfl
theorem tw_954 : Cond.constantLong "WholeTurnsModel" (100) (1000000000) ∈ zTT := zTT_of 954 (by decide +kernel) rfl
theorem tw_955 : Cond.methodLink "WholeTurnsModel" (102) yX11_hold ∈ zTT := zTT_of 955 (by decide +kernel) rfl
theorem tw_957 : Cond.instanceMethod yX11_hold ∈ zTT := zTT_of 957 (by decide +kernel) rfl
theorem tw_958 : Cond.code yX11_hold prog_13_method_13_code (4) (Option.none : Option FieldType) ∈ zTT := zTT_of 958 (by decide +kernel) rfl
theorem tw_959 : Cond.methodLink "WholeTurnsModel" (106) yX11_kindOf ∈ zTT := zTT_of 959 (by decide +kernel) rfl
theorem tw_961 : Cond.instanceMethod yX11_kindOf ∈ zTT := zTT_of 961 (by decide +kernel) rfl
theorem tw_962 : Cond.code yX11_kindOf prog_13_method_22_code (4) (Option.some FieldType.int) ∈ zTT := zTT_of 962 (by decide +kernel) rfl
theorem tw_963 : Cond.methodLink "WholeTurnsModel" (76) yX11_isNought ∈ zTT := zTT_of 963 (by decide +kernel) rfl
theorem tw_965 : Cond.instanceMethod yX11_isNought ∈ zTT := zTT_of 965 (by decide +kernel) rfl
theorem tw_966 : Cond.code yX11_isNought prog_13_method_15_code (2) (Option.some FieldType.boolean) ∈ zTT := zTT_of 966 (by decide +kernel) rfl
theorem tw_967 : Cond.methodLink "WholeTurnsModel" (79) yX11_greatestWhole ∈ zTT := zTT_of 967 (by decide +kernel) rfl
theorem tw_969 : Cond.instanceMethod yX11_greatestWhole ∈ zTT := zTT_of 969 (by decide +kernel) rfl
theorem tw_970 : Cond.code yX11_greatestWhole prog_13_method_20_code (6) (Option.some FieldType.long) ∈ zTT := zTT_of 970 (by decide +kernel) rfl
theorem tw_971 : Cond.methodLink "WholeTurnsModel" (72) yX11_divisor ∈ zTT := zTT_of 971 (by decide +kernel) rfl
theorem tw_972 : Cond.static yX11_divisor ∈ zTT := zTT_of 972 (by decide +kernel) rfl
theorem tw_973 : Cond.code yX11_divisor prog_13_method_18_code (10) (Option.some FieldType.long) ∈ zTT := zTT_of 973 (by decide +kernel) rfl
theorem tw_974 : Cond.methodLink "WholeTurnsModel" (86) yX11_isPrime ∈ zTT := zTT_of 974 (by decide +kernel) rfl
theorem tw_975 : Cond.static yX11_isPrime ∈ zTT := zTT_of 975 (by decide +kernel) rfl
theorem tw_976 : Cond.code yX11_isPrime prog_13_method_21_code (4) (Option.some FieldType.boolean) ∈ zTT := zTT_of 976 (by decide +kernel) rfl
theorem tw_977 : Cond.methodLink "WholeTurnsLaw" (42) yX11_clear ∈ zTT := zTT_of 977 (by decide +kernel) rfl
theorem tw_978 : Cond.instanceMethod yX11_clear ∈ zTT := zTT_of 978 (by decide +kernel) rfl
theorem tw_979 : Cond.selects "WholeTurnsModel" yX11_clear yX11_clear ∈ zTT := zTT_of 979 (by decide +kernel) rfl
theorem tw_980 : Cond.code yX11_clear prog_13_method_26_code (3) (Option.some FieldType.int) ∈ zTT := zTT_of 980 (by decide +kernel) rfl
theorem tw_981 : Cond.methodLink "WholeTurnsLaw" (47) yX11_number ∈ zTT := zTT_of 981 (by decide +kernel) rfl
theorem tw_982 : Cond.instanceMethod yX11_number ∈ zTT := zTT_of 982 (by decide +kernel) rfl
theorem tw_983 : Cond.selects "WholeTurnsModel" yX11_number yX11_number ∈ zTT := zTT_of 983 (by decide +kernel) rfl
theorem tw_984 : Cond.code yX11_number prog_13_method_27_code (3) (Option.some FieldType.long) ∈ zTT := zTT_of 984 (by decide +kernel) rfl
theorem tw_985 : Cond.constantLong "WholeTurnsModel" (109) (3) ∈ zTT := zTT_of 985 (by decide +kernel) rfl
theorem tw_986 : Cond.methodLink "WholeTurnsLaw" (51) yX11_norm ∈ zTT := zTT_of 986 (by decide +kernel) rfl
theorem tw_987 : Cond.instanceMethod yX11_norm ∈ zTT := zTT_of 987 (by decide +kernel) rfl
theorem tw_988 : Cond.selects "WholeTurnsModel" yX11_norm yX11_norm ∈ zTT := zTT_of 988 (by decide +kernel) rfl
theorem tw_989 : Cond.code yX11_norm prog_13_method_28_code (2) (Option.some FieldType.int) ∈ zTT := zTT_of 989 (by decide +kernel) rfl
theorem tw_990 : Cond.methodLink "WholeTurnsModel" (111) yX11_load ∈ zTT := zTT_of 990 (by decide +kernel) rfl
theorem tw_992 : Cond.instanceMethod yX11_load ∈ zTT := zTT_of 992 (by decide +kernel) rfl
theorem tw_993 : Cond.code yX11_load prog_13_method_10_code (4) (Option.none : Option FieldType) ∈ zTT := zTT_of 993 (by decide +kernel) rfl
theorem tw_994 : Cond.methodLink "WholeTurnsLaw" (55) yX11_kind ∈ zTT := zTT_of 994 (by decide +kernel) rfl
theorem tw_995 : Cond.instanceMethod yX11_kind ∈ zTT := zTT_of 995 (by decide +kernel) rfl
theorem tw_996 : Cond.selects "WholeTurnsModel" yX11_kind yX11_kind ∈ zTT := zTT_of 996 (by decide +kernel) rfl
theorem tw_997 : Cond.code yX11_kind prog_13_method_29_code (2) (Option.some FieldType.int) ∈ zTT := zTT_of 997 (by decide +kernel) rfl
theorem tw_998 : Cond.methodLink "WholeTurnsLaw" (60) yX11_is ∈ zTT := zTT_of 998 (by decide +kernel) rfl
theorem tw_999 : Cond.instanceMethod yX11_is ∈ zTT := zTT_of 999 (by decide +kernel) rfl
theorem tw_1000 : Cond.selects "WholeTurnsModel" yX11_is yX11_is ∈ zTT := zTT_of 1000 (by decide +kernel) rfl
theorem tw_1001 : Cond.code yX11_is prog_13_method_30_code (3) (Option.some FieldType.int) ∈ zTT := zTT_of 1001 (by decide +kernel) rfl
theorem tw_1002 : Cond.methodLink "WholeTurnsModel" (114) yX11_isOf ∈ zTT := zTT_of 1002 (by decide +kernel) rfl
theorem tw_1003 : Cond.static yX11_isOf ∈ zTT := zTT_of 1003 (by decide +kernel) rfl
theorem tw_1004 : Cond.code yX11_isOf prog_13_method_23_code (2) (Option.some FieldType.boolean) ∈ zTT := zTT_of 1004 (by decide +kernel) rfl
theorem tw_1005 : Cond.methodLink "WholeTurnsLaw" (64) yX11_as ∈ zTT := zTT_of 1005 (by decide +kernel) rfl
theorem tw_1006 : Cond.instanceMethod yX11_as ∈ zTT := zTT_of 1006 (by decide +kernel) rfl
theorem tw_1007 : Cond.selects "WholeTurnsModel" yX11_as yX11_as ∈ zTT := zTT_of 1007 (by decide +kernel) rfl
theorem tw_1008 : Cond.code yX11_as prog_13_method_31_code (3) (Option.some FieldType.int) ∈ zTT := zTT_of 1008 (by decide +kernel) rfl
theorem tw_1009 : Cond.methodLink "WholeTurnsLaw" (68) yX11_ask ∈ zTT := zTT_of 1009 (by decide +kernel) rfl
theorem tw_1010 : Cond.instanceMethod yX11_ask ∈ zTT := zTT_of 1010 (by decide +kernel) rfl
theorem tw_1011 : Cond.selects "WholeTurnsModel" yX11_ask yX11_ask ∈ zTT := zTT_of 1011 (by decide +kernel) rfl
theorem tw_1012 : Cond.code yX11_ask prog_13_method_36_code (4) (Option.some FieldType.int) ∈ zTT := zTT_of 1012 (by decide +kernel) rfl
theorem tw_1013 : Cond.methodLink "WholeTurnsModel" (127) yX11_sizeOf ∈ zTT := zTT_of 1013 (by decide +kernel) rfl
theorem tw_1015 : Cond.instanceMethod yX11_sizeOf ∈ zTT := zTT_of 1015 (by decide +kernel) rfl
theorem tw_1016 : Cond.code yX11_sizeOf prog_13_method_33_code (2) (Option.some FieldType.int) ∈ zTT := zTT_of 1016 (by decide +kernel) rfl
theorem tw_1017 : Cond.methodLink "WholeTurnsModel" (121) yX11_begins ∈ zTT := zTT_of 1017 (by decide +kernel) rfl
theorem tw_1019 : Cond.instanceMethod yX11_begins ∈ zTT := zTT_of 1019 (by decide +kernel) rfl
theorem tw_1020 : Cond.code yX11_begins prog_13_method_32_code (2) (Option.none : Option FieldType) ∈ zTT := zTT_of 1020 (by decide +kernel) rfl
theorem tw_1021 : Cond.constantLong "WholeTurnsModel" (125) (1000003) ∈ zTT := zTT_of 1021 (by decide +kernel) rfl
theorem tw_1022 : Cond.methodLink "WholeTurnsModel" (132) yX11_share ∈ zTT := zTT_of 1022 (by decide +kernel) rfl
theorem tw_1024 : Cond.instanceMethod yX11_share ∈ zTT := zTT_of 1024 (by decide +kernel) rfl
theorem tw_1025 : Cond.code yX11_share prog_13_method_34_code (3) (Option.some FieldType.int) ∈ zTT := zTT_of 1025 (by decide +kernel) rfl
theorem tw_1026 : Cond.methodLink "WholeTurnsModel" (135) yX11_mark ∈ zTT := zTT_of 1026 (by decide +kernel) rfl
theorem tw_1028 : Cond.instanceMethod yX11_mark ∈ zTT := zTT_of 1028 (by decide +kernel) rfl
theorem tw_1029 : Cond.code yX11_mark prog_13_method_35_code (5) (Option.some FieldType.int) ∈ zTT := zTT_of 1029 (by decide +kernel) rfl
theorem tw_1030 : Cond.constantLong "WholeTurnsModel" (130) (97) ∈ zTT := zTT_of 1030 (by decide +kernel) rfl
theorem tw_1031 : Cond.methodLink "WholeTurnsLaw" (72) yX11_trace ∈ zTT := zTT_of 1031 (by decide +kernel) rfl
theorem tw_1032 : Cond.instanceMethod yX11_trace ∈ zTT := zTT_of 1032 (by decide +kernel) rfl
theorem tw_1033 : Cond.selects "WholeTurnsModel" yX11_trace yX11_trace ∈ zTT := zTT_of 1033 (by decide +kernel) rfl
theorem tw_1034 : Cond.code yX11_trace prog_13_method_37_code (2) (Option.some FieldType.int) ∈ zTT := zTT_of 1034 (by decide +kernel) rfl
theorem tw_1035 : Cond.constant "WholeTurnsModel" (138) (-1000000) ∈ zTT := zTT_of 1035 (by decide +kernel) rfl
theorem tw_1036 : Cond.methodLink "WholeTurnsLaw" (76) yX11_times ∈ zTT := zTT_of 1036 (by decide +kernel) rfl
theorem tw_1037 : Cond.instanceMethod yX11_times ∈ zTT := zTT_of 1037 (by decide +kernel) rfl
theorem tw_1038 : Cond.selects "WholeTurnsModel" yX11_times yX11_times ∈ zTT := zTT_of 1038 (by decide +kernel) rfl
theorem tw_1039 : Cond.code yX11_times prog_13_method_39_code (4) (Option.some FieldType.int) ∈ zTT := zTT_of 1039 (by decide +kernel) rfl
theorem tw_1040 : Cond.methodLink "WholeTurnsModel" (139) yX11_multiply ∈ zTT := zTT_of 1040 (by decide +kernel) rfl
theorem tw_1042 : Cond.instanceMethod yX11_multiply ∈ zTT := zTT_of 1042 (by decide +kernel) rfl
theorem tw_1043 : Cond.code yX11_multiply prog_13_method_16_code (12) (Option.none : Option FieldType) ∈ zTT := zTT_of 1043 (by decide +kernel) rfl
theorem tw_1044 : Cond.methodLink "WholeTurnsModel" (143) yX11_comes ∈ zTT := zTT_of 1044 (by decide +kernel) rfl
theorem tw_1046 : Cond.instanceMethod yX11_comes ∈ zTT := zTT_of 1046 (by decide +kernel) rfl
theorem tw_1047 : Cond.code yX11_comes prog_13_method_38_code (3) (Option.some FieldType.int) ∈ zTT := zTT_of 1047 (by decide +kernel) rfl
theorem tw_1048 : Cond.methodLink "WholeTurnsLaw" (80) yX11_sum ∈ zTT := zTT_of 1048 (by decide +kernel) rfl
theorem tw_1049 : Cond.instanceMethod yX11_sum ∈ zTT := zTT_of 1049 (by decide +kernel) rfl
theorem tw_1050 : Cond.selects "WholeTurnsModel" yX11_sum yX11_sum ∈ zTT := zTT_of 1050 (by decide +kernel) rfl
theorem tw_1051 : Cond.code yX11_sum prog_13_method_40_code (4) (Option.some FieldType.int) ∈ zTT := zTT_of 1051 (by decide +kernel) rfl
theorem tw_1052 : Cond.methodLink "WholeTurnsLaw" (84) yX11_back ∈ zTT := zTT_of 1052 (by decide +kernel) rfl
theorem tw_1053 : Cond.instanceMethod yX11_back ∈ zTT := zTT_of 1053 (by decide +kernel) rfl
theorem tw_1054 : Cond.selects "WholeTurnsModel" yX11_back yX11_back ∈ zTT := zTT_of 1054 (by decide +kernel) rfl
theorem tw_1055 : Cond.code yX11_back prog_13_method_41_code (3) (Option.some FieldType.int) ∈ zTT := zTT_of 1055 (by decide +kernel) rfl
theorem tw_1056 : Cond.methodLink "WholeTurnsModel" (147) yX11_turnBack ∈ zTT := zTT_of 1056 (by decide +kernel) rfl
theorem tw_1058 : Cond.instanceMethod yX11_turnBack ∈ zTT := zTT_of 1058 (by decide +kernel) rfl
theorem tw_1059 : Cond.code yX11_turnBack prog_13_method_17_code (3) (Option.none : Option FieldType) ∈ zTT := zTT_of 1059 (by decide +kernel) rfl
theorem tw_1060 : Cond.methodLink "WholeTurnsLaw" (88) yX11_over ∈ zTT := zTT_of 1060 (by decide +kernel) rfl
theorem tw_1061 : Cond.instanceMethod yX11_over ∈ zTT := zTT_of 1061 (by decide +kernel) rfl
theorem tw_1062 : Cond.selects "WholeTurnsModel" yX11_over yX11_over ∈ zTT := zTT_of 1062 (by decide +kernel) rfl
theorem tw_1063 : Cond.code yX11_over prog_13_method_43_code (6) (Option.some FieldType.int) ∈ zTT := zTT_of 1063 (by decide +kernel) rfl
theorem tw_1064 : Cond.constant "WholeTurnsModel" (153) (-1000002) ∈ zTT := zTT_of 1064 (by decide +kernel) rfl
theorem tw_1065 : Cond.methodLink "WholeTurnsModel" (154) yX11_divide ∈ zTT := zTT_of 1065 (by decide +kernel) rfl
theorem tw_1067 : Cond.instanceMethod yX11_divide ∈ zTT := zTT_of 1067 (by decide +kernel) rfl
theorem tw_1068 : Cond.code yX11_divide prog_13_method_42_code (17) (Option.none : Option FieldType) ∈ zTT := zTT_of 1068 (by decide +kernel) rfl
theorem tw_1069 : Cond.methodLink "WholeTurnsModel" (150) yX11_down ∈ zTT := zTT_of 1069 (by decide +kernel) rfl
theorem tw_1070 : Cond.static yX11_down ∈ zTT := zTT_of 1070 (by decide +kernel) rfl
theorem tw_1071 : Cond.code yX11_down prog_13_method_19_code (6) (Option.some FieldType.long) ∈ zTT := zTT_of 1071 (by decide +kernel) rfl
theorem tw_1072 : Cond.methodLink "WholeTurnsLaw" (93) yX11_greatest ∈ zTT := zTT_of 1072 (by decide +kernel) rfl
theorem tw_1073 : Cond.instanceMethod yX11_greatest ∈ zTT := zTT_of 1073 (by decide +kernel) rfl
theorem tw_1074 : Cond.selects "WholeTurnsModel" yX11_greatest yX11_greatest ∈ zTT := zTT_of 1074 (by decide +kernel) rfl
theorem tw_1075 : Cond.code yX11_greatest prog_13_method_48_code (5) (Option.some FieldType.int) ∈ zTT := zTT_of 1075 (by decide +kernel) rfl
theorem tw_1076 : Cond.methodLink "WholeTurnsModel" (173) yX11_greatestP ∈ zTT := zTT_of 1076 (by decide +kernel) rfl
theorem tw_1078 : Cond.instanceMethod yX11_greatestP ∈ zTT := zTT_of 1078 (by decide +kernel) rfl
theorem tw_1079 : Cond.code yX11_greatestP prog_13_method_47_code (2) (Option.none : Option FieldType) ∈ zTT := zTT_of 1079 (by decide +kernel) rfl
theorem tw_1080 : Cond.methodLink "WholeTurnsModel" (167) yX11_copyOf ∈ zTT := zTT_of 1080 (by decide +kernel) rfl
theorem tw_1082 : Cond.instanceMethod yX11_copyOf ∈ zTT := zTT_of 1082 (by decide +kernel) rfl
theorem tw_1083 : Cond.code yX11_copyOf prog_13_method_11_code (4) (Option.none : Option FieldType) ∈ zTT := zTT_of 1083 (by decide +kernel) rfl
theorem tw_1084 : Cond.methodLink "WholeTurnsModel" (170) yX11_associateP ∈ zTT := zTT_of 1084 (by decide +kernel) rfl
theorem tw_1086 : Cond.instanceMethod yX11_associateP ∈ zTT := zTT_of 1086 (by decide +kernel) rfl
theorem tw_1087 : Cond.code yX11_associateP prog_13_method_46_code (3) (Option.none : Option FieldType) ∈ zTT := zTT_of 1087 (by decide +kernel) rfl
theorem tw_1088 : Cond.methodLink "WholeTurnsModel" (161) yX11_unit ∈ zTT := zTT_of 1088 (by decide +kernel) rfl
theorem tw_1090 : Cond.instanceMethod yX11_unit ∈ zTT := zTT_of 1090 (by decide +kernel) rfl
theorem tw_1091 : Cond.code yX11_unit prog_13_method_45_code (4) (Option.none : Option FieldType) ∈ zTT := zTT_of 1091 (by decide +kernel) rfl
theorem tw_1092 : Cond.constantLong "WholeTurnsModel" (157) (-2) ∈ zTT := zTT_of 1092 (by decide +kernel) rfl
theorem tw_1093 : Cond.constantLong "WholeTurnsModel" (159) (-1) ∈ zTT := zTT_of 1093 (by decide +kernel) rfl
theorem tw_1094 : Cond.methodLink "WholeTurnsModel" (164) yX11_isLess ∈ zTT := zTT_of 1094 (by decide +kernel) rfl
theorem tw_1096 : Cond.instanceMethod yX11_isLess ∈ zTT := zTT_of 1096 (by decide +kernel) rfl
theorem tw_1097 : Cond.code yX11_isLess prog_13_method_44_code (4) (Option.some FieldType.boolean) ∈ zTT := zTT_of 1097 (by decide +kernel) rfl
theorem tw_1098 : Cond.methodLink "WholeTurnsLaw" (97) yX11_associate ∈ zTT := zTT_of 1098 (by decide +kernel) rfl
theorem tw_1099 : Cond.instanceMethod yX11_associate ∈ zTT := zTT_of 1099 (by decide +kernel) rfl
theorem tw_1100 : Cond.selects "WholeTurnsModel" yX11_associate yX11_associate ∈ zTT := zTT_of 1100 (by decide +kernel) rfl
theorem tw_1101 : Cond.code yX11_associate prog_13_method_49_code (4) (Option.some FieldType.int) ∈ zTT := zTT_of 1101 (by decide +kernel) rfl
theorem tw_1102 : Cond.methodLink "WholeTurnsLaw" (101) yX11_plain ∈ zTT := zTT_of 1102 (by decide +kernel) rfl
theorem tw_1103 : Cond.instanceMethod yX11_plain ∈ zTT := zTT_of 1103 (by decide +kernel) rfl
theorem tw_1104 : Cond.selects "WholeTurnsModel" yX11_plain yX11_plain ∈ zTT := zTT_of 1104 (by decide +kernel) rfl
theorem tw_1105 : Cond.code yX11_plain prog_13_method_50_code (5) (Option.some FieldType.int) ∈ zTT := zTT_of 1105 (by decide +kernel) rfl
theorem tw_1106 : Cond.methodLink "WholeTurnsLaw" (105) yX11_part ∈ zTT := zTT_of 1106 (by decide +kernel) rfl
theorem tw_1107 : Cond.instanceMethod yX11_part ∈ zTT := zTT_of 1107 (by decide +kernel) rfl
theorem tw_1108 : Cond.selects "WholeTurnsModel" yX11_part yX11_part ∈ zTT := zTT_of 1108 (by decide +kernel) rfl
theorem tw_1109 : Cond.code yX11_part prog_13_method_52_code (11) (Option.some FieldType.int) ∈ zTT := zTT_of 1109 (by decide +kernel) rfl
theorem tw_1110 : Cond.methodLink "WholeTurnsModel" (176) yX11_leastPrime ∈ zTT := zTT_of 1110 (by decide +kernel) rfl
theorem tw_1111 : Cond.static yX11_leastPrime ∈ zTT := zTT_of 1111 (by decide +kernel) rfl
theorem tw_1112 : Cond.code yX11_leastPrime prog_13_method_51_code (4) (Option.some FieldType.long) ∈ zTT := zTT_of 1112 (by decide +kernel) rfl
theorem tw_1113 : Cond.methodLink "WholeTurnsLaw" (109) yX11_many ∈ zTT := zTT_of 1113 (by decide +kernel) rfl
theorem tw_1114 : Cond.instanceMethod yX11_many ∈ zTT := zTT_of 1114 (by decide +kernel) rfl
theorem tw_1115 : Cond.selects "WholeTurnsModel" yX11_many yX11_many ∈ zTT := zTT_of 1115 (by decide +kernel) rfl
theorem tw_1116 : Cond.code yX11_many prog_13_method_53_code (4) (Option.some FieldType.int) ∈ zTT := zTT_of 1116 (by decide +kernel) rfl
theorem tw_1117 : Cond.constantLong "WholeTurnsModel" (180) (1000000) ∈ zTT := zTT_of 1117 (by decide +kernel) rfl
theorem tw_1118 : Cond.methodLink "WholeTurnsLaw" (113) yX11_list ∈ zTT := zTT_of 1118 (by decide +kernel) rfl
theorem tw_1119 : Cond.instanceMethod yX11_list ∈ zTT := zTT_of 1119 (by decide +kernel) rfl
theorem tw_1120 : Cond.selects "WholeTurnsModel" yX11_list yX11_list ∈ zTT := zTT_of 1120 (by decide +kernel) rfl
theorem tw_1121 : Cond.code yX11_list prog_13_method_55_code (21) (Option.some FieldType.int) ∈ zTT := zTT_of 1121 (by decide +kernel) rfl
theorem tw_1122 : Cond.constantLong "WholeTurnsModel" (182) (150) ∈ zTT := zTT_of 1122 (by decide +kernel) rfl
theorem tw_1123 : Cond.methodLink "WholeTurnsModel" (184) yX11_root ∈ zTT := zTT_of 1123 (by decide +kernel) rfl
theorem tw_1124 : Cond.static yX11_root ∈ zTT := zTT_of 1124 (by decide +kernel) rfl
theorem tw_1125 : Cond.code yX11_root prog_13_method_54_code (4) (Option.some FieldType.long) ∈ zTT := zTT_of 1125 (by decide +kernel) rfl
theorem tw_1126 : Cond.methodLink "WholeTurnsLaw" (117) yX11_squares ∈ zTT := zTT_of 1126 (by decide +kernel) rfl
theorem tw_1127 : Cond.instanceMethod yX11_squares ∈ zTT := zTT_of 1127 (by decide +kernel) rfl
theorem tw_1128 : Cond.selects "WholeTurnsModel" yX11_squares yX11_squares ∈ zTT := zTT_of 1128 (by decide +kernel) rfl
theorem tw_1129 : Cond.code yX11_squares prog_13_method_56_code (4) (Option.some FieldType.int) ∈ zTT := zTT_of 1129 (by decide +kernel) rfl
theorem tw_1130 : Cond.methodLink "WholeTurnsLaw" (121) yX11_three ∈ zTT := zTT_of 1130 (by decide +kernel) rfl
theorem tw_1131 : Cond.instanceMethod yX11_three ∈ zTT := zTT_of 1131 (by decide +kernel) rfl
theorem tw_1132 : Cond.selects "WholeTurnsModel" yX11_three yX11_three ∈ zTT := zTT_of 1132 (by decide +kernel) rfl
theorem tw_1133 : Cond.code yX11_three prog_13_method_57_code (3) (Option.some FieldType.int) ∈ zTT := zTT_of 1133 (by decide +kernel) rfl
theorem tw_1134 : Cond.methodLink "WholeTurnsLaw" (126) yX11_table ∈ zTT := zTT_of 1134 (by decide +kernel) rfl
theorem tw_1135 : Cond.instanceMethod yX11_table ∈ zTT := zTT_of 1135 (by decide +kernel) rfl
theorem tw_1136 : Cond.selects "WholeTurnsModel" yX11_table yX11_table ∈ zTT := zTT_of 1136 (by decide +kernel) rfl
theorem tw_1137 : Cond.code yX11_table prog_13_method_61_code (6) (Option.some FieldType.long) ∈ zTT := zTT_of 1137 (by decide +kernel) rfl
theorem tw_1138 : Cond.methodLink "WholeTurnsModel" (187) yX11_refusal ∈ zTT := zTT_of 1138 (by decide +kernel) rfl
theorem tw_1140 : Cond.instanceMethod yX11_refusal ∈ zTT := zTT_of 1140 (by decide +kernel) rfl
theorem tw_1141 : Cond.code yX11_refusal prog_13_method_59_code (2) (Option.some FieldType.int) ∈ zTT := zTT_of 1141 (by decide +kernel) rfl
theorem tw_1142 : Cond.methodLink "WholeTurnsModel" (190) yX11_upper ∈ zTT := zTT_of 1142 (by decide +kernel) rfl
theorem tw_1144 : Cond.instanceMethod yX11_upper ∈ zTT := zTT_of 1144 (by decide +kernel) rfl
theorem tw_1145 : Cond.code yX11_upper prog_13_method_58_code (12) (Option.some FieldType.long) ∈ zTT := zTT_of 1145 (by decide +kernel) rfl
theorem tw_1146 : Cond.methodLink "WholeTurnsModel" (194) yX11_part2 ∈ zTT := zTT_of 1146 (by decide +kernel) rfl
theorem tw_1148 : Cond.instanceMethod yX11_part2 ∈ zTT := zTT_of 1148 (by decide +kernel) rfl
theorem tw_1149 : Cond.code yX11_part2 prog_13_method_60_code (8) (Option.some FieldType.long) ∈ zTT := zTT_of 1149 (by decide +kernel) rfl
theorem tw_1150 : Cond.methodLink "WholeTurnsLaw" (131) yX11_turn ∈ zTT := zTT_of 1150 (by decide +kernel) rfl
theorem tw_1151 : Cond.instanceMethod yX11_turn ∈ zTT := zTT_of 1151 (by decide +kernel) rfl
theorem tw_1152 : Cond.selects "WholeTurnsModel" yX11_turn yX11_turn ∈ zTT := zTT_of 1152 (by decide +kernel) rfl
theorem tw_1153 : Cond.code yX11_turn prog_13_method_62_code (8) (Option.some FieldType.long) ∈ zTT := zTT_of 1153 (by decide +kernel) rfl
theorem tw_1154 : Cond.constantLong "WholeTurnsModel" (198) (-1000) ∈ zTT := zTT_of 1154 (by decide +kernel) rfl
theorem tw_1155 : Cond.constantLong "WholeTurnsModel" (200) (1000) ∈ zTT := zTT_of 1155 (by decide +kernel) rfl
theorem tw_1156 : Cond.methodLink "WholeTurnsLaw" (135) yX11_order ∈ zTT := zTT_of 1156 (by decide +kernel) rfl
theorem tw_1157 : Cond.instanceMethod yX11_order ∈ zTT := zTT_of 1157 (by decide +kernel) rfl
theorem tw_1158 : Cond.selects "WholeTurnsModel" yX11_order yX11_order ∈ zTT := zTT_of 1158 (by decide +kernel) rfl
theorem tw_1159 : Cond.code yX11_order prog_13_method_63_code (7) (Option.some FieldType.int) ∈ zTT := zTT_of 1159 (by decide +kernel) rfl
theorem tw_1160 : Cond.methodLink "WholeTurnsLaw" (139) yX11_axis ∈ zTT := zTT_of 1160 (by decide +kernel) rfl
theorem tw_1161 : Cond.instanceMethod yX11_axis ∈ zTT := zTT_of 1161 (by decide +kernel) rfl
theorem tw_1162 : Cond.selects "WholeTurnsModel" yX11_axis yX11_axis ∈ zTT := zTT_of 1162 (by decide +kernel) rfl
theorem tw_1163 : Cond.code yX11_axis prog_13_method_64_code (13) (Option.some FieldType.int) ∈ zTT := zTT_of 1163 (by decide +kernel) rfl
theorem tw_1164 : Cond.methodLink "WholeTurnsLaw" (143) yX11_alike ∈ zTT := zTT_of 1164 (by decide +kernel) rfl
theorem tw_1165 : Cond.instanceMethod yX11_alike ∈ zTT := zTT_of 1165 (by decide +kernel) rfl
theorem tw_1166 : Cond.selects "WholeTurnsModel" yX11_alike yX11_alike ∈ zTT := zTT_of 1166 (by decide +kernel) rfl
theorem tw_1167 : Cond.code yX11_alike prog_13_method_65_code (6) (Option.some FieldType.int) ∈ zTT := zTT_of 1167 (by decide +kernel) rfl
theorem tw_1168 : Cond.methodLink "WholeTurnsLaw" (147) yX11_index ∈ zTT := zTT_of 1168 (by decide +kernel) rfl
theorem tw_1169 : Cond.instanceMethod yX11_index ∈ zTT := zTT_of 1169 (by decide +kernel) rfl
theorem tw_1170 : Cond.selects "WholeTurnsModel" yX11_index yX11_index ∈ zTT := zTT_of 1170 (by decide +kernel) rfl
theorem tw_1171 : Cond.code yX11_index prog_13_method_67_code (3) (Option.some FieldType.int) ∈ zTT := zTT_of 1171 (by decide +kernel) rfl
theorem tw_1172 : Cond.methodLink "WholeTurnsModel" (202) yX11_indexOf ∈ zTT := zTT_of 1172 (by decide +kernel) rfl
theorem tw_1174 : Cond.instanceMethod yX11_indexOf ∈ zTT := zTT_of 1174 (by decide +kernel) rfl
theorem tw_1175 : Cond.code yX11_indexOf prog_13_method_66_code (5) (Option.some FieldType.long) ∈ zTT := zTT_of 1175 (by decide +kernel) rfl
theorem tw_1176 : Cond.methodLink "WholeTurnsLaw" (151) yX11_cell ∈ zTT := zTT_of 1176 (by decide +kernel) rfl
theorem tw_1177 : Cond.instanceMethod yX11_cell ∈ zTT := zTT_of 1177 (by decide +kernel) rfl
theorem tw_1178 : Cond.selects "WholeTurnsModel" yX11_cell yX11_cell ∈ zTT := zTT_of 1178 (by decide +kernel) rfl
theorem tw_1179 : Cond.code yX11_cell prog_13_method_69_code (14) (Option.some FieldType.int) ∈ zTT := zTT_of 1179 (by decide +kernel) rfl
theorem tw_1180 : Cond.constantLong "WholeTurnsModel" (206) (5) ∈ zTT := zTT_of 1180 (by decide +kernel) rfl
theorem tw_1181 : Cond.constantLong "WholeTurnsModel" (208) (300) ∈ zTT := zTT_of 1181 (by decide +kernel) rfl
theorem tw_1182 : Cond.methodLink "WholeTurnsModel" (210) yX11_isCommon ∈ zTT := zTT_of 1182 (by decide +kernel) rfl
theorem tw_1184 : Cond.instanceMethod yX11_isCommon ∈ zTT := zTT_of 1184 (by decide +kernel) rfl
theorem tw_1185 : Cond.code yX11_isCommon prog_13_method_68_code (10) (Option.some FieldType.boolean) ∈ zTT := zTT_of 1185 (by decide +kernel) rfl
theorem tw_1186 : Cond.methodLink "WholeTurnsLaw" (156) yX11_status ∈ zTT := zTT_of 1186 (by decide +kernel) rfl
theorem tw_1187 : Cond.instanceMethod yX11_status ∈ zTT := zTT_of 1187 (by decide +kernel) rfl
theorem tw_1188 : Cond.selects "WholeTurnsModel" yX11_status yX11_status ∈ zTT := zTT_of 1188 (by decide +kernel) rfl
theorem tw_1189 : Cond.code yX11_status prog_13_method_70_code (1) (Option.some FieldType.int) ∈ zTT := zTT_of 1189 (by decide +kernel) rfl
theorem tw_1190 : Cond.constantLong "WholeTurnsLaw" (18) (4294967295) ∈ zTT := zTT_of 1190 (by decide +kernel) rfl
end
section
/-! A layer over the kit: the heap as one function from addresses to cells; a method's place as 'zG'; a contract as 'zSpec'. -/
abbrev zHp : Type := Nat → Option va_E
def zF (h : zHp) : Nat → va_E := fun a => (h a).getD (.inr (0, []))
def zU (h : zHp) (a : Nat) (e : va_E) : zHp := fun b => if b = a then some e else h b
theorem zU_s (h : zHp) (a : Nat) (e : va_E) : zU h a e a = some e := by simp [zU]
theorem zU_n (h : zHp) {a b : Nat} (e : va_E) (hne : b ≠ a) : zU h a e b = h b := by simp [zU, hne]
theorem zU_u (h : zHp) (a : Nat) (e e' : va_E) : zU (zU h a e) a e' = zU h a e' := by
  funext b
  by_cases hb : b = a <;> simp [zU, hb]
theorem zU_c (h : zHp) {a b : Nat} (e e' : va_E) (hne : a ≠ b) : zU (zU h a e) b e' = zU (zU h b e') a e := by
  funext c
  by_cases h1 : c = a
  · subst h1
    simp [zU, hne]
  · by_cases h2 : c = b
    · subst h2
      simp [zU, h1]
    · simp [zU, h1, h2]
theorem zU_i (h : zHp) {a : Nat} {e : va_E} (he : h a = some e) : zU h a e = h := by
  funext b
  by_cases hb : b = a
  · subst hb; simp [zU, he]
  · simp [zU, hb]
theorem zF_u (h : zHp) (a : Nat) (e : va_E) : zF (zU h a e) = va_up (zF h) a e := by
  funext b
  by_cases hb : b = a <;> simp [zF, zU, va_up, hb]
theorem zF_at {h : zHp} {a : Nat} {e : va_E} (he : h a = some e) : zF h a = e := by simp [zF, he]
def zWd (D : va_G) (h : zHp) (A : Nat → Prop) (H : Heap) : Prop := ∃ L : List Nat, (∀ a, a ∈ L ↔ h a ≠ none) ∧ va_P D vwCl (va_pl L (zF h)) H ∧ va_D A (va_pl L (zF h))
theorem zWd_get {D : va_G} {h : zHp} {A : Nat → Prop} {H : Heap} {a : Nat} {e : va_E} (hw : zWd D h A H) (he : h a = some e) : ∃ (L : List Nat) (k : Nat), (∀ a, a ∈ L ↔ h a ≠ none) ∧ va_P D vwCl (va_pl L (zF h)) H ∧ va_D A (va_pl L (zF h)) ∧ (va_pl L (zF h))[k]? = some (a, e) ∧ a ∈ L := by
  obtain ⟨L, hL, hP, hD⟩ := hw
  have hm : a ∈ L := (hL a).mpr (by rw [he]; simp)
  obtain ⟨k, hk⟩ := va_pl_get (X := []) (f := zF h) hm
  rw [zF_at he] at hk
  exact ⟨L, k, hL, hP, hD, hk, hm⟩
theorem zWd_set {D : va_G} {h : zHp} {A : Nat → Prop} {H1 : Heap} {L : List Nat} {k a : Nat} {e e' : va_E} (hL : ∀ a, a ∈ L ↔ h a ≠ none) (hm : a ∈ L) (he : h a = some e) (hD : va_D A (va_pl L (zF h))) (hk : (va_pl L (zF h))[k]? = some (a, e)) (hP1 : va_P D vwCl ((va_pl L (zF h)).set k (a, e')) H1) (hD1 : va_D A ((va_pl L (zF h)).set k (a, e'))) : zWd D (zU h a e') A H1 := by
  have hk' : (va_pl L (zF h))[k]? = some (a, zF h a) := by rw [zF_at he]; exact hk
  have e1 := va_pl_set (X := []) (e := e') hD hm hk'
  have e2 : (va_pl L (zF h)).set k (a, e') = va_pl L (zF (zU h a e')) := by rw [zF_u]; exact e1
  rw [e2] at hP1 hD1
  refine ⟨L, fun b => ?_, hP1, hD1⟩
  by_cases hb : b = a
  · subst hb
    simp [zU, hm]
  · rw [zU_n h e' hb]
    exact hL b
theorem zWd_in {D : va_G} {h : zHp} {A : Nat → Prop} {H : Heap} {a : Nat} (hw : zWd D h A H) (ha : h a ≠ none) : A a := by
  obtain ⟨L, hL, hP, hD⟩ := hw
  obtain ⟨k, hk⟩ := va_pl_get (X := []) (f := zF h) ((hL a).mpr ha)
  exact hD.2 k _ hk
theorem zWd_weak {D : va_G} {h : zHp} {A A' : Nat → Prop} {H : Heap} (hw : zWd D h A H) (hA : ∀ q, A q → A' q) : zWd D h A' H := by
  obtain ⟨L, hL, hP, hD⟩ := hw
  exact ⟨L, hL, hP, hD.weaken (fun _ _ _ h => hA _ h)⟩
theorem zWd_new {D : va_G} {h : zHp} {A : Nat → Prop} {H1 : Heap} {L : List Nat} {q : Nat} {e : va_E} (hL : ∀ a, a ∈ L ↔ h a ≠ none) (hP1 : va_P D vwCl (va_pl L (zF h) ++ [(q, e)]) H1) (hD1 : va_D A (va_pl L (zF h) ++ [(q, e)])) : h q = none ∧ zWd D (zU h q e) A H1 := by
  have hq : q ∉ L := va_pl_fresh2 (X := []) (f := zF h) hD1
  have e1 := va_pl_push (f := zF h) (e := e) hq
  rw [e1, ← zF_u] at hP1 hD1
  refine ⟨Classical.byContradiction fun hn => hq ((hL q).mpr hn), L ++ [q], fun b => ?_, hP1, hD1⟩
  by_cases hb : b = q
  · subst hb
    simp [zU]
  · rw [zU_n h e hb, List.mem_append, List.mem_singleton]
    simp [hb, hL b]
/-! the launch's own numbers: the classes' numbers and slots, the arrays' classes (ints, longs, booleans, rows of fours, of trays) -/
abbrev zBB : Type := va_G × (Nat → ClassId)
abbrev zI (B : zBB) (n : Nat) (f : Nat → Int32) : va_E := .inl (B.2 0, n, .inl f)
abbrev zJ (B : zBB) (n : Nat) (f : Nat → Int64) : va_E := .inl (B.2 1, n, .inr (.inl f))
abbrev zZb (B : zBB) (n : Nat) (f : Nat → Int32) : va_E := .inl (B.2 2, n, .inl f)
abbrev zRf (B : zBB) (n : Nat) (f : Nat → Option Nat) : va_E := .inl (B.2 3, n, .inr (.inr (.inr (.inr f))))
abbrev zRt (B : zBB) (n : Nat) (f : Nat → Option Nat) : va_E := .inl (B.2 4, n, .inr (.inr (.inr (.inr f))))
abbrev zO (ci : Nat) (fs : List Value) : va_E := .inr (ci, fs)
def zTys (B : zBB) : List (ClassId × FieldType) := [(B.2 0, .int), (B.2 1, .long), (B.2 2, .boolean), (B.2 3, .object RX4), (B.2 4, .object RX9)]
def zNest : List (String × Nat × MethodName) := [(RX10, 26, yX4_init), (RX1, 11, yX4_init), (RX3, 11, yX4_init), (RX3, 42, yX10_commonDivisor), (RX4, 51, yX10_commonDivisor), (RX4, 61, yX10_withoutFactor), (RX5, 11, yX4_init), (RX6, 11, yX4_init), (RX7, 11, yX4_init), (RX7, 42, yX10_leastPrime), (RX8, 37, yX10_outside)]
def zTb (B : zBB) (U : State) : Prop := va_K B.1 vwCl (zTys B) U ∧ (∀ q ∈ zNest, va_Nw (.methodLinkNest q.1 q.2.1 q.2.2 "WholeTurns") U) ∧ va_AO RX4 U ∧ va_AO RX9 U
theorem zTb.moved {B : zBB} {s U : State} (hW : s.WarmedH U.vm) (h : zTb B s) : zTb B U := ⟨va_K.moved hW.alike h.1, fun q hq => va_Nw.warmM hW (h.2.1 q hq), h.2.2.1.moved hW.alike, h.2.2.2.moved hW.alike⟩
theorem zTb.blind {B : zBB} {a : Array Value} {U : State} {g : JFrame} {mk : MethodId} (h : zTb B U) : zTb B (U.calling g mk a) := ⟨va_K.moved (u := U) (U := U.calling g mk a) (Vm.Alike.refl U.vm) h.1, fun q hq => va_Nw.same (u := U) (U := U.calling g mk a) rfl rfl (h.2.1 q hq), va_AO.moved (u := U) (U := U.calling g mk a) (Vm.Alike.refl U.vm) h.2.2.1, va_AO.moved (u := U) (U := U.calling g mk a) (Vm.Alike.refl U.vm) h.2.2.2⟩
/-! a method: its name, code, locals, what it answers -/
abbrev zMD : Type := MethodName × ByteArray × Nat × Option FieldType
def zWm (md : zMD) : List Cond := .code md.1 md.2.1 md.2.2.1 md.2.2.2 :: zTT
/-- the room at a height of the calls' tree -/
def zRm (rm : Nat × Nat × Nat) : Room := { frames := rm.1, cells := rm.2.1, slots := rm.2.2, locals := 41 * rm.1 }
def zAf (h : zHp) (sz : Nat) : Nat → Prop := fun q => h q ≠ none ∨ sz ≤ q
def zQ (B : zBB) (A : Nat → Prop) (Post : Option Value → zHp → Prop) : Array Value → State → Outcome → State → Prop := fun _ st oc t => (∃ (v : Option Value) (h' : zHp), oc = .returned v ∧ Post v h' ∧ zWd B.1 h' A t.heap) ∧ va_F A st t
def zPr (B : zBB) (h : zHp) (sz : Nat) : State → Prop := fun U => U.heap.size = sz ∧ zWd B.1 h (fun _ => True) U.heap ∧ zTb B U
def zSpec (md : zMD) (B : zBB) (rm : Nat × Nat × Nat) (args : List Value) (h : zHp) (Post : Option Value → zHp → Prop) : Prop := ∀ (l : Launch) (sz : Nat), Met l md.1 (zWm md) (zRm rm) (va_Pc args (zPr B h sz)) (zQ B (zAf h sz) Post) rm.2.1 rm.2.2 (zAf h sz)
/-! where a walk stands -/
abbrev zX : Type := Program × Launch × Env × Room × State × MethodId × Array Value × List Frame × Method × Code × (Nat → Prop) × (State → Prop)
abbrev zXp (X : zX) : Program := X.1
abbrev zXl (X : zX) : Launch := X.2.1
abbrev zXe (X : zX) : Env := X.2.2.1
abbrev zXr (X : zX) : Room := X.2.2.2.1
abbrev zXs (X : zX) : State := X.2.2.2.2.1
abbrev zXm (X : zX) : MethodId := X.2.2.2.2.2.1
abbrev zXa (X : zX) : Array Value := X.2.2.2.2.2.2.1
abbrev zXb (X : zX) : List Frame := X.2.2.2.2.2.2.2.1
abbrev zXf (X : zX) : Method := X.2.2.2.2.2.2.2.2.1
abbrev zXc (X : zX) : Code := X.2.2.2.2.2.2.2.2.2.1
abbrev zXA (X : zX) : Nat → Prop := X.2.2.2.2.2.2.2.2.2.2.1
abbrev zXz (X : zX) : State → Prop := X.2.2.2.2.2.2.2.2.2.2.2
def zGood (X : zX) (md : zMD) (B : zBB) (rm : Nat × Nat × Nat) : Prop :=
  (zXp X).tables.exec = Jvm.exec ∧ (zXc X).code = md.2.1 ∧ (zXc X).maxLocals = md.2.2.1 ∧ (zXs X).vm.findClass md.1.cls = some (zXm X).cls ∧ (∀ w ∈ zTT, w.before (zXa X) (zXs X) = true) ∧ zTb B (zXs X) ∧ (∀ q, (zXs X).heap.size ≤ q → (zXA X) q) ∧ rm.1 ≤ (zXr X).frames ∧ 41 * rm.1 ≤ (zXr X).locals ∧ rm.2.1 ≤ (zXr X).cells ∧ rm.2.2 ≤ (zXr X).slots
def zG (X : zX) (md : zMD) (B : zBB) (rm : Nat × Nat × Nat) (n : Nat × Nat) (pc : Nat) (lv : List (Nat × Value)) (st : List Value) (h : zHp) : Prop :=
  zGood X md B rm → ∀ (ls : Array Slot) (H : Heap) (locs : List Loc), lv_has ls md.2.2.1 lv → zWd B.1 h (zXA X) H → va_S (zXA X) (zXs X).heap H locs → W (zXp X) (zXl X) (zXe X) (zXr X) (zXs X) (zXm X) (zXa X) (zXb X) (zXf X) (zXc X) H locs n.1 n.2 (zXz X) (F0 (zXm X) pc ls st)
/-- the walk's end is a method's: its contract's post -/
def zIsP (X : zX) (md : zMD) (B : zBB) (n : Nat × Nat) (Post : Option Value → zHp → Prop) : Prop :=
  zXz X = MQ (zXb X) (zQ B (zXA X) Post) (zXa X) (zXs X) n.1 n.2 (zXA X) ∧ (zXf X).sig.returnType = md.2.2.2 ∧ (zXf X).locks = false ∧ (zXf X).name = md.1.name
theorem zSpec.of {md : zMD} {B : zBB} {rm : Nat × Nat × Nat} {args : List Value} {h : zHp} {Post : Option Value → zHp → Prop} (hpn : plainName md.1.cls = true) (hlen : (lg_sl args).length ≤ md.2.2.1)
    (body : ∀ X : zX, zIsP X md B (rm.2.1, rm.2.2) Post → zG X md B rm (0, 0) 0 (lv_args 0 args) [] h) : zSpec md B rm args h Post := by
  intro l sz
  refine Met.ofW (cc := md.2.1) (maxL := md.2.2.1) (ret := md.2.2.2) hpn rfl ?_
  intro p e s m as below meth c s₁ Bd hml hv
  obtain ⟨rfl, hsz, ⟨L, hL, hP, hD⟩, hT⟩ := hv
  have hts := atoms_spec (ws := zWm md) Bd.pre
  subst hsz
  have hl := lv_entry args (n := md.2.2.1) hlen
  rw [lg_entry_eq]
  refine body (p, l, e, _, s, m, args.toArray, below, meth, c, zAf h s.heap.size, _) ⟨rfl, Bd.returns, Bd.notSynchronized, (name_of_methodNamed Bd.named Bd.method).1⟩ ⟨Bd.exec, Bd.bytes, hml, findClass_of_methodNamed Bd.named, fun w hw => hts w (List.mem_cons_of_mem _ hw), hT, fun q hq => Or.inr hq, Nat.le_refl _, Nat.le_refl _, Nat.le_refl _, Nat.le_refl _⟩ _ _ _ hl ⟨L, hL, hP, hD.weaken (fun k q hk _ => ?_)⟩ va_S.rf
  obtain ⟨b, hb, hbq⟩ := List.mem_map.mp (List.mem_of_getElem? hk)
  rw [← hbq]
  exact Or.inl ((hL b).mp hb)
theorem zSpec.post {md : zMD} {B : zBB} {rm : Nat × Nat × Nat} {args : List Value} {h : zHp} {P P' : Option Value → zHp → Prop} (hs : zSpec md B rm args h P) (hp : ∀ v h', P v h' → P' v h') : zSpec md B rm args h P' := by
  intro l sz p e ha hc hk s m as below hf hfit hpre hK
  obtain ⟨t, o, a1, a2, a3, ⟨⟨v, h', b1, b2, b3⟩, b4⟩, b5⟩ := hs l sz p e ha hc hk s m as below hf hfit hpre hK
  exact ⟨t, o, a1, a2, a3, ⟨⟨v, h', b1, hp v h' b2, b3⟩, b4⟩, b5⟩
end
section
/-! a row an instruction -/
/-- what a local holds -/
def zLk : List (Nat × Value) → Nat → Option Value
  | [], _ => none
  | (j, v) :: t, i => bif Nat.beq j i then some v else zLk t i
theorem zLk_mem : ∀ {lv : List (Nat × Value)} {i : Nat} {v : Value}, zLk lv i = some v → (i, v) ∈ lv
  | [], _, _, h => by cases h
  | (j, w) :: t, i, v, h => by
    unfold zLk at h
    cases hj : Nat.beq j i with
    | true =>
      rw [hj] at h
      cases h
      rw [Nat.eq_of_beq_eq_true hj]
      exact List.mem_cons_self
    | false =>
      rw [hj] at h
      exact List.mem_cons_of_mem _ (zLk_mem h)
def zS1 (lv : List (Nat × Value)) (i : Nat) (v : Value) : List (Nat × Value) := (i, v) :: lv.filter (fun q => !(q.1 == i) && !(q.1 + 1 == i && q.2.category == 2))
def zS2 (lv : List (Nat × Value)) (i : Nat) (v : Value) : List (Nat × Value) := (i, v) :: lv.filter (fun q => !(q.1 == i) && (!(q.1 == i + 1) && !(q.1 + 1 == i && q.2.category == 2)))
/-- a class of the worlds, its fields' words in the tables -/
def zCl (ci : Nat) (C : String) (T : u_T) (N : Nat) : Prop := vwCl[ci]? = some (C, T, N) ∧ ∀ w ∈ u_ws C T N, w ∈ zTT
section ZI
variable {X : zX} {md : zMD} {B : zBB} {rm : Nat × Nat × Nat} {n : Nat × Nat} {pc : Nat} {lv : List (Nat × Value)} {st : List Value} {h : zHp}
theorem zi_iadd {x y : Int32} (q : Nat) (d : decode md.2.1 pc = .ok (.iadd, 1))  (hq : pc + 1 = q) (kk : zG X md B rm n q lv (.int (x + y) :: st) h) : zG X md B rm n pc lv (.int y :: .int x :: st) h := by
  subst hq
  exact fun g ls H locs hl hw hs => lv_iadd g.1 g.2.1 d (kk g ls H locs hl hw hs)
theorem zi_isub {x y : Int32} (q : Nat) (d : decode md.2.1 pc = .ok (.isub, 1))  (hq : pc + 1 = q) (kk : zG X md B rm n q lv (.int (x - y) :: st) h) : zG X md B rm n pc lv (.int y :: .int x :: st) h := by
  subst hq
  exact fun g ls H locs hl hw hs => lv_isub g.1 g.2.1 d (kk g ls H locs hl hw hs)
theorem zi_imul {x y : Int32} (q : Nat) (d : decode md.2.1 pc = .ok (.imul, 1))  (hq : pc + 1 = q) (kk : zG X md B rm n q lv (.int (x * y) :: st) h) : zG X md B rm n pc lv (.int y :: .int x :: st) h := by
  subst hq
  exact fun g ls H locs hl hw hs => lv_imul g.1 g.2.1 d (kk g ls H locs hl hw hs)
theorem zi_iand {x y : Int32} (q : Nat) (d : decode md.2.1 pc = .ok (.iand, 1))  (hq : pc + 1 = q) (kk : zG X md B rm n q lv (.int (x &&& y) :: st) h) : zG X md B rm n pc lv (.int y :: .int x :: st) h := by
  subst hq
  exact fun g ls H locs hl hw hs => lv_iand g.1 g.2.1 d (kk g ls H locs hl hw hs)
theorem zi_ishl {x y : Int32} (q : Nat) (d : decode md.2.1 pc = .ok (.ishl, 1))  (hq : pc + 1 = q) (kk : zG X md B rm n q lv (.int (x <<< (y &&& 31)) :: st) h) : zG X md B rm n pc lv (.int y :: .int x :: st) h := by
  subst hq
  exact fun g ls H locs hl hw hs => lv_ishl g.1 g.2.1 d (kk g ls H locs hl hw hs)
theorem zi_ishr {x y : Int32} (q : Nat) (d : decode md.2.1 pc = .ok (.ishr, 1))  (hq : pc + 1 = q) (kk : zG X md B rm n q lv (.int (x >>> (y &&& 31)) :: st) h) : zG X md B rm n pc lv (.int y :: .int x :: st) h := by
  subst hq
  exact fun g ls H locs hl hw hs => lv_ishr g.1 g.2.1 d (kk g ls H locs hl hw hs)
theorem zi_idiv {x y : Int32} (q : Nat) (d : decode md.2.1 pc = .ok (.idiv, 1)) (hn : ¬ y = 0) (hq : pc + 1 = q) (kk : zG X md B rm n q lv (.int (x / y) :: st) h) : zG X md B rm n pc lv (.int y :: .int x :: st) h := by
  subst hq
  exact fun g ls H locs hl hw hs => lv_idiv g.1 g.2.1 d hn (kk g ls H locs hl hw hs)
theorem zi_irem {x y : Int32} (q : Nat) (d : decode md.2.1 pc = .ok (.irem, 1)) (hn : ¬ y = 0) (hq : pc + 1 = q) (kk : zG X md B rm n q lv (.int (x - x / y * y) :: st) h) : zG X md B rm n pc lv (.int y :: .int x :: st) h := by
  subst hq
  exact fun g ls H locs hl hw hs => lv_irem g.1 g.2.1 d hn (kk g ls H locs hl hw hs)
theorem zi_ineg {x : Int32} (q : Nat) (d : decode md.2.1 pc = .ok (.ineg, 1))  (hq : pc + 1 = q) (kk : zG X md B rm n q lv (.int (-x) :: st) h) : zG X md B rm n pc lv (.int x :: st) h := by
  subst hq
  exact fun g ls H locs hl hw hs => lv_ineg g.1 g.2.1 d (kk g ls H locs hl hw hs)
theorem zi_ladd {x y : Int64} (q : Nat) (d : decode md.2.1 pc = .ok (.ladd, 1))  (hq : pc + 1 = q) (kk : zG X md B rm n q lv (.long (x + y) :: st) h) : zG X md B rm n pc lv (.long y :: .long x :: st) h := by
  subst hq
  exact fun g ls H locs hl hw hs => lv_ladd g.1 g.2.1 d (kk g ls H locs hl hw hs)
theorem zi_lsub {x y : Int64} (q : Nat) (d : decode md.2.1 pc = .ok (.lsub, 1))  (hq : pc + 1 = q) (kk : zG X md B rm n q lv (.long (x - y) :: st) h) : zG X md B rm n pc lv (.long y :: .long x :: st) h := by
  subst hq
  exact fun g ls H locs hl hw hs => lv_lsub g.1 g.2.1 d (kk g ls H locs hl hw hs)
theorem zi_lmul {x y : Int64} (q : Nat) (d : decode md.2.1 pc = .ok (.lmul, 1))  (hq : pc + 1 = q) (kk : zG X md B rm n q lv (.long (x * y) :: st) h) : zG X md B rm n pc lv (.long y :: .long x :: st) h := by
  subst hq
  exact fun g ls H locs hl hw hs => lv_lmul g.1 g.2.1 d (kk g ls H locs hl hw hs)
theorem zi_land {x y : Int64} (q : Nat) (d : decode md.2.1 pc = .ok (.land, 1))  (hq : pc + 1 = q) (kk : zG X md B rm n q lv (.long (x &&& y) :: st) h) : zG X md B rm n pc lv (.long y :: .long x :: st) h := by
  subst hq
  exact fun g ls H locs hl hw hs => lv_land g.1 g.2.1 d (kk g ls H locs hl hw hs)
theorem zi_lor {x y : Int64} (q : Nat) (d : decode md.2.1 pc = .ok (.lor, 1))  (hq : pc + 1 = q) (kk : zG X md B rm n q lv (.long (x ||| y) :: st) h) : zG X md B rm n pc lv (.long y :: .long x :: st) h := by
  subst hq
  exact fun g ls H locs hl hw hs => lv_lor g.1 g.2.1 d (kk g ls H locs hl hw hs)
theorem zi_lxor {x y : Int64} (q : Nat) (d : decode md.2.1 pc = .ok (.lxor, 1))  (hq : pc + 1 = q) (kk : zG X md B rm n q lv (.long (x ^^^ y) :: st) h) : zG X md B rm n pc lv (.long y :: .long x :: st) h := by
  subst hq
  exact fun g ls H locs hl hw hs => lv_lxor g.1 g.2.1 d (kk g ls H locs hl hw hs)
theorem zi_ldiv {x y : Int64} (q : Nat) (d : decode md.2.1 pc = .ok (.ldiv, 1)) (hn : ¬ y = 0) (hq : pc + 1 = q) (kk : zG X md B rm n q lv (.long (x / y) :: st) h) : zG X md B rm n pc lv (.long y :: .long x :: st) h := by
  subst hq
  exact fun g ls H locs hl hw hs => lv_ldiv g.1 g.2.1 d hn (kk g ls H locs hl hw hs)
theorem zi_lrem {x y : Int64} (q : Nat) (d : decode md.2.1 pc = .ok (.lrem, 1)) (hn : ¬ y = 0) (hq : pc + 1 = q) (kk : zG X md B rm n q lv (.long (x - x / y * y) :: st) h) : zG X md B rm n pc lv (.long y :: .long x :: st) h := by
  subst hq
  exact fun g ls H locs hl hw hs => lv_lrem g.1 g.2.1 d hn (kk g ls H locs hl hw hs)
theorem zi_lneg {x : Int64} (q : Nat) (d : decode md.2.1 pc = .ok (.lneg, 1))  (hq : pc + 1 = q) (kk : zG X md B rm n q lv (.long (-x) :: st) h) : zG X md B rm n pc lv (.long x :: st) h := by
  subst hq
  exact fun g ls H locs hl hw hs => lv_lneg g.1 g.2.1 d (kk g ls H locs hl hw hs)
theorem zi_lcmp {x y : Int64} (q : Nat) (d : decode md.2.1 pc = .ok (.lcmp, 1))  (hq : pc + 1 = q) (kk : zG X md B rm n q lv (.int (lg_cmp x y) :: st) h) : zG X md B rm n pc lv (.long y :: .long x :: st) h := by
  subst hq
  exact fun g ls H locs hl hw hs => W.lcmp g.1 g.2.1 d (kk g ls H locs hl hw hs)
theorem zi_lshl {x : Int64} {y : Int32} (q : Nat) (d : decode md.2.1 pc = .ok (.lshl, 1))  (hq : pc + 1 = q) (kk : zG X md B rm n q lv (.long (x <<< (y.toInt64 &&& 63)) :: st) h) : zG X md B rm n pc lv (.int y :: .long x :: st) h := by
  subst hq
  exact fun g ls H locs hl hw hs => lv_lshl g.1 g.2.1 d rfl (kk g ls H locs hl hw hs)
theorem zi_i2l {x : Int32} (q : Nat) (d : decode md.2.1 pc = .ok (.i2l, 1))  (hq : pc + 1 = q) (kk : zG X md B rm n q lv (.long x.toInt64 :: st) h) : zG X md B rm n pc lv (.int x :: st) h := by
  subst hq
  exact fun g ls H locs hl hw hs => lv_i2l g.1 g.2.1 d rfl (kk g ls H locs hl hw hs)
theorem zi_l2i {x : Int64} (q : Nat) (d : decode md.2.1 pc = .ok (.l2i, 1))  (hq : pc + 1 = q) (kk : zG X md B rm n q lv (.int x.toInt32 :: st) h) : zG X md B rm n pc lv (.long x :: st) h := by
  subst hq
  exact fun g ls H locs hl hw hs => lv_l2i g.1 g.2.1 d rfl (kk g ls H locs hl hw hs)
theorem zi_i2b {x : Int32} (q : Nat) (d : decode md.2.1 pc = .ok (.i2b, 1))  (hq : pc + 1 = q) (kk : zG X md B rm n q lv (.int x.toInt8.toInt32 :: st) h) : zG X md B rm n pc lv (.int x :: st) h := by
  subst hq
  exact fun g ls H locs hl hw hs => lv_i2b g.1 g.2.1 d rfl (kk g ls H locs hl hw hs)
theorem zi_iconst {m : Int} {v : Int32} (q : Nat) (d : decode md.2.1 pc = .ok (.iconst m, 1)) (hv : Int32.ofInt m = v) (hq : pc + 1 = q) (kk : zG X md B rm n q lv (.int v :: st) h) : zG X md B rm n pc lv (st) h := by
  subst hq
  exact fun g ls H locs hl hw hs => lv_iconst g.1 g.2.1 d hv (kk g ls H locs hl hw hs)
theorem zi_bipush {m : Int} {v : Int32} (q : Nat) (d : decode md.2.1 pc = .ok (.bipush m, 2)) (hv : (Int8.ofInt m).toInt32 = v) (hq : pc + 2 = q) (kk : zG X md B rm n q lv (.int v :: st) h) : zG X md B rm n pc lv (st) h := by
  subst hq
  exact fun g ls H locs hl hw hs => lv_bipush g.1 g.2.1 d hv (kk g ls H locs hl hw hs)
theorem zi_sipush {m : Int} {v : Int32} (q : Nat) (d : decode md.2.1 pc = .ok (.sipush m, 3)) (hv : (Int16.ofInt m).toInt32 = v) (hq : pc + 3 = q) (kk : zG X md B rm n q lv (.int v :: st) h) : zG X md B rm n pc lv (st) h := by
  subst hq
  exact fun g ls H locs hl hw hs => lv_sipush g.1 g.2.1 d hv (kk g ls H locs hl hw hs)
theorem zi_lconst {m : Fin 2} {v : Int64} (q : Nat) (d : decode md.2.1 pc = .ok (.lconst m, 1)) (hv : Int64.ofNat (m : Nat) = v) (hq : pc + 1 = q) (kk : zG X md B rm n q lv (.long v :: st) h) : zG X md B rm n pc lv (st) h := by
  subst hq
  exact fun g ls H locs hl hw hs => lv_lconst g.1 g.2.1 d hv (kk g ls H locs hl hw hs)
theorem zi_ldc {i : Nat} {v : Int32} (q : Nat) (d : decode md.2.1 pc = .ok (.ldc i, 2)) (hc : Cond.constant md.1.cls i v ∈ zTT) (hq : pc + 2 = q) (kk : zG X md B rm n q lv (.int v :: st) h) : zG X md B rm n pc lv (st) h := by
  subst hq
  exact fun g ls H locs hl hw hs => lv_ldc g.1 g.2.1 g.2.2.2.1 (g.2.2.2.2.1 _ hc) d (kk g ls H locs hl hw hs)
theorem zi_ldc2 {i : Nat} {v : Int64} (q : Nat) (d : decode md.2.1 pc = .ok (.ldc2_w i, 3)) (hc : Cond.constantLong md.1.cls i v ∈ zTT) (hq : pc + 3 = q) (kk : zG X md B rm n q lv (.long v :: st) h) : zG X md B rm n pc lv (st) h := by
  subst hq
  exact fun g ls H locs hl hw hs => lv_ldc2 g.1 g.2.1 g.2.2.2.1 (g.2.2.2.2.1 _ hc) d (kk g ls H locs hl hw hs)
theorem zi_aconst_null  (q : Nat) (d : decode md.2.1 pc = .ok (.aconst_null, 1))  (hq : pc + 1 = q) (kk : zG X md B rm n q lv (.null :: st) h) : zG X md B rm n pc lv (st) h := by
  subst hq
  exact fun g ls H locs hl hw hs => lv_null g.1 g.2.1 d (kk g ls H locs hl hw hs)
theorem zi_iload_n {k : Fin 4} {x : Int32} (q : Nat) (d : decode md.2.1 pc = .ok (.iload_n k, 1)) (hk : zLk lv (k : Nat) = some (.int x)) (hq : pc + 1 = q) (kk : zG X md B rm n q lv (.int x :: st) h) : zG X md B rm n pc lv (st) h := by
  subst hq
  exact fun g ls H locs hl hw hs => lv_iload_n g.1 g.2.1 d rfl (hl.2.2 (_, _) (zLk_mem hk)) (kk g ls H locs hl hw hs)
theorem zi_iload {k : Nat} {x : Int32} (q : Nat) (d : decode md.2.1 pc = .ok (.iload k, 2)) (hk : zLk lv k = some (.int x)) (hq : pc + 2 = q) (kk : zG X md B rm n q lv (.int x :: st) h) : zG X md B rm n pc lv (st) h := by
  subst hq
  exact fun g ls H locs hl hw hs => lv_iload g.1 g.2.1 d (hl.2.2 (_, _) (zLk_mem hk)) (kk g ls H locs hl hw hs)
theorem zi_lload_n {k : Fin 4} {x : Int64} (q : Nat) (d : decode md.2.1 pc = .ok (.lload_n k, 1)) (hk : zLk lv (k : Nat) = some (.long x)) (hq : pc + 1 = q) (kk : zG X md B rm n q lv (.long x :: st) h) : zG X md B rm n pc lv (st) h := by
  subst hq
  exact fun g ls H locs hl hw hs => lv_lload_n g.1 g.2.1 d rfl (hl.2.2 (_, _) (zLk_mem hk)) (kk g ls H locs hl hw hs)
theorem zi_lload {k : Nat} {x : Int64} (q : Nat) (d : decode md.2.1 pc = .ok (.lload k, 2)) (hk : zLk lv k = some (.long x)) (hq : pc + 2 = q) (kk : zG X md B rm n q lv (.long x :: st) h) : zG X md B rm n pc lv (st) h := by
  subst hq
  exact fun g ls H locs hl hw hs => lv_lload g.1 g.2.1 d (hl.2.2 (_, _) (zLk_mem hk)) (kk g ls H locs hl hw hs)
theorem zi_aload_n {k : Fin 4} {x : Nat} (q : Nat) (d : decode md.2.1 pc = .ok (.aload_n k, 1)) (hk : zLk lv (k : Nat) = some (.ref x)) (hq : pc + 1 = q) (kk : zG X md B rm n q lv (.ref x :: st) h) : zG X md B rm n pc lv (st) h := by
  subst hq
  exact fun g ls H locs hl hw hs => lv_aload_n g.1 g.2.1 d rfl (hl.2.2 (_, _) (zLk_mem hk)) (kk g ls H locs hl hw hs)
theorem zi_aload {k : Nat} {x : Nat} (q : Nat) (d : decode md.2.1 pc = .ok (.aload k, 2)) (hk : zLk lv k = some (.ref x)) (hq : pc + 2 = q) (kk : zG X md B rm n q lv (.ref x :: st) h) : zG X md B rm n pc lv (st) h := by
  subst hq
  exact fun g ls H locs hl hw hs => lv_aload g.1 g.2.1 d (hl.2.2 (_, _) (zLk_mem hk)) (kk g ls H locs hl hw hs)
theorem zi_aload_nN {k : Fin 4} (q : Nat) (d : decode md.2.1 pc = .ok (.aload_n k, 1)) (hk : zLk lv (k : Nat) = some .null) (hq : pc + 1 = q) (kk : zG X md B rm n q lv (.null :: st) h) : zG X md B rm n pc lv (st) h := by
  subst hq
  exact fun g ls H locs hl hw hs => lv_aload_nN g.1 g.2.1 d rfl (hl.2.2 (_, _) (zLk_mem hk)) (kk g ls H locs hl hw hs)
theorem zi_aloadN {k : Nat} (q : Nat) (d : decode md.2.1 pc = .ok (.aload k, 2)) (hk : zLk lv k = some .null) (hq : pc + 2 = q) (kk : zG X md B rm n q lv (.null :: st) h) : zG X md B rm n pc lv (st) h := by
  subst hq
  exact fun g ls H locs hl hw hs => lv_aloadN g.1 g.2.1 d (hl.2.2 (_, _) (zLk_mem hk)) (kk g ls H locs hl hw hs)
theorem zi_dup {v : Value} (q : Nat) (d : decode md.2.1 pc = .ok (.dup, 1)) (hv : v.category = 1) (hq : pc + 1 = q) (kk : zG X md B rm n q lv (v :: v :: st) h) : zG X md B rm n pc lv (v :: st) h := by
  subst hq
  exact fun g ls H locs hl hw hs => lv_dup g.1 g.2.1 d hv (kk g ls H locs hl hw hs)
theorem zi_dup2_11 {v w : Value} (q : Nat) (d : decode md.2.1 pc = .ok (.dup2, 1)) (hv : v.category = 1) (hw1 : w.category = 1) (hq : pc + 1 = q) (kk : zG X md B rm n q lv (v :: w :: v :: w :: st) h) : zG X md B rm n pc lv (v :: w :: st) h := by
  subst hq
  exact fun g ls H locs hl hw hs => lv_dup2_11 g.1 g.2.1 d hv hw1 (kk g ls H locs hl hw hs)
theorem zi_dup2_2 {v : Value} (q : Nat) (d : decode md.2.1 pc = .ok (.dup2, 1)) (hv : v.category = 2) (hq : pc + 1 = q) (kk : zG X md B rm n q lv (v :: v :: st) h) : zG X md B rm n pc lv (v :: st) h := by
  subst hq
  exact fun g ls H locs hl hw hs => lv_dup2_2 g.1 g.2.1 d hv (kk g ls H locs hl hw hs)
theorem zi_pop {v : Value} (q : Nat) (d : decode md.2.1 pc = .ok (.pop, 1)) (hv : v.category = 1) (hq : pc + 1 = q) (kk : zG X md B rm n q lv (st) h) : zG X md B rm n pc lv (v :: st) h := by
  subst hq
  exact fun g ls H locs hl hw hs => lv_pop g.1 g.2.1 d hv (kk g ls H locs hl hw hs)
theorem zi_istore_n {k : Fin 4} {x : Int32} {lv' : List (Nat × Value)} (q : Nat) (d : decode md.2.1 pc = .ok (.istore_n k, 1)) (hn : Nat.ble ((k : Nat) + 1) md.2.2.1 = true) (hs1 : zS1 lv (k : Nat) (.int x) = lv') (hq : pc + 1 = q) (kk : zG X md B rm n q lv' st h) : zG X md B rm n pc lv (.int x :: st) h := by
  subst hq
  exact fun g ls H locs hl hw hs => lv_istore_n g.1 g.2.1 d rfl hl (by have := Nat.le_of_ble_eq_true hn; omega) hs1 (fun ls1 hl1 => kk g ls1 H locs hl1 hw hs)
theorem zi_istore {k : Nat} {x : Int32} {lv' : List (Nat × Value)} (q : Nat) (d : decode md.2.1 pc = .ok (.istore k, 2)) (hn : Nat.ble (k + 1) md.2.2.1 = true) (hs1 : zS1 lv k (.int x) = lv') (hq : pc + 2 = q) (kk : zG X md B rm n q lv' st h) : zG X md B rm n pc lv (.int x :: st) h := by
  subst hq
  exact fun g ls H locs hl hw hs => lv_istore g.1 g.2.1 d hl (by have := Nat.le_of_ble_eq_true hn; omega) hs1 (fun ls1 hl1 => kk g ls1 H locs hl1 hw hs)
theorem zi_lstore_n {k : Fin 4} {x : Int64} {lv' : List (Nat × Value)} (q : Nat) (d : decode md.2.1 pc = .ok (.lstore_n k, 1)) (hn : Nat.ble ((k : Nat) + 2) md.2.2.1 = true) (hs1 : zS2 lv (k : Nat) (.long x) = lv') (hq : pc + 1 = q) (kk : zG X md B rm n q lv' st h) : zG X md B rm n pc lv (.long x :: st) h := by
  subst hq
  exact fun g ls H locs hl hw hs => lv_lstore_n g.1 g.2.1 d rfl hl (by have := Nat.le_of_ble_eq_true hn; omega) hs1 (fun ls1 hl1 => kk g ls1 H locs hl1 hw hs)
theorem zi_lstore {k : Nat} {x : Int64} {lv' : List (Nat × Value)} (q : Nat) (d : decode md.2.1 pc = .ok (.lstore k, 2)) (hn : Nat.ble (k + 2) md.2.2.1 = true) (hs1 : zS2 lv k (.long x) = lv') (hq : pc + 2 = q) (kk : zG X md B rm n q lv' st h) : zG X md B rm n pc lv (.long x :: st) h := by
  subst hq
  exact fun g ls H locs hl hw hs => lv_lstore g.1 g.2.1 d hl (by have := Nat.le_of_ble_eq_true hn; omega) hs1 (fun ls1 hl1 => kk g ls1 H locs hl1 hw hs)
theorem zi_astore_n {k : Fin 4} {x : Nat} {lv' : List (Nat × Value)} (q : Nat) (d : decode md.2.1 pc = .ok (.astore_n k, 1)) (hn : Nat.ble ((k : Nat) + 1) md.2.2.1 = true) (hs1 : zS1 lv (k : Nat) (.ref x) = lv') (hq : pc + 1 = q) (kk : zG X md B rm n q lv' st h) : zG X md B rm n pc lv (.ref x :: st) h := by
  subst hq
  exact fun g ls H locs hl hw hs => lv_astore_n g.1 g.2.1 d rfl hl (by have := Nat.le_of_ble_eq_true hn; omega) hs1 (fun ls1 hl1 => kk g ls1 H locs hl1 hw hs)
theorem zi_astore {k : Nat} {x : Nat} {lv' : List (Nat × Value)} (q : Nat) (d : decode md.2.1 pc = .ok (.astore k, 2)) (hn : Nat.ble (k + 1) md.2.2.1 = true) (hs1 : zS1 lv k (.ref x) = lv') (hq : pc + 2 = q) (kk : zG X md B rm n q lv' st h) : zG X md B rm n pc lv (.ref x :: st) h := by
  subst hq
  exact fun g ls H locs hl hw hs => lv_astore g.1 g.2.1 d hl (by have := Nat.le_of_ble_eq_true hn; omega) hs1 (fun ls1 hl1 => kk g ls1 H locs hl1 hw hs)
theorem zi_astore_nN {k : Fin 4} {lv' : List (Nat × Value)} (q : Nat) (d : decode md.2.1 pc = .ok (.astore_n k, 1)) (hn : Nat.ble ((k : Nat) + 1) md.2.2.1 = true) (hs1 : zS1 lv (k : Nat) (.null) = lv') (hq : pc + 1 = q) (kk : zG X md B rm n q lv' st h) : zG X md B rm n pc lv (.null :: st) h := by
  subst hq
  exact fun g ls H locs hl hw hs => lv_astore_nN g.1 g.2.1 d rfl hl (by have := Nat.le_of_ble_eq_true hn; omega) hs1 (fun ls1 hl1 => kk g ls1 H locs hl1 hw hs)
theorem zi_astoreN {k : Nat} {lv' : List (Nat × Value)} (q : Nat) (d : decode md.2.1 pc = .ok (.astore k, 2)) (hn : Nat.ble (k + 1) md.2.2.1 = true) (hs1 : zS1 lv k (.null) = lv') (hq : pc + 2 = q) (kk : zG X md B rm n q lv' st h) : zG X md B rm n pc lv (.null :: st) h := by
  subst hq
  exact fun g ls H locs hl hw hs => lv_astoreN g.1 g.2.1 d hl (by have := Nat.le_of_ble_eq_true hn; omega) hs1 (fun ls1 hl1 => kk g ls1 H locs hl1 hw hs)
theorem zi_iinc {i : Nat} {m : Int} {x v : Int32} {lv' : List (Nat × Value)} (q : Nat) (d : decode md.2.1 pc = .ok (.iinc i m, 3)) (hk : zLk lv i = some (.int x)) (hv : x + Int32.ofInt m = v) (hn : Nat.ble (i + 1) md.2.2.1 = true) (hs1 : zS1 lv i (.int v) = lv') (hq : pc + 3 = q) (kk : zG X md B rm n q lv' st h) : zG X md B rm n pc lv st h := by
  subst hq
  intro g ls H locs hl hw hs
  obtain ⟨k, hk1⟩ := List.getElem?_of_mem (zLk_mem hk)
  exact lv_iinc g.1 g.2.1 d hl hk1 hv (by have := Nat.le_of_ble_eq_true hn; omega) hs1 (fun ls1 hl1 => kk g ls1 H locs hl1 hw hs)
/-- fewer locals, in another order -/
theorem zi_lv {lv' : List (Nat × Value)} (ks : List Nat) (hp : lv_pick lv ks = lv') (kk : zG X md B rm n pc lv' st h) : zG X md B rm n pc lv st h := fun g ls H locs hl hw hs => kk g ls H locs (lv_sub hl ks hp) hw hs
theorem zi_lvm {lv' : List (Nat × Value)} (hp : ∀ q ∈ lv', q ∈ lv) (kk : zG X md B rm n pc lv' st h) : zG X md B rm n pc lv st h := fun g ls H locs hl hw hs => kk g ls H locs ⟨hl.1, hl.2.1, fun q hq => hl.2.2 q (hp q hq)⟩ hw hs
theorem zi_goto {off : Int} (q : Nat) (d : decode md.2.1 pc = .ok (.goto off, 3)) (ht : (pc : Int) + off = (q : Int)) (kk : zG X md B rm n q lv st h) : zG X md B rm n pc lv st h := fun g ls H locs hl hw hs => lv_goto g.1 g.2.1 d ht (kk g ls H locs hl hw hs)
theorem zi_if_eq {x : Int32} {off : Int} (q t : Nat) (d : decode md.2.1 pc = .ok (.ifCond .eq off, 3)) (ht : (pc : Int) + off = (t : Int)) (hq : pc + 3 = q) (kt : x = 0 → zG X md B rm n t lv st h) (kf : ¬ x = 0 → zG X md B rm n q lv st h) : zG X md B rm n pc lv (.int x :: st) h := by
  subst hq
  exact fun g ls H locs hl hw hs => lv_if_eq g.1 g.2.1 d ht (fun hc => kt hc g ls H locs hl hw hs) (fun hc => kf hc g ls H locs hl hw hs)
theorem zi_icmp_eq {x y : Int32} {off : Int} (q t : Nat) (d : decode md.2.1 pc = .ok (.if_icmp .eq off, 3)) (ht : (pc : Int) + off = (t : Int)) (hq : pc + 3 = q) (kt : x = y → zG X md B rm n t lv st h) (kf : ¬ x = y → zG X md B rm n q lv st h) : zG X md B rm n pc lv (.int y :: .int x :: st) h := by
  subst hq
  exact fun g ls H locs hl hw hs => lv_icmp_eq g.1 g.2.1 d ht (fun hc => kt hc g ls H locs hl hw hs) (fun hc => kf hc g ls H locs hl hw hs)
theorem zi_if_ne {x : Int32} {off : Int} (q t : Nat) (d : decode md.2.1 pc = .ok (.ifCond .ne off, 3)) (ht : (pc : Int) + off = (t : Int)) (hq : pc + 3 = q) (kt : ¬ x = 0 → zG X md B rm n t lv st h) (kf : x = 0 → zG X md B rm n q lv st h) : zG X md B rm n pc lv (.int x :: st) h := by
  subst hq
  exact fun g ls H locs hl hw hs => lv_if_ne g.1 g.2.1 d ht (fun hc => kt hc g ls H locs hl hw hs) (fun hc => kf hc g ls H locs hl hw hs)
theorem zi_icmp_ne {x y : Int32} {off : Int} (q t : Nat) (d : decode md.2.1 pc = .ok (.if_icmp .ne off, 3)) (ht : (pc : Int) + off = (t : Int)) (hq : pc + 3 = q) (kt : ¬ x = y → zG X md B rm n t lv st h) (kf : x = y → zG X md B rm n q lv st h) : zG X md B rm n pc lv (.int y :: .int x :: st) h := by
  subst hq
  exact fun g ls H locs hl hw hs => lv_icmp_ne g.1 g.2.1 d ht (fun hc => kt hc g ls H locs hl hw hs) (fun hc => kf hc g ls H locs hl hw hs)
theorem zi_if_lt {x : Int32} {off : Int} (q t : Nat) (d : decode md.2.1 pc = .ok (.ifCond .lt off, 3)) (ht : (pc : Int) + off = (t : Int)) (hq : pc + 3 = q) (kt : x < 0 → zG X md B rm n t lv st h) (kf : ¬ x < 0 → zG X md B rm n q lv st h) : zG X md B rm n pc lv (.int x :: st) h := by
  subst hq
  exact fun g ls H locs hl hw hs => lv_if_lt g.1 g.2.1 d ht (fun hc => kt hc g ls H locs hl hw hs) (fun hc => kf hc g ls H locs hl hw hs)
theorem zi_icmp_lt {x y : Int32} {off : Int} (q t : Nat) (d : decode md.2.1 pc = .ok (.if_icmp .lt off, 3)) (ht : (pc : Int) + off = (t : Int)) (hq : pc + 3 = q) (kt : x < y → zG X md B rm n t lv st h) (kf : ¬ x < y → zG X md B rm n q lv st h) : zG X md B rm n pc lv (.int y :: .int x :: st) h := by
  subst hq
  exact fun g ls H locs hl hw hs => lv_icmp_lt g.1 g.2.1 d ht (fun hc => kt hc g ls H locs hl hw hs) (fun hc => kf hc g ls H locs hl hw hs)
theorem zi_if_ge {x : Int32} {off : Int} (q t : Nat) (d : decode md.2.1 pc = .ok (.ifCond .ge off, 3)) (ht : (pc : Int) + off = (t : Int)) (hq : pc + 3 = q) (kt : 0 ≤ x → zG X md B rm n t lv st h) (kf : ¬ 0 ≤ x → zG X md B rm n q lv st h) : zG X md B rm n pc lv (.int x :: st) h := by
  subst hq
  exact fun g ls H locs hl hw hs => lv_if_ge g.1 g.2.1 d ht (fun hc => kt hc g ls H locs hl hw hs) (fun hc => kf hc g ls H locs hl hw hs)
theorem zi_icmp_ge {x y : Int32} {off : Int} (q t : Nat) (d : decode md.2.1 pc = .ok (.if_icmp .ge off, 3)) (ht : (pc : Int) + off = (t : Int)) (hq : pc + 3 = q) (kt : y ≤ x → zG X md B rm n t lv st h) (kf : ¬ y ≤ x → zG X md B rm n q lv st h) : zG X md B rm n pc lv (.int y :: .int x :: st) h := by
  subst hq
  exact fun g ls H locs hl hw hs => lv_icmp_ge g.1 g.2.1 d ht (fun hc => kt hc g ls H locs hl hw hs) (fun hc => kf hc g ls H locs hl hw hs)
theorem zi_if_gt {x : Int32} {off : Int} (q t : Nat) (d : decode md.2.1 pc = .ok (.ifCond .gt off, 3)) (ht : (pc : Int) + off = (t : Int)) (hq : pc + 3 = q) (kt : 0 < x → zG X md B rm n t lv st h) (kf : ¬ 0 < x → zG X md B rm n q lv st h) : zG X md B rm n pc lv (.int x :: st) h := by
  subst hq
  exact fun g ls H locs hl hw hs => lv_if_gt g.1 g.2.1 d ht (fun hc => kt hc g ls H locs hl hw hs) (fun hc => kf hc g ls H locs hl hw hs)
theorem zi_icmp_gt {x y : Int32} {off : Int} (q t : Nat) (d : decode md.2.1 pc = .ok (.if_icmp .gt off, 3)) (ht : (pc : Int) + off = (t : Int)) (hq : pc + 3 = q) (kt : y < x → zG X md B rm n t lv st h) (kf : ¬ y < x → zG X md B rm n q lv st h) : zG X md B rm n pc lv (.int y :: .int x :: st) h := by
  subst hq
  exact fun g ls H locs hl hw hs => lv_icmp_gt g.1 g.2.1 d ht (fun hc => kt hc g ls H locs hl hw hs) (fun hc => kf hc g ls H locs hl hw hs)
theorem zi_if_le {x : Int32} {off : Int} (q t : Nat) (d : decode md.2.1 pc = .ok (.ifCond .le off, 3)) (ht : (pc : Int) + off = (t : Int)) (hq : pc + 3 = q) (kt : x ≤ 0 → zG X md B rm n t lv st h) (kf : ¬ x ≤ 0 → zG X md B rm n q lv st h) : zG X md B rm n pc lv (.int x :: st) h := by
  subst hq
  exact fun g ls H locs hl hw hs => lv_if_le g.1 g.2.1 d ht (fun hc => kt hc g ls H locs hl hw hs) (fun hc => kf hc g ls H locs hl hw hs)
theorem zi_icmp_le {x y : Int32} {off : Int} (q t : Nat) (d : decode md.2.1 pc = .ok (.if_icmp .le off, 3)) (ht : (pc : Int) + off = (t : Int)) (hq : pc + 3 = q) (kt : x ≤ y → zG X md B rm n t lv st h) (kf : ¬ x ≤ y → zG X md B rm n q lv st h) : zG X md B rm n pc lv (.int y :: .int x :: st) h := by
  subst hq
  exact fun g ls H locs hl hw hs => lv_icmp_le g.1 g.2.1 d ht (fun hc => kt hc g ls H locs hl hw hs) (fun hc => kf hc g ls H locs hl hw hs)
theorem zi_ifnonnull {a : Nat} {off : Int} (t : Nat) (d : decode md.2.1 pc = .ok (.ifnonnull off, 3)) (ht : (pc : Int) + off = (t : Int)) (kk : zG X md B rm n t lv st h) : zG X md B rm n pc lv (.ref a :: st) h := fun g ls H locs hl hw hs => lv_ifnonnull g.1 g.2.1 d ht (kk g ls H locs hl hw hs)
theorem zi_ifnonnullN {off : Int} (q : Nat) (d : decode md.2.1 pc = .ok (.ifnonnull off, 3)) (hq : pc + 3 = q) (kk : zG X md B rm n q lv st h) : zG X md B rm n pc lv (.null :: st) h := by
  subst hq
  exact fun g ls H locs hl hw hs => lv_ifnonnullN g.1 g.2.1 d (kk g ls H locs hl hw hs)
theorem zi_ifnull {a : Nat} {off : Int} (q : Nat) (d : decode md.2.1 pc = .ok (.ifnull off, 3)) (hq : pc + 3 = q) (kk : zG X md B rm n q lv st h) : zG X md B rm n pc lv (.ref a :: st) h := by
  subst hq
  exact fun g ls H locs hl hw hs => lv_ifnull g.1 g.2.1 d (kk g ls H locs hl hw hs)
theorem zi_ifnullN {off : Int} (t : Nat) (d : decode md.2.1 pc = .ok (.ifnull off, 3)) (ht : (pc : Int) + off = (t : Int)) (kk : zG X md B rm n t lv st h) : zG X md B rm n pc lv (.null :: st) h := fun g ls H locs hl hw hs => lv_ifnullN g.1 g.2.1 d ht (kk g ls H locs hl hw hs)
theorem zi_tableOut {dflt lo hi : Int} {offs : Array Int} {len : Nat} {x : Int32} (t : Nat) (d : decode md.2.1 pc = .ok (.tableswitch dflt lo hi offs, len)) (hc : x.toInt < lo ∨ hi < x.toInt) (ht : (pc : Int) + dflt = (t : Int)) (kk : zG X md B rm n t lv st h) : zG X md B rm n pc lv (.int x :: st) h := fun g ls H locs hl hw hs => lv_tableOut g.1 g.2.1 d hc ht (kk g ls H locs hl hw hs)
theorem zi_tableIn {dflt lo hi : Int} {offs : Array Int} {len : Nat} {x : Int32} {off : Int} (t : Nat) (d : decode md.2.1 pc = .ok (.tableswitch dflt lo hi offs, len)) (h1 : ¬ x.toInt < lo) (h2 : ¬ hi < x.toInt) (ho : offs[(x.toInt - lo).toNat]? = some off) (ht : (pc : Int) + off = (t : Int)) (kk : zG X md B rm n t lv st h) : zG X md B rm n pc lv (.int x :: st) h := fun g ls H locs hl hw hs => lv_tableIn g.1 g.2.1 d h1 h2 ho ht (kk g ls H locs hl hw hs)
/-! fields and arrays -/
theorem zi_getfield {a ci idx N : Nat} {fs : List Value} {C ref : String} {T : u_T} {v : Value} (q k : Nat) (d : decode md.2.1 pc = .ok (.getfield idx, 3)) (hc : zCl ci C T N) (hlink : Cond.fieldLink md.1.cls idx ref (T k).2.1 (T k).2.2.1 ∈ zTT) (hk : Nat.ble (k + 1) N = true) (hsame : (T k).1 = ref) (ha : h a = some (.inr (ci, fs))) (hv : fs[k]? = some v) (hq : pc + 3 = q) (kk : zG X md B rm n q lv (v :: st) h) : zG X md B rm n pc lv (.ref a :: st) h := by
  subst hq
  subst hsame
  intro g ls H locs hl hw hs
  obtain ⟨L, p, -, hP, hD, hkk, -⟩ := zWd_get hw ha
  exact va_get (D := B.1) (Ts := zTT) g.1 g.2.1 g.2.2.2.2.1 hc.2 g.2.2.2.1 g.2.2.2.2.2.1.1 hP p hkk hc.1 k (Nat.le_of_ble_eq_true hk) (g.2.2.2.2.1 _ hlink) (fun _ h9 => h9) hv d (kk g ls H locs hl hw hs)
theorem zi_putfield {a ci idx N : Nat} {fs fs' : List Value} {C ref : String} {T : u_T} {v : Value} {ty : FieldType} (q k : Nat) (d : decode md.2.1 pc = .ok (.putfield idx, 3)) (hc : zCl ci C T N) (ty0 : Nat → FieldType) (hty : ∀ k, k < N → parseFieldDescriptor (T k).2.2.1 = some (ty0 k)) (hnm : ∀ a, a < N → ∀ b, b < N → a ≠ b → (T a).2.1 ≠ (T b).2.1) (hlink : Cond.fieldLink md.1.cls idx ref (T k).2.1 (T k).2.2.1 ∈ zTT) (hk : Nat.ble (k + 1) N = true) (hsame : (T k).1 = ref) (hfin : (T k).2.2.2 = false) (ha : h a = some (.inr (ci, fs))) (htk : ty0 k = ty) (hn : narrow ty v = v) (hfit : fits ty v = true) (hlf : Nat.ble (k + 1) fs.length = true) (hset : fs.set k v = fs') (hq : pc + 3 = q) (kk : zG X md B rm n q lv st (zU h a (.inr (ci, fs')))) : zG X md B rm n pc lv (v :: .ref a :: st) h := by
  subst hq
  subst hsame
  subst hset
  subst htk
  intro g ls H locs hl hw hs
  obtain ⟨L, p, hL, hP, hD, hkk, hm⟩ := zWd_get hw ha
  exact va_put (D := B.1) (Ts := zTT) g.1 g.2.1 g.2.2.2.2.1 hc.2 ty0 hty hnm g.2.2.2.1 g.2.2.2.2.2.1.1 hP hD hs p hkk hc.1 k (Nat.le_of_ble_eq_true hk) (g.2.2.2.2.1 _ hlink) (fun _ h9 => h9) hfin (hty k (Nat.le_of_ble_eq_true hk)) hn hfit (Nat.le_of_ble_eq_true hlf) d (fun H1 locs1 hP1 hD1 hS1 => kk g ls H1 locs1 hl (zWd_set hL hm ha hD hkk hP1 hD1) hS1)
theorem zi_putfieldF {a ci idx N : Nat} {fs fs' : List Value} {C ref : String} {T : u_T} {v : Value} {ty : FieldType} {Post : Option Value → zHp → Prop} {cp : Nat × Nat} (hZ : zIsP X md B cp Post) (q k : Nat) (d : decode md.2.1 pc = .ok (.putfield idx, 3)) (hc : zCl ci C T N) (ty0 : Nat → FieldType) (hty : ∀ k, k < N → parseFieldDescriptor (T k).2.2.1 = some (ty0 k)) (hnm : ∀ a, a < N → ∀ b, b < N → a ≠ b → (T a).2.1 ≠ (T b).2.1) (hlink : Cond.fieldLink md.1.cls idx ref (T k).2.1 (T k).2.2.1 ∈ zTT) (hk : Nat.ble (k + 1) N = true) (hsame : (T k).1 = ref) (hfin : (T k).2.2.2 = true) (hname : md.1.name = "<init>") (hdecl : (T k).1 = md.1.cls) (ha : h a = some (.inr (ci, fs))) (htk : ty0 k = ty) (hn : narrow ty v = v) (hfit : fits ty v = true) (hlf : Nat.ble (k + 1) fs.length = true) (hset : fs.set k v = fs') (hq : pc + 3 = q) (kk : zG X md B rm n q lv st (zU h a (.inr (ci, fs')))) : zG X md B rm n pc lv (v :: .ref a :: st) h := by
  subst hq
  subst hsame
  subst hset
  subst htk
  intro g ls H locs hl hw hs
  obtain ⟨L, p, hL, hP, hD, hkk, hm⟩ := zWd_get hw ha
  exact va_putF (D := B.1) (Ts := zTT) g.1 g.2.1 g.2.2.2.2.1 hc.2 ty0 hty hnm g.2.2.2.1 g.2.2.2.2.2.1.1 hP hD hs p hkk hc.1 k (Nat.le_of_ble_eq_true hk) (g.2.2.2.2.1 _ hlink) (fun _ h9 => h9) hfin (hZ.2.2.2.trans hname) hdecl (hty k (Nat.le_of_ble_eq_true hk)) hn hfit (Nat.le_of_ble_eq_true hlf) d (fun H1 locs1 hP1 hD1 hS1 => kk g ls H1 locs1 hl (zWd_set hL hm ha hD hkk hP1 hD1) hS1)
theorem zi_iaload {a nn : Nat} {f : Nat → Int32} {i : Int32} (q : Nat) (d : decode md.2.1 pc = .ok (.iaload, 1)) (ha : h a = some (zI B nn f)) (hin : vp_in i nn) (hq : pc + 1 = q) (kk : zG X md B rm n q lv (.int (f i.toNatClampNeg) :: st) h) : zG X md B rm n pc lv (.int i :: .ref a :: st) h := by
  subst hq
  intro g ls H locs hl hw hs
  obtain ⟨L, p, -, hP, hD, hkk, -⟩ := zWd_get hw ha
  exact va_iald (D := B.1) g.1 g.2.1 g.2.2.2.2.2.1.1 hP p 0 hkk rfl hin d (kk g ls H locs hl hw hs)
theorem zi_baload {a nn : Nat} {f : Nat → Int32} {i : Int32} (q : Nat) (d : decode md.2.1 pc = .ok (.baload, 1)) (ha : h a = some (zZb B nn f)) (hin : vp_in i nn) (hq : pc + 1 = q) (kk : zG X md B rm n q lv (.int (f i.toNatClampNeg) :: st) h) : zG X md B rm n pc lv (.int i :: .ref a :: st) h := by
  subst hq
  intro g ls H locs hl hw hs
  obtain ⟨L, p, -, hP, hD, hkk, -⟩ := zWd_get hw ha
  exact va_zald (D := B.1) g.1 g.2.1 g.2.2.2.2.2.1.1 hP p 2 hkk rfl hin d (kk g ls H locs hl hw hs)
theorem zi_laload {a nn : Nat} {f : Nat → Int64} {i : Int32} (q : Nat) (d : decode md.2.1 pc = .ok (.laload, 1)) (ha : h a = some (zJ B nn f)) (hin : vp_in i nn) (hq : pc + 1 = q) (kk : zG X md B rm n q lv (.long (f i.toNatClampNeg) :: st) h) : zG X md B rm n pc lv (.int i :: .ref a :: st) h := by
  subst hq
  intro g ls H locs hl hw hs
  obtain ⟨L, p, -, hP, hD, hkk, -⟩ := zWd_get hw ha
  exact va_lald (D := B.1) g.1 g.2.1 g.2.2.2.2.2.1.1 hP p 1 hkk rfl hin d (kk g ls H locs hl hw hs)
theorem zi_aaloadF {a nn b : Nat} {f : Nat → Option Nat} {i : Int32} (q : Nat) (d : decode md.2.1 pc = .ok (.aaload, 1)) (ha : h a = some (zRf B nn f)) (hin : vp_in i nn) (hb : f i.toNatClampNeg = some b) (hq : pc + 1 = q) (kk : zG X md B rm n q lv (.ref b :: st) h) : zG X md B rm n pc lv (.int i :: .ref a :: st) h := by
  subst hq
  intro g ls H locs hl hw hs
  obtain ⟨L, p, -, hP, hD, hkk, -⟩ := zWd_get hw ha
  exact va_aldq (C := RX4) (D := B.1) g.1 g.2.1 g.2.2.2.2.2.1.1 hP p 3 hkk rfl hin d (by rw [hb]; exact kk g ls H locs hl hw hs)
theorem zi_aaloadT {a nn b : Nat} {f : Nat → Option Nat} {i : Int32} (q : Nat) (d : decode md.2.1 pc = .ok (.aaload, 1)) (ha : h a = some (zRt B nn f)) (hin : vp_in i nn) (hb : f i.toNatClampNeg = some b) (hq : pc + 1 = q) (kk : zG X md B rm n q lv (.ref b :: st) h) : zG X md B rm n pc lv (.int i :: .ref a :: st) h := by
  subst hq
  intro g ls H locs hl hw hs
  obtain ⟨L, p, -, hP, hD, hkk, -⟩ := zWd_get hw ha
  exact va_aldq (C := RX9) (D := B.1) g.1 g.2.1 g.2.2.2.2.2.1.1 hP p 4 hkk rfl hin d (by rw [hb]; exact kk g ls H locs hl hw hs)
theorem zi_iastore {a nn : Nat} {f : Nat → Int32} {i : Int32} {x : Int32} (q : Nat) (d : decode md.2.1 pc = .ok (.iastore, 1)) (ha : h a = some (zI B nn f)) (hin : vp_in i nn) (hq : pc + 1 = q) (kk : zG X md B rm n q lv st (zU h a (zI B nn (upd f i.toNatClampNeg x)))) : zG X md B rm n pc lv (.int x :: .int i :: .ref a :: st) h := by
  subst hq
  intro g ls H locs hl hw hs
  obtain ⟨L, p, hL, hP, hD, hkk, hm⟩ := zWd_get hw ha
  exact va_iast (D := B.1) g.1 g.2.1 g.2.2.2.2.2.1.1 hP hD hs p 0 hkk rfl hin d (fun H1 locs1 hP1 hD1 hS1 => kk g ls H1 locs1 hl (zWd_set hL hm ha hD hkk hP1 hD1) hS1)
theorem zi_bastore {a nn : Nat} {f : Nat → Int32} {i : Int32} {x : Int32} (q : Nat) (d : decode md.2.1 pc = .ok (.bastore, 1)) (ha : h a = some (zZb B nn f)) (hin : vp_in i nn) (hq : pc + 1 = q) (kk : zG X md B rm n q lv st (zU h a (zZb B nn (upd f i.toNatClampNeg (vp_nar .boolean x))))) : zG X md B rm n pc lv (.int x :: .int i :: .ref a :: st) h := by
  subst hq
  intro g ls H locs hl hw hs
  obtain ⟨L, p, hL, hP, hD, hkk, hm⟩ := zWd_get hw ha
  exact va_zast (D := B.1) g.1 g.2.1 g.2.2.2.2.2.1.1 hP hD hs p 2 hkk rfl hin d (fun H1 locs1 hP1 hD1 hS1 => kk g ls H1 locs1 hl (zWd_set hL hm ha hD hkk hP1 hD1) hS1)
theorem zi_lastore {a nn : Nat} {f : Nat → Int64} {i : Int32} {x : Int64} (q : Nat) (d : decode md.2.1 pc = .ok (.lastore, 1)) (ha : h a = some (zJ B nn f)) (hin : vp_in i nn) (hq : pc + 1 = q) (kk : zG X md B rm n q lv st (zU h a (zJ B nn (vp_updL f i.toNatClampNeg x)))) : zG X md B rm n pc lv (.long x :: .int i :: .ref a :: st) h := by
  subst hq
  intro g ls H locs hl hw hs
  obtain ⟨L, p, hL, hP, hD, hkk, hm⟩ := zWd_get hw ha
  exact va_last (D := B.1) g.1 g.2.1 g.2.2.2.2.2.1.1 hP hD hs p 1 hkk rfl hin d (fun H1 locs1 hP1 hD1 hS1 => kk g ls H1 locs1 hl (zWd_set hL hm ha hD hkk hP1 hD1) hS1)
end ZI
end
section
/-! calls, answers, new cells -/
section ZC
variable {X : zX} {md : zMD} {B : zBB} {rm : Nat × Nat × Nat} {n : Nat × Nat} {pc : Nat} {lv : List (Nat × Value)} {st : List Value} {h : zHp}
/-- what the tables say of a method that is called: by a receiver, without one, a constructor -/
def zMw (md : zMD) (k : Nat) : Prop := Cond.code md.1 md.2.1 md.2.2.1 md.2.2.2 ∈ zTT ∧ Cond.initialized md.1.cls ∈ zTT ∧ (md.1.cls ≠ "java/lang/invoke/MethodHandle" ∧ md.1.cls ≠ "java/lang/invoke/VarHandle" ∧ (parseMethodDescriptor md.1.desc).map (fun d => d.parameters.length) = some k)
def zMv (md : zMD) (k : Nat) (C : String) : Prop := zMw md k ∧ Cond.instanceMethod md.1 ∈ zTT ∧ Cond.selects C md.1 md.1 ∈ zTT ∧ Nat.ble md.2.2.1 22 = true ∧ md.1.cls = C
def zMs (md : zMD) (k : Nat) : Prop := zMw md k ∧ Cond.static md.1 ∈ zTT ∧ Nat.ble md.2.2.1 22 = true
def zMn (md : zMD) (k : Nat) : Prop := zMw md k ∧ Cond.instanceMethod md.1 ∈ zTT ∧ md.2.2.2 = none ∧ md.1.name = "<init>" ∧ Nat.ble md.2.2.1 22 = true
/-- posts: a told answer and heap; some answer of a type -/
def zPf (r : Option Value) (h1 : zHp) : Option Value → zHp → Prop := fun v h' => v = r ∧ h' = h1
def zPi (P : Int32 → zHp → Prop) : Option Value → zHp → Prop := fun v h' => ∃ x, v = some (.int x) ∧ P x h'
def zPl (P : Int64 → zHp → Prop) : Option Value → zHp → Prop := fun v h' => ∃ x, v = some (.long x) ∧ P x h'
def zPv (P : zHp → Prop) : Option Value → zHp → Prop := fun v h' => v = none ∧ P h'
theorem zk_f {q : Nat} {v : Value} {h1 : zHp} (k : zG X md B rm n q lv (v :: st) h1) : ∀ (v' : Option Value) (h' : zHp), zPf (some v) h1 v' h' → zG X md B rm n q lv (v'.toList ++ st) h' := by
  rintro _ _ ⟨rfl, rfl⟩
  exact k
theorem zk_n {q : Nat} {h1 : zHp} (k : zG X md B rm n q lv st h1) : ∀ (v' : Option Value) (h' : zHp), zPf none h1 v' h' → zG X md B rm n q lv (v'.toList ++ st) h' := by
  rintro _ _ ⟨rfl, rfl⟩
  exact k
theorem zk_i {q : Nat} {P : Int32 → zHp → Prop} (k : ∀ (x : Int32) (h' : zHp), P x h' → zG X md B rm n q lv (.int x :: st) h') : ∀ (v' : Option Value) (h' : zHp), zPi P v' h' → zG X md B rm n q lv (v'.toList ++ st) h' := by
  rintro _ _ ⟨x, rfl, hp⟩
  exact k x _ hp
theorem zk_l {q : Nat} {P : Int64 → zHp → Prop} (k : ∀ (x : Int64) (h' : zHp), P x h' → zG X md B rm n q lv (.long x :: st) h') : ∀ (v' : Option Value) (h' : zHp), zPl P v' h' → zG X md B rm n q lv (v'.toList ++ st) h' := by
  rintro _ _ ⟨x, rfl, hp⟩
  exact k x _ hp
theorem zk_v {q : Nat} {P : zHp → Prop} (k : ∀ h' : zHp, P h' → zG X md B rm n q lv st h') : ∀ (v' : Option Value) (h' : zHp), zPv P v' h' → zG X md B rm n q lv (v'.toList ++ st) h' := by
  rintro _ _ ⟨rfl, hp⟩
  exact k _ hp
theorem zGoodIn {md' : zMD} (hc : Cond.code md'.1 md'.2.1 md'.2.2.1 md'.2.2.2 ∈ zTT) : GoodIn zTT (zWm md') := by
  intro w hw
  rcases List.mem_cons.mp hw with rfl | hw
  · exact ⟨hc, good_of_word (zTT_good hc)⟩
  · exact ⟨hw, good_of_word (zTT_good hw)⟩
theorem zBlind {B : zBB} {h : zHp} {sz : Nat} {av : List Value} : FrameBlind (va_Pc av (zPr B h sz)) := fun a U g mk q => by
  obtain ⟨q0, q1, q2, q3⟩ := q
  exact ⟨q0, q1, q2, q3.blind⟩
theorem zPre {B : zBB} {h : zHp} {H : Heap} {s U : State} {A : Nat → Prop} (hw : zWd B.1 h A H) (ht : zTb B s) (hU : U.heap = H) (hW : s.WarmedH U.vm) : zPr B h H.size U := ⟨by rw [hU], by rw [hU]; exact zWd_weak hw (fun _ _ => trivial), ht.moved hW⟩
theorem zCall {md' : zMD} {mc ms : Nat} {rest st0 : List Value} {Post : Option Value → zHp → Prop} {a : Array Value} {ls : Array Slot} {H : Heap} {locs : List Loc} (g : zGood X md B rm)
    (hr : va_Run (zXp X) (zXl X) (zXe X) (zXr X) (zXs X) (zXm X) (zXa X) (zXb X) (zXf X) (zXc X) H locs n.1 n.2 mc ms (F0 (zXm X) pc ls st0) rest (zQ B (zAf h H.size) Post a) (zAf h H.size)) (hl : lv_has ls md.2.2.1 lv) (hw : zWd B.1 h (zXA X) H) (hs : va_S (zXA X) (zXs X).heap H locs)
    (kk : ∀ (v : Option Value) (h' : zHp), Post v h' → zG X md B rm (n.1 + mc, n.2 + ms) (pc + 3) lv (v.toList ++ rest) h') : W (zXp X) (zXl X) (zXe X) (zXr X) (zXs X) (zXm X) (zXa X) (zXb X) (zXf X) (zXc X) H locs n.1 n.2 (zXz X) (F0 (zXm X) pc ls st0) := by
  have hA : ∀ q, zAf h H.size q → zXA X q := fun q hq => hq.elim (fun h1 => zWd_in hw h1) (fun h1 => g.2.2.2.2.2.2.1 q (Nat.le_trans hs.1 h1))
  intro T hT X0
  obtain ⟨v, st₀, t, T', L, h0, X', hL, e1, e2, ⟨⟨v', h', hv, hp, hb⟩, hz, hk⟩, stp⟩ := hr T hT X0
  cases hv
  rw [h0] at hz hk
  obtain ⟨t2, a1, b1⟩ := kk v h' hp g ls T'.heap (locs ++ L) hl (by rw [e1]; exact zWd_weak hb hA)
    ⟨Nat.le_trans hs.1 (by rw [e1]; exact hz), fun q h1 h2 => by rw [e1, hk q (Nat.lt_of_lt_of_le h1 hs.1) (fun z => h2 (hA q z))]; exact hs.2.1 q h1 h2, fun q hq => by
      rcases List.mem_append.mp hq with h1 | h1
      · exact hs.2.2 q h1
      · exact hA _ (hL q h1)⟩ T' rfl X'
  exact ⟨t2, stp t2 a1, b1⟩
theorem zRoom {md' : zMD} {rm' : Nat × Nat × Nat} (g : zGood X md B rm) (hk : Nat.ble (rm'.1 + 1) rm.1 = true) (hm : Nat.ble md'.2.2.1 22 = true) : (zRm rm').frames + 1 ≤ (zXr X).frames ∧ 8 + (md'.2.2.1 + 11) + (zRm rm').locals ≤ (zXr X).locals := by
  have h1 := Nat.le_of_ble_eq_true hk
  have h2 := Nat.le_of_ble_eq_true hm
  have h3 := g.2.2.2.2.2.2.2.1
  have h4 := g.2.2.2.2.2.2.2.2.1
  show rm'.1 + 1 ≤ _ ∧ 8 + (md'.2.2.1 + 11) + 41 * rm'.1 ≤ _
  omega
theorem zCells {rm' : Nat × Nat × Nat} (g : zGood X md B rm) (hc : Nat.ble (n.1 + rm'.2.1) rm.2.1 = true) (hc2 : Nat.ble (n.2 + rm'.2.2) rm.2.2 = true) : n.1 + rm'.2.1 ≤ (zXr X).cells ∧ n.2 + rm'.2.2 ≤ (zXr X).slots :=
  ⟨Nat.le_trans (Nat.le_of_ble_eq_true hc) g.2.2.2.2.2.2.2.2.2.1, Nat.le_trans (Nat.le_of_ble_eq_true hc2) g.2.2.2.2.2.2.2.2.2.2⟩
/-- a call by a receiver -/
theorem zc_virtual {n' : Nat × Nat} {md' : zMD} {rm' : Nat × Nat × Nat} {b ci idx k N : Nat} {C : String} {T : u_T} {fs As st0 : List Value} {Post : Option Value → zHp → Prop} (q : Nat) (d : decode md.2.1 pc = .ok (.invokevirtual idx, 3)) (hlink : Cond.methodLink md.1.cls idx md'.1 ∈ zTT) (hv : zMv md' k C) (hci : zCl ci C T N) (hsp : zSpec md' B rm' (.ref b :: As) h Post) (hb : h b = some (.inr (ci, fs)))
    (hn : As.length = k) (hst : st0 = As.reverse ++ .ref b :: st) (hW : Nat.ble (st.map fun v => v.category).sum 8 = true) (hk : Nat.ble (rm'.1 + 1) rm.1 = true) (hc : Nat.ble (n.1 + rm'.2.1) rm.2.1 = true) (hc2 : Nat.ble (n.2 + rm'.2.2) rm.2.2 = true) (hn' : (n.1 + rm'.2.1, n.2 + rm'.2.2) = n') (hq : pc + 3 = q)
    (kk : ∀ (v : Option Value) (h' : zHp), Post v h' → zG X md B rm n' q lv (v.toList ++ st) h') : zG X md B rm n pc lv st0 h := by
  obtain ⟨hmw, hin, hsel, hm, hcl⟩ := hv
  subst hn'
  subst hq
  subst hcl
  intro g ls H locs hl hw hs
  obtain ⟨L, p, -, hP, -, hkk, -⟩ := zWd_get hw hb
  have ht := g.2.2.2.2.1
  refine zCall g (md' := md') (va_runV (C := md'.1.cls) (nL := md.2.2.1) (cc := md.2.1) (own := md.1.cls) (bytes := md'.2.1) (maxL := md'.2.2.1) (ret := md'.2.2.2) (n := k) (Ts := zTT) ⟨g.1, g.2.1, g.2.2.1, g.2.2.2.1, ht⟩ (hsp (zXl X) H.size) ?_ ⟨zBlind, va_recv g.2.2.2.2.2.1.1 hP hci.1 hkk, fun U hU hW1 => ⟨rfl, zPre hw g.2.2.2.2.2.1 hU hW1⟩⟩ rfl hn hl.1 hst (by show 2 * 0 + _ ≤ _; have := Nat.le_of_ble_eq_true hW; omega) d (zCells g hc hc2)) hl hw hs kk
  exact ⟨callB_of k ht (zGoodIn hmw.1) rfl rfl rfl (ht _ hmw.2.1) (ht _ hlink) hmw.2.2 (zRoom g hk hm), ht _ hin, ht _ hsel⟩
theorem zc_static {n' : Nat × Nat} {md' : zMD} {rm' : Nat × Nat × Nat} {idx k : Nat} {As st0 : List Value} {Post : Option Value → zHp → Prop} (q : Nat) (d : decode md.2.1 pc = .ok (.invokestatic idx, 3)) (hlink : Cond.methodLink md.1.cls idx md'.1 ∈ zTT) (hv : zMs md' k) (hsp : zSpec md' B rm' As h Post)
    (hn : As.length = k) (hst : st0 = As.reverse ++ st) (hW : Nat.ble (st.map fun v => v.category).sum 8 = true) (hk : Nat.ble (rm'.1 + 1) rm.1 = true) (hc : Nat.ble (n.1 + rm'.2.1) rm.2.1 = true) (hc2 : Nat.ble (n.2 + rm'.2.2) rm.2.2 = true) (hn' : (n.1 + rm'.2.1, n.2 + rm'.2.2) = n') (hq : pc + 3 = q)
    (kk : ∀ (v : Option Value) (h' : zHp), Post v h' → zG X md B rm n' q lv (v.toList ++ st) h') : zG X md B rm n pc lv st0 h := by
  obtain ⟨hmw, hstt, hm⟩ := hv
  subst hn'
  subst hq
  intro g ls H locs hl hw hs
  have ht := g.2.2.2.2.1
  refine zCall g (md' := md') (va_runS (nL := md.2.2.1) (cc := md.2.1) (own := md.1.cls) (bytes := md'.2.1) (maxL := md'.2.2.1) (ret := md'.2.2.2) (n := k) (Ts := zTT) ⟨g.1, g.2.1, g.2.2.1, g.2.2.2.1, ht⟩ (hsp (zXl X) H.size) ⟨callB_of k ht (zGoodIn hmw.1) rfl rfl rfl (ht _ hmw.2.1) (ht _ hlink) hmw.2.2 (zRoom g hk hm), ht _ hstt⟩ ⟨zBlind, fun U hU hW1 => ⟨rfl, zPre hw g.2.2.2.2.2.1 hU hW1⟩⟩ rfl hn hl.1 hst (by show 2 * 0 + _ ≤ _; have := Nat.le_of_ble_eq_true hW; omega) d (zCells g hc hc2)) hl hw hs kk
theorem zc_staticN {n' : Nat × Nat} {md' : zMD} {rm' : Nat × Nat × Nat} {idx k : Nat} {As st0 : List Value} {Post : Option Value → zHp → Prop} (q : Nat) (d : decode md.2.1 pc = .ok (.invokestatic idx, 3)) (hnest : (md.1.cls, idx, md'.1) ∈ zNest) (hv : zMs md' k) (hsp : zSpec md' B rm' As h Post)
    (hn : As.length = k) (hst : st0 = As.reverse ++ st) (hW : Nat.ble (st.map fun v => v.category).sum 8 = true) (hk : Nat.ble (rm'.1 + 1) rm.1 = true) (hc : Nat.ble (n.1 + rm'.2.1) rm.2.1 = true) (hc2 : Nat.ble (n.2 + rm'.2.2) rm.2.2 = true) (hn' : (n.1 + rm'.2.1, n.2 + rm'.2.2) = n') (hq : pc + 3 = q)
    (kk : ∀ (v : Option Value) (h' : zHp), Post v h' → zG X md B rm n' q lv (v.toList ++ st) h') : zG X md B rm n pc lv st0 h := by
  obtain ⟨hmw, hstt, hm⟩ := hv
  subst hn'
  subst hq
  intro g ls H locs hl hw hs
  have ht := g.2.2.2.2.1
  refine zCall g (md' := md') (va_runSN (nL := md.2.2.1) (cc := md.2.1) (own := md.1.cls) (host := "WholeTurns") (bytes := md'.2.1) (maxL := md'.2.2.1) (ret := md'.2.2.2) (n := k) (Ts := zTT) ⟨g.1, g.2.1, g.2.2.1, g.2.2.2.1, ht⟩ (hsp (zXl X) H.size) ⟨va_cnB k ht (zGoodIn hmw.1) rfl rfl rfl (g.2.2.2.2.2.1.2.1 _ hnest) (ht _ hmw.2.1) hmw.2.2 (zRoom g hk hm), ht _ hstt, trivial⟩ ⟨zBlind, fun U hU hW1 => ⟨rfl, zPre hw g.2.2.2.2.2.1 hU hW1⟩⟩ rfl hn hl.1 hst (by show 2 * 0 + _ ≤ _; have := Nat.le_of_ble_eq_true hW; omega) d (zCells g hc hc2)) hl hw hs kk
theorem zc_special {n' : Nat × Nat} {md' : zMD} {rm' : Nat × Nat × Nat} {b idx k : Nat} {As st0 : List Value} {Post : Option Value → zHp → Prop} (q : Nat) (d : decode md.2.1 pc = .ok (.invokespecial idx, 3)) (hlink : Cond.methodLink md.1.cls idx md'.1 ∈ zTT) (hv : zMn md' k) (hsp : zSpec md' B rm' (.ref b :: As) h Post)
    (hn : As.length = k) (hst : st0 = As.reverse ++ .ref b :: st) (hW : Nat.ble (st.map fun v => v.category).sum 8 = true) (hk : Nat.ble (rm'.1 + 1) rm.1 = true) (hc : Nat.ble (n.1 + rm'.2.1) rm.2.1 = true) (hc2 : Nat.ble (n.2 + rm'.2.2) rm.2.2 = true) (hn' : (n.1 + rm'.2.1, n.2 + rm'.2.2) = n') (hq : pc + 3 = q)
    (kk : ∀ (v : Option Value) (h' : zHp), Post v h' → zG X md B rm n' q lv (v.toList ++ st) h') : zG X md B rm n pc lv st0 h := by
  obtain ⟨hmw, hin, hret, hname, hm⟩ := hv
  subst hn'
  subst hq
  intro g ls H locs hl hw hs
  have ht := g.2.2.2.2.1
  have hc0 := hmw.1
  rw [hret] at hc0
  refine zCall g (md' := md') (va_runI (nL := md.2.2.1) (cc := md.2.1) (own := md.1.cls) (bytes := md'.2.1) (maxL := md'.2.2.1) (n := k) (Ts := zTT) ⟨g.1, g.2.1, g.2.2.1, g.2.2.2.1, ht⟩ (hsp (zXl X) H.size) ⟨callB_of (ws' := zTT) k ht (zGoodIn hmw.1) (by unfold zWm; rw [hret]) rfl rfl (ht _ hmw.2.1) (ht _ hlink) hmw.2.2 (zRoom g hk hm), hname, ht _ hin⟩ ⟨zBlind, fun U hU hW1 => ⟨rfl, zPre hw g.2.2.2.2.2.1 hU hW1⟩⟩ rfl hn hl.1 hst (by show 2 * 0 + _ ≤ _; have := Nat.le_of_ble_eq_true hW; omega) d (zCells g hc hc2)) hl hw hs kk
theorem zc_specialN {n' : Nat × Nat} {md' : zMD} {rm' : Nat × Nat × Nat} {b idx k : Nat} {As st0 : List Value} {Post : Option Value → zHp → Prop} (q : Nat) (d : decode md.2.1 pc = .ok (.invokespecial idx, 3)) (hnest : (md.1.cls, idx, md'.1) ∈ zNest) (hv : zMn md' k) (hsp : zSpec md' B rm' (.ref b :: As) h Post)
    (hn : As.length = k) (hst : st0 = As.reverse ++ .ref b :: st) (hW : Nat.ble (st.map fun v => v.category).sum 8 = true) (hk : Nat.ble (rm'.1 + 1) rm.1 = true) (hc : Nat.ble (n.1 + rm'.2.1) rm.2.1 = true) (hc2 : Nat.ble (n.2 + rm'.2.2) rm.2.2 = true) (hn' : (n.1 + rm'.2.1, n.2 + rm'.2.2) = n') (hq : pc + 3 = q)
    (kk : ∀ (v : Option Value) (h' : zHp), Post v h' → zG X md B rm n' q lv (v.toList ++ st) h') : zG X md B rm n pc lv st0 h := by
  obtain ⟨hmw, hin, hret, hname, hm⟩ := hv
  subst hn'
  subst hq
  intro g ls H locs hl hw hs
  have ht := g.2.2.2.2.1
  refine zCall g (md' := md') (va_runIN (nL := md.2.2.1) (cc := md.2.1) (own := md.1.cls) (host := "WholeTurns") (bytes := md'.2.1) (maxL := md'.2.2.1) (n := k) (Ts := zTT) ⟨g.1, g.2.1, g.2.2.1, g.2.2.2.1, ht⟩ (hsp (zXl X) H.size) ⟨va_cnB (ws' := zTT) k ht (zGoodIn hmw.1) (by unfold zWm; rw [hret]) rfl rfl (g.2.2.2.2.2.1.2.1 _ hnest) (ht _ hmw.2.1) hmw.2.2 (zRoom g hk hm), hname, ht _ hin⟩ ⟨zBlind, fun U hU hW1 => ⟨rfl, zPre hw g.2.2.2.2.2.1 hU hW1⟩⟩ rfl hn hl.1 hst (by show 2 * 0 + _ ≤ _; have := Nat.le_of_ble_eq_true hW; omega) d (zCells g hc hc2)) hl hw hs kk
/-- Object's constructor -/
theorem zc_obj {a idx : Nat} (q : Nat) (d : decode md.2.1 pc = .ok (.invokespecial idx, 3)) (hlink : Cond.methodLink md.1.cls idx objectInit ∈ zTT) (hin : Cond.instanceMethod objectInit ∈ zTT) (hcode : Cond.code objectInit ⟨#[0xb1]⟩ 1 none ∈ zTT) (hst : st = []) (hk : Nat.ble 1 rm.1 = true) (hq : pc + 3 = q) (kk : zG X md B rm n q lv st h) : zG X md B rm n pc lv (.ref a :: st) h := by
  subst hq
  subst hst
  intro g ls H locs hl hw hs
  have ht := g.2.2.2.2.1
  have h1 := Nat.le_of_ble_eq_true hk
  have h3 := g.2.2.2.2.2.2.2.1
  have h4 := g.2.2.2.2.2.2.2.2.1
  refine W.objInit g.1 g.2.1 g.2.2.2.1 (ht _ hlink) (ht _ hin) (ht _ hcode) rfl (by rw [g.2.2.1]; exact hl.1) rfl d (by omega) (by show 2 * 0 + 0 + 12 ≤ _; omega) ?_
  exact W.eq (g2 := F0 (zXm X) (pc + 3) ls []) rfl (kk g ls H locs hl hw hs)
/-! the answers -/
variable {Post : Option Value → zHp → Prop}
theorem zr_int {x : Int32} {ty : FieldType} (hZ : zIsP X md B n Post) (d : decode md.2.1 pc = .ok (.ireturn, 1)) (hr : md.2.2.2 = some ty) (hn : narrow ty (.int x) = .int x) (hp : Post (some (.int x)) h) : zG X md B rm n pc lv [.int x] h := by
  intro g ls H locs hl hw hs
  rw [hZ.1]
  exact W.zret (ty := ty) g.1 g.2.1 (hZ.2.1.trans hr) hn (fun t ht hW => ⟨⟨_, h, rfl, hp, by rw [ht]; exact hw⟩, hs.F ht⟩) hs.2.2 d hZ.2.2.1
theorem zr_long {x : Int64} (hZ : zIsP X md B n Post) (d : decode md.2.1 pc = .ok (.lreturn, 1)) (hr : md.2.2.2 = some .long) (hp : Post (some (.long x)) h) : zG X md B rm n pc lv [.long x] h := by
  intro g ls H locs hl hw hs
  rw [hZ.1]
  exact W.lret g.1 g.2.1 (hZ.2.1.trans hr) (fun t ht hW => ⟨⟨_, h, rfl, hp, by rw [ht]; exact hw⟩, hs.F ht⟩) hs.2.2 d hZ.2.2.1
theorem zr_void (hZ : zIsP X md B n Post) (d : decode md.2.1 pc = .ok (.return_, 1)) (hr : md.2.2.2 = none) (hp : Post none h) : zG X md B rm n pc lv [] h := by
  intro g ls H locs hl hw hs
  rw [hZ.1]
  exact W.vret g.1 g.2.1 (hZ.2.1.trans hr) (fun t ht hW => ⟨⟨_, h, rfl, hp, by rw [ht]; exact hw⟩, hs.F ht⟩) hs.2.2 d hZ.2.2.1
theorem zr_ref {x : Nat} {cn : String} (hZ : zIsP X md B n Post) (d : decode md.2.1 pc = .ok (.areturn, 1)) (hr : md.2.2.2 = some (.object cn)) (hp : Post (some (.ref x)) h) : zG X md B rm n pc lv [.ref x] h := by
  intro g ls H locs hl hw hs
  rw [hZ.1]
  exact W.aret (rt := .object cn) g.1 g.2.1 (hZ.2.1.trans hr) (Or.inl ⟨_, rfl⟩) (Or.inr ⟨_, rfl⟩) (fun t ht hW => ⟨⟨_, h, rfl, hp, by rw [ht]; exact hw⟩, hs.F ht⟩) hs.2.2 d hZ.2.2.1
theorem zr_null {cn : String} (hZ : zIsP X md B n Post) (d : decode md.2.1 pc = .ok (.areturn, 1)) (hr : md.2.2.2 = some (.object cn)) (hp : Post (some .null) h) : zG X md B rm n pc lv [.null] h := by
  intro g ls H locs hl hw hs
  rw [hZ.1]
  exact W.aret (rt := .object cn) g.1 g.2.1 (hZ.2.1.trans hr) (Or.inl ⟨_, rfl⟩) (Or.inl rfl) (fun t ht hW => ⟨⟨_, h, rfl, hp, by rw [ht]; exact hw⟩, hs.F ht⟩) hs.2.2 d hZ.2.2.1
/-! new cells -/
theorem zn_new {n' : Nat × Nat} {ci idx N : Nat} {C : String} {T : u_T} {fs : List Value} (q : Nat) (d : decode md.2.1 pc = .ok (.new idx, 3)) (hc : zCl ci C T N) (ty : Nat → FieldType) (hty : ∀ k, k < N → parseFieldDescriptor (T k).2.2.1 = some (ty k)) (hcl : Cond.classLink md.1.cls idx C ∈ zTT) (hinst : Cond.instantiable C N ∈ zTT) (hini : Cond.initialized C ∈ zTT) (hfs : ∀ j, j < N → defaultValue (ty j) = vp_V fs j) (hn1 : Nat.ble (n.1 + 1) rm.2.1 = true) (hn2 : Nat.ble (n.2 + N) rm.2.2 = true) (hn' : (n.1 + 1, n.2 + N) = n') (hq : pc + 3 = q)
    (kk : ∀ a : Nat, h a = none → zG X md B rm n' q lv (.ref a :: st) (zU h a (.inr (ci, fs)))) : zG X md B rm n pc lv st h := by
  subst hq
  subst hn'
  intro g ls H locs hl hw hs
  have ht := g.2.2.2.2.1
  obtain ⟨L, hL, hP, hD⟩ := hw
  exact va_new (D := B.1) (Ts := zTT) (fs := fs) g.1 g.2.1 ht hc.2 ty hty g.2.2.2.1 (ht _ hcl) (ht _ hinst) (ht _ hini) g.2.2.2.2.2.1.1 hP hD hs g.2.2.2.2.2.2.1 hc.1 hfs (Nat.le_trans (Nat.le_of_ble_eq_true hn1) g.2.2.2.2.2.2.2.2.2.1) (Nat.le_trans (Nat.le_of_ble_eq_true hn2) g.2.2.2.2.2.2.2.2.2.2) d (fun a H1 hP1 hD1 hS1 => by
    obtain ⟨h1, h2⟩ := zWd_new hL hP1 hD1
    exact kk a h1 g ls H1 locs hl h2 hS1)
theorem zn_arr {n' : Nat × Nat} {at_ : ArrayType} {ty : FieldType} {m : Int32} {N t0 : Nat} {mk : ClassId → vp_A → va_E} {a0 : vp_A} {cA : ClassId} (q : Nat) (d : decode md.2.1 pc = .ok (.newarray at_, 2)) (harr : Cond.arrayClass ty ∈ zTT) (hty : newarray.typeOf at_ = ty) (htys : (zTys B)[t0]? = some (cA, ty)) (hobj : ∀ C, ty ≠ .object C) (ha : ∀ c : ClassId, vp_cell c a0 = arrV c N (fun _ => defaultValue ty)) (hm : ¬ m < 0) (hN : m.toNatClampNeg = N) (hby : N * componentBytes ty ≤ 536870912) (hn1 : Nat.ble (n.1 + 1) rm.2.1 = true) (hn2 : Nat.ble (n.2 + N) rm.2.2 = true) (hn' : (n.1 + 1, n.2 + N) = n') (hq : pc + 2 = q)
    (kk : ∀ a : Nat, h a = none → zG X md B rm n' q lv (.ref a :: st) (zU h a (.inl (cA, a0)))) : zG X md B rm n pc lv (.int m :: st) h := by
  subst hq
  subst hn'
  subst hty
  intro g ls H locs hl hw hs
  have ht := g.2.2.2.2.1
  obtain ⟨L, hL, hP, hD⟩ := hw
  refine va_newa (D := B.1) (atype := at_) (ty := newarray.typeOf at_) g.1 g.2.1 (ht _ harr) rfl g.2.2.2.2.2.1.1 hP hD hs g.2.2.2.2.2.2.1 ha hm hN hby (Nat.le_trans (Nat.le_of_ble_eq_true hn1) g.2.2.2.2.2.2.2.2.2.1) (Nat.le_trans (Nat.le_of_ble_eq_true hn2) g.2.2.2.2.2.2.2.2.2.2) d (fun a c H1 hK1 hP1 hD1 hS1 => ?_)
  have e1 := (hK1.2 (zTys B).length (c, newarray.typeOf at_) (by simp)).2
  have e2 := (g.2.2.2.2.2.1.1.2 t0 _ htys).2
  have e3 : c = cA := by
    cases at_ <;> exact Option.some.inj (e1.symm.trans e2)
  subst e3
  obtain ⟨h1, h2⟩ := zWd_new hL hP1 hD1
  exact kk a h1 g ls H1 locs hl h2 hS1
theorem zn_arrQ {n' : Nat × Nat} {C : String} {idx : Nat} {m : Int32} {N t0 : Nat} {cA : ClassId} (q : Nat) (d : decode md.2.1 pc = .ok (.anewarray idx, 3)) (hcl : Cond.classLink md.1.cls idx C ∈ zTT) (hAO : C = RX4 ∨ C = RX9) (htys : (zTys B)[t0]? = some (cA, .object C)) (hm : ¬ m < 0) (hN : m.toNatClampNeg = N) (hby : N * 4 ≤ 536870912) (hn1 : Nat.ble (n.1 + 1) rm.2.1 = true) (hn2 : Nat.ble (n.2 + N) rm.2.2 = true) (hn' : (n.1 + 1, n.2 + N) = n') (hq : pc + 3 = q)
    (kk : ∀ a : Nat, h a = none → zG X md B rm n' q lv (.ref a :: st) (zU h a (.inl (cA, N, .inr (.inr (.inr (.inr (fun _ => none)))))))) : zG X md B rm n pc lv (.int m :: st) h := by
  subst hq
  subst hn'
  intro g ls H locs hl hw hs
  have ht := g.2.2.2.2.1
  have hao : va_AO C (zXs X) := by
    rcases hAO with rfl | rfl
    · exact g.2.2.2.2.2.1.2.2.1
    · exact g.2.2.2.2.2.1.2.2.2
  obtain ⟨L, hL, hP, hD⟩ := hw
  refine va_newq (D := B.1) g.1 g.2.1 g.2.2.2.1 (ht _ hcl) hao g.2.2.2.2.2.1.1 hP hD hs g.2.2.2.2.2.2.1 hm hN hby (Nat.le_trans (Nat.le_of_ble_eq_true hn1) g.2.2.2.2.2.2.2.2.2.1) (Nat.le_trans (Nat.le_of_ble_eq_true hn2) g.2.2.2.2.2.2.2.2.2.2) d (fun a c H1 hK1 hP1 hD1 hS1 => ?_)
  have e1 := (hK1.2 (zTys B).length (c, .object C) (by simp)).2
  have e2 := (g.2.2.2.2.2.1.1.2 t0 _ htys).2
  obtain ⟨_, _, _, _, _, e1⟩ := e1
  obtain ⟨_, _, _, _, _, e2⟩ := e2
  have e3 : c = cA := Option.some.inj (e1.symm.trans e2)
  subst e3
  obtain ⟨h1, h2⟩ := zWd_new hL hP1 hD1
  exact kk a h1 g ls H1 locs hl h2 hS1
theorem zn_aastore {a b nn : Nat} {f : Nat → Option Nat} {ci N t0 : Nat} {C : String} {T : u_T} {cA : ClassId} {fs : List Value} {i : Int32} (q : Nat) (d : decode md.2.1 pc = .ok (.aastore, 1)) (ha : h a = some (.inl (cA, nn, .inr (.inr (.inr (.inr f)))))) (htys : (zTys B)[t0]? = some (cA, .object C)) (hc : zCl ci C T N) (hb : h b = some (.inr (ci, fs))) (hin : vp_in i nn) (hq : pc + 1 = q) (kk : zG X md B rm n q lv st (zU h a (.inl (cA, nn, .inr (.inr (.inr (.inr (va_up f i.toNatClampNeg (some b))))))))) : zG X md B rm n pc lv (.ref b :: .int i :: .ref a :: st) h := by
  subst hq
  intro g ls H locs hl hw hs
  obtain ⟨L, p, hL, hP, hD, hkk, hm⟩ := zWd_get hw ha
  have hmb : b ∈ L := (hL b).mpr (by rw [hb]; simp)
  obtain ⟨p2, hk2⟩ := va_pl_get (X := []) (f := zF h) hmb
  rw [zF_at hb] at hk2
  exact va_astq (D := B.1) (r := (C, T, N)) g.1 g.2.1 g.2.2.2.2.2.1.1 hP hD hs p t0 p2 ci hkk htys hk2 hc.1 hin d (fun H1 locs1 hP1 hD1 hS1 => kk g ls H1 locs1 hl (zWd_set hL hm ha hD hkk hP1 hD1) hS1)
theorem zw_widen {m : Nat × Nat} (h1 : Nat.ble n.1 m.1 = true) (h2 : Nat.ble n.2 m.2 = true) (kk : zG X md B rm m pc lv st h) : zG X md B rm n pc lv st h := fun g ls H locs hl hw hs => W.widen (Nat.le_of_ble_eq_true h1) (Nat.le_of_ble_eq_true h2) (kk g ls H locs hl hw hs)
end ZC
end
