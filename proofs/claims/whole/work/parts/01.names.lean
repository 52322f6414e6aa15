-- the tables' words (the skeleton's part A), names and field tables (printed by program)
/-- a private method of a class that the tables say can be made, by its rows of tables_1 -/
def lw_okq (q : MethodName × Nat) : Prop := (q.1.cls ≠ "java/lang/invoke/MethodHandle" ∧ q.1.cls ≠ "java/lang/invoke/VarHandle") ∧ Cond.instantiable q.1.cls q.2 ∈ tables_1 ∧ Cond.privateMethod q.1 ∈ tables_1 ∧ Cond.instanceMethod q.1 ∈ tables_1
theorem lw_p0 : lw_okq (⟨"BondedWires", "layText", "()Z"⟩, 8) := ⟨⟨by decide +kernel, by decide +kernel⟩, List.mem_of_getElem? (i := 19) (by decide +kernel), List.mem_of_getElem? (i := 274) (by decide +kernel), List.mem_of_getElem? (i := 275) (by decide +kernel)⟩
theorem lw_p1 : lw_okq (⟨"BondedWires$Draft", "readItem", "(LBondedWires$Text;)Z"⟩, 6) := ⟨⟨by decide +kernel, by decide +kernel⟩, List.mem_of_getElem? (i := 43) (by decide +kernel), List.mem_of_getElem? (i := 287) (by decide +kernel), List.mem_of_getElem? (i := 288) (by decide +kernel)⟩
theorem lw_p2 : lw_okq (⟨"BondedWires$Draft", "readSpan", "(LBondedWires$Text;)Z"⟩, 6) := ⟨⟨by decide +kernel, by decide +kernel⟩, List.mem_of_getElem? (i := 43) (by decide +kernel), List.mem_of_getElem? (i := 295) (by decide +kernel), List.mem_of_getElem? (i := 296) (by decide +kernel)⟩
theorem lw_p3 : lw_okq (⟨"BondedWires$Draft", "readNumber", "(LBondedWires$Text;C)I"⟩, 6) := ⟨⟨by decide +kernel, by decide +kernel⟩, List.mem_of_getElem? (i := 43) (by decide +kernel), List.mem_of_getElem? (i := 299) (by decide +kernel), List.mem_of_getElem? (i := 300) (by decide +kernel)⟩
theorem lw_p4 : lw_okq (⟨"BondedWires$Draft", "readLimit", "(LBondedWires$Text;I)Z"⟩, 6) := ⟨⟨by decide +kernel, by decide +kernel⟩, List.mem_of_getElem? (i := 43) (by decide +kernel), List.mem_of_getElem? (i := 306) (by decide +kernel), List.mem_of_getElem? (i := 307) (by decide +kernel)⟩
theorem lw_p5 : lw_okq (⟨"BondedWires$Draft", "readWire", "(LBondedWires$Text;)Z"⟩, 6) := ⟨⟨by decide +kernel, by decide +kernel⟩, List.mem_of_getElem? (i := 43) (by decide +kernel), List.mem_of_getElem? (i := 312) (by decide +kernel), List.mem_of_getElem? (i := 313) (by decide +kernel)⟩
theorem lw_p6 : lw_okq (⟨"BondedWires$View", "fillPlaces", "(I)V"⟩, 6) := ⟨⟨by decide +kernel, by decide +kernel⟩, List.mem_of_getElem? (i := 119) (by decide +kernel), List.mem_of_getElem? (i := 337) (by decide +kernel), List.mem_of_getElem? (i := 338) (by decide +kernel)⟩
theorem lw_p7 : lw_okq (⟨"BondedWires$View", "heightBetween", "(IIII)I"⟩, 6) := ⟨⟨by decide +kernel, by decide +kernel⟩, List.mem_of_getElem? (i := 119) (by decide +kernel), List.mem_of_getElem? (i := 353) (by decide +kernel), List.mem_of_getElem? (i := 354) (by decide +kernel)⟩
theorem lw_p8 : lw_okq (⟨"BondedWires", "isWire", "(I)Z"⟩, 8) := ⟨⟨by decide +kernel, by decide +kernel⟩, List.mem_of_getElem? (i := 19) (by decide +kernel), List.mem_of_getElem? (i := 410) (by decide +kernel), List.mem_of_getElem? (i := 411) (by decide +kernel)⟩
theorem lw_p9 : lw_okq (⟨"BondedWires", "isRow", "(I)Z"⟩, 8) := ⟨⟨by decide +kernel, by decide +kernel⟩, List.mem_of_getElem? (i := 19) (by decide +kernel), List.mem_of_getElem? (i := 491) (by decide +kernel), List.mem_of_getElem? (i := 492) (by decide +kernel)⟩
theorem lw_p10 : lw_okq (⟨"BondedWires$View", "nearAt", "(III)Z"⟩, 6) := ⟨⟨by decide +kernel, by decide +kernel⟩, List.mem_of_getElem? (i := 119) (by decide +kernel), List.mem_of_getElem? (i := 511) (by decide +kernel), List.mem_of_getElem? (i := 512) (by decide +kernel)⟩
theorem lw_p11 : lw_okq (⟨"BondedWires$View", "findBlockers", "()V"⟩, 6) := ⟨⟨by decide +kernel, by decide +kernel⟩, List.mem_of_getElem? (i := 119) (by decide +kernel), List.mem_of_getElem? (i := 535) (by decide +kernel), List.mem_of_getElem? (i := 536) (by decide +kernel)⟩
theorem lw_p12 : lw_okq (⟨"BondedWires$View", "isOverEnd", "(I[III)Z"⟩, 6) := ⟨⟨by decide +kernel, by decide +kernel⟩, List.mem_of_getElem? (i := 119) (by decide +kernel), List.mem_of_getElem? (i := 543) (by decide +kernel), List.mem_of_getElem? (i := 544) (by decide +kernel)⟩
theorem lw_p13 : lw_okq (⟨"BondedWires", "canBeBonded", "(I)Z"⟩, 8) := ⟨⟨by decide +kernel, by decide +kernel⟩, List.mem_of_getElem? (i := 19) (by decide +kernel), List.mem_of_getElem? (i := 551) (by decide +kernel), List.mem_of_getElem? (i := 552) (by decide +kernel)⟩
theorem lw_p14 : lw_okq (⟨"BondedWires$Sequence", "lowestFree", "(I[I)I"⟩, 4) := ⟨⟨by decide +kernel, by decide +kernel⟩, List.mem_of_getElem? (i := 145) (by decide +kernel), List.mem_of_getElem? (i := 586) (by decide +kernel), List.mem_of_getElem? (i := 587) (by decide +kernel)⟩
theorem lw_p15 : lw_okq (⟨"BondedWires$Sequence", "waysOf", "(I[I)I"⟩, 4) := ⟨⟨by decide +kernel, by decide +kernel⟩, List.mem_of_getElem? (i := 145) (by decide +kernel), List.mem_of_getElem? (i := 602) (by decide +kernel), List.mem_of_getElem? (i := 603) (by decide +kernel)⟩
def lw_privs_1 : List (MethodName × Nat) := [(⟨"BondedWires", "layText", "()Z"⟩, 8), (⟨"BondedWires$Draft", "readItem", "(LBondedWires$Text;)Z"⟩, 6), (⟨"BondedWires$Draft", "readSpan", "(LBondedWires$Text;)Z"⟩, 6), (⟨"BondedWires$Draft", "readNumber", "(LBondedWires$Text;C)I"⟩, 6), (⟨"BondedWires$Draft", "readLimit", "(LBondedWires$Text;I)Z"⟩, 6), (⟨"BondedWires$Draft", "readWire", "(LBondedWires$Text;)Z"⟩, 6), (⟨"BondedWires$View", "fillPlaces", "(I)V"⟩, 6), (⟨"BondedWires$View", "heightBetween", "(IIII)I"⟩, 6), (⟨"BondedWires", "isWire", "(I)Z"⟩, 8), (⟨"BondedWires", "isRow", "(I)Z"⟩, 8), (⟨"BondedWires$View", "nearAt", "(III)Z"⟩, 6), (⟨"BondedWires$View", "findBlockers", "()V"⟩, 6), (⟨"BondedWires$View", "isOverEnd", "(I[III)Z"⟩, 6), (⟨"BondedWires", "canBeBonded", "(I)Z"⟩, 8), (⟨"BondedWires$Sequence", "lowestFree", "(I[I)I"⟩, 4), (⟨"BondedWires$Sequence", "waysOf", "(I[I)I"⟩, 4)]
theorem lw_r1 : ∀ q ∈ lw_privs_1, lw_okq q := List.forall_mem_cons.mpr ⟨lw_p0, List.forall_mem_cons.mpr ⟨lw_p1, List.forall_mem_cons.mpr ⟨lw_p2, List.forall_mem_cons.mpr ⟨lw_p3, List.forall_mem_cons.mpr ⟨lw_p4, List.forall_mem_cons.mpr ⟨lw_p5, List.forall_mem_cons.mpr ⟨lw_p6, List.forall_mem_cons.mpr ⟨lw_p7, List.forall_mem_cons.mpr ⟨lw_p8, List.forall_mem_cons.mpr ⟨lw_p9, List.forall_mem_cons.mpr ⟨lw_p10, List.forall_mem_cons.mpr ⟨lw_p11, List.forall_mem_cons.mpr ⟨lw_p12, List.forall_mem_cons.mpr ⟨lw_p13, List.forall_mem_cons.mpr ⟨lw_p14, List.forall_mem_cons.mpr ⟨lw_p15, fun _ h => absurd h List.not_mem_nil⟩⟩⟩⟩⟩⟩⟩⟩⟩⟩⟩⟩⟩⟩⟩⟩
theorem lw_p16 : lw_okq (⟨"BondedWires$LoopSearch", "findCloseRows", "(I)V"⟩, 7) := ⟨⟨by decide +kernel, by decide +kernel⟩, List.mem_of_getElem? (i := 164) (by decide +kernel), List.mem_of_getElem? (i := 618) (by decide +kernel), List.mem_of_getElem? (i := 619) (by decide +kernel)⟩
theorem lw_p17 : lw_okq (⟨"BondedWires$LoopSearch", "mends", "(III)Z"⟩, 7) := ⟨⟨by decide +kernel, by decide +kernel⟩, List.mem_of_getElem? (i := 164) (by decide +kernel), List.mem_of_getElem? (i := 628) (by decide +kernel), List.mem_of_getElem? (i := 629) (by decide +kernel)⟩
theorem lw_p18 : lw_okq (⟨"BondedWires$LoopSearch", "isNear", "(I)Z"⟩, 7) := ⟨⟨by decide +kernel, by decide +kernel⟩, List.mem_of_getElem? (i := 164) (by decide +kernel), List.mem_of_getElem? (i := 633) (by decide +kernel), List.mem_of_getElem? (i := 634) (by decide +kernel)⟩
theorem lw_p19 : lw_okq (⟨"BondedWires$LoopSearch", "isMutual", "(II)Z"⟩, 7) := ⟨⟨by decide +kernel, by decide +kernel⟩, List.mem_of_getElem? (i := 164) (by decide +kernel), List.mem_of_getElem? (i := 640) (by decide +kernel), List.mem_of_getElem? (i := 641) (by decide +kernel)⟩
theorem lw_p20 : lw_okq (⟨"BondedWires$Sights", "isExplainedBy", "(I)Z"⟩, 6) := ⟨⟨by decide +kernel, by decide +kernel⟩, List.mem_of_getElem? (i := 195) (by decide +kernel), List.mem_of_getElem? (i := 686) (by decide +kernel), List.mem_of_getElem? (i := 687) (by decide +kernel)⟩
theorem lw_p21 : lw_okq (⟨"BondedWiresModel", "reads", "()I"⟩, 16) := ⟨⟨by decide +kernel, by decide +kernel⟩, List.mem_of_getElem? (i := 721) (by decide +kernel), List.mem_of_getElem? (i := 788) (by decide +kernel), List.mem_of_getElem? (i := 789) (by decide +kernel)⟩
theorem lw_p22 : lw_okq (⟨"BondedWiresModel", "readsItem", "(II)Z"⟩, 16) := ⟨⟨by decide +kernel, by decide +kernel⟩, List.mem_of_getElem? (i := 721) (by decide +kernel), List.mem_of_getElem? (i := 792) (by decide +kernel), List.mem_of_getElem? (i := 793) (by decide +kernel)⟩
theorem lw_p23 : lw_okq (⟨"BondedWiresModel", "number", "(III)Z"⟩, 16) := ⟨⟨by decide +kernel, by decide +kernel⟩, List.mem_of_getElem? (i := 721) (by decide +kernel), List.mem_of_getElem? (i := 796) (by decide +kernel), List.mem_of_getElem? (i := 797) (by decide +kernel)⟩
theorem lw_p24 : lw_okq (⟨"BondedWiresModel", "letterAt", "(I)I"⟩, 16) := ⟨⟨by decide +kernel, by decide +kernel⟩, List.mem_of_getElem? (i := 721) (by decide +kernel), List.mem_of_getElem? (i := 800) (by decide +kernel), List.mem_of_getElem? (i := 801) (by decide +kernel)⟩
theorem lw_p25 : lw_okq (⟨"BondedWiresModel", "readsWire", "(I)Z"⟩, 16) := ⟨⟨by decide +kernel, by decide +kernel⟩, List.mem_of_getElem? (i := 721) (by decide +kernel), List.mem_of_getElem? (i := 807) (by decide +kernel), List.mem_of_getElem? (i := 808) (by decide +kernel)⟩
theorem lw_p26 : lw_okq (⟨"BondedWiresModel", "isWire", "(I)Z"⟩, 16) := ⟨⟨by decide +kernel, by decide +kernel⟩, List.mem_of_getElem? (i := 721) (by decide +kernel), List.mem_of_getElem? (i := 832) (by decide +kernel), List.mem_of_getElem? (i := 833) (by decide +kernel)⟩
theorem lw_p27 : lw_okq (⟨"BondedWiresModel", "becomes", "(II)I"⟩, 16) := ⟨⟨by decide +kernel, by decide +kernel⟩, List.mem_of_getElem? (i := 721) (by decide +kernel), List.mem_of_getElem? (i := 836) (by decide +kernel), List.mem_of_getElem? (i := 837) (by decide +kernel)⟩
theorem lw_p28 : lw_okq (⟨"BondedWiresModel", "notes", "()V"⟩, 16) := ⟨⟨by decide +kernel, by decide +kernel⟩, List.mem_of_getElem? (i := 721) (by decide +kernel), List.mem_of_getElem? (i := 840) (by decide +kernel), List.mem_of_getElem? (i := 841) (by decide +kernel)⟩
theorem lw_p29 : lw_okq (⟨"BondedWiresModel", "longOf", "(I)I"⟩, 16) := ⟨⟨by decide +kernel, by decide +kernel⟩, List.mem_of_getElem? (i := 721) (by decide +kernel), List.mem_of_getElem? (i := 857) (by decide +kernel), List.mem_of_getElem? (i := 858) (by decide +kernel)⟩
theorem lw_p30 : lw_okq (⟨"BondedWiresModel", "placeOf", "(II)I"⟩, 16) := ⟨⟨by decide +kernel, by decide +kernel⟩, List.mem_of_getElem? (i := 721) (by decide +kernel), List.mem_of_getElem? (i := 861) (by decide +kernel), List.mem_of_getElem? (i := 862) (by decide +kernel)⟩
theorem lw_p31 : lw_okq (⟨"BondedWiresModel", "heightOf", "(II)I"⟩, 16) := ⟨⟨by decide +kernel, by decide +kernel⟩, List.mem_of_getElem? (i := 721) (by decide +kernel), List.mem_of_getElem? (i := 868) (by decide +kernel), List.mem_of_getElem? (i := 869) (by decide +kernel)⟩
def lw_privs_2 : List (MethodName × Nat) := [(⟨"BondedWires$LoopSearch", "findCloseRows", "(I)V"⟩, 7), (⟨"BondedWires$LoopSearch", "mends", "(III)Z"⟩, 7), (⟨"BondedWires$LoopSearch", "isNear", "(I)Z"⟩, 7), (⟨"BondedWires$LoopSearch", "isMutual", "(II)Z"⟩, 7), (⟨"BondedWires$Sights", "isExplainedBy", "(I)Z"⟩, 6), (⟨"BondedWiresModel", "reads", "()I"⟩, 16), (⟨"BondedWiresModel", "readsItem", "(II)Z"⟩, 16), (⟨"BondedWiresModel", "number", "(III)Z"⟩, 16), (⟨"BondedWiresModel", "letterAt", "(I)I"⟩, 16), (⟨"BondedWiresModel", "readsWire", "(I)Z"⟩, 16), (⟨"BondedWiresModel", "isWire", "(I)Z"⟩, 16), (⟨"BondedWiresModel", "becomes", "(II)I"⟩, 16), (⟨"BondedWiresModel", "notes", "()V"⟩, 16), (⟨"BondedWiresModel", "longOf", "(I)I"⟩, 16), (⟨"BondedWiresModel", "placeOf", "(II)I"⟩, 16), (⟨"BondedWiresModel", "heightOf", "(II)I"⟩, 16)]
theorem lw_r2 : ∀ q ∈ lw_privs_2, lw_okq q := List.forall_mem_cons.mpr ⟨lw_p16, List.forall_mem_cons.mpr ⟨lw_p17, List.forall_mem_cons.mpr ⟨lw_p18, List.forall_mem_cons.mpr ⟨lw_p19, List.forall_mem_cons.mpr ⟨lw_p20, List.forall_mem_cons.mpr ⟨lw_p21, List.forall_mem_cons.mpr ⟨lw_p22, List.forall_mem_cons.mpr ⟨lw_p23, List.forall_mem_cons.mpr ⟨lw_p24, List.forall_mem_cons.mpr ⟨lw_p25, List.forall_mem_cons.mpr ⟨lw_p26, List.forall_mem_cons.mpr ⟨lw_p27, List.forall_mem_cons.mpr ⟨lw_p28, List.forall_mem_cons.mpr ⟨lw_p29, List.forall_mem_cons.mpr ⟨lw_p30, List.forall_mem_cons.mpr ⟨lw_p31, fun _ h => absurd h List.not_mem_nil⟩⟩⟩⟩⟩⟩⟩⟩⟩⟩⟩⟩⟩⟩⟩⟩
theorem lw_p32 : lw_okq (⟨"BondedWiresModel", "topOf", "(I)I"⟩, 16) := ⟨⟨by decide +kernel, by decide +kernel⟩, List.mem_of_getElem? (i := 721) (by decide +kernel), List.mem_of_getElem? (i := 872) (by decide +kernel), List.mem_of_getElem? (i := 873) (by decide +kernel)⟩
theorem lw_p33 : lw_okq (⟨"BondedWiresModel", "near", "(IIZ)I"⟩, 16) := ⟨⟨by decide +kernel, by decide +kernel⟩, List.mem_of_getElem? (i := 721) (by decide +kernel), List.mem_of_getElem? (i := 888) (by decide +kernel), List.mem_of_getElem? (i := 889) (by decide +kernel)⟩
theorem lw_p34 : lw_okq (⟨"BondedWiresModel", "areNear", "(III)Z"⟩, 16) := ⟨⟨by decide +kernel, by decide +kernel⟩, List.mem_of_getElem? (i := 721) (by decide +kernel), List.mem_of_getElem? (i := 892) (by decide +kernel), List.mem_of_getElem? (i := 893) (by decide +kernel)⟩
theorem lw_p35 : lw_okq (⟨"BondedWiresModel", "cross", "(II)Z"⟩, 16) := ⟨⟨by decide +kernel, by decide +kernel⟩, List.mem_of_getElem? (i := 721) (by decide +kernel), List.mem_of_getElem? (i := 896) (by decide +kernel), List.mem_of_getElem? (i := 897) (by decide +kernel)⟩
theorem lw_p36 : lw_okq (⟨"BondedWiresModel", "inWay", "(II)Z"⟩, 16) := ⟨⟨by decide +kernel, by decide +kernel⟩, List.mem_of_getElem? (i := 721) (by decide +kernel), List.mem_of_getElem? (i := 900) (by decide +kernel), List.mem_of_getElem? (i := 901) (by decide +kernel)⟩
theorem lw_p37 : lw_okq (⟨"BondedWiresModel", "inWayAt", "(III)Z"⟩, 16) := ⟨⟨by decide +kernel, by decide +kernel⟩, List.mem_of_getElem? (i := 721) (by decide +kernel), List.mem_of_getElem? (i := 904) (by decide +kernel), List.mem_of_getElem? (i := 905) (by decide +kernel)⟩
theorem lw_p38 : lw_okq (⟨"BondedWiresModel", "isBarred", "(II)Z"⟩, 16) := ⟨⟨by decide +kernel, by decide +kernel⟩, List.mem_of_getElem? (i := 721) (by decide +kernel), List.mem_of_getElem? (i := 912) (by decide +kernel), List.mem_of_getElem? (i := 913) (by decide +kernel)⟩
theorem lw_p39 : lw_okq (⟨"BondedWiresModel", "lays", "()V"⟩, 16) := ⟨⟨by decide +kernel, by decide +kernel⟩, List.mem_of_getElem? (i := 721) (by decide +kernel), List.mem_of_getElem? (i := 931) (by decide +kernel), List.mem_of_getElem? (i := 932) (by decide +kernel)⟩
theorem lw_p40 : lw_okq (⟨"BondedWiresModel", "left", "(I)I"⟩, 16) := ⟨⟨by decide +kernel, by decide +kernel⟩, List.mem_of_getElem? (i := 721) (by decide +kernel), List.mem_of_getElem? (i := 935) (by decide +kernel), List.mem_of_getElem? (i := 936) (by decide +kernel)⟩
theorem lw_p41 : lw_okq (⟨"BondedWiresModel", "firstOf", "(I)I"⟩, 16) := ⟨⟨by decide +kernel, by decide +kernel⟩, List.mem_of_getElem? (i := 721) (by decide +kernel), List.mem_of_getElem? (i := 939) (by decide +kernel), List.mem_of_getElem? (i := 940) (by decide +kernel)⟩
theorem lw_p42 : lw_okq (⟨"BondedWiresModel", "loopOf", "(I)I"⟩, 16) := ⟨⟨by decide +kernel, by decide +kernel⟩, List.mem_of_getElem? (i := 721) (by decide +kernel), List.mem_of_getElem? (i := 956) (by decide +kernel), List.mem_of_getElem? (i := 957) (by decide +kernel)⟩
theorem lw_p43 : lw_okq (⟨"BondedWiresModel", "isWell", "(I)Z"⟩, 16) := ⟨⟨by decide +kernel, by decide +kernel⟩, List.mem_of_getElem? (i := 721) (by decide +kernel), List.mem_of_getElem? (i := 960) (by decide +kernel), List.mem_of_getElem? (i := 961) (by decide +kernel)⟩
theorem lw_p44 : lw_okq (⟨"BondedWiresModel", "seen", "(IIII)I"⟩, 16) := ⟨⟨by decide +kernel, by decide +kernel⟩, List.mem_of_getElem? (i := 721) (by decide +kernel), List.mem_of_getElem? (i := 975) (by decide +kernel), List.mem_of_getElem? (i := 976) (by decide +kernel)⟩
theorem lw_p45 : lw_okq (⟨"BondedWiresModel", "pairsThat", "(I)I"⟩, 16) := ⟨⟨by decide +kernel, by decide +kernel⟩, List.mem_of_getElem? (i := 721) (by decide +kernel), List.mem_of_getElem? (i := 995) (by decide +kernel), List.mem_of_getElem? (i := 996) (by decide +kernel)⟩
def lw_privs_3 : List (MethodName × Nat) := [(⟨"BondedWiresModel", "topOf", "(I)I"⟩, 16), (⟨"BondedWiresModel", "near", "(IIZ)I"⟩, 16), (⟨"BondedWiresModel", "areNear", "(III)Z"⟩, 16), (⟨"BondedWiresModel", "cross", "(II)Z"⟩, 16), (⟨"BondedWiresModel", "inWay", "(II)Z"⟩, 16), (⟨"BondedWiresModel", "inWayAt", "(III)Z"⟩, 16), (⟨"BondedWiresModel", "isBarred", "(II)Z"⟩, 16), (⟨"BondedWiresModel", "lays", "()V"⟩, 16), (⟨"BondedWiresModel", "left", "(I)I"⟩, 16), (⟨"BondedWiresModel", "firstOf", "(I)I"⟩, 16), (⟨"BondedWiresModel", "loopOf", "(I)I"⟩, 16), (⟨"BondedWiresModel", "isWell", "(I)Z"⟩, 16), (⟨"BondedWiresModel", "seen", "(IIII)I"⟩, 16), (⟨"BondedWiresModel", "pairsThat", "(I)I"⟩, 16)]
theorem lw_r3 : ∀ q ∈ lw_privs_3, lw_okq q := List.forall_mem_cons.mpr ⟨lw_p32, List.forall_mem_cons.mpr ⟨lw_p33, List.forall_mem_cons.mpr ⟨lw_p34, List.forall_mem_cons.mpr ⟨lw_p35, List.forall_mem_cons.mpr ⟨lw_p36, List.forall_mem_cons.mpr ⟨lw_p37, List.forall_mem_cons.mpr ⟨lw_p38, List.forall_mem_cons.mpr ⟨lw_p39, List.forall_mem_cons.mpr ⟨lw_p40, List.forall_mem_cons.mpr ⟨lw_p41, List.forall_mem_cons.mpr ⟨lw_p42, List.forall_mem_cons.mpr ⟨lw_p43, List.forall_mem_cons.mpr ⟨lw_p44, List.forall_mem_cons.mpr ⟨lw_p45, fun _ h => absurd h List.not_mem_nil⟩⟩⟩⟩⟩⟩⟩⟩⟩⟩⟩⟩⟩⟩
def lw_privs : List (MethodName × Nat) := lw_privs_1 ++ (lw_privs_2 ++ (lw_privs_3))
def lw_tbl : List Cond := k2_sels lw_privs ++ tables_1
theorem lw_privs_ok : ∀ q ∈ lw_privs, lw_okq q := by
  show ∀ q ∈ lw_privs_1 ++ (lw_privs_2 ++ (lw_privs_3)), lw_okq q
  exact List.forall_mem_append.mpr ⟨lw_r1, List.forall_mem_append.mpr ⟨lw_r2, lw_r3⟩⟩
def RX0 : String := "BondedWires$Bench"
def TX0 : u_T := fun k => match k with
  | 0 => ("BondedWires$Bench", "now", "[I", true)
  | 1 => ("BondedWires$Bench", "span", "I", false)
  | _ => ("BondedWires$Bench", "wires", "I", false)
def tyX0 : Nat → FieldType := fun k => match k with
  | 0 => .array .int
  | 1 => .int
  | _ => .int
abbrev wsX00 : List Cond := u_ws RX0 TX0 3
theorem nmX0 : ∀ a, a < 3 → ∀ b, b < 3 → a ≠ b → (TX0 a).2.1 ≠ (TX0 b).2.1 := by decide +kernel
theorem tyX0_ok : ∀ k, k < 3 → parseFieldDescriptor (TX0 k).2.2.1 = some (tyX0 k) := by decide +kernel
abbrev cX0_init : ByteArray := prog_2_method_1_code
def yX0_init : MethodName := ⟨RX0, "<init>", "()V"⟩
abbrev cX0_layFrom : ByteArray := prog_2_method_2_code
def yX0_layFrom : MethodName := ⟨RX0, "layFrom", "(LBondedWires$Draft;)V"⟩
abbrev cX0_numberOf : ByteArray := prog_2_method_3_code
def yX0_numberOf : MethodName := ⟨RX0, "numberOf", "(II)I"⟩
abbrev cX0_tellNumber : ByteArray := prog_2_method_4_code
def yX0_tellNumber : MethodName := ⟨RX0, "tellNumber", "(III)V"⟩
abbrev cX0_limitOf : ByteArray := prog_2_method_5_code
def yX0_limitOf : MethodName := ⟨RX0, "limitOf", "(I)I"⟩
abbrev cX0_tellLimit : ByteArray := prog_2_method_6_code
def yX0_tellLimit : MethodName := ⟨RX0, "tellLimit", "(II)V"⟩
abbrev cX0_shiftNow : ByteArray := prog_2_method_7_code
def yX0_shiftNow : MethodName := ⟨RX0, "shiftNow", "()I"⟩
abbrev cX0_tellShift : ByteArray := prog_2_method_8_code
def yX0_tellShift : MethodName := ⟨RX0, "tellShift", "(I)V"⟩
abbrev cX0_bonded : ByteArray := prog_2_method_9_code
def yX0_bonded : MethodName := ⟨RX0, "bonded", "()I"⟩
abbrev cX0_tellBonded : ByteArray := prog_2_method_10_code
def yX0_tellBonded : MethodName := ⟨RX0, "tellBonded", "(I)V"⟩
abbrev cX0_isBonded : ByteArray := prog_2_method_11_code
def yX0_isBonded : MethodName := ⟨RX0, "isBonded", "(I)Z"⟩
def RX1 : String := "BondedWires$Draft"
def TX1 : u_T := fun k => match k with
  | 0 => ("BondedWires$Draft", "numbers", "[I", true)
  | 1 => ("BondedWires$Draft", "limits", "[I", true)
  | 2 => ("BondedWires$Draft", "span", "I", false)
  | 3 => ("BondedWires$Draft", "wires", "I", false)
  | 4 => ("BondedWires$Draft", "firstFault", "I", false)
  | _ => ("BondedWires$Draft", "at", "I", false)
def tyX1 : Nat → FieldType := fun k => match k with
  | 0 => .array .int
  | 1 => .array .int
  | 2 => .int
  | 3 => .int
  | 4 => .int
  | _ => .int
abbrev wsX10 : List Cond := u_ws RX1 TX1 6
theorem nmX1 : ∀ a, a < 6 → ∀ b, b < 6 → a ≠ b → (TX1 a).2.1 ≠ (TX1 b).2.1 := by decide +kernel
theorem tyX1_ok : ∀ k, k < 6 → parseFieldDescriptor (TX1 k).2.2.1 = some (tyX1 k) := by decide +kernel
abbrev cX1_init : ByteArray := prog_3_method_1_code
def yX1_init : MethodName := ⟨RX1, "<init>", "()V"⟩
abbrev cX1_read : ByteArray := prog_3_method_2_code
def yX1_read : MethodName := ⟨RX1, "read", "(LBondedWires$Text;)V"⟩
abbrev cX1_readItem : ByteArray := prog_3_method_3_code
def yX1_readItem : MethodName := ⟨RX1, "readItem", "(LBondedWires$Text;)Z"⟩
abbrev cX1_readSpan : ByteArray := prog_3_method_4_code
def yX1_readSpan : MethodName := ⟨RX1, "readSpan", "(LBondedWires$Text;)Z"⟩
abbrev cX1_readLimit : ByteArray := prog_3_method_5_code
def yX1_readLimit : MethodName := ⟨RX1, "readLimit", "(LBondedWires$Text;I)Z"⟩
abbrev cX1_readWire : ByteArray := prog_3_method_6_code
def yX1_readWire : MethodName := ⟨RX1, "readWire", "(LBondedWires$Text;)Z"⟩
abbrev cX1_readNumber : ByteArray := prog_3_method_7_code
def yX1_readNumber : MethodName := ⟨RX1, "readNumber", "(LBondedWires$Text;C)I"⟩
abbrev cX1_figure : ByteArray := prog_3_method_8_code
def yX1_figure : MethodName := ⟨RX1, "figure", "(C)I"⟩
def RX2 : String := "BondedWires$LoopSearch"
def TX2 : u_T := fun k => match k with
  | 0 => ("BondedWires$LoopSearch", "bench", "LBondedWires$Bench;", true)
  | 1 => ("BondedWires$LoopSearch", "view", "LBondedWires$View;", true)
  | 2 => ("BondedWires$LoopSearch", "trial", "[I", true)
  | 3 => ("BondedWires$LoopSearch", "closeRows", "[J", true)
  | 4 => ("BondedWires$LoopSearch", "blockers", "I", false)
  | 5 => ("BondedWires$LoopSearch", "shape", "I", false)
  | _ => ("BondedWires$LoopSearch", "peak", "I", false)
def tyX2 : Nat → FieldType := fun k => match k with
  | 0 => .object "BondedWires$Bench"
  | 1 => .object "BondedWires$View"
  | 2 => .array .int
  | 3 => .array .long
  | 4 => .int
  | 5 => .int
  | _ => .int
abbrev wsX20 : List Cond := u_ws RX2 TX2 7
theorem nmX2 : ∀ a, a < 7 → ∀ b, b < 7 → a ≠ b → (TX2 a).2.1 ≠ (TX2 b).2.1 := by decide +kernel
theorem tyX2_ok : ∀ k, k < 7 → parseFieldDescriptor (TX2 k).2.2.1 = some (tyX2 k) := by decide +kernel
abbrev cX2_init : ByteArray := prog_4_method_1_code
def yX2_init : MethodName := ⟨RX2, "<init>", "(LBondedWires$Bench;LBondedWires$View;)V"⟩
abbrev cX2_find : ByteArray := prog_4_method_2_code
def yX2_find : MethodName := ⟨RX2, "find", "(I)Z"⟩
abbrev cX2_findCloseRows : ByteArray := prog_4_method_3_code
def yX2_findCloseRows : MethodName := ⟨RX2, "findCloseRows", "(I)V"⟩
abbrev cX2_shapeAtTurn : ByteArray := prog_4_method_4_code
def yX2_shapeAtTurn : MethodName := ⟨RX2, "shapeAtTurn", "(II)I"⟩
abbrev cX2_mends : ByteArray := prog_4_method_5_code
def yX2_mends : MethodName := ⟨RX2, "mends", "(III)Z"⟩
abbrev cX2_isNear : ByteArray := prog_4_method_6_code
def yX2_isNear : MethodName := ⟨RX2, "isNear", "(I)Z"⟩
abbrev cX2_isMutual : ByteArray := prog_4_method_7_code
def yX2_isMutual : MethodName := ⟨RX2, "isMutual", "(II)Z"⟩
def RX3 : String := "BondedWires$Past"
def TX3 : u_T := fun k => match k with
  | 0 => ("BondedWires$Past", "rows", "[[I", true)
  | 1 => ("BondedWires$Past", "next", "I", false)
  | _ => ("BondedWires$Past", "held", "I", false)
def tyX3 : Nat → FieldType := fun k => match k with
  | 0 => .array (.array .int)
  | 1 => .int
  | _ => .int
abbrev wsX30 : List Cond := u_ws RX3 TX3 3
theorem nmX3 : ∀ a, a < 3 → ∀ b, b < 3 → a ≠ b → (TX3 a).2.1 ≠ (TX3 b).2.1 := by decide +kernel
theorem tyX3_ok : ∀ k, k < 3 → parseFieldDescriptor (TX3 k).2.2.1 = some (tyX3 k) := by decide +kernel
abbrev cX3_init : ByteArray := prog_5_method_1_code
def yX3_init : MethodName := ⟨RX3, "<init>", "()V"⟩
abbrev cX3_clear : ByteArray := prog_5_method_2_code
def yX3_clear : MethodName := ⟨RX3, "clear", "()V"⟩
abbrev cX3_keep : ByteArray := prog_5_method_3_code
def yX3_keep : MethodName := ⟨RX3, "keep", "(LBondedWires$Bench;)V"⟩
abbrev cX3_giveBack : ByteArray := prog_5_method_4_code
def yX3_giveBack : MethodName := ⟨RX3, "giveBack", "(LBondedWires$Bench;)V"⟩
def RX4 : String := "BondedWires$Sequence"
def TX4 : u_T := fun k => match k with
  | 0 => ("BondedWires$Sequence", "bench", "LBondedWires$Bench;", true)
  | 1 => ("BondedWires$Sequence", "view", "LBondedWires$View;", true)
  | 2 => ("BondedWires$Sequence", "wiresInOrder", "[I", true)
  | _ => ("BondedWires$Sequence", "ways", "[I", true)
def tyX4 : Nat → FieldType := fun k => match k with
  | 0 => .object "BondedWires$Bench"
  | 1 => .object "BondedWires$View"
  | 2 => .array .int
  | _ => .array .int
abbrev wsX40 : List Cond := u_ws RX4 TX4 4
theorem nmX4 : ∀ a, a < 4 → ∀ b, b < 4 → a ≠ b → (TX4 a).2.1 ≠ (TX4 b).2.1 := by decide +kernel
theorem tyX4_ok : ∀ k, k < 4 → parseFieldDescriptor (TX4 k).2.2.1 = some (tyX4 k) := by decide +kernel
abbrev cX4_init : ByteArray := prog_6_method_1_code
def yX4_init : MethodName := ⟨RX4, "<init>", "(LBondedWires$Bench;LBondedWires$View;)V"⟩
abbrev cX4_arrange : ByteArray := prog_6_method_2_code
def yX4_arrange : MethodName := ⟨RX4, "arrange", "()I"⟩
abbrev cX4_lowestFree : ByteArray := prog_6_method_3_code
def yX4_lowestFree : MethodName := ⟨RX4, "lowestFree", "(I[I)I"⟩
abbrev cX4_wireAt : ByteArray := prog_6_method_4_code
def yX4_wireAt : MethodName := ⟨RX4, "wireAt", "(I)I"⟩
abbrev cX4_howMany : ByteArray := prog_6_method_5_code
def yX4_howMany : MethodName := ⟨RX4, "howMany", "()I"⟩
abbrev cX4_waysOf : ByteArray := prog_6_method_6_code
def yX4_waysOf : MethodName := ⟨RX4, "waysOf", "(I[I)I"⟩
def RX5 : String := "BondedWires$Sights"
def TX5 : u_T := fun k => match k with
  | 0 => ("BondedWires$Sights", "bench", "LBondedWires$Bench;", true)
  | 1 => ("BondedWires$Sights", "told", "[Z", true)
  | 2 => ("BondedWires$Sights", "tiers", "[I", true)
  | 3 => ("BondedWires$Sights", "firsts", "[I", true)
  | 4 => ("BondedWires$Sights", "lasts", "[I", true)
  | _ => ("BondedWires$Sights", "saw", "[I", true)
def tyX5 : Nat → FieldType := fun k => match k with
  | 0 => .object "BondedWires$Bench"
  | 1 => .array .boolean
  | 2 => .array .int
  | 3 => .array .int
  | 4 => .array .int
  | _ => .array .int
abbrev wsX50 : List Cond := u_ws RX5 TX5 6
theorem nmX5 : ∀ a, a < 6 → ∀ b, b < 6 → a ≠ b → (TX5 a).2.1 ≠ (TX5 b).2.1 := by decide +kernel
theorem tyX5_ok : ∀ k, k < 6 → parseFieldDescriptor (TX5 k).2.2.1 = some (tyX5 k) := by decide +kernel
abbrev cX5_init : ByteArray := prog_7_method_1_code
def yX5_init : MethodName := ⟨RX5, "<init>", "(LBondedWires$Bench;)V"⟩
abbrev cX5_clear : ByteArray := prog_7_method_2_code
def yX5_clear : MethodName := ⟨RX5, "clear", "()V"⟩
abbrev cX5_tell : ByteArray := prog_7_method_3_code
def yX5_tell : MethodName := ⟨RX5, "tell", "(IIIII)V"⟩
abbrev cX5_howMany : ByteArray := prog_7_method_4_code
def yX5_howMany : MethodName := ⟨RX5, "howMany", "()I"⟩
abbrev cX5_seen : ByteArray := prog_7_method_5_code
def yX5_seen : MethodName := ⟨RX5, "seen", "(IIII)I"⟩
abbrev cX5_shiftsThatExplain : ByteArray := prog_7_method_6_code
def yX5_shiftsThatExplain : MethodName := ⟨RX5, "shiftsThatExplain", "()I"⟩
abbrev cX5_nearestShift : ByteArray := prog_7_method_7_code
def yX5_nearestShift : MethodName := ⟨RX5, "nearestShift", "()I"⟩
abbrev cX5_isExplainedBy : ByteArray := prog_7_method_8_code
def yX5_isExplainedBy : MethodName := ⟨RX5, "isExplainedBy", "(I)Z"⟩
def RX6 : String := "BondedWires$Text"
def TX6 : u_T := fun k => match k with
  | 0 => ("BondedWires$Text", "letters", "[C", true)
  | _ => ("BondedWires$Text", "length", "I", false)
def tyX6 : Nat → FieldType := fun k => match k with
  | 0 => .array .char
  | _ => .int
abbrev wsX60 : List Cond := u_ws RX6 TX6 2
theorem nmX6 : ∀ a, a < 2 → ∀ b, b < 2 → a ≠ b → (TX6 a).2.1 ≠ (TX6 b).2.1 := by decide +kernel
theorem tyX6_ok : ∀ k, k < 2 → parseFieldDescriptor (TX6 k).2.2.1 = some (tyX6 k) := by decide +kernel
abbrev cX6_init : ByteArray := prog_8_method_1_code
def yX6_init : MethodName := ⟨RX6, "<init>", "()V"⟩
abbrev cX6_append : ByteArray := prog_8_method_2_code
def yX6_append : MethodName := ⟨RX6, "append", "(C)Z"⟩
abbrev cX6_clear : ByteArray := prog_8_method_3_code
def yX6_clear : MethodName := ⟨RX6, "clear", "()V"⟩
abbrev cX6_letterAt : ByteArray := prog_8_method_4_code
def yX6_letterAt : MethodName := ⟨RX6, "letterAt", "(I)C"⟩
def RX7 : String := "BondedWires$View"
def TX7 : u_T := fun k => match k with
  | 0 => ("BondedWires$View", "bench", "LBondedWires$Bench;", true)
  | 1 => ("BondedWires$View", "places", "[[I", true)
  | 2 => ("BondedWires$View", "heights", "[[I", true)
  | 3 => ("BondedWires$View", "blockers", "[I", true)
  | 4 => ("BondedWires$View", "blocked", "[I", true)
  | _ => ("BondedWires$View", "blockersKnown", "Z", false)
def tyX7 : Nat → FieldType := fun k => match k with
  | 0 => .object "BondedWires$Bench"
  | 1 => .array (.array .int)
  | 2 => .array (.array .int)
  | 3 => .array .int
  | 4 => .array .int
  | _ => .boolean
abbrev wsX70 : List Cond := u_ws RX7 TX7 6
theorem nmX7 : ∀ a, a < 6 → ∀ b, b < 6 → a ≠ b → (TX7 a).2.1 ≠ (TX7 b).2.1 := by decide +kernel
theorem tyX7_ok : ∀ k, k < 6 → parseFieldDescriptor (TX7 k).2.2.1 = some (tyX7 k) := by decide +kernel
abbrev cX7_init : ByteArray := prog_9_method_1_code
def yX7_init : MethodName := ⟨RX7, "<init>", "(LBondedWires$Bench;)V"⟩
abbrev cX7_refresh : ByteArray := prog_9_method_2_code
def yX7_refresh : MethodName := ⟨RX7, "refresh", "()V"⟩
abbrev cX7_fillPlaces : ByteArray := prog_9_method_3_code
def yX7_fillPlaces : MethodName := ⟨RX7, "fillPlaces", "(I)V"⟩
abbrev cX7_fillHeights : ByteArray := prog_9_method_4_code
def yX7_fillHeights : MethodName := ⟨RX7, "fillHeights", "([IIII)V"⟩
abbrev cX7_heightBetween : ByteArray := prog_9_method_5_code
def yX7_heightBetween : MethodName := ⟨RX7, "heightBetween", "(IIII)I"⟩
abbrev cX7_cut : ByteArray := prog_9_method_6_code
def yX7_cut : MethodName := ⟨RX7, "cut", "(II)I"⟩
abbrev cX7_placeOf : ByteArray := prog_9_method_7_code
def yX7_placeOf : MethodName := ⟨RX7, "placeOf", "(II)I"⟩
abbrev cX7_heightOf : ByteArray := prog_9_method_8_code
def yX7_heightOf : MethodName := ⟨RX7, "heightOf", "(II)I"⟩
abbrev cX7_longOf : ByteArray := prog_9_method_9_code
def yX7_longOf : MethodName := ⟨RX7, "longOf", "(I)I"⟩
abbrev cX7_longOfAll : ByteArray := prog_9_method_10_code
def yX7_longOfAll : MethodName := ⟨RX7, "longOfAll", "()I"⟩
abbrev cX7_topRow : ByteArray := prog_9_method_11_code
def yX7_topRow : MethodName := ⟨RX7, "topRow", "(I)I"⟩
abbrev cX7_closeAt : ByteArray := prog_9_method_12_code
def yX7_closeAt : MethodName := ⟨RX7, "closeAt", "(III)Z"⟩
abbrev cX7_nearAt : ByteArray := prog_9_method_13_code
def yX7_nearAt : MethodName := ⟨RX7, "nearAt", "(III)Z"⟩
abbrev cX7_firstNear : ByteArray := prog_9_method_14_code
def yX7_firstNear : MethodName := ⟨RX7, "firstNear", "(II)I"⟩
abbrev cX7_nearRows : ByteArray := prog_9_method_15_code
def yX7_nearRows : MethodName := ⟨RX7, "nearRows", "(II)I"⟩
abbrev cX7_cross : ByteArray := prog_9_method_16_code
def yX7_cross : MethodName := ⟨RX7, "cross", "(II)Z"⟩
abbrev cX7_nearPairs : ByteArray := prog_9_method_17_code
def yX7_nearPairs : MethodName := ⟨RX7, "nearPairs", "()I"⟩
abbrev cX7_crossPairs : ByteArray := prog_9_method_18_code
def yX7_crossPairs : MethodName := ⟨RX7, "crossPairs", "()I"⟩
abbrev cX7_blockedPairs : ByteArray := prog_9_method_19_code
def yX7_blockedPairs : MethodName := ⟨RX7, "blockedPairs", "()I"⟩
abbrev cX7_blockersOf : ByteArray := prog_9_method_20_code
def yX7_blockersOf : MethodName := ⟨RX7, "blockersOf", "(I)I"⟩
abbrev cX7_blockedByEach : ByteArray := prog_9_method_21_code
def yX7_blockedByEach : MethodName := ⟨RX7, "blockedByEach", "()[I"⟩
abbrev cX7_findBlockers : ByteArray := prog_9_method_22_code
def yX7_findBlockers : MethodName := ⟨RX7, "findBlockers", "()V"⟩
abbrev cX7_isInTheWay : ByteArray := prog_9_method_23_code
def yX7_isInTheWay : MethodName := ⟨RX7, "isInTheWay", "(I[II)Z"⟩
abbrev cX7_isOverEnd : ByteArray := prog_9_method_24_code
def yX7_isOverEnd : MethodName := ⟨RX7, "isOverEnd", "(I[III)Z"⟩
def RX8 : String := "BondedWires"
def TX8 : u_T := fun k => match k with
  | 0 => ("BondedWires", "text", "LBondedWires$Text;", true)
  | 1 => ("BondedWires", "draft", "LBondedWires$Draft;", true)
  | 2 => ("BondedWires", "bench", "LBondedWires$Bench;", true)
  | 3 => ("BondedWires", "past", "LBondedWires$Past;", true)
  | 4 => ("BondedWires", "view", "LBondedWires$View;", true)
  | 5 => ("BondedWires", "sequence", "LBondedWires$Sequence;", true)
  | 6 => ("BondedWires", "search", "LBondedWires$LoopSearch;", true)
  | _ => ("BondedWires", "sights", "LBondedWires$Sights;", true)
def tyX8 : Nat → FieldType := fun k => match k with
  | 0 => .object "BondedWires$Text"
  | 1 => .object "BondedWires$Draft"
  | 2 => .object "BondedWires$Bench"
  | 3 => .object "BondedWires$Past"
  | 4 => .object "BondedWires$View"
  | 5 => .object "BondedWires$Sequence"
  | 6 => .object "BondedWires$LoopSearch"
  | _ => .object "BondedWires$Sights"
abbrev wsX80 : List Cond := u_ws RX8 TX8 8
theorem nmX8 : ∀ a, a < 8 → ∀ b, b < 8 → a ≠ b → (TX8 a).2.1 ≠ (TX8 b).2.1 := by decide +kernel
theorem tyX8_ok : ∀ k, k < 8 → parseFieldDescriptor (TX8 k).2.2.1 = some (tyX8 k) := by decide +kernel
abbrev cX8_init : ByteArray := prog_1_method_1_code
def yX8_init : MethodName := ⟨RX8, "<init>", "()V"⟩
abbrev cX8_write : ByteArray := prog_1_method_2_code
def yX8_write : MethodName := ⟨RX8, "write", "(I)I"⟩
abbrev cX8_wipe : ByteArray := prog_1_method_3_code
def yX8_wipe : MethodName := ⟨RX8, "wipe", "()I"⟩
abbrev cX8_fault : ByteArray := prog_1_method_4_code
def yX8_fault : MethodName := ⟨RX8, "fault", "()I"⟩
abbrev cX8_lay : ByteArray := prog_1_method_5_code
def yX8_lay : MethodName := ⟨RX8, "lay", "()I"⟩
abbrev cX8_set : ByteArray := prog_1_method_6_code
def yX8_set : MethodName := ⟨RX8, "set", "(III)I"⟩
abbrev cX8_limit : ByteArray := prog_1_method_7_code
def yX8_limit : MethodName := ⟨RX8, "limit", "(II)I"⟩
abbrev cX8_shift : ByteArray := prog_1_method_8_code
def yX8_shift : MethodName := ⟨RX8, "shift", "(I)I"⟩
abbrev cX8_undo : ByteArray := prog_1_method_9_code
def yX8_undo : MethodName := ⟨RX8, "undo", "()I"⟩
abbrev cX8_wire : ByteArray := prog_1_method_10_code
def yX8_wire : MethodName := ⟨RX8, "wire", "(II)I"⟩
abbrev cX8_place : ByteArray := prog_1_method_11_code
def yX8_place : MethodName := ⟨RX8, "place", "(II)I"⟩
abbrev cX8_height : ByteArray := prog_1_method_12_code
def yX8_height : MethodName := ⟨RX8, "height", "(II)I"⟩
abbrev cX8_pair : ByteArray := prog_1_method_13_code
def yX8_pair : MethodName := ⟨RX8, "pair", "(III)I"⟩
abbrev cX8_bond : ByteArray := prog_1_method_14_code
def yX8_bond : MethodName := ⟨RX8, "bond", "(I)I"⟩
abbrev cX8_take : ByteArray := prog_1_method_15_code
def yX8_take : MethodName := ⟨RX8, "take", "(I)I"⟩
abbrev cX8_ready : ByteArray := prog_1_method_16_code
def yX8_ready : MethodName := ⟨RX8, "ready", "()I"⟩
abbrev cX8_order : ByteArray := prog_1_method_17_code
def yX8_order : MethodName := ⟨RX8, "order", "(I)I"⟩
abbrev cX8_orders : ByteArray := prog_1_method_18_code
def yX8_orders : MethodName := ⟨RX8, "orders", "()I"⟩
abbrev cX8_stuck : ByteArray := prog_1_method_19_code
def yX8_stuck : MethodName := ⟨RX8, "stuck", "()I"⟩
abbrev cX8_loop : ByteArray := prog_1_method_20_code
def yX8_loop : MethodName := ⟨RX8, "loop", "(I)I"⟩
abbrev cX8_mend : ByteArray := prog_1_method_21_code
def yX8_mend : MethodName := ⟨RX8, "mend", "(I)I"⟩
abbrev cX8_sees : ByteArray := prog_1_method_22_code
def yX8_sees : MethodName := ⟨RX8, "sees", "(III)I"⟩
abbrev cX8_eye : ByteArray := prog_1_method_23_code
def yX8_eye : MethodName := ⟨RX8, "eye", "(IIIII)I"⟩
abbrev cX8_forget : ByteArray := prog_1_method_24_code
def yX8_forget : MethodName := ⟨RX8, "forget", "()I"⟩
abbrev cX8_explains : ByteArray := prog_1_method_25_code
def yX8_explains : MethodName := ⟨RX8, "explains", "(I)I"⟩
abbrev cX8_count : ByteArray := prog_1_method_26_code
def yX8_count : MethodName := ⟨RX8, "count", "(I)I"⟩
abbrev cX8_layText : ByteArray := prog_1_method_27_code
def yX8_layText : MethodName := ⟨RX8, "layText", "()Z"⟩
abbrev cX8_isWire : ByteArray := prog_1_method_28_code
def yX8_isWire : MethodName := ⟨RX8, "isWire", "(I)Z"⟩
abbrev cX8_isRow : ByteArray := prog_1_method_29_code
def yX8_isRow : MethodName := ⟨RX8, "isRow", "(I)Z"⟩
abbrev cX8_canBeBonded : ByteArray := prog_1_method_30_code
def yX8_canBeBonded : MethodName := ⟨RX8, "canBeBonded", "(I)Z"⟩
abbrev cX8_isLook : ByteArray := prog_1_method_31_code
def yX8_isLook : MethodName := ⟨RX8, "isLook", "(III)Z"⟩
def RX9 : String := "BondedWiresModel"
def TX9 : u_T := fun k => match k with
  | 0 => ("BondedWiresModel", "length", "I", false)
  | 1 => ("BondedWiresModel", "text", "[I", true)
  | 2 => ("BondedWiresModel", "span", "I", false)
  | 3 => ("BondedWiresModel", "wires", "I", false)
  | 4 => ("BondedWiresModel", "h", "[I", true)
  | 5 => ("BondedWiresModel", "was", "[I", true)
  | 6 => ("BondedWiresModel", "changes", "I", false)
  | 7 => ("BondedWiresModel", "readSpan", "I", false)
  | 8 => ("BondedWiresModel", "readWires", "I", false)
  | 9 => ("BondedWiresModel", "read", "[I", true)
  | 10 => ("BondedWiresModel", "value", "I", false)
  | 11 => ("BondedWiresModel", "ends", "I", false)
  | 12 => ("BondedWiresModel", "eyes", "[I", true)
  | 13 => ("BondedWiresModel", "firstWires", "[I", true)
  | 14 => ("BondedWiresModel", "bars", "[I", true)
  | _ => ("BondedWiresModel", "ways", "[I", true)
def tyX9 : Nat → FieldType := fun k => match k with
  | 0 => .int
  | 1 => .array .int
  | 2 => .int
  | 3 => .int
  | 4 => .array .int
  | 5 => .array .int
  | 6 => .int
  | 7 => .int
  | 8 => .int
  | 9 => .array .int
  | 10 => .int
  | 11 => .int
  | 12 => .array .int
  | 13 => .array .int
  | 14 => .array .int
  | _ => .array .int
abbrev wsX90 : List Cond := u_ws RX9 TX9 16
theorem nmX9 : ∀ a, a < 16 → ∀ b, b < 16 → a ≠ b → (TX9 a).2.1 ≠ (TX9 b).2.1 := by decide +kernel
theorem tyX9_ok : ∀ k, k < 16 → parseFieldDescriptor (TX9 k).2.2.1 = some (tyX9 k) := by decide +kernel
abbrev cX9_init : ByteArray := prog_11_method_1_code
def yX9_init : MethodName := ⟨RX9, "<init>", "()V"⟩
abbrev cX9_isIn : ByteArray := prog_11_method_2_code
def yX9_isIn : MethodName := ⟨RX9, "isIn", "(III)Z"⟩
abbrev cX9_distance : ByteArray := prog_11_method_3_code
def yX9_distance : MethodName := ⟨RX9, "distance", "(II)I"⟩
abbrev cX9_letterAt : ByteArray := prog_11_method_4_code
def yX9_letterAt : MethodName := ⟨RX9, "letterAt", "(I)I"⟩
abbrev cX9_number : ByteArray := prog_11_method_5_code
def yX9_number : MethodName := ⟨RX9, "number", "(III)Z"⟩
abbrev cX9_lowest : ByteArray := prog_11_method_6_code
def yX9_lowest : MethodName := ⟨RX9, "lowest", "(I)I"⟩
abbrev cX9_highest : ByteArray := prog_11_method_7_code
def yX9_highest : MethodName := ⟨RX9, "highest", "(I)I"⟩
abbrev cX9_most : ByteArray := prog_11_method_8_code
def yX9_most : MethodName := ⟨RX9, "most", "(I)I"⟩
abbrev cX9_readsWire : ByteArray := prog_11_method_9_code
def yX9_readsWire : MethodName := ⟨RX9, "readsWire", "(I)Z"⟩
abbrev cX9_readsItem : ByteArray := prog_11_method_10_code
def yX9_readsItem : MethodName := ⟨RX9, "readsItem", "(II)Z"⟩
abbrev cX9_reads : ByteArray := prog_11_method_11_code
def yX9_reads : MethodName := ⟨RX9, "reads", "()I"⟩
abbrev cX9_write : ByteArray := prog_11_method_12_code
def yX9_write : MethodName := ⟨RX9, "write", "(I)I"⟩
abbrev cX9_wipe : ByteArray := prog_11_method_13_code
def yX9_wipe : MethodName := ⟨RX9, "wipe", "()I"⟩
abbrev cX9_fault : ByteArray := prog_11_method_14_code
def yX9_fault : MethodName := ⟨RX9, "fault", "()I"⟩
abbrev cX9_lay : ByteArray := prog_11_method_15_code
def yX9_lay : MethodName := ⟨RX9, "lay", "()I"⟩
abbrev cX9_notes : ByteArray := prog_11_method_16_code
def yX9_notes : MethodName := ⟨RX9, "notes", "()V"⟩
abbrev cX9_undo : ByteArray := prog_11_method_17_code
def yX9_undo : MethodName := ⟨RX9, "undo", "()I"⟩
abbrev cX9_isWire : ByteArray := prog_11_method_18_code
def yX9_isWire : MethodName := ⟨RX9, "isWire", "(I)Z"⟩
abbrev cX9_becomes : ByteArray := prog_11_method_19_code
def yX9_becomes : MethodName := ⟨RX9, "becomes", "(II)I"⟩
abbrev cX9_set : ByteArray := prog_11_method_20_code
def yX9_set : MethodName := ⟨RX9, "set", "(III)I"⟩
abbrev cX9_limit : ByteArray := prog_11_method_21_code
def yX9_limit : MethodName := ⟨RX9, "limit", "(II)I"⟩
abbrev cX9_shift : ByteArray := prog_11_method_22_code
def yX9_shift : MethodName := ⟨RX9, "shift", "(I)I"⟩
abbrev cX9_placeOf : ByteArray := prog_11_method_23_code
def yX9_placeOf : MethodName := ⟨RX9, "placeOf", "(II)I"⟩
abbrev cX9_heightOf : ByteArray := prog_11_method_24_code
def yX9_heightOf : MethodName := ⟨RX9, "heightOf", "(II)I"⟩
abbrev cX9_longOf : ByteArray := prog_11_method_25_code
def yX9_longOf : MethodName := ⟨RX9, "longOf", "(I)I"⟩
abbrev cX9_topOf : ByteArray := prog_11_method_26_code
def yX9_topOf : MethodName := ⟨RX9, "topOf", "(I)I"⟩
abbrev cX9_wire : ByteArray := prog_11_method_27_code
def yX9_wire : MethodName := ⟨RX9, "wire", "(II)I"⟩
abbrev cX9_place : ByteArray := prog_11_method_28_code
def yX9_place : MethodName := ⟨RX9, "place", "(II)I"⟩
abbrev cX9_height : ByteArray := prog_11_method_29_code
def yX9_height : MethodName := ⟨RX9, "height", "(II)I"⟩
abbrev cX9_areNear : ByteArray := prog_11_method_30_code
def yX9_areNear : MethodName := ⟨RX9, "areNear", "(III)Z"⟩
abbrev cX9_near : ByteArray := prog_11_method_31_code
def yX9_near : MethodName := ⟨RX9, "near", "(IIZ)I"⟩
abbrev cX9_cross : ByteArray := prog_11_method_32_code
def yX9_cross : MethodName := ⟨RX9, "cross", "(II)Z"⟩
abbrev cX9_inWayAt : ByteArray := prog_11_method_33_code
def yX9_inWayAt : MethodName := ⟨RX9, "inWayAt", "(III)Z"⟩
abbrev cX9_inWay : ByteArray := prog_11_method_34_code
def yX9_inWay : MethodName := ⟨RX9, "inWay", "(II)Z"⟩
abbrev cX9_pair : ByteArray := prog_11_method_35_code
def yX9_pair : MethodName := ⟨RX9, "pair", "(III)I"⟩
abbrev cX9_bits : ByteArray := prog_11_method_36_code
def yX9_bits : MethodName := ⟨RX9, "bits", "(I)I"⟩
abbrev cX9_isBarred : ByteArray := prog_11_method_37_code
def yX9_isBarred : MethodName := ⟨RX9, "isBarred", "(II)Z"⟩
abbrev cX9_bond : ByteArray := prog_11_method_38_code
def yX9_bond : MethodName := ⟨RX9, "bond", "(I)I"⟩
abbrev cX9_take : ByteArray := prog_11_method_39_code
def yX9_take : MethodName := ⟨RX9, "take", "(I)I"⟩
abbrev cX9_ready : ByteArray := prog_11_method_40_code
def yX9_ready : MethodName := ⟨RX9, "ready", "()I"⟩
abbrev cX9_lays : ByteArray := prog_11_method_41_code
def yX9_lays : MethodName := ⟨RX9, "lays", "()V"⟩
abbrev cX9_firstOf : ByteArray := prog_11_method_42_code
def yX9_firstOf : MethodName := ⟨RX9, "firstOf", "(I)I"⟩
abbrev cX9_left : ByteArray := prog_11_method_43_code
def yX9_left : MethodName := ⟨RX9, "left", "(I)I"⟩
abbrev cX9_stuck : ByteArray := prog_11_method_44_code
def yX9_stuck : MethodName := ⟨RX9, "stuck", "()I"⟩
abbrev cX9_order : ByteArray := prog_11_method_45_code
def yX9_order : MethodName := ⟨RX9, "order", "(I)I"⟩
abbrev cX9_orders : ByteArray := prog_11_method_46_code
def yX9_orders : MethodName := ⟨RX9, "orders", "()I"⟩
abbrev cX9_isWell : ByteArray := prog_11_method_47_code
def yX9_isWell : MethodName := ⟨RX9, "isWell", "(I)Z"⟩
abbrev cX9_loopOf : ByteArray := prog_11_method_48_code
def yX9_loopOf : MethodName := ⟨RX9, "loopOf", "(I)I"⟩
abbrev cX9_loop : ByteArray := prog_11_method_49_code
def yX9_loop : MethodName := ⟨RX9, "loop", "(I)I"⟩
abbrev cX9_mend : ByteArray := prog_11_method_50_code
def yX9_mend : MethodName := ⟨RX9, "mend", "(I)I"⟩
abbrev cX9_isSight : ByteArray := prog_11_method_51_code
def yX9_isSight : MethodName := ⟨RX9, "isSight", "(III)Z"⟩
abbrev cX9_seen : ByteArray := prog_11_method_52_code
def yX9_seen : MethodName := ⟨RX9, "seen", "(IIII)I"⟩
abbrev cX9_sees : ByteArray := prog_11_method_53_code
def yX9_sees : MethodName := ⟨RX9, "sees", "(III)I"⟩
abbrev cX9_eye : ByteArray := prog_11_method_54_code
def yX9_eye : MethodName := ⟨RX9, "eye", "(IIIII)I"⟩
abbrev cX9_forget : ByteArray := prog_11_method_55_code
def yX9_forget : MethodName := ⟨RX9, "forget", "()I"⟩
abbrev cX9_explains : ByteArray := prog_11_method_56_code
def yX9_explains : MethodName := ⟨RX9, "explains", "(I)I"⟩
abbrev cX9_pairsThat : ByteArray := prog_11_method_57_code
def yX9_pairsThat : MethodName := ⟨RX9, "pairsThat", "(I)I"⟩
abbrev cX9_count : ByteArray := prog_11_method_58_code
def yX9_count : MethodName := ⟨RX9, "count", "(I)I"⟩
def RJ6 : String := "java/lang/Integer"
abbrev cJ6_compare_7cf53 : ByteArray := prog_12_method_40_code
def yJ6_compare_7cf53 : MethodName := ⟨RJ6, "compare", "(II)I"⟩
abbrev cJ6_bitCount_0f7a4 : ByteArray := prog_12_method_49_code
def yJ6_bitCount_0f7a4 : MethodName := ⟨RJ6, "bitCount", "(I)I"⟩
def RJ9 : String := "java/lang/Math"
abbrev cJ9_abs_0f7a4 : ByteArray := prog_13_method_59_code
def yJ9_abs_0f7a4 : MethodName := ⟨RJ9, "abs", "(I)I"⟩
abbrev cJ9_min_7cf53 : ByteArray := prog_13_method_69_code
def yJ9_min_7cf53 : MethodName := ⟨RJ9, "min", "(II)I"⟩
def RJ0 : String := "java/lang/String"
abbrev cJ0_length_8abf5 : ByteArray := prog_14_method_54_code
def yJ0_length_8abf5 : MethodName := ⟨RJ0, "length", "()I"⟩
abbrev cJ0_charAt_5068e : ByteArray := prog_14_method_56_code
def yJ0_charAt_5068e : MethodName := ⟨RJ0, "charAt", "(I)C"⟩
abbrev cJ0_coder_7d493 : ByteArray := prog_14_method_152_code
def yJ0_coder_7d493 : MethodName := ⟨RJ0, "coder", "()B"⟩
abbrev cJ0_isLatin1_aae02 : ByteArray := prog_14_method_154_code
def yJ0_isLatin1_aae02 : MethodName := ⟨RJ0, "isLatin1", "()Z"⟩
abbrev cJ0_checkIndex_df160 : ByteArray := prog_14_method_155_code
def yJ0_checkIndex_df160 : MethodName := ⟨RJ0, "checkIndex", "(II)V"⟩
def RJ1 : String := "java/lang/StringLatin1"
abbrev cJ1_charAt_3b067 : ByteArray := prog_15_method_2_code
def yJ1_charAt_3b067 : MethodName := ⟨RJ1, "charAt", "([BI)C"⟩
def RJ2 : String := "java/lang/StringUTF16"
abbrev cJ2_getChar_3b067 : ByteArray := prog_16_method_5_code
def yJ2_getChar_3b067 : MethodName := ⟨RJ2, "getChar", "([BI)C"⟩
abbrev cJ2_length_9d52b : ByteArray := prog_16_method_6_code
def yJ2_length_9d52b : MethodName := ⟨RJ2, "length", "([B)I"⟩
abbrev cJ2_charAt_3b067 : ByteArray := prog_16_method_83_code
def yJ2_charAt_3b067 : MethodName := ⟨RJ2, "charAt", "([BI)C"⟩
abbrev cJ2_checkIndex_2214a : ByteArray := prog_16_method_91_code
def yJ2_checkIndex_2214a : MethodName := ⟨RJ2, "checkIndex", "(I[B)V"⟩
def RJ10 : String := "java/lang/System"
def RJ3 : String := "jdk/internal/util/Preconditions"
abbrev cJ3_checkIndex_8e157 : ByteArray := prog_18_method_11_code
def yJ3_checkIndex_8e157 : MethodName := ⟨RJ3, "checkIndex", "(IILjava/util/function/BiFunction;)I"⟩
def RL : String := "BondedWiresLaw"
abbrev cL_law : ByteArray := code
def yL_law : MethodName := ⟨RL, "law", "([I)Z"⟩
abbrev vwCl : List vw_C := [(RX0, TX0, 3), (RX1, TX1, 6), (RX2, TX2, 7), (RX3, TX3, 3), (RX4, TX4, 4), (RX5, TX5, 6), (RX6, TX6, 2), (RX7, TX7, 6), (RX8, TX8, 8), (RX9, TX9, 16)]
