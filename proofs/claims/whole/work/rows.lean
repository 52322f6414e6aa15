section
-- the tables' words (the skeleton's part A), names and field tables (printed by program)
/-- a private method of a class that the tables say can be made, by its rows of tables_1 -/
def lw_okq (q : MethodName × Nat) : Prop := (q.1.cls ≠ "java/lang/invoke/MethodHandle" ∧ q.1.cls ≠ "java/lang/invoke/VarHandle") ∧ Cond.instantiable q.1.cls q.2 ∈ tables_1 ∧ Cond.privateMethod q.1 ∈ tables_1 ∧ Cond.instanceMethod q.1 ∈ tables_1
theorem lw_p0 : lw_okq (⟨"BondedWires", "layText", "()Z"⟩, 8) := ⟨⟨by decide +kernel, by decide +kernel⟩, List.mem_of_getElem? (i := 19) (by decide +kernel), List.mem_of_getElem? (i := 274) (by decide +kernel), List.mem_of_getElem? (i := 275) (by decide +kernel)⟩
theorem lw_p1 : lw_okq (⟨"BondedWires$Draft", "readItem", "(LBondedWires$Text;)Z"⟩, 6) := ⟨⟨by decide +kernel, by decide +kernel⟩, List.mem_of_getElem? (i := 43) (by decide +kernel), List.mem_of_getElem? (i := 287) (by decide +kernel), List.mem_of_getElem? (i := 288) (by decide +kernel)⟩
theorem lw_p2 : lw_okq (⟨"BondedWires$Draft", "readSpan", "(LBondedWires$Text;)Z"⟩, 6) := ⟨⟨by decide +kernel, by decide +kernel⟩, List.mem_of_getElem? (i := 43) (by decide +kernel), List.mem_of_getElem? (i := 295) (by decide +kernel), List.mem_of_getElem? (i := 296) (by decide +kernel)⟩
theorem lw_p3 : lw_okq (⟨"BondedWires$Draft", "readNumber", "(LBondedWires$Text;C)I"⟩, 6) := ⟨⟨by decide +kernel, by decide +kernel⟩, List.mem_of_getElem? (i := 43) (by decide +kernel), List.mem_of_getElem? (i := 299) (by decide +kernel), List.mem_of_getElem? (i := 300) (by decide +kernel)⟩
theorem lw_p4 : lw_okq (⟨"BondedWires$Draft", "readLimit", "(LBondedWires$Text;I)Z"⟩, 6) := ⟨⟨by decide +kernel, by decide +kernel⟩, List.mem_of_getElem? (i := 43) (by decide +kernel), List.mem_of_getElem? (i := 306) (by decide +kernel), List.mem_of_getElem? (i := 307) (by decide +kernel)⟩
theorem lw_p5 : lw_okq (⟨"BondedWires$Draft", "readWire", "(LBondedWires$Text;)Z"⟩, 6) := ⟨⟨by decide +kernel, by decide +kernel⟩, List.mem_of_getElem? (i := 43) (by decide +kernel), List.mem_of_getElem? (i := 312) (by decide +kernel), List.mem_of_getElem? (i := 313) (by decide +kernel)⟩
theorem lw_p6 : lw_okq (⟨"BondedWires$View", "fillPlaces", "(I)V"⟩, 6) := ⟨⟨by decide +kernel, by decide +kernel⟩, List.mem_of_getElem? (i := 119) (by decide +kernel), List.mem_of_getElem? (i := 337) (by decide +kernel), List.mem_of_getElem? (i := 338) (by decide +kernel)⟩
theorem lw_p7 : lw_okq (⟨"BondedWires$View", "heightBetween", "(IIII)I"⟩, 6) := ⟨⟨by decide +kernel, by decide +kernel⟩, List.mem_of_getElem? (i := 119) (by decide +kernel), List.mem_of_getElem? (i := 353) (by decide +kernel), List.mem_of_getElem? (i := 354) (by decide +kernel)⟩
theorem lw_p8 : lw_okq (⟨"BondedWires", "isWire", "(I)Z"⟩, 8) := ⟨⟨by decide +kernel, by decide +kernel⟩, List.mem_of_getElem? (i := 19) (by decide +kernel), List.mem_of_getElem? (i := 410) (by decide +kernel), List.mem_of_getElem? (i := 411) (by decide +kernel)⟩
theorem lw_p9 : lw_okq (⟨"BondedWires", "isRow", "(I)Z"⟩, 8) := ⟨⟨by decide +kernel, by decide +kernel⟩, List.mem_of_getElem? (i := 19) (by decide +kernel), List.mem_of_getElem? (i := 491) (by decide +kernel), List.mem_of_getElem? (i := 492) (by decide +kernel)⟩
theorem lw_p10 : lw_okq (⟨"BondedWires$View", "nearAt", "(III)Z"⟩, 6) := ⟨⟨by decide +kernel, by decide +kernel⟩, List.mem_of_getElem? (i := 119) (by decide +kernel), List.mem_of_getElem? (i := 511) (by decide +kernel), List.mem_of_getElem? (i := 512) (by decide +kernel)⟩
theorem lw_p11 : lw_okq (⟨"BondedWires$View", "findBlockers", "()V"⟩, 6) := ⟨⟨by decide +kernel, by decide +kernel⟩, List.mem_of_getElem? (i := 119) (by decide +kernel), List.mem_of_getElem? (i := 535) (by decide +kernel), List.mem_of_getElem? (i := 536) (by decide +kernel)⟩
theorem lw_p12 : lw_okq (⟨"BondedWires$View", "isOverEnd", "(I[III)Z"⟩, 6) := ⟨⟨by decide +kernel, by decide +kernel⟩, List.mem_of_getElem? (i := 119) (by decide +kernel), List.mem_of_getElem? (i := 543) (by decide +kernel), List.mem_of_getElem? (i := 544) (by decide +kernel)⟩
theorem lw_p13 : lw_okq (⟨"BondedWires", "canBeBonded", "(I)Z"⟩, 8) := ⟨⟨by decide +kernel, by decide +kernel⟩, List.mem_of_getElem? (i := 19) (by decide +kernel), List.mem_of_getElem? (i := 551) (by decide +kernel), List.mem_of_getElem? (i := 552) (by decide +kernel)⟩
theorem lw_p14 : lw_okq (⟨"BondedWires$Sequence", "lowestFree", "(I[I)I"⟩, 4) := ⟨⟨by decide +kernel, by decide +kernel⟩, List.mem_of_getElem? (i := 145) (by decide +kernel), List.mem_of_getElem? (i := 586) (by decide +kernel), List.mem_of_getElem? (i := 587) (by decide +kernel)⟩
theorem lw_p15 : lw_okq (⟨"BondedWires$Sequence", "waysOf", "(I[I)I"⟩, 4) := ⟨⟨by decide +kernel, by decide +kernel⟩, List.mem_of_getElem? (i := 145) (by decide +kernel), List.mem_of_getElem? (i := 602) (by decide +kernel), List.mem_of_getElem? (i := 603) (by decide +kernel)⟩
def lw_privs_1 : List (MethodName × Nat) := [(⟨"BondedWires", "layText", "()Z"⟩, 8), (⟨"BondedWires$Draft", "readItem", "(LBondedWires$Text;)Z"⟩, 6), (⟨"BondedWires$Draft", "readSpan", "(LBondedWires$Text;)Z"⟩, 6), (⟨"BondedWires$Draft", "readNumber", "(LBondedWires$Text;C)I"⟩, 6), (⟨"BondedWires$Draft", "readLimit", "(LBondedWires$Text;I)Z"⟩, 6), (⟨"BondedWires$Draft", "readWire", "(LBondedWires$Text;)Z"⟩, 6), (⟨"BondedWires$View", "fillPlaces", "(I)V"⟩, 6), (⟨"BondedWires$View", "heightBetween", "(IIII)I"⟩, 6), (⟨"BondedWires", "isWire", "(I)Z"⟩, 8), (⟨"BondedWires", "isRow", "(I)Z"⟩, 8), (⟨"BondedWires$View", "nearAt", "(III)Z"⟩, 6), (⟨"BondedWires$View", "findBlockers", "()V"⟩, 6), (⟨"BondedWires$View", "isOverEnd", "(I[III)Z"⟩, 6), (⟨"BondedWires", "canBeBonded", "(I)Z"⟩, 8), (⟨"BondedWires$Sequence", "lowestFree", "(I[I)I"⟩, 4), (⟨"BondedWires$Sequence", "waysOf", "(I[I)I"⟩, 4)]
theorem lw_r1 : ∀ q ∈ lw_privs_1, lw_okq q := List.forall_mem_cons.mpr ⟨lw_p0, List.forall_mem_cons.mpr ⟨lw_p1, List.forall_mem_cons.mpr ⟨lw_p2, List.forall_mem_cons.mpr ⟨lw_p3, List.forall_mem_cons.mpr ⟨lw_p4, List.forall_mem_cons.mpr ⟨lw_p5, List.forall_mem_cons.mpr ⟨lw_p6, List.forall_mem_cons.mpr ⟨lw_p7, List.forall_mem_cons.mpr ⟨lw_p8, List.forall_mem_cons.mpr ⟨lw_p9, List.forall_mem_cons.mpr ⟨lw_p10, List.forall_mem_cons.mpr ⟨lw_p11, List.forall_mem_cons.mpr ⟨lw_p12, List.forall_mem_cons.mpr ⟨lw_p13, List.forall_mem_cons.mpr ⟨lw_p14, List.forall_mem_cons.mpr ⟨lw_p15, fun _ h => absurd h List.not_mem_nil⟩⟩⟩⟩⟩⟩⟩⟩⟩⟩⟩⟩⟩⟩⟩⟩
theorem lw_p16 : lw_okq (⟨"BondedWires$LoopSearch", "findCloseRows", "(I)V"⟩, 7) := ⟨⟨by decide +kernel, by decide +kernel⟩, List.mem_of_getElem? (i := 164) (by decide +kernel), List.mem_of_getElem? (i := 618) (by decide +kernel), List.mem_of_getElem? (i := 619) (by decide +kernel)⟩
theorem lw_p17 : lw_okq (⟨"BondedWires$LoopSearch", "mends", "(III)Z"⟩, 7) := ⟨⟨by decide +kernel, by decide +kernel⟩, List.mem_of_getElem? (i := 164) (by decide +kernel), List.mem_of_getElem? (i := 628) (by decide +kernel), List.mem_of_getElem? (i := 629) (by decide +kernel)⟩
theorem lw_p18 : lw_okq (⟨"BondedWires$LoopSearch", "isNear", "(I)Z"⟩, 7) := ⟨⟨by decide +kernel, by decide +kernel⟩, List.mem_of_getElem? (i := 164) (by decide +kernel), List.mem_of_getElem? (i := 633) (by decide +kernel), List.mem_of_getElem? (i := 634) (by decide +kernel)⟩
theorem lw_p19 : lw_okq (⟨"BondedWires$LoopSearch", "isMutual", "(II)Z"⟩, 7) := ⟨⟨by decide +kernel, by decide +kernel⟩, List.mem_of_getElem? (i := 164) (by decide +kernel), List.mem_of_getElem? (i := 640) (by decide +kernel), List.mem_of_getElem? (i := 641) (by decide +kernel)⟩
theorem lw_p20 : lw_okq (⟨"BondedWires$Sights", "isExplainedBy", "(I)Z"⟩, 6) := ⟨⟨by decide +kernel, by decide +kernel⟩, List.mem_of_getElem? (i := 195) (by decide +kernel), List.mem_of_getElem? (i := 686) (by decide +kernel), List.mem_of_getElem? (i := 687) (by decide +kernel)⟩
theorem lw_p21 : lw_okq (⟨"BondedWiresModel", "reads", "()I"⟩, 16) := ⟨⟨by decide +kernel, by decide +kernel⟩, List.mem_of_getElem? (i := 721) (by decide +kernel), List.mem_of_getElem? (i := 788) (by decide +kernel), List.mem_of_getElem? (i := 789) (by decide +kernel)⟩
theorem lw_p22 : lw_okq (⟨"BondedWiresModel", "readsItem", "(II)Z"⟩, 16) := ⟨⟨by decide +kernel, by decide +kernel⟩, List.mem_of_getElem? (i := 721) (by decide +kernel), List.mem_of_getElem? (i := 792) (by decide +kernel), List.mem_of_getElem? (i := 793) (by decide +kernel)⟩
theorem lw_p23 : lw_okq (⟨"BondedWiresModel", "number", "(III)Z"⟩, 16) := ⟨⟨by decide +kernel, by decide +kernel⟩, List.mem_of_getElem? (i := 721) (by decide +kernel), List.mem_of_getElem? (i := 796) (by decide +kernel), List.mem_of_getElem? (i := 797) (by decide +kernel)⟩
theorem lw_p24 : lw_okq (⟨"BondedWiresModel", "letterAt", "(I)I"⟩, 16) := ⟨⟨by decide +kernel, by decide +kernel⟩, List.mem_of_getElem? (i := 721) (by decide +kernel), List.mem_of_getElem? (i := 800) (by decide +kernel), List.mem_of_getElem? (i := 801) (by decide +kernel)⟩
theorem lw_p25 : lw_okq (⟨"BondedWiresModel", "readsWire", "(I)Z"⟩, 16) := ⟨⟨by decide +kernel, by decide +kernel⟩, List.mem_of_getElem? (i := 721) (by decide +kernel), List.mem_of_getElem? (i := 807) (by decide +kernel), List.mem_of_getElem? (i := 808) (by decide +kernel)⟩
theorem lw_p26 : lw_okq (⟨"BondedWiresModel", "isWire", "(I)Z"⟩, 16) := ⟨⟨by decide +kernel, by decide +kernel⟩, List.mem_of_getElem? (i := 721) (by decide +kernel), List.mem_of_getElem? (i := 832) (by decide +kernel), List.mem_of_getElem? (i := 833) (by decide +kernel)⟩
theorem lw_p27 : lw_okq (⟨"BondedWiresModel", "becomes", "(II)I"⟩, 16) := ⟨⟨by decide +kernel, by decide +kernel⟩, List.mem_of_getElem? (i := 721) (by decide +kernel), List.mem_of_getElem? (i := 836) (by decide +kernel), List.mem_of_getElem? (i := 837) (by decide +kernel)⟩
theorem lw_p28 : lw_okq (⟨"BondedWiresModel", "notes", "()V"⟩, 16) := ⟨⟨by decide +kernel, by decide +kernel⟩, List.mem_of_getElem? (i := 721) (by decide +kernel), List.mem_of_getElem? (i := 840) (by decide +kernel), List.mem_of_getElem? (i := 841) (by decide +kernel)⟩
theorem lw_p29 : lw_okq (⟨"BondedWiresModel", "longOf", "(I)I"⟩, 16) := ⟨⟨by decide +kernel, by decide +kernel⟩, List.mem_of_getElem? (i := 721) (by decide +kernel), List.mem_of_getElem? (i := 857) (by decide +kernel), List.mem_of_getElem? (i := 858) (by decide +kernel)⟩
theorem lw_p30 : lw_okq (⟨"BondedWiresModel", "placeOf", "(II)I"⟩, 16) := ⟨⟨by decide +kernel, by decide +kernel⟩, List.mem_of_getElem? (i := 721) (by decide +kernel), List.mem_of_getElem? (i := 861) (by decide +kernel), List.mem_of_getElem? (i := 862) (by decide +kernel)⟩
theorem lw_p31 : lw_okq (⟨"BondedWiresModel", "heightOf", "(II)I"⟩, 16) := ⟨⟨by decide +kernel, by decide +kernel⟩, List.mem_of_getElem? (i := 721) (by decide +kernel), List.mem_of_getElem? (i := 868) (by decide +kernel), List.mem_of_getElem? (i := 869) (by decide +kernel)⟩
def lw_privs_2 : List (MethodName × Nat) := [(⟨"BondedWires$LoopSearch", "findCloseRows", "(I)V"⟩, 7), (⟨"BondedWires$LoopSearch", "mends", "(III)Z"⟩, 7), (⟨"BondedWires$LoopSearch", "isNear", "(I)Z"⟩, 7), (⟨"BondedWires$LoopSearch", "isMutual", "(II)Z"⟩, 7), (⟨"BondedWires$Sights", "isExplainedBy", "(I)Z"⟩, 6), (⟨"BondedWiresModel", "reads", "()I"⟩, 16), (⟨"BondedWiresModel", "readsItem", "(II)Z"⟩, 16), (⟨"BondedWiresModel", "number", "(III)Z"⟩, 16), (⟨"BondedWiresModel", "letterAt", "(I)I"⟩, 16), (⟨"BondedWiresModel", "readsWire", "(I)Z"⟩, 16), (⟨"BondedWiresModel", "isWire", "(I)Z"⟩, 16), (⟨"BondedWiresModel", "becomes", "(II)I"⟩, 16), (⟨"BondedWiresModel", "notes", "()V"⟩, 16), (⟨"BondedWiresModel", "longOf", "(I)I"⟩, 16), (⟨"BondedWiresModel", "placeOf", "(II)I"⟩, 16), (⟨"BondedWiresModel", "heightOf", "(II)I"⟩, 16)]
theorem lw_r2 : ∀ q ∈ lw_privs_2, lw_okq q := List.forall_mem_cons.mpr ⟨lw_p16, List.forall_mem_cons.mpr ⟨lw_p17, List.forall_mem_cons.mpr ⟨lw_p18, List.forall_mem_cons.mpr ⟨lw_p19, List.forall_mem_cons.mpr ⟨lw_p20, List.forall_mem_cons.mpr ⟨lw_p21, List.forall_mem_cons.mpr ⟨lw_p22, List.forall_mem_cons.mpr ⟨lw_p23, List.forall_mem_cons.mpr ⟨lw_p24, List.forall_mem_cons.mpr ⟨lw_p25, List.forall_mem_cons.mpr ⟨lw_p26, List.forall_mem_cons.mpr ⟨lw_p27, List.forall_mem_cons.mpr ⟨lw_p28, List.forall_mem_cons.mpr ⟨lw_p29, List.forall_mem_cons.mpr ⟨lw_p30, List.forall_mem_cons.mpr ⟨lw_p31, fun _ h => absurd h List.not_mem_nil⟩⟩⟩⟩⟩⟩⟩⟩⟩⟩⟩⟩⟩⟩⟩⟩
theorem lw_p32 : lw_okq (⟨"BondedWiresModel", "topOf", "(I)I"⟩, 16) := ⟨⟨by decide +kernel, by decide +kernel⟩, List.mem_of_getElem? (i := 721) (by decide +kernel), List.mem_of_getElem? (i := 872) (by decide +kernel), List.mem_of_getElem? (i := 873) (by decide +kernel)⟩
theorem lw_p33 : lw_okq (⟨"BondedWiresModel", "near", "(IIZ)I"⟩, 16) := ⟨⟨by decide +kernel, by decide +kernel⟩, List.mem_of_getElem? (i := 721) (by decide +kernel), List.mem_of_getElem? (i := 888) (by decide +kernel), List.mem_of_getElem? (i := 889) (by decide +kernel)⟩
theorem lw_p34 : lw_okq (⟨"BondedWiresModel", "areNear", "(III)Z"⟩, 16) := ⟨⟨by decide +kernel, by decide +kernel⟩, List.mem_of_getElem? (i := 721) (by decide +kernel), List.mem_of_getElem? (i := 892) (by decide +kernel), List.mem_of_getElem? (i := 893) (by decide +kernel)⟩
theorem lw_p35 : lw_okq (⟨"BondedWiresModel", "cross", "(II)Z"⟩, 16) := ⟨⟨by decide +kernel, by decide +kernel⟩, List.mem_of_getElem? (i := 721) (by decide +kernel), List.mem_of_getElem? (i := 896) (by decide +kernel), List.mem_of_getElem? (i := 897) (by decide +kernel)⟩
theorem lw_p36 : lw_okq (⟨"BondedWiresModel", "inWay", "(II)Z"⟩, 16) := ⟨⟨by decide +kernel, by decide +kernel⟩, List.mem_of_getElem? (i := 721) (by decide +kernel), List.mem_of_getElem? (i := 900) (by decide +kernel), List.mem_of_getElem? (i := 901) (by decide +kernel)⟩
theorem lw_p37 : lw_okq (⟨"BondedWiresModel", "inWayAt", "(III)Z"⟩, 16) := ⟨⟨by decide +kernel, by decide +kernel⟩, List.mem_of_getElem? (i := 721) (by decide +kernel), List.mem_of_getElem? (i := 904) (by decide +kernel), List.mem_of_getElem? (i := 905) (by decide +kernel)⟩
theorem lw_p38 : lw_okq (⟨"BondedWiresModel", "isBarred", "(II)Z"⟩, 16) := ⟨⟨by decide +kernel, by decide +kernel⟩, List.mem_of_getElem? (i := 721) (by decide +kernel), List.mem_of_getElem? (i := 912) (by decide +kernel), List.mem_of_getElem? (i := 913) (by decide +kernel)⟩
theorem lw_p39 : lw_okq (⟨"BondedWiresModel", "lays", "()V"⟩, 16) := ⟨⟨by decide +kernel, by decide +kernel⟩, List.mem_of_getElem? (i := 721) (by decide +kernel), List.mem_of_getElem? (i := 931) (by decide +kernel), List.mem_of_getElem? (i := 932) (by decide +kernel)⟩
theorem lw_p40 : lw_okq (⟨"BondedWiresModel", "left", "(I)I"⟩, 16) := ⟨⟨by decide +kernel, by decide +kernel⟩, List.mem_of_getElem? (i := 721) (by decide +kernel), List.mem_of_getElem? (i := 935) (by decide +kernel), List.mem_of_getElem? (i := 936) (by decide +kernel)⟩
theorem lw_p41 : lw_okq (⟨"BondedWiresModel", "firstOf", "(I)I"⟩, 16) := ⟨⟨by decide +kernel, by decide +kernel⟩, List.mem_of_getElem? (i := 721) (by decide +kernel), List.mem_of_getElem? (i := 939) (by decide +kernel), List.mem_of_getElem? (i := 940) (by decide +kernel)⟩
theorem lw_p42 : lw_okq (⟨"BondedWiresModel", "loopOf", "(I)I"⟩, 16) := ⟨⟨by decide +kernel, by decide +kernel⟩, List.mem_of_getElem? (i := 721) (by decide +kernel), List.mem_of_getElem? (i := 956) (by decide +kernel), List.mem_of_getElem? (i := 957) (by decide +kernel)⟩
theorem lw_p43 : lw_okq (⟨"BondedWiresModel", "isWell", "(I)Z"⟩, 16) := ⟨⟨by decide +kernel, by decide +kernel⟩, List.mem_of_getElem? (i := 721) (by decide +kernel), List.mem_of_getElem? (i := 960) (by decide +kernel), List.mem_of_getElem? (i := 961) (by decide +kernel)⟩
theorem lw_p44 : lw_okq (⟨"BondedWiresModel", "seen", "(IIII)I"⟩, 16) := ⟨⟨by decide +kernel, by decide +kernel⟩, List.mem_of_getElem? (i := 721) (by decide +kernel), List.mem_of_getElem? (i := 975) (by decide +kernel), List.mem_of_getElem? (i := 976) (by decide +kernel)⟩
theorem lw_p45 : lw_okq (⟨"BondedWiresModel", "pairsThat", "(I)I"⟩, 16) := ⟨⟨by decide +kernel, by decide +kernel⟩, List.mem_of_getElem? (i := 721) (by decide +kernel), List.mem_of_getElem? (i := 995) (by decide +kernel), List.mem_of_getElem? (i := 996) (by decide +kernel)⟩
def lw_privs_3 : List (MethodName × Nat) := [(⟨"BondedWiresModel", "topOf", "(I)I"⟩, 16), (⟨"BondedWiresModel", "near", "(IIZ)I"⟩, 16), (⟨"BondedWiresModel", "areNear", "(III)Z"⟩, 16), (⟨"BondedWiresModel", "cross", "(II)Z"⟩, 16), (⟨"BondedWiresModel", "inWay", "(II)Z"⟩, 16), (⟨"BondedWiresModel", "inWayAt", "(III)Z"⟩, 16), (⟨"BondedWiresModel", "isBarred", "(II)Z"⟩, 16), (⟨"BondedWiresModel", "lays", "()V"⟩, 16), (⟨"BondedWiresModel", "left", "(I)I"⟩, 16), (⟨"BondedWiresModel", "firstOf", "(I)I"⟩, 16), (⟨"BondedWiresModel", "loopOf", "(I)I"⟩, 16), (⟨"BondedWiresModel", "isWell", "(I)Z"⟩, 16), (⟨"BondedWiresModel", "seen", "(IIII)I"⟩, 16), (⟨"BondedWiresModel", "pairsThat", "(I)I"⟩, 16)]
theorem lw_r3 : ∀ q ∈ lw_privs_3, lw_okq q := List.forall_mem_cons.mpr ⟨lw_p32, List.forall_mem_cons.mpr ⟨lw_p33, List.forall_mem_cons.mpr ⟨lw_p34, List.forall_mem_cons.mpr ⟨lw_p35, List.forall_mem_cons.mpr ⟨lw_p36, List.forall_mem_cons.mpr ⟨lw_p37, List.forall_mem_cons.mpr ⟨lw_p38, List.forall_mem_cons.mpr ⟨lw_p39, List.forall_mem_cons.mpr ⟨lw_p40, List.forall_mem_cons.mpr ⟨lw_p41, List.forall_mem_cons.mpr ⟨lw_p42, List.forall_mem_cons.mpr ⟨lw_p43, List.forall_mem_cons.mpr ⟨lw_p44, List.forall_mem_cons.mpr ⟨lw_p45, fun _ h => absurd h List.not_mem_nil⟩⟩⟩⟩⟩⟩⟩⟩⟩⟩⟩⟩⟩⟩
def lw_privs : List (MethodName × Nat) := lw_privs_1 ++ (lw_privs_2 ++ (lw_privs_3))
def lw_tbl : List Cond := k2_sels lw_privs ++ tables_1
theorem lw_privs_ok : ∀ q ∈ lw_privs, lw_okq q := by
  show ∀ q ∈ lw_privs_1 ++ (lw_privs_2 ++ (lw_privs_3)), lw_okq q
  exact List.forall_mem_append.mpr ⟨lw_r1, List.forall_mem_append.mpr ⟨lw_r2, lw_r3⟩⟩
def RX0 : String := "BondedWires$Bench"
def TX0 : u_T := fun k => match k with
  | 0 => ("BondedWires$Bench", "now", "[I", true)
  | 1 => ("BondedWires$Bench", "span", "I", false)
  | _ => ("BondedWires$Bench", "wires", "I", false)
def tyX0 : Nat → FieldType := fun k => match k with
  | 0 => .array .int
  | 1 => .int
  | _ => .int
abbrev wsX00 : List Cond := u_ws RX0 TX0 3
theorem nmX0 : ∀ a, a < 3 → ∀ b, b < 3 → a ≠ b → (TX0 a).2.1 ≠ (TX0 b).2.1 := by decide +kernel
theorem tyX0_ok : ∀ k, k < 3 → parseFieldDescriptor (TX0 k).2.2.1 = some (tyX0 k) := by decide +kernel
abbrev cX0_init : ByteArray := prog_2_method_1_code
def yX0_init : MethodName := ⟨RX0, "<init>", "()V"⟩
abbrev cX0_layFrom : ByteArray := prog_2_method_2_code
def yX0_layFrom : MethodName := ⟨RX0, "layFrom", "(LBondedWires$Draft;)V"⟩
abbrev cX0_numberOf : ByteArray := prog_2_method_3_code
def yX0_numberOf : MethodName := ⟨RX0, "numberOf", "(II)I"⟩
abbrev cX0_tellNumber : ByteArray := prog_2_method_4_code
def yX0_tellNumber : MethodName := ⟨RX0, "tellNumber", "(III)V"⟩
abbrev cX0_limitOf : ByteArray := prog_2_method_5_code
def yX0_limitOf : MethodName := ⟨RX0, "limitOf", "(I)I"⟩
abbrev cX0_tellLimit : ByteArray := prog_2_method_6_code
def yX0_tellLimit : MethodName := ⟨RX0, "tellLimit", "(II)V"⟩
abbrev cX0_shiftNow : ByteArray := prog_2_method_7_code
def yX0_shiftNow : MethodName := ⟨RX0, "shiftNow", "()I"⟩
abbrev cX0_tellShift : ByteArray := prog_2_method_8_code
def yX0_tellShift : MethodName := ⟨RX0, "tellShift", "(I)V"⟩
abbrev cX0_bonded : ByteArray := prog_2_method_9_code
def yX0_bonded : MethodName := ⟨RX0, "bonded", "()I"⟩
abbrev cX0_tellBonded : ByteArray := prog_2_method_10_code
def yX0_tellBonded : MethodName := ⟨RX0, "tellBonded", "(I)V"⟩
abbrev cX0_isBonded : ByteArray := prog_2_method_11_code
def yX0_isBonded : MethodName := ⟨RX0, "isBonded", "(I)Z"⟩
def RX1 : String := "BondedWires$Draft"
def TX1 : u_T := fun k => match k with
  | 0 => ("BondedWires$Draft", "numbers", "[I", true)
  | 1 => ("BondedWires$Draft", "limits", "[I", true)
  | 2 => ("BondedWires$Draft", "span", "I", false)
  | 3 => ("BondedWires$Draft", "wires", "I", false)
  | 4 => ("BondedWires$Draft", "firstFault", "I", false)
  | _ => ("BondedWires$Draft", "at", "I", false)
def tyX1 : Nat → FieldType := fun k => match k with
  | 0 => .array .int
  | 1 => .array .int
  | 2 => .int
  | 3 => .int
  | 4 => .int
  | _ => .int
abbrev wsX10 : List Cond := u_ws RX1 TX1 6
theorem nmX1 : ∀ a, a < 6 → ∀ b, b < 6 → a ≠ b → (TX1 a).2.1 ≠ (TX1 b).2.1 := by decide +kernel
theorem tyX1_ok : ∀ k, k < 6 → parseFieldDescriptor (TX1 k).2.2.1 = some (tyX1 k) := by decide +kernel
abbrev cX1_init : ByteArray := prog_3_method_1_code
def yX1_init : MethodName := ⟨RX1, "<init>", "()V"⟩
abbrev cX1_read : ByteArray := prog_3_method_2_code
def yX1_read : MethodName := ⟨RX1, "read", "(LBondedWires$Text;)V"⟩
abbrev cX1_readItem : ByteArray := prog_3_method_3_code
def yX1_readItem : MethodName := ⟨RX1, "readItem", "(LBondedWires$Text;)Z"⟩
abbrev cX1_readSpan : ByteArray := prog_3_method_4_code
def yX1_readSpan : MethodName := ⟨RX1, "readSpan", "(LBondedWires$Text;)Z"⟩
abbrev cX1_readLimit : ByteArray := prog_3_method_5_code
def yX1_readLimit : MethodName := ⟨RX1, "readLimit", "(LBondedWires$Text;I)Z"⟩
abbrev cX1_readWire : ByteArray := prog_3_method_6_code
def yX1_readWire : MethodName := ⟨RX1, "readWire", "(LBondedWires$Text;)Z"⟩
abbrev cX1_readNumber : ByteArray := prog_3_method_7_code
def yX1_readNumber : MethodName := ⟨RX1, "readNumber", "(LBondedWires$Text;C)I"⟩
abbrev cX1_figure : ByteArray := prog_3_method_8_code
def yX1_figure : MethodName := ⟨RX1, "figure", "(C)I"⟩
def RX2 : String := "BondedWires$LoopSearch"
def TX2 : u_T := fun k => match k with
  | 0 => ("BondedWires$LoopSearch", "bench", "LBondedWires$Bench;", true)
  | 1 => ("BondedWires$LoopSearch", "view", "LBondedWires$View;", true)
  | 2 => ("BondedWires$LoopSearch", "trial", "[I", true)
  | 3 => ("BondedWires$LoopSearch", "closeRows", "[J", true)
  | 4 => ("BondedWires$LoopSearch", "blockers", "I", false)
  | 5 => ("BondedWires$LoopSearch", "shape", "I", false)
  | _ => ("BondedWires$LoopSearch", "peak", "I", false)
def tyX2 : Nat → FieldType := fun k => match k with
  | 0 => .object "BondedWires$Bench"
  | 1 => .object "BondedWires$View"
  | 2 => .array .int
  | 3 => .array .long
  | 4 => .int
  | 5 => .int
  | _ => .int
abbrev wsX20 : List Cond := u_ws RX2 TX2 7
theorem nmX2 : ∀ a, a < 7 → ∀ b, b < 7 → a ≠ b → (TX2 a).2.1 ≠ (TX2 b).2.1 := by decide +kernel
theorem tyX2_ok : ∀ k, k < 7 → parseFieldDescriptor (TX2 k).2.2.1 = some (tyX2 k) := by decide +kernel
abbrev cX2_init : ByteArray := prog_4_method_1_code
def yX2_init : MethodName := ⟨RX2, "<init>", "(LBondedWires$Bench;LBondedWires$View;)V"⟩
abbrev cX2_find : ByteArray := prog_4_method_2_code
def yX2_find : MethodName := ⟨RX2, "find", "(I)Z"⟩
abbrev cX2_findCloseRows : ByteArray := prog_4_method_3_code
def yX2_findCloseRows : MethodName := ⟨RX2, "findCloseRows", "(I)V"⟩
abbrev cX2_shapeAtTurn : ByteArray := prog_4_method_4_code
def yX2_shapeAtTurn : MethodName := ⟨RX2, "shapeAtTurn", "(II)I"⟩
abbrev cX2_mends : ByteArray := prog_4_method_5_code
def yX2_mends : MethodName := ⟨RX2, "mends", "(III)Z"⟩
abbrev cX2_isNear : ByteArray := prog_4_method_6_code
def yX2_isNear : MethodName := ⟨RX2, "isNear", "(I)Z"⟩
abbrev cX2_isMutual : ByteArray := prog_4_method_7_code
def yX2_isMutual : MethodName := ⟨RX2, "isMutual", "(II)Z"⟩
def RX3 : String := "BondedWires$Past"
def TX3 : u_T := fun k => match k with
  | 0 => ("BondedWires$Past", "rows", "[[I", true)
  | 1 => ("BondedWires$Past", "next", "I", false)
  | _ => ("BondedWires$Past", "held", "I", false)
def tyX3 : Nat → FieldType := fun k => match k with
  | 0 => .array (.array .int)
  | 1 => .int
  | _ => .int
abbrev wsX30 : List Cond := u_ws RX3 TX3 3
theorem nmX3 : ∀ a, a < 3 → ∀ b, b < 3 → a ≠ b → (TX3 a).2.1 ≠ (TX3 b).2.1 := by decide +kernel
theorem tyX3_ok : ∀ k, k < 3 → parseFieldDescriptor (TX3 k).2.2.1 = some (tyX3 k) := by decide +kernel
abbrev cX3_init : ByteArray := prog_5_method_1_code
def yX3_init : MethodName := ⟨RX3, "<init>", "()V"⟩
abbrev cX3_clear : ByteArray := prog_5_method_2_code
def yX3_clear : MethodName := ⟨RX3, "clear", "()V"⟩
abbrev cX3_keep : ByteArray := prog_5_method_3_code
def yX3_keep : MethodName := ⟨RX3, "keep", "(LBondedWires$Bench;)V"⟩
abbrev cX3_giveBack : ByteArray := prog_5_method_4_code
def yX3_giveBack : MethodName := ⟨RX3, "giveBack", "(LBondedWires$Bench;)V"⟩
def RX4 : String := "BondedWires$Sequence"
def TX4 : u_T := fun k => match k with
  | 0 => ("BondedWires$Sequence", "bench", "LBondedWires$Bench;", true)
  | 1 => ("BondedWires$Sequence", "view", "LBondedWires$View;", true)
  | 2 => ("BondedWires$Sequence", "wiresInOrder", "[I", true)
  | _ => ("BondedWires$Sequence", "ways", "[I", true)
def tyX4 : Nat → FieldType := fun k => match k with
  | 0 => .object "BondedWires$Bench"
  | 1 => .object "BondedWires$View"
  | 2 => .array .int
  | _ => .array .int
abbrev wsX40 : List Cond := u_ws RX4 TX4 4
theorem nmX4 : ∀ a, a < 4 → ∀ b, b < 4 → a ≠ b → (TX4 a).2.1 ≠ (TX4 b).2.1 := by decide +kernel
theorem tyX4_ok : ∀ k, k < 4 → parseFieldDescriptor (TX4 k).2.2.1 = some (tyX4 k) := by decide +kernel
abbrev cX4_init : ByteArray := prog_6_method_1_code
def yX4_init : MethodName := ⟨RX4, "<init>", "(LBondedWires$Bench;LBondedWires$View;)V"⟩
abbrev cX4_arrange : ByteArray := prog_6_method_2_code
def yX4_arrange : MethodName := ⟨RX4, "arrange", "()I"⟩
abbrev cX4_lowestFree : ByteArray := prog_6_method_3_code
def yX4_lowestFree : MethodName := ⟨RX4, "lowestFree", "(I[I)I"⟩
abbrev cX4_wireAt : ByteArray := prog_6_method_4_code
def yX4_wireAt : MethodName := ⟨RX4, "wireAt", "(I)I"⟩
abbrev cX4_howMany : ByteArray := prog_6_method_5_code
def yX4_howMany : MethodName := ⟨RX4, "howMany", "()I"⟩
abbrev cX4_waysOf : ByteArray := prog_6_method_6_code
def yX4_waysOf : MethodName := ⟨RX4, "waysOf", "(I[I)I"⟩
def RX5 : String := "BondedWires$Sights"
def TX5 : u_T := fun k => match k with
  | 0 => ("BondedWires$Sights", "bench", "LBondedWires$Bench;", true)
  | 1 => ("BondedWires$Sights", "told", "[Z", true)
  | 2 => ("BondedWires$Sights", "tiers", "[I", true)
  | 3 => ("BondedWires$Sights", "firsts", "[I", true)
  | 4 => ("BondedWires$Sights", "lasts", "[I", true)
  | _ => ("BondedWires$Sights", "saw", "[I", true)
def tyX5 : Nat → FieldType := fun k => match k with
  | 0 => .object "BondedWires$Bench"
  | 1 => .array .boolean
  | 2 => .array .int
  | 3 => .array .int
  | 4 => .array .int
  | _ => .array .int
abbrev wsX50 : List Cond := u_ws RX5 TX5 6
theorem nmX5 : ∀ a, a < 6 → ∀ b, b < 6 → a ≠ b → (TX5 a).2.1 ≠ (TX5 b).2.1 := by decide +kernel
theorem tyX5_ok : ∀ k, k < 6 → parseFieldDescriptor (TX5 k).2.2.1 = some (tyX5 k) := by decide +kernel
abbrev cX5_init : ByteArray := prog_7_method_1_code
def yX5_init : MethodName := ⟨RX5, "<init>", "(LBondedWires$Bench;)V"⟩
abbrev cX5_clear : ByteArray := prog_7_method_2_code
def yX5_clear : MethodName := ⟨RX5, "clear", "()V"⟩
abbrev cX5_tell : ByteArray := prog_7_method_3_code
def yX5_tell : MethodName := ⟨RX5, "tell", "(IIIII)V"⟩
abbrev cX5_howMany : ByteArray := prog_7_method_4_code
def yX5_howMany : MethodName := ⟨RX5, "howMany", "()I"⟩
abbrev cX5_seen : ByteArray := prog_7_method_5_code
def yX5_seen : MethodName := ⟨RX5, "seen", "(IIII)I"⟩
abbrev cX5_shiftsThatExplain : ByteArray := prog_7_method_6_code
def yX5_shiftsThatExplain : MethodName := ⟨RX5, "shiftsThatExplain", "()I"⟩
abbrev cX5_nearestShift : ByteArray := prog_7_method_7_code
def yX5_nearestShift : MethodName := ⟨RX5, "nearestShift", "()I"⟩
abbrev cX5_isExplainedBy : ByteArray := prog_7_method_8_code
def yX5_isExplainedBy : MethodName := ⟨RX5, "isExplainedBy", "(I)Z"⟩
def RX6 : String := "BondedWires$Text"
def TX6 : u_T := fun k => match k with
  | 0 => ("BondedWires$Text", "letters", "[C", true)
  | _ => ("BondedWires$Text", "length", "I", false)
def tyX6 : Nat → FieldType := fun k => match k with
  | 0 => .array .char
  | _ => .int
abbrev wsX60 : List Cond := u_ws RX6 TX6 2
theorem nmX6 : ∀ a, a < 2 → ∀ b, b < 2 → a ≠ b → (TX6 a).2.1 ≠ (TX6 b).2.1 := by decide +kernel
theorem tyX6_ok : ∀ k, k < 2 → parseFieldDescriptor (TX6 k).2.2.1 = some (tyX6 k) := by decide +kernel
abbrev cX6_init : ByteArray := prog_8_method_1_code
def yX6_init : MethodName := ⟨RX6, "<init>", "()V"⟩
abbrev cX6_append : ByteArray := prog_8_method_2_code
def yX6_append : MethodName := ⟨RX6, "append", "(C)Z"⟩
abbrev cX6_clear : ByteArray := prog_8_method_3_code
def yX6_clear : MethodName := ⟨RX6, "clear", "()V"⟩
abbrev cX6_letterAt : ByteArray := prog_8_method_4_code
def yX6_letterAt : MethodName := ⟨RX6, "letterAt", "(I)C"⟩
def RX7 : String := "BondedWires$View"
def TX7 : u_T := fun k => match k with
  | 0 => ("BondedWires$View", "bench", "LBondedWires$Bench;", true)
  | 1 => ("BondedWires$View", "places", "[[I", true)
  | 2 => ("BondedWires$View", "heights", "[[I", true)
  | 3 => ("BondedWires$View", "blockers", "[I", true)
  | 4 => ("BondedWires$View", "blocked", "[I", true)
  | _ => ("BondedWires$View", "blockersKnown", "Z", false)
def tyX7 : Nat → FieldType := fun k => match k with
  | 0 => .object "BondedWires$Bench"
  | 1 => .array (.array .int)
  | 2 => .array (.array .int)
  | 3 => .array .int
  | 4 => .array .int
  | _ => .boolean
abbrev wsX70 : List Cond := u_ws RX7 TX7 6
theorem nmX7 : ∀ a, a < 6 → ∀ b, b < 6 → a ≠ b → (TX7 a).2.1 ≠ (TX7 b).2.1 := by decide +kernel
theorem tyX7_ok : ∀ k, k < 6 → parseFieldDescriptor (TX7 k).2.2.1 = some (tyX7 k) := by decide +kernel
abbrev cX7_init : ByteArray := prog_9_method_1_code
def yX7_init : MethodName := ⟨RX7, "<init>", "(LBondedWires$Bench;)V"⟩
abbrev cX7_refresh : ByteArray := prog_9_method_2_code
def yX7_refresh : MethodName := ⟨RX7, "refresh", "()V"⟩
abbrev cX7_fillPlaces : ByteArray := prog_9_method_3_code
def yX7_fillPlaces : MethodName := ⟨RX7, "fillPlaces", "(I)V"⟩
abbrev cX7_fillHeights : ByteArray := prog_9_method_4_code
def yX7_fillHeights : MethodName := ⟨RX7, "fillHeights", "([IIII)V"⟩
abbrev cX7_heightBetween : ByteArray := prog_9_method_5_code
def yX7_heightBetween : MethodName := ⟨RX7, "heightBetween", "(IIII)I"⟩
abbrev cX7_cut : ByteArray := prog_9_method_6_code
def yX7_cut : MethodName := ⟨RX7, "cut", "(II)I"⟩
abbrev cX7_placeOf : ByteArray := prog_9_method_7_code
def yX7_placeOf : MethodName := ⟨RX7, "placeOf", "(II)I"⟩
abbrev cX7_heightOf : ByteArray := prog_9_method_8_code
def yX7_heightOf : MethodName := ⟨RX7, "heightOf", "(II)I"⟩
abbrev cX7_longOf : ByteArray := prog_9_method_9_code
def yX7_longOf : MethodName := ⟨RX7, "longOf", "(I)I"⟩
abbrev cX7_longOfAll : ByteArray := prog_9_method_10_code
def yX7_longOfAll : MethodName := ⟨RX7, "longOfAll", "()I"⟩
abbrev cX7_topRow : ByteArray := prog_9_method_11_code
def yX7_topRow : MethodName := ⟨RX7, "topRow", "(I)I"⟩
abbrev cX7_closeAt : ByteArray := prog_9_method_12_code
def yX7_closeAt : MethodName := ⟨RX7, "closeAt", "(III)Z"⟩
abbrev cX7_nearAt : ByteArray := prog_9_method_13_code
def yX7_nearAt : MethodName := ⟨RX7, "nearAt", "(III)Z"⟩
abbrev cX7_firstNear : ByteArray := prog_9_method_14_code
def yX7_firstNear : MethodName := ⟨RX7, "firstNear", "(II)I"⟩
abbrev cX7_nearRows : ByteArray := prog_9_method_15_code
def yX7_nearRows : MethodName := ⟨RX7, "nearRows", "(II)I"⟩
abbrev cX7_cross : ByteArray := prog_9_method_16_code
def yX7_cross : MethodName := ⟨RX7, "cross", "(II)Z"⟩
abbrev cX7_nearPairs : ByteArray := prog_9_method_17_code
def yX7_nearPairs : MethodName := ⟨RX7, "nearPairs", "()I"⟩
abbrev cX7_crossPairs : ByteArray := prog_9_method_18_code
def yX7_crossPairs : MethodName := ⟨RX7, "crossPairs", "()I"⟩
abbrev cX7_blockedPairs : ByteArray := prog_9_method_19_code
def yX7_blockedPairs : MethodName := ⟨RX7, "blockedPairs", "()I"⟩
abbrev cX7_blockersOf : ByteArray := prog_9_method_20_code
def yX7_blockersOf : MethodName := ⟨RX7, "blockersOf", "(I)I"⟩
abbrev cX7_blockedByEach : ByteArray := prog_9_method_21_code
def yX7_blockedByEach : MethodName := ⟨RX7, "blockedByEach", "()[I"⟩
abbrev cX7_findBlockers : ByteArray := prog_9_method_22_code
def yX7_findBlockers : MethodName := ⟨RX7, "findBlockers", "()V"⟩
abbrev cX7_isInTheWay : ByteArray := prog_9_method_23_code
def yX7_isInTheWay : MethodName := ⟨RX7, "isInTheWay", "(I[II)Z"⟩
abbrev cX7_isOverEnd : ByteArray := prog_9_method_24_code
def yX7_isOverEnd : MethodName := ⟨RX7, "isOverEnd", "(I[III)Z"⟩
def RX8 : String := "BondedWires"
def TX8 : u_T := fun k => match k with
  | 0 => ("BondedWires", "text", "LBondedWires$Text;", true)
  | 1 => ("BondedWires", "draft", "LBondedWires$Draft;", true)
  | 2 => ("BondedWires", "bench", "LBondedWires$Bench;", true)
  | 3 => ("BondedWires", "past", "LBondedWires$Past;", true)
  | 4 => ("BondedWires", "view", "LBondedWires$View;", true)
  | 5 => ("BondedWires", "sequence", "LBondedWires$Sequence;", true)
  | 6 => ("BondedWires", "search", "LBondedWires$LoopSearch;", true)
  | _ => ("BondedWires", "sights", "LBondedWires$Sights;", true)
def tyX8 : Nat → FieldType := fun k => match k with
  | 0 => .object "BondedWires$Text"
  | 1 => .object "BondedWires$Draft"
  | 2 => .object "BondedWires$Bench"
  | 3 => .object "BondedWires$Past"
  | 4 => .object "BondedWires$View"
  | 5 => .object "BondedWires$Sequence"
  | 6 => .object "BondedWires$LoopSearch"
  | _ => .object "BondedWires$Sights"
abbrev wsX80 : List Cond := u_ws RX8 TX8 8
theorem nmX8 : ∀ a, a < 8 → ∀ b, b < 8 → a ≠ b → (TX8 a).2.1 ≠ (TX8 b).2.1 := by decide +kernel
theorem tyX8_ok : ∀ k, k < 8 → parseFieldDescriptor (TX8 k).2.2.1 = some (tyX8 k) := by decide +kernel
abbrev cX8_init : ByteArray := prog_1_method_1_code
def yX8_init : MethodName := ⟨RX8, "<init>", "()V"⟩
abbrev cX8_write : ByteArray := prog_1_method_2_code
def yX8_write : MethodName := ⟨RX8, "write", "(I)I"⟩
abbrev cX8_wipe : ByteArray := prog_1_method_3_code
def yX8_wipe : MethodName := ⟨RX8, "wipe", "()I"⟩
abbrev cX8_fault : ByteArray := prog_1_method_4_code
def yX8_fault : MethodName := ⟨RX8, "fault", "()I"⟩
abbrev cX8_lay : ByteArray := prog_1_method_5_code
def yX8_lay : MethodName := ⟨RX8, "lay", "()I"⟩
abbrev cX8_set : ByteArray := prog_1_method_6_code
def yX8_set : MethodName := ⟨RX8, "set", "(III)I"⟩
abbrev cX8_limit : ByteArray := prog_1_method_7_code
def yX8_limit : MethodName := ⟨RX8, "limit", "(II)I"⟩
abbrev cX8_shift : ByteArray := prog_1_method_8_code
def yX8_shift : MethodName := ⟨RX8, "shift", "(I)I"⟩
abbrev cX8_undo : ByteArray := prog_1_method_9_code
def yX8_undo : MethodName := ⟨RX8, "undo", "()I"⟩
abbrev cX8_wire : ByteArray := prog_1_method_10_code
def yX8_wire : MethodName := ⟨RX8, "wire", "(II)I"⟩
abbrev cX8_place : ByteArray := prog_1_method_11_code
def yX8_place : MethodName := ⟨RX8, "place", "(II)I"⟩
abbrev cX8_height : ByteArray := prog_1_method_12_code
def yX8_height : MethodName := ⟨RX8, "height", "(II)I"⟩
abbrev cX8_pair : ByteArray := prog_1_method_13_code
def yX8_pair : MethodName := ⟨RX8, "pair", "(III)I"⟩
abbrev cX8_bond : ByteArray := prog_1_method_14_code
def yX8_bond : MethodName := ⟨RX8, "bond", "(I)I"⟩
abbrev cX8_take : ByteArray := prog_1_method_15_code
def yX8_take : MethodName := ⟨RX8, "take", "(I)I"⟩
abbrev cX8_ready : ByteArray := prog_1_method_16_code
def yX8_ready : MethodName := ⟨RX8, "ready", "()I"⟩
abbrev cX8_order : ByteArray := prog_1_method_17_code
def yX8_order : MethodName := ⟨RX8, "order", "(I)I"⟩
abbrev cX8_orders : ByteArray := prog_1_method_18_code
def yX8_orders : MethodName := ⟨RX8, "orders", "()I"⟩
abbrev cX8_stuck : ByteArray := prog_1_method_19_code
def yX8_stuck : MethodName := ⟨RX8, "stuck", "()I"⟩
abbrev cX8_loop : ByteArray := prog_1_method_20_code
def yX8_loop : MethodName := ⟨RX8, "loop", "(I)I"⟩
abbrev cX8_mend : ByteArray := prog_1_method_21_code
def yX8_mend : MethodName := ⟨RX8, "mend", "(I)I"⟩
abbrev cX8_sees : ByteArray := prog_1_method_22_code
def yX8_sees : MethodName := ⟨RX8, "sees", "(III)I"⟩
abbrev cX8_eye : ByteArray := prog_1_method_23_code
def yX8_eye : MethodName := ⟨RX8, "eye", "(IIIII)I"⟩
abbrev cX8_forget : ByteArray := prog_1_method_24_code
def yX8_forget : MethodName := ⟨RX8, "forget", "()I"⟩
abbrev cX8_explains : ByteArray := prog_1_method_25_code
def yX8_explains : MethodName := ⟨RX8, "explains", "(I)I"⟩
abbrev cX8_count : ByteArray := prog_1_method_26_code
def yX8_count : MethodName := ⟨RX8, "count", "(I)I"⟩
abbrev cX8_layText : ByteArray := prog_1_method_27_code
def yX8_layText : MethodName := ⟨RX8, "layText", "()Z"⟩
abbrev cX8_isWire : ByteArray := prog_1_method_28_code
def yX8_isWire : MethodName := ⟨RX8, "isWire", "(I)Z"⟩
abbrev cX8_isRow : ByteArray := prog_1_method_29_code
def yX8_isRow : MethodName := ⟨RX8, "isRow", "(I)Z"⟩
abbrev cX8_canBeBonded : ByteArray := prog_1_method_30_code
def yX8_canBeBonded : MethodName := ⟨RX8, "canBeBonded", "(I)Z"⟩
abbrev cX8_isLook : ByteArray := prog_1_method_31_code
def yX8_isLook : MethodName := ⟨RX8, "isLook", "(III)Z"⟩
def RX9 : String := "BondedWiresModel"
def TX9 : u_T := fun k => match k with
  | 0 => ("BondedWiresModel", "length", "I", false)
  | 1 => ("BondedWiresModel", "text", "[I", true)
  | 2 => ("BondedWiresModel", "span", "I", false)
  | 3 => ("BondedWiresModel", "wires", "I", false)
  | 4 => ("BondedWiresModel", "h", "[I", true)
  | 5 => ("BondedWiresModel", "was", "[I", true)
  | 6 => ("BondedWiresModel", "changes", "I", false)
  | 7 => ("BondedWiresModel", "readSpan", "I", false)
  | 8 => ("BondedWiresModel", "readWires", "I", false)
  | 9 => ("BondedWiresModel", "read", "[I", true)
  | 10 => ("BondedWiresModel", "value", "I", false)
  | 11 => ("BondedWiresModel", "ends", "I", false)
  | 12 => ("BondedWiresModel", "eyes", "[I", true)
  | 13 => ("BondedWiresModel", "firstWires", "[I", true)
  | 14 => ("BondedWiresModel", "bars", "[I", true)
  | _ => ("BondedWiresModel", "ways", "[I", true)
def tyX9 : Nat → FieldType := fun k => match k with
  | 0 => .int
  | 1 => .array .int
  | 2 => .int
  | 3 => .int
  | 4 => .array .int
  | 5 => .array .int
  | 6 => .int
  | 7 => .int
  | 8 => .int
  | 9 => .array .int
  | 10 => .int
  | 11 => .int
  | 12 => .array .int
  | 13 => .array .int
  | 14 => .array .int
  | _ => .array .int
abbrev wsX90 : List Cond := u_ws RX9 TX9 16
theorem nmX9 : ∀ a, a < 16 → ∀ b, b < 16 → a ≠ b → (TX9 a).2.1 ≠ (TX9 b).2.1 := by decide +kernel
theorem tyX9_ok : ∀ k, k < 16 → parseFieldDescriptor (TX9 k).2.2.1 = some (tyX9 k) := by decide +kernel
abbrev cX9_init : ByteArray := prog_11_method_1_code
def yX9_init : MethodName := ⟨RX9, "<init>", "()V"⟩
abbrev cX9_isIn : ByteArray := prog_11_method_2_code
def yX9_isIn : MethodName := ⟨RX9, "isIn", "(III)Z"⟩
abbrev cX9_distance : ByteArray := prog_11_method_3_code
def yX9_distance : MethodName := ⟨RX9, "distance", "(II)I"⟩
abbrev cX9_letterAt : ByteArray := prog_11_method_4_code
def yX9_letterAt : MethodName := ⟨RX9, "letterAt", "(I)I"⟩
abbrev cX9_number : ByteArray := prog_11_method_5_code
def yX9_number : MethodName := ⟨RX9, "number", "(III)Z"⟩
abbrev cX9_lowest : ByteArray := prog_11_method_6_code
def yX9_lowest : MethodName := ⟨RX9, "lowest", "(I)I"⟩
abbrev cX9_highest : ByteArray := prog_11_method_7_code
def yX9_highest : MethodName := ⟨RX9, "highest", "(I)I"⟩
abbrev cX9_most : ByteArray := prog_11_method_8_code
def yX9_most : MethodName := ⟨RX9, "most", "(I)I"⟩
abbrev cX9_readsWire : ByteArray := prog_11_method_9_code
def yX9_readsWire : MethodName := ⟨RX9, "readsWire", "(I)Z"⟩
abbrev cX9_readsItem : ByteArray := prog_11_method_10_code
def yX9_readsItem : MethodName := ⟨RX9, "readsItem", "(II)Z"⟩
abbrev cX9_reads : ByteArray := prog_11_method_11_code
def yX9_reads : MethodName := ⟨RX9, "reads", "()I"⟩
abbrev cX9_write : ByteArray := prog_11_method_12_code
def yX9_write : MethodName := ⟨RX9, "write", "(I)I"⟩
abbrev cX9_wipe : ByteArray := prog_11_method_13_code
def yX9_wipe : MethodName := ⟨RX9, "wipe", "()I"⟩
abbrev cX9_fault : ByteArray := prog_11_method_14_code
def yX9_fault : MethodName := ⟨RX9, "fault", "()I"⟩
abbrev cX9_lay : ByteArray := prog_11_method_15_code
def yX9_lay : MethodName := ⟨RX9, "lay", "()I"⟩
abbrev cX9_notes : ByteArray := prog_11_method_16_code
def yX9_notes : MethodName := ⟨RX9, "notes", "()V"⟩
abbrev cX9_undo : ByteArray := prog_11_method_17_code
def yX9_undo : MethodName := ⟨RX9, "undo", "()I"⟩
abbrev cX9_isWire : ByteArray := prog_11_method_18_code
def yX9_isWire : MethodName := ⟨RX9, "isWire", "(I)Z"⟩
abbrev cX9_becomes : ByteArray := prog_11_method_19_code
def yX9_becomes : MethodName := ⟨RX9, "becomes", "(II)I"⟩
abbrev cX9_set : ByteArray := prog_11_method_20_code
def yX9_set : MethodName := ⟨RX9, "set", "(III)I"⟩
abbrev cX9_limit : ByteArray := prog_11_method_21_code
def yX9_limit : MethodName := ⟨RX9, "limit", "(II)I"⟩
abbrev cX9_shift : ByteArray := prog_11_method_22_code
def yX9_shift : MethodName := ⟨RX9, "shift", "(I)I"⟩
abbrev cX9_placeOf : ByteArray := prog_11_method_23_code
def yX9_placeOf : MethodName := ⟨RX9, "placeOf", "(II)I"⟩
abbrev cX9_heightOf : ByteArray := prog_11_method_24_code
def yX9_heightOf : MethodName := ⟨RX9, "heightOf", "(II)I"⟩
abbrev cX9_longOf : ByteArray := prog_11_method_25_code
def yX9_longOf : MethodName := ⟨RX9, "longOf", "(I)I"⟩
abbrev cX9_topOf : ByteArray := prog_11_method_26_code
def yX9_topOf : MethodName := ⟨RX9, "topOf", "(I)I"⟩
abbrev cX9_wire : ByteArray := prog_11_method_27_code
def yX9_wire : MethodName := ⟨RX9, "wire", "(II)I"⟩
abbrev cX9_place : ByteArray := prog_11_method_28_code
def yX9_place : MethodName := ⟨RX9, "place", "(II)I"⟩
abbrev cX9_height : ByteArray := prog_11_method_29_code
def yX9_height : MethodName := ⟨RX9, "height", "(II)I"⟩
abbrev cX9_areNear : ByteArray := prog_11_method_30_code
def yX9_areNear : MethodName := ⟨RX9, "areNear", "(III)Z"⟩
abbrev cX9_near : ByteArray := prog_11_method_31_code
def yX9_near : MethodName := ⟨RX9, "near", "(IIZ)I"⟩
abbrev cX9_cross : ByteArray := prog_11_method_32_code
def yX9_cross : MethodName := ⟨RX9, "cross", "(II)Z"⟩
abbrev cX9_inWayAt : ByteArray := prog_11_method_33_code
def yX9_inWayAt : MethodName := ⟨RX9, "inWayAt", "(III)Z"⟩
abbrev cX9_inWay : ByteArray := prog_11_method_34_code
def yX9_inWay : MethodName := ⟨RX9, "inWay", "(II)Z"⟩
abbrev cX9_pair : ByteArray := prog_11_method_35_code
def yX9_pair : MethodName := ⟨RX9, "pair", "(III)I"⟩
abbrev cX9_bits : ByteArray := prog_11_method_36_code
def yX9_bits : MethodName := ⟨RX9, "bits", "(I)I"⟩
abbrev cX9_isBarred : ByteArray := prog_11_method_37_code
def yX9_isBarred : MethodName := ⟨RX9, "isBarred", "(II)Z"⟩
abbrev cX9_bond : ByteArray := prog_11_method_38_code
def yX9_bond : MethodName := ⟨RX9, "bond", "(I)I"⟩
abbrev cX9_take : ByteArray := prog_11_method_39_code
def yX9_take : MethodName := ⟨RX9, "take", "(I)I"⟩
abbrev cX9_ready : ByteArray := prog_11_method_40_code
def yX9_ready : MethodName := ⟨RX9, "ready", "()I"⟩
abbrev cX9_lays : ByteArray := prog_11_method_41_code
def yX9_lays : MethodName := ⟨RX9, "lays", "()V"⟩
abbrev cX9_firstOf : ByteArray := prog_11_method_42_code
def yX9_firstOf : MethodName := ⟨RX9, "firstOf", "(I)I"⟩
abbrev cX9_left : ByteArray := prog_11_method_43_code
def yX9_left : MethodName := ⟨RX9, "left", "(I)I"⟩
abbrev cX9_stuck : ByteArray := prog_11_method_44_code
def yX9_stuck : MethodName := ⟨RX9, "stuck", "()I"⟩
abbrev cX9_order : ByteArray := prog_11_method_45_code
def yX9_order : MethodName := ⟨RX9, "order", "(I)I"⟩
abbrev cX9_orders : ByteArray := prog_11_method_46_code
def yX9_orders : MethodName := ⟨RX9, "orders", "()I"⟩
abbrev cX9_isWell : ByteArray := prog_11_method_47_code
def yX9_isWell : MethodName := ⟨RX9, "isWell", "(I)Z"⟩
abbrev cX9_loopOf : ByteArray := prog_11_method_48_code
def yX9_loopOf : MethodName := ⟨RX9, "loopOf", "(I)I"⟩
abbrev cX9_loop : ByteArray := prog_11_method_49_code
def yX9_loop : MethodName := ⟨RX9, "loop", "(I)I"⟩
abbrev cX9_mend : ByteArray := prog_11_method_50_code
def yX9_mend : MethodName := ⟨RX9, "mend", "(I)I"⟩
abbrev cX9_isSight : ByteArray := prog_11_method_51_code
def yX9_isSight : MethodName := ⟨RX9, "isSight", "(III)Z"⟩
abbrev cX9_seen : ByteArray := prog_11_method_52_code
def yX9_seen : MethodName := ⟨RX9, "seen", "(IIII)I"⟩
abbrev cX9_sees : ByteArray := prog_11_method_53_code
def yX9_sees : MethodName := ⟨RX9, "sees", "(III)I"⟩
abbrev cX9_eye : ByteArray := prog_11_method_54_code
def yX9_eye : MethodName := ⟨RX9, "eye", "(IIIII)I"⟩
abbrev cX9_forget : ByteArray := prog_11_method_55_code
def yX9_forget : MethodName := ⟨RX9, "forget", "()I"⟩
abbrev cX9_explains : ByteArray := prog_11_method_56_code
def yX9_explains : MethodName := ⟨RX9, "explains", "(I)I"⟩
abbrev cX9_pairsThat : ByteArray := prog_11_method_57_code
def yX9_pairsThat : MethodName := ⟨RX9, "pairsThat", "(I)I"⟩
abbrev cX9_count : ByteArray := prog_11_method_58_code
def yX9_count : MethodName := ⟨RX9, "count", "(I)I"⟩
def RJ6 : String := "java/lang/Integer"
abbrev cJ6_compare_7cf53 : ByteArray := prog_12_method_40_code
def yJ6_compare_7cf53 : MethodName := ⟨RJ6, "compare", "(II)I"⟩
abbrev cJ6_bitCount_0f7a4 : ByteArray := prog_12_method_49_code
def yJ6_bitCount_0f7a4 : MethodName := ⟨RJ6, "bitCount", "(I)I"⟩
def RJ9 : String := "java/lang/Math"
abbrev cJ9_abs_0f7a4 : ByteArray := prog_13_method_59_code
def yJ9_abs_0f7a4 : MethodName := ⟨RJ9, "abs", "(I)I"⟩
abbrev cJ9_min_7cf53 : ByteArray := prog_13_method_69_code
def yJ9_min_7cf53 : MethodName := ⟨RJ9, "min", "(II)I"⟩
def RJ0 : String := "java/lang/String"
abbrev cJ0_length_8abf5 : ByteArray := prog_14_method_54_code
def yJ0_length_8abf5 : MethodName := ⟨RJ0, "length", "()I"⟩
abbrev cJ0_charAt_5068e : ByteArray := prog_14_method_56_code
def yJ0_charAt_5068e : MethodName := ⟨RJ0, "charAt", "(I)C"⟩
abbrev cJ0_coder_7d493 : ByteArray := prog_14_method_152_code
def yJ0_coder_7d493 : MethodName := ⟨RJ0, "coder", "()B"⟩
abbrev cJ0_isLatin1_aae02 : ByteArray := prog_14_method_154_code
def yJ0_isLatin1_aae02 : MethodName := ⟨RJ0, "isLatin1", "()Z"⟩
abbrev cJ0_checkIndex_df160 : ByteArray := prog_14_method_155_code
def yJ0_checkIndex_df160 : MethodName := ⟨RJ0, "checkIndex", "(II)V"⟩
def RJ1 : String := "java/lang/StringLatin1"
abbrev cJ1_charAt_3b067 : ByteArray := prog_15_method_2_code
def yJ1_charAt_3b067 : MethodName := ⟨RJ1, "charAt", "([BI)C"⟩
def RJ2 : String := "java/lang/StringUTF16"
abbrev cJ2_getChar_3b067 : ByteArray := prog_16_method_5_code
def yJ2_getChar_3b067 : MethodName := ⟨RJ2, "getChar", "([BI)C"⟩
abbrev cJ2_length_9d52b : ByteArray := prog_16_method_6_code
def yJ2_length_9d52b : MethodName := ⟨RJ2, "length", "([B)I"⟩
abbrev cJ2_charAt_3b067 : ByteArray := prog_16_method_83_code
def yJ2_charAt_3b067 : MethodName := ⟨RJ2, "charAt", "([BI)C"⟩
abbrev cJ2_checkIndex_2214a : ByteArray := prog_16_method_91_code
def yJ2_checkIndex_2214a : MethodName := ⟨RJ2, "checkIndex", "(I[B)V"⟩
def RJ10 : String := "java/lang/System"
def RJ3 : String := "jdk/internal/util/Preconditions"
abbrev cJ3_checkIndex_8e157 : ByteArray := prog_18_method_11_code
def yJ3_checkIndex_8e157 : MethodName := ⟨RJ3, "checkIndex", "(IILjava/util/function/BiFunction;)I"⟩
def RL : String := "BondedWiresLaw"
abbrev cL_law : ByteArray := code
def yL_law : MethodName := ⟨RL, "law", "([I)Z"⟩
abbrev vwCl : List vw_C := [(RX0, TX0, 3), (RX1, TX1, 6), (RX2, TX2, 7), (RX3, TX3, 3), (RX4, TX4, 4), (RX5, TX5, 6), (RX6, TX6, 2), (RX7, TX7, 6), (RX8, TX8, 8), (RX9, TX9, 16)]
end
section
-- decode rows (printed by program)
theorem dJ6_compare_7cf53_0 : decode cJ6_compare_7cf53 0 = .ok (.iload_n 0, 1) := by decide +kernel
theorem dJ6_compare_7cf53_1 : decode cJ6_compare_7cf53 1 = .ok (.iload_n 1, 1) := by decide +kernel
theorem dJ6_compare_7cf53_2 : decode cJ6_compare_7cf53 2 = .ok (.if_icmp .ge 7, 3) := by decide +kernel
theorem dJ6_compare_7cf53_5 : decode cJ6_compare_7cf53 5 = .ok (.iconst (-1), 1) := by decide +kernel
theorem dJ6_compare_7cf53_6 : decode cJ6_compare_7cf53 6 = .ok (.goto 13, 3) := by decide +kernel
theorem dJ6_compare_7cf53_9 : decode cJ6_compare_7cf53 9 = .ok (.iload_n 0, 1) := by decide +kernel
theorem dJ6_compare_7cf53_10 : decode cJ6_compare_7cf53 10 = .ok (.iload_n 1, 1) := by decide +kernel
theorem dJ6_compare_7cf53_11 : decode cJ6_compare_7cf53 11 = .ok (.if_icmp .ne 7, 3) := by decide +kernel
theorem dJ6_compare_7cf53_14 : decode cJ6_compare_7cf53 14 = .ok (.iconst 0, 1) := by decide +kernel
theorem dJ6_compare_7cf53_15 : decode cJ6_compare_7cf53 15 = .ok (.goto 4, 3) := by decide +kernel
theorem dJ6_compare_7cf53_18 : decode cJ6_compare_7cf53 18 = .ok (.iconst 1, 1) := by decide +kernel
theorem dJ6_compare_7cf53_19 : decode cJ6_compare_7cf53 19 = .ok (.ireturn, 1) := by decide +kernel
theorem dJ6_bitCount_0f7a4_0 : decode cJ6_bitCount_0f7a4 0 = .ok (.iload_n 0, 1) := by decide +kernel
theorem dJ6_bitCount_0f7a4_1 : decode cJ6_bitCount_0f7a4 1 = .ok (.iload_n 0, 1) := by decide +kernel
theorem dJ6_bitCount_0f7a4_2 : decode cJ6_bitCount_0f7a4 2 = .ok (.iconst 1, 1) := by decide +kernel
theorem dJ6_bitCount_0f7a4_3 : decode cJ6_bitCount_0f7a4 3 = .ok (.iushr, 1) := by decide +kernel
theorem dJ6_bitCount_0f7a4_4 : decode cJ6_bitCount_0f7a4 4 = .ok (.ldc_w 265, 3) := by decide +kernel
theorem dJ6_bitCount_0f7a4_7 : decode cJ6_bitCount_0f7a4 7 = .ok (.iand, 1) := by decide +kernel
theorem dJ6_bitCount_0f7a4_8 : decode cJ6_bitCount_0f7a4 8 = .ok (.isub, 1) := by decide +kernel
theorem dJ6_bitCount_0f7a4_9 : decode cJ6_bitCount_0f7a4 9 = .ok (.istore_n 0, 1) := by decide +kernel
theorem dJ6_bitCount_0f7a4_10 : decode cJ6_bitCount_0f7a4 10 = .ok (.iload_n 0, 1) := by decide +kernel
theorem dJ6_bitCount_0f7a4_11 : decode cJ6_bitCount_0f7a4 11 = .ok (.ldc_w 266, 3) := by decide +kernel
theorem dJ6_bitCount_0f7a4_14 : decode cJ6_bitCount_0f7a4 14 = .ok (.iand, 1) := by decide +kernel
theorem dJ6_bitCount_0f7a4_15 : decode cJ6_bitCount_0f7a4 15 = .ok (.iload_n 0, 1) := by decide +kernel
theorem dJ6_bitCount_0f7a4_16 : decode cJ6_bitCount_0f7a4 16 = .ok (.iconst 2, 1) := by decide +kernel
theorem dJ6_bitCount_0f7a4_17 : decode cJ6_bitCount_0f7a4 17 = .ok (.iushr, 1) := by decide +kernel
theorem dJ6_bitCount_0f7a4_18 : decode cJ6_bitCount_0f7a4 18 = .ok (.ldc_w 266, 3) := by decide +kernel
theorem dJ6_bitCount_0f7a4_21 : decode cJ6_bitCount_0f7a4 21 = .ok (.iand, 1) := by decide +kernel
theorem dJ6_bitCount_0f7a4_22 : decode cJ6_bitCount_0f7a4 22 = .ok (.iadd, 1) := by decide +kernel
theorem dJ6_bitCount_0f7a4_23 : decode cJ6_bitCount_0f7a4 23 = .ok (.istore_n 0, 1) := by decide +kernel
theorem dJ6_bitCount_0f7a4_24 : decode cJ6_bitCount_0f7a4 24 = .ok (.iload_n 0, 1) := by decide +kernel
theorem dJ6_bitCount_0f7a4_25 : decode cJ6_bitCount_0f7a4 25 = .ok (.iload_n 0, 1) := by decide +kernel
theorem dJ6_bitCount_0f7a4_26 : decode cJ6_bitCount_0f7a4 26 = .ok (.iconst 4, 1) := by decide +kernel
theorem dJ6_bitCount_0f7a4_27 : decode cJ6_bitCount_0f7a4 27 = .ok (.iushr, 1) := by decide +kernel
theorem dJ6_bitCount_0f7a4_28 : decode cJ6_bitCount_0f7a4 28 = .ok (.iadd, 1) := by decide +kernel
theorem dJ6_bitCount_0f7a4_29 : decode cJ6_bitCount_0f7a4 29 = .ok (.ldc_w 267, 3) := by decide +kernel
theorem dJ6_bitCount_0f7a4_32 : decode cJ6_bitCount_0f7a4 32 = .ok (.iand, 1) := by decide +kernel
theorem dJ6_bitCount_0f7a4_33 : decode cJ6_bitCount_0f7a4 33 = .ok (.istore_n 0, 1) := by decide +kernel
theorem dJ6_bitCount_0f7a4_34 : decode cJ6_bitCount_0f7a4 34 = .ok (.iload_n 0, 1) := by decide +kernel
theorem dJ6_bitCount_0f7a4_35 : decode cJ6_bitCount_0f7a4 35 = .ok (.iload_n 0, 1) := by decide +kernel
theorem dJ6_bitCount_0f7a4_36 : decode cJ6_bitCount_0f7a4 36 = .ok (.bipush 8, 2) := by decide +kernel
theorem dJ6_bitCount_0f7a4_38 : decode cJ6_bitCount_0f7a4 38 = .ok (.iushr, 1) := by decide +kernel
theorem dJ6_bitCount_0f7a4_39 : decode cJ6_bitCount_0f7a4 39 = .ok (.iadd, 1) := by decide +kernel
theorem dJ6_bitCount_0f7a4_40 : decode cJ6_bitCount_0f7a4 40 = .ok (.istore_n 0, 1) := by decide +kernel
theorem dJ6_bitCount_0f7a4_41 : decode cJ6_bitCount_0f7a4 41 = .ok (.iload_n 0, 1) := by decide +kernel
theorem dJ6_bitCount_0f7a4_42 : decode cJ6_bitCount_0f7a4 42 = .ok (.iload_n 0, 1) := by decide +kernel
theorem dJ6_bitCount_0f7a4_43 : decode cJ6_bitCount_0f7a4 43 = .ok (.bipush 16, 2) := by decide +kernel
theorem dJ6_bitCount_0f7a4_45 : decode cJ6_bitCount_0f7a4 45 = .ok (.iushr, 1) := by decide +kernel
theorem dJ6_bitCount_0f7a4_46 : decode cJ6_bitCount_0f7a4 46 = .ok (.iadd, 1) := by decide +kernel
theorem dJ6_bitCount_0f7a4_47 : decode cJ6_bitCount_0f7a4 47 = .ok (.istore_n 0, 1) := by decide +kernel
theorem dJ6_bitCount_0f7a4_48 : decode cJ6_bitCount_0f7a4 48 = .ok (.iload_n 0, 1) := by decide +kernel
theorem dJ6_bitCount_0f7a4_49 : decode cJ6_bitCount_0f7a4 49 = .ok (.bipush 63, 2) := by decide +kernel
theorem dJ6_bitCount_0f7a4_51 : decode cJ6_bitCount_0f7a4 51 = .ok (.iand, 1) := by decide +kernel
theorem dJ6_bitCount_0f7a4_52 : decode cJ6_bitCount_0f7a4 52 = .ok (.ireturn, 1) := by decide +kernel
end
section
-- decode rows (printed by program)
theorem dL_law_0 : decode cL_law 0 = .ok (.new 7, 3) := by decide +kernel
theorem dL_law_3 : decode cL_law 3 = .ok (.dup, 1) := by decide +kernel
theorem dL_law_4 : decode cL_law 4 = .ok (.invokespecial 9, 3) := by decide +kernel
theorem dL_law_7 : decode cL_law 7 = .ok (.astore_n 1, 1) := by decide +kernel
theorem dL_law_8 : decode cL_law 8 = .ok (.new 10, 3) := by decide +kernel
theorem dL_law_11 : decode cL_law 11 = .ok (.dup, 1) := by decide +kernel
theorem dL_law_12 : decode cL_law 12 = .ok (.invokespecial 12, 3) := by decide +kernel
theorem dL_law_15 : decode cL_law 15 = .ok (.astore_n 2, 1) := by decide +kernel
theorem dL_law_16 : decode cL_law 16 = .ok (.iconst 0, 1) := by decide +kernel
theorem dL_law_17 : decode cL_law 17 = .ok (.istore_n 3, 1) := by decide +kernel
theorem dL_law_18 : decode cL_law 18 = .ok (.iload_n 3, 1) := by decide +kernel
theorem dL_law_19 : decode cL_law 19 = .ok (.aload_n 0, 1) := by decide +kernel
theorem dL_law_20 : decode cL_law 20 = .ok (.arraylength, 1) := by decide +kernel
theorem dL_law_21 : decode cL_law 21 = .ok (.bipush 6, 2) := by decide +kernel
theorem dL_law_23 : decode cL_law 23 = .ok (.isub, 1) := by decide +kernel
theorem dL_law_24 : decode cL_law 24 = .ok (.if_icmp .gt 765, 3) := by decide +kernel
theorem dL_law_27 : decode cL_law 27 = .ok (.aload_n 0, 1) := by decide +kernel
theorem dL_law_28 : decode cL_law 28 = .ok (.iload_n 3, 1) := by decide +kernel
theorem dL_law_29 : decode cL_law 29 = .ok (.iaload, 1) := by decide +kernel
theorem dL_law_30 : decode cL_law 30 = .ok (.bipush 31, 2) := by decide +kernel
theorem dL_law_32 : decode cL_law 32 = .ok (.iand, 1) := by decide +kernel
theorem dL_law_33 : decode cL_law 33 = .ok (.tableswitch 750 0 24 #[115, 138, 151, 164, 177, 220, 253, 276, 289, 322, 355, 388, 431, 454, 477, 490, 513, 526, 539, 562, 585, 628, 691, 704, 727], 115) := by decide +kernel
theorem dL_law_148 : decode cL_law 148 = .ok (.aload_n 1, 1) := by decide +kernel
theorem dL_law_149 : decode cL_law 149 = .ok (.aload_n 0, 1) := by decide +kernel
theorem dL_law_150 : decode cL_law 150 = .ok (.iload_n 3, 1) := by decide +kernel
theorem dL_law_151 : decode cL_law 151 = .ok (.iconst 1, 1) := by decide +kernel
theorem dL_law_152 : decode cL_law 152 = .ok (.iadd, 1) := by decide +kernel
theorem dL_law_153 : decode cL_law 153 = .ok (.iaload, 1) := by decide +kernel
theorem dL_law_154 : decode cL_law 154 = .ok (.invokevirtual 13, 3) := by decide +kernel
theorem dL_law_157 : decode cL_law 157 = .ok (.aload_n 2, 1) := by decide +kernel
theorem dL_law_158 : decode cL_law 158 = .ok (.aload_n 0, 1) := by decide +kernel
theorem dL_law_159 : decode cL_law 159 = .ok (.iload_n 3, 1) := by decide +kernel
theorem dL_law_160 : decode cL_law 160 = .ok (.iconst 1, 1) := by decide +kernel
theorem dL_law_161 : decode cL_law 161 = .ok (.iadd, 1) := by decide +kernel
theorem dL_law_162 : decode cL_law 162 = .ok (.iaload, 1) := by decide +kernel
theorem dL_law_163 : decode cL_law 163 = .ok (.invokevirtual 17, 3) := by decide +kernel
theorem dL_law_166 : decode cL_law 166 = .ok (.if_icmp .eq 617, 3) := by decide +kernel
theorem dL_law_169 : decode cL_law 169 = .ok (.iconst 0, 1) := by decide +kernel
theorem dL_law_170 : decode cL_law 170 = .ok (.ireturn, 1) := by decide +kernel
theorem dL_law_171 : decode cL_law 171 = .ok (.aload_n 1, 1) := by decide +kernel
theorem dL_law_172 : decode cL_law 172 = .ok (.invokevirtual 18, 3) := by decide +kernel
theorem dL_law_175 : decode cL_law 175 = .ok (.aload_n 2, 1) := by decide +kernel
theorem dL_law_176 : decode cL_law 176 = .ok (.invokevirtual 22, 3) := by decide +kernel
theorem dL_law_179 : decode cL_law 179 = .ok (.if_icmp .eq 604, 3) := by decide +kernel
theorem dL_law_182 : decode cL_law 182 = .ok (.iconst 0, 1) := by decide +kernel
theorem dL_law_183 : decode cL_law 183 = .ok (.ireturn, 1) := by decide +kernel
theorem dL_law_184 : decode cL_law 184 = .ok (.aload_n 1, 1) := by decide +kernel
theorem dL_law_185 : decode cL_law 185 = .ok (.invokevirtual 23, 3) := by decide +kernel
theorem dL_law_188 : decode cL_law 188 = .ok (.aload_n 2, 1) := by decide +kernel
theorem dL_law_189 : decode cL_law 189 = .ok (.invokevirtual 26, 3) := by decide +kernel
theorem dL_law_192 : decode cL_law 192 = .ok (.if_icmp .eq 591, 3) := by decide +kernel
theorem dL_law_195 : decode cL_law 195 = .ok (.iconst 0, 1) := by decide +kernel
theorem dL_law_196 : decode cL_law 196 = .ok (.ireturn, 1) := by decide +kernel
theorem dL_law_197 : decode cL_law 197 = .ok (.aload_n 1, 1) := by decide +kernel
theorem dL_law_198 : decode cL_law 198 = .ok (.invokevirtual 27, 3) := by decide +kernel
theorem dL_law_201 : decode cL_law 201 = .ok (.aload_n 2, 1) := by decide +kernel
theorem dL_law_202 : decode cL_law 202 = .ok (.invokevirtual 30, 3) := by decide +kernel
theorem dL_law_205 : decode cL_law 205 = .ok (.if_icmp .eq 578, 3) := by decide +kernel
theorem dL_law_208 : decode cL_law 208 = .ok (.iconst 0, 1) := by decide +kernel
theorem dL_law_209 : decode cL_law 209 = .ok (.ireturn, 1) := by decide +kernel
theorem dL_law_210 : decode cL_law 210 = .ok (.aload_n 1, 1) := by decide +kernel
theorem dL_law_211 : decode cL_law 211 = .ok (.aload_n 0, 1) := by decide +kernel
theorem dL_law_212 : decode cL_law 212 = .ok (.iload_n 3, 1) := by decide +kernel
theorem dL_law_213 : decode cL_law 213 = .ok (.iconst 1, 1) := by decide +kernel
theorem dL_law_214 : decode cL_law 214 = .ok (.iadd, 1) := by decide +kernel
theorem dL_law_215 : decode cL_law 215 = .ok (.iaload, 1) := by decide +kernel
theorem dL_law_216 : decode cL_law 216 = .ok (.aload_n 0, 1) := by decide +kernel
theorem dL_law_217 : decode cL_law 217 = .ok (.iload_n 3, 1) := by decide +kernel
theorem dL_law_218 : decode cL_law 218 = .ok (.iconst 2, 1) := by decide +kernel
theorem dL_law_219 : decode cL_law 219 = .ok (.iadd, 1) := by decide +kernel
theorem dL_law_220 : decode cL_law 220 = .ok (.iaload, 1) := by decide +kernel
theorem dL_law_221 : decode cL_law 221 = .ok (.aload_n 0, 1) := by decide +kernel
theorem dL_law_222 : decode cL_law 222 = .ok (.iload_n 3, 1) := by decide +kernel
theorem dL_law_223 : decode cL_law 223 = .ok (.iconst 3, 1) := by decide +kernel
theorem dL_law_224 : decode cL_law 224 = .ok (.iadd, 1) := by decide +kernel
theorem dL_law_225 : decode cL_law 225 = .ok (.iaload, 1) := by decide +kernel
theorem dL_law_226 : decode cL_law 226 = .ok (.invokevirtual 31, 3) := by decide +kernel
theorem dL_law_229 : decode cL_law 229 = .ok (.aload_n 2, 1) := by decide +kernel
theorem dL_law_230 : decode cL_law 230 = .ok (.aload_n 0, 1) := by decide +kernel
theorem dL_law_231 : decode cL_law 231 = .ok (.iload_n 3, 1) := by decide +kernel
theorem dL_law_232 : decode cL_law 232 = .ok (.iconst 1, 1) := by decide +kernel
theorem dL_law_233 : decode cL_law 233 = .ok (.iadd, 1) := by decide +kernel
theorem dL_law_234 : decode cL_law 234 = .ok (.iaload, 1) := by decide +kernel
theorem dL_law_235 : decode cL_law 235 = .ok (.aload_n 0, 1) := by decide +kernel
theorem dL_law_236 : decode cL_law 236 = .ok (.iload_n 3, 1) := by decide +kernel
theorem dL_law_237 : decode cL_law 237 = .ok (.iconst 2, 1) := by decide +kernel
theorem dL_law_238 : decode cL_law 238 = .ok (.iadd, 1) := by decide +kernel
theorem dL_law_239 : decode cL_law 239 = .ok (.iaload, 1) := by decide +kernel
theorem dL_law_240 : decode cL_law 240 = .ok (.aload_n 0, 1) := by decide +kernel
theorem dL_law_241 : decode cL_law 241 = .ok (.iload_n 3, 1) := by decide +kernel
theorem dL_law_242 : decode cL_law 242 = .ok (.iconst 3, 1) := by decide +kernel
theorem dL_law_243 : decode cL_law 243 = .ok (.iadd, 1) := by decide +kernel
theorem dL_law_244 : decode cL_law 244 = .ok (.iaload, 1) := by decide +kernel
theorem dL_law_245 : decode cL_law 245 = .ok (.invokevirtual 35, 3) := by decide +kernel
theorem dL_law_248 : decode cL_law 248 = .ok (.if_icmp .eq 535, 3) := by decide +kernel
theorem dL_law_251 : decode cL_law 251 = .ok (.iconst 0, 1) := by decide +kernel
theorem dL_law_252 : decode cL_law 252 = .ok (.ireturn, 1) := by decide +kernel
theorem dL_law_253 : decode cL_law 253 = .ok (.aload_n 1, 1) := by decide +kernel
theorem dL_law_254 : decode cL_law 254 = .ok (.aload_n 0, 1) := by decide +kernel
theorem dL_law_255 : decode cL_law 255 = .ok (.iload_n 3, 1) := by decide +kernel
theorem dL_law_256 : decode cL_law 256 = .ok (.iconst 1, 1) := by decide +kernel
theorem dL_law_257 : decode cL_law 257 = .ok (.iadd, 1) := by decide +kernel
theorem dL_law_258 : decode cL_law 258 = .ok (.iaload, 1) := by decide +kernel
theorem dL_law_259 : decode cL_law 259 = .ok (.aload_n 0, 1) := by decide +kernel
theorem dL_law_260 : decode cL_law 260 = .ok (.iload_n 3, 1) := by decide +kernel
theorem dL_law_261 : decode cL_law 261 = .ok (.iconst 2, 1) := by decide +kernel
theorem dL_law_262 : decode cL_law 262 = .ok (.iadd, 1) := by decide +kernel
theorem dL_law_263 : decode cL_law 263 = .ok (.iaload, 1) := by decide +kernel
theorem dL_law_264 : decode cL_law 264 = .ok (.invokevirtual 36, 3) := by decide +kernel
theorem dL_law_267 : decode cL_law 267 = .ok (.aload_n 2, 1) := by decide +kernel
theorem dL_law_268 : decode cL_law 268 = .ok (.aload_n 0, 1) := by decide +kernel
theorem dL_law_269 : decode cL_law 269 = .ok (.iload_n 3, 1) := by decide +kernel
theorem dL_law_270 : decode cL_law 270 = .ok (.iconst 1, 1) := by decide +kernel
theorem dL_law_271 : decode cL_law 271 = .ok (.iadd, 1) := by decide +kernel
theorem dL_law_272 : decode cL_law 272 = .ok (.iaload, 1) := by decide +kernel
theorem dL_law_273 : decode cL_law 273 = .ok (.aload_n 0, 1) := by decide +kernel
theorem dL_law_274 : decode cL_law 274 = .ok (.iload_n 3, 1) := by decide +kernel
theorem dL_law_275 : decode cL_law 275 = .ok (.iconst 2, 1) := by decide +kernel
theorem dL_law_276 : decode cL_law 276 = .ok (.iadd, 1) := by decide +kernel
theorem dL_law_277 : decode cL_law 277 = .ok (.iaload, 1) := by decide +kernel
theorem dL_law_278 : decode cL_law 278 = .ok (.invokevirtual 40, 3) := by decide +kernel
theorem dL_law_281 : decode cL_law 281 = .ok (.if_icmp .eq 502, 3) := by decide +kernel
theorem dL_law_284 : decode cL_law 284 = .ok (.iconst 0, 1) := by decide +kernel
theorem dL_law_285 : decode cL_law 285 = .ok (.ireturn, 1) := by decide +kernel
theorem dL_law_286 : decode cL_law 286 = .ok (.aload_n 1, 1) := by decide +kernel
theorem dL_law_287 : decode cL_law 287 = .ok (.aload_n 0, 1) := by decide +kernel
theorem dL_law_288 : decode cL_law 288 = .ok (.iload_n 3, 1) := by decide +kernel
theorem dL_law_289 : decode cL_law 289 = .ok (.iconst 1, 1) := by decide +kernel
theorem dL_law_290 : decode cL_law 290 = .ok (.iadd, 1) := by decide +kernel
theorem dL_law_291 : decode cL_law 291 = .ok (.iaload, 1) := by decide +kernel
theorem dL_law_292 : decode cL_law 292 = .ok (.invokevirtual 41, 3) := by decide +kernel
theorem dL_law_295 : decode cL_law 295 = .ok (.aload_n 2, 1) := by decide +kernel
theorem dL_law_296 : decode cL_law 296 = .ok (.aload_n 0, 1) := by decide +kernel
theorem dL_law_297 : decode cL_law 297 = .ok (.iload_n 3, 1) := by decide +kernel
theorem dL_law_298 : decode cL_law 298 = .ok (.iconst 1, 1) := by decide +kernel
theorem dL_law_299 : decode cL_law 299 = .ok (.iadd, 1) := by decide +kernel
theorem dL_law_300 : decode cL_law 300 = .ok (.iaload, 1) := by decide +kernel
theorem dL_law_301 : decode cL_law 301 = .ok (.invokevirtual 44, 3) := by decide +kernel
theorem dL_law_304 : decode cL_law 304 = .ok (.if_icmp .eq 479, 3) := by decide +kernel
theorem dL_law_307 : decode cL_law 307 = .ok (.iconst 0, 1) := by decide +kernel
theorem dL_law_308 : decode cL_law 308 = .ok (.ireturn, 1) := by decide +kernel
theorem dL_law_309 : decode cL_law 309 = .ok (.aload_n 1, 1) := by decide +kernel
theorem dL_law_310 : decode cL_law 310 = .ok (.invokevirtual 45, 3) := by decide +kernel
theorem dL_law_313 : decode cL_law 313 = .ok (.aload_n 2, 1) := by decide +kernel
theorem dL_law_314 : decode cL_law 314 = .ok (.invokevirtual 48, 3) := by decide +kernel
theorem dL_law_317 : decode cL_law 317 = .ok (.if_icmp .eq 466, 3) := by decide +kernel
theorem dL_law_320 : decode cL_law 320 = .ok (.iconst 0, 1) := by decide +kernel
theorem dL_law_321 : decode cL_law 321 = .ok (.ireturn, 1) := by decide +kernel
theorem dL_law_322 : decode cL_law 322 = .ok (.aload_n 1, 1) := by decide +kernel
theorem dL_law_323 : decode cL_law 323 = .ok (.aload_n 0, 1) := by decide +kernel
theorem dL_law_324 : decode cL_law 324 = .ok (.iload_n 3, 1) := by decide +kernel
theorem dL_law_325 : decode cL_law 325 = .ok (.iconst 1, 1) := by decide +kernel
theorem dL_law_326 : decode cL_law 326 = .ok (.iadd, 1) := by decide +kernel
theorem dL_law_327 : decode cL_law 327 = .ok (.iaload, 1) := by decide +kernel
theorem dL_law_328 : decode cL_law 328 = .ok (.aload_n 0, 1) := by decide +kernel
theorem dL_law_329 : decode cL_law 329 = .ok (.iload_n 3, 1) := by decide +kernel
theorem dL_law_330 : decode cL_law 330 = .ok (.iconst 2, 1) := by decide +kernel
theorem dL_law_331 : decode cL_law 331 = .ok (.iadd, 1) := by decide +kernel
theorem dL_law_332 : decode cL_law 332 = .ok (.iaload, 1) := by decide +kernel
theorem dL_law_333 : decode cL_law 333 = .ok (.invokevirtual 49, 3) := by decide +kernel
theorem dL_law_336 : decode cL_law 336 = .ok (.aload_n 2, 1) := by decide +kernel
theorem dL_law_337 : decode cL_law 337 = .ok (.aload_n 0, 1) := by decide +kernel
theorem dL_law_338 : decode cL_law 338 = .ok (.iload_n 3, 1) := by decide +kernel
theorem dL_law_339 : decode cL_law 339 = .ok (.iconst 1, 1) := by decide +kernel
theorem dL_law_340 : decode cL_law 340 = .ok (.iadd, 1) := by decide +kernel
theorem dL_law_341 : decode cL_law 341 = .ok (.iaload, 1) := by decide +kernel
theorem dL_law_342 : decode cL_law 342 = .ok (.aload_n 0, 1) := by decide +kernel
theorem dL_law_343 : decode cL_law 343 = .ok (.iload_n 3, 1) := by decide +kernel
theorem dL_law_344 : decode cL_law 344 = .ok (.iconst 2, 1) := by decide +kernel
theorem dL_law_345 : decode cL_law 345 = .ok (.iadd, 1) := by decide +kernel
theorem dL_law_346 : decode cL_law 346 = .ok (.iaload, 1) := by decide +kernel
theorem dL_law_347 : decode cL_law 347 = .ok (.invokevirtual 52, 3) := by decide +kernel
theorem dL_law_350 : decode cL_law 350 = .ok (.if_icmp .eq 433, 3) := by decide +kernel
theorem dL_law_353 : decode cL_law 353 = .ok (.iconst 0, 1) := by decide +kernel
theorem dL_law_354 : decode cL_law 354 = .ok (.ireturn, 1) := by decide +kernel
theorem dL_law_355 : decode cL_law 355 = .ok (.aload_n 1, 1) := by decide +kernel
theorem dL_law_356 : decode cL_law 356 = .ok (.aload_n 0, 1) := by decide +kernel
theorem dL_law_357 : decode cL_law 357 = .ok (.iload_n 3, 1) := by decide +kernel
theorem dL_law_358 : decode cL_law 358 = .ok (.iconst 1, 1) := by decide +kernel
theorem dL_law_359 : decode cL_law 359 = .ok (.iadd, 1) := by decide +kernel
theorem dL_law_360 : decode cL_law 360 = .ok (.iaload, 1) := by decide +kernel
theorem dL_law_361 : decode cL_law 361 = .ok (.aload_n 0, 1) := by decide +kernel
theorem dL_law_362 : decode cL_law 362 = .ok (.iload_n 3, 1) := by decide +kernel
theorem dL_law_363 : decode cL_law 363 = .ok (.iconst 2, 1) := by decide +kernel
theorem dL_law_364 : decode cL_law 364 = .ok (.iadd, 1) := by decide +kernel
theorem dL_law_365 : decode cL_law 365 = .ok (.iaload, 1) := by decide +kernel
theorem dL_law_366 : decode cL_law 366 = .ok (.invokevirtual 53, 3) := by decide +kernel
theorem dL_law_369 : decode cL_law 369 = .ok (.aload_n 2, 1) := by decide +kernel
theorem dL_law_370 : decode cL_law 370 = .ok (.aload_n 0, 1) := by decide +kernel
theorem dL_law_371 : decode cL_law 371 = .ok (.iload_n 3, 1) := by decide +kernel
theorem dL_law_372 : decode cL_law 372 = .ok (.iconst 1, 1) := by decide +kernel
theorem dL_law_373 : decode cL_law 373 = .ok (.iadd, 1) := by decide +kernel
theorem dL_law_374 : decode cL_law 374 = .ok (.iaload, 1) := by decide +kernel
theorem dL_law_375 : decode cL_law 375 = .ok (.aload_n 0, 1) := by decide +kernel
theorem dL_law_376 : decode cL_law 376 = .ok (.iload_n 3, 1) := by decide +kernel
theorem dL_law_377 : decode cL_law 377 = .ok (.iconst 2, 1) := by decide +kernel
theorem dL_law_378 : decode cL_law 378 = .ok (.iadd, 1) := by decide +kernel
theorem dL_law_379 : decode cL_law 379 = .ok (.iaload, 1) := by decide +kernel
theorem dL_law_380 : decode cL_law 380 = .ok (.invokevirtual 56, 3) := by decide +kernel
theorem dL_law_383 : decode cL_law 383 = .ok (.if_icmp .eq 400, 3) := by decide +kernel
theorem dL_law_386 : decode cL_law 386 = .ok (.iconst 0, 1) := by decide +kernel
theorem dL_law_387 : decode cL_law 387 = .ok (.ireturn, 1) := by decide +kernel
theorem dL_law_388 : decode cL_law 388 = .ok (.aload_n 1, 1) := by decide +kernel
theorem dL_law_389 : decode cL_law 389 = .ok (.aload_n 0, 1) := by decide +kernel
theorem dL_law_390 : decode cL_law 390 = .ok (.iload_n 3, 1) := by decide +kernel
theorem dL_law_391 : decode cL_law 391 = .ok (.iconst 1, 1) := by decide +kernel
theorem dL_law_392 : decode cL_law 392 = .ok (.iadd, 1) := by decide +kernel
theorem dL_law_393 : decode cL_law 393 = .ok (.iaload, 1) := by decide +kernel
theorem dL_law_394 : decode cL_law 394 = .ok (.aload_n 0, 1) := by decide +kernel
theorem dL_law_395 : decode cL_law 395 = .ok (.iload_n 3, 1) := by decide +kernel
theorem dL_law_396 : decode cL_law 396 = .ok (.iconst 2, 1) := by decide +kernel
theorem dL_law_397 : decode cL_law 397 = .ok (.iadd, 1) := by decide +kernel
theorem dL_law_398 : decode cL_law 398 = .ok (.iaload, 1) := by decide +kernel
theorem dL_law_399 : decode cL_law 399 = .ok (.invokevirtual 57, 3) := by decide +kernel
theorem dL_law_402 : decode cL_law 402 = .ok (.aload_n 2, 1) := by decide +kernel
theorem dL_law_403 : decode cL_law 403 = .ok (.aload_n 0, 1) := by decide +kernel
theorem dL_law_404 : decode cL_law 404 = .ok (.iload_n 3, 1) := by decide +kernel
theorem dL_law_405 : decode cL_law 405 = .ok (.iconst 1, 1) := by decide +kernel
theorem dL_law_406 : decode cL_law 406 = .ok (.iadd, 1) := by decide +kernel
theorem dL_law_407 : decode cL_law 407 = .ok (.iaload, 1) := by decide +kernel
theorem dL_law_408 : decode cL_law 408 = .ok (.aload_n 0, 1) := by decide +kernel
theorem dL_law_409 : decode cL_law 409 = .ok (.iload_n 3, 1) := by decide +kernel
theorem dL_law_410 : decode cL_law 410 = .ok (.iconst 2, 1) := by decide +kernel
theorem dL_law_411 : decode cL_law 411 = .ok (.iadd, 1) := by decide +kernel
theorem dL_law_412 : decode cL_law 412 = .ok (.iaload, 1) := by decide +kernel
theorem dL_law_413 : decode cL_law 413 = .ok (.invokevirtual 60, 3) := by decide +kernel
theorem dL_law_416 : decode cL_law 416 = .ok (.if_icmp .eq 367, 3) := by decide +kernel
theorem dL_law_419 : decode cL_law 419 = .ok (.iconst 0, 1) := by decide +kernel
theorem dL_law_420 : decode cL_law 420 = .ok (.ireturn, 1) := by decide +kernel
theorem dL_law_421 : decode cL_law 421 = .ok (.aload_n 1, 1) := by decide +kernel
theorem dL_law_422 : decode cL_law 422 = .ok (.aload_n 0, 1) := by decide +kernel
theorem dL_law_423 : decode cL_law 423 = .ok (.iload_n 3, 1) := by decide +kernel
theorem dL_law_424 : decode cL_law 424 = .ok (.iconst 1, 1) := by decide +kernel
theorem dL_law_425 : decode cL_law 425 = .ok (.iadd, 1) := by decide +kernel
theorem dL_law_426 : decode cL_law 426 = .ok (.iaload, 1) := by decide +kernel
theorem dL_law_427 : decode cL_law 427 = .ok (.aload_n 0, 1) := by decide +kernel
theorem dL_law_428 : decode cL_law 428 = .ok (.iload_n 3, 1) := by decide +kernel
theorem dL_law_429 : decode cL_law 429 = .ok (.iconst 2, 1) := by decide +kernel
theorem dL_law_430 : decode cL_law 430 = .ok (.iadd, 1) := by decide +kernel
theorem dL_law_431 : decode cL_law 431 = .ok (.iaload, 1) := by decide +kernel
theorem dL_law_432 : decode cL_law 432 = .ok (.aload_n 0, 1) := by decide +kernel
theorem dL_law_433 : decode cL_law 433 = .ok (.iload_n 3, 1) := by decide +kernel
theorem dL_law_434 : decode cL_law 434 = .ok (.iconst 3, 1) := by decide +kernel
theorem dL_law_435 : decode cL_law 435 = .ok (.iadd, 1) := by decide +kernel
theorem dL_law_436 : decode cL_law 436 = .ok (.iaload, 1) := by decide +kernel
theorem dL_law_437 : decode cL_law 437 = .ok (.invokevirtual 61, 3) := by decide +kernel
theorem dL_law_440 : decode cL_law 440 = .ok (.aload_n 2, 1) := by decide +kernel
theorem dL_law_441 : decode cL_law 441 = .ok (.aload_n 0, 1) := by decide +kernel
theorem dL_law_442 : decode cL_law 442 = .ok (.iload_n 3, 1) := by decide +kernel
theorem dL_law_443 : decode cL_law 443 = .ok (.iconst 1, 1) := by decide +kernel
theorem dL_law_444 : decode cL_law 444 = .ok (.iadd, 1) := by decide +kernel
theorem dL_law_445 : decode cL_law 445 = .ok (.iaload, 1) := by decide +kernel
theorem dL_law_446 : decode cL_law 446 = .ok (.aload_n 0, 1) := by decide +kernel
theorem dL_law_447 : decode cL_law 447 = .ok (.iload_n 3, 1) := by decide +kernel
theorem dL_law_448 : decode cL_law 448 = .ok (.iconst 2, 1) := by decide +kernel
theorem dL_law_449 : decode cL_law 449 = .ok (.iadd, 1) := by decide +kernel
theorem dL_law_450 : decode cL_law 450 = .ok (.iaload, 1) := by decide +kernel
theorem dL_law_451 : decode cL_law 451 = .ok (.aload_n 0, 1) := by decide +kernel
theorem dL_law_452 : decode cL_law 452 = .ok (.iload_n 3, 1) := by decide +kernel
theorem dL_law_453 : decode cL_law 453 = .ok (.iconst 3, 1) := by decide +kernel
theorem dL_law_454 : decode cL_law 454 = .ok (.iadd, 1) := by decide +kernel
theorem dL_law_455 : decode cL_law 455 = .ok (.iaload, 1) := by decide +kernel
theorem dL_law_456 : decode cL_law 456 = .ok (.invokevirtual 64, 3) := by decide +kernel
theorem dL_law_459 : decode cL_law 459 = .ok (.if_icmp .eq 324, 3) := by decide +kernel
theorem dL_law_462 : decode cL_law 462 = .ok (.iconst 0, 1) := by decide +kernel
theorem dL_law_463 : decode cL_law 463 = .ok (.ireturn, 1) := by decide +kernel
theorem dL_law_464 : decode cL_law 464 = .ok (.aload_n 1, 1) := by decide +kernel
theorem dL_law_465 : decode cL_law 465 = .ok (.aload_n 0, 1) := by decide +kernel
theorem dL_law_466 : decode cL_law 466 = .ok (.iload_n 3, 1) := by decide +kernel
theorem dL_law_467 : decode cL_law 467 = .ok (.iconst 1, 1) := by decide +kernel
theorem dL_law_468 : decode cL_law 468 = .ok (.iadd, 1) := by decide +kernel
theorem dL_law_469 : decode cL_law 469 = .ok (.iaload, 1) := by decide +kernel
theorem dL_law_470 : decode cL_law 470 = .ok (.invokevirtual 65, 3) := by decide +kernel
theorem dL_law_473 : decode cL_law 473 = .ok (.aload_n 2, 1) := by decide +kernel
theorem dL_law_474 : decode cL_law 474 = .ok (.aload_n 0, 1) := by decide +kernel
theorem dL_law_475 : decode cL_law 475 = .ok (.iload_n 3, 1) := by decide +kernel
theorem dL_law_476 : decode cL_law 476 = .ok (.iconst 1, 1) := by decide +kernel
theorem dL_law_477 : decode cL_law 477 = .ok (.iadd, 1) := by decide +kernel
theorem dL_law_478 : decode cL_law 478 = .ok (.iaload, 1) := by decide +kernel
theorem dL_law_479 : decode cL_law 479 = .ok (.invokevirtual 68, 3) := by decide +kernel
theorem dL_law_482 : decode cL_law 482 = .ok (.if_icmp .eq 301, 3) := by decide +kernel
theorem dL_law_485 : decode cL_law 485 = .ok (.iconst 0, 1) := by decide +kernel
theorem dL_law_486 : decode cL_law 486 = .ok (.ireturn, 1) := by decide +kernel
theorem dL_law_487 : decode cL_law 487 = .ok (.aload_n 1, 1) := by decide +kernel
theorem dL_law_488 : decode cL_law 488 = .ok (.aload_n 0, 1) := by decide +kernel
theorem dL_law_489 : decode cL_law 489 = .ok (.iload_n 3, 1) := by decide +kernel
theorem dL_law_490 : decode cL_law 490 = .ok (.iconst 1, 1) := by decide +kernel
theorem dL_law_491 : decode cL_law 491 = .ok (.iadd, 1) := by decide +kernel
theorem dL_law_492 : decode cL_law 492 = .ok (.iaload, 1) := by decide +kernel
theorem dL_law_493 : decode cL_law 493 = .ok (.invokevirtual 69, 3) := by decide +kernel
theorem dL_law_496 : decode cL_law 496 = .ok (.aload_n 2, 1) := by decide +kernel
theorem dL_law_497 : decode cL_law 497 = .ok (.aload_n 0, 1) := by decide +kernel
theorem dL_law_498 : decode cL_law 498 = .ok (.iload_n 3, 1) := by decide +kernel
theorem dL_law_499 : decode cL_law 499 = .ok (.iconst 1, 1) := by decide +kernel
theorem dL_law_500 : decode cL_law 500 = .ok (.iadd, 1) := by decide +kernel
theorem dL_law_501 : decode cL_law 501 = .ok (.iaload, 1) := by decide +kernel
theorem dL_law_502 : decode cL_law 502 = .ok (.invokevirtual 72, 3) := by decide +kernel
theorem dL_law_505 : decode cL_law 505 = .ok (.if_icmp .eq 278, 3) := by decide +kernel
theorem dL_law_508 : decode cL_law 508 = .ok (.iconst 0, 1) := by decide +kernel
theorem dL_law_509 : decode cL_law 509 = .ok (.ireturn, 1) := by decide +kernel
theorem dL_law_510 : decode cL_law 510 = .ok (.aload_n 1, 1) := by decide +kernel
theorem dL_law_511 : decode cL_law 511 = .ok (.invokevirtual 73, 3) := by decide +kernel
theorem dL_law_514 : decode cL_law 514 = .ok (.aload_n 2, 1) := by decide +kernel
theorem dL_law_515 : decode cL_law 515 = .ok (.invokevirtual 76, 3) := by decide +kernel
theorem dL_law_518 : decode cL_law 518 = .ok (.if_icmp .eq 265, 3) := by decide +kernel
theorem dL_law_521 : decode cL_law 521 = .ok (.iconst 0, 1) := by decide +kernel
theorem dL_law_522 : decode cL_law 522 = .ok (.ireturn, 1) := by decide +kernel
theorem dL_law_523 : decode cL_law 523 = .ok (.aload_n 1, 1) := by decide +kernel
theorem dL_law_524 : decode cL_law 524 = .ok (.aload_n 0, 1) := by decide +kernel
theorem dL_law_525 : decode cL_law 525 = .ok (.iload_n 3, 1) := by decide +kernel
theorem dL_law_526 : decode cL_law 526 = .ok (.iconst 1, 1) := by decide +kernel
theorem dL_law_527 : decode cL_law 527 = .ok (.iadd, 1) := by decide +kernel
theorem dL_law_528 : decode cL_law 528 = .ok (.iaload, 1) := by decide +kernel
theorem dL_law_529 : decode cL_law 529 = .ok (.invokevirtual 77, 3) := by decide +kernel
theorem dL_law_532 : decode cL_law 532 = .ok (.aload_n 2, 1) := by decide +kernel
theorem dL_law_533 : decode cL_law 533 = .ok (.aload_n 0, 1) := by decide +kernel
theorem dL_law_534 : decode cL_law 534 = .ok (.iload_n 3, 1) := by decide +kernel
theorem dL_law_535 : decode cL_law 535 = .ok (.iconst 1, 1) := by decide +kernel
theorem dL_law_536 : decode cL_law 536 = .ok (.iadd, 1) := by decide +kernel
theorem dL_law_537 : decode cL_law 537 = .ok (.iaload, 1) := by decide +kernel
theorem dL_law_538 : decode cL_law 538 = .ok (.invokevirtual 80, 3) := by decide +kernel
theorem dL_law_541 : decode cL_law 541 = .ok (.if_icmp .eq 242, 3) := by decide +kernel
theorem dL_law_544 : decode cL_law 544 = .ok (.iconst 0, 1) := by decide +kernel
theorem dL_law_545 : decode cL_law 545 = .ok (.ireturn, 1) := by decide +kernel
theorem dL_law_546 : decode cL_law 546 = .ok (.aload_n 1, 1) := by decide +kernel
theorem dL_law_547 : decode cL_law 547 = .ok (.invokevirtual 81, 3) := by decide +kernel
theorem dL_law_550 : decode cL_law 550 = .ok (.aload_n 2, 1) := by decide +kernel
theorem dL_law_551 : decode cL_law 551 = .ok (.invokevirtual 84, 3) := by decide +kernel
theorem dL_law_554 : decode cL_law 554 = .ok (.if_icmp .eq 229, 3) := by decide +kernel
theorem dL_law_557 : decode cL_law 557 = .ok (.iconst 0, 1) := by decide +kernel
theorem dL_law_558 : decode cL_law 558 = .ok (.ireturn, 1) := by decide +kernel
theorem dL_law_559 : decode cL_law 559 = .ok (.aload_n 1, 1) := by decide +kernel
theorem dL_law_560 : decode cL_law 560 = .ok (.invokevirtual 85, 3) := by decide +kernel
theorem dL_law_563 : decode cL_law 563 = .ok (.aload_n 2, 1) := by decide +kernel
theorem dL_law_564 : decode cL_law 564 = .ok (.invokevirtual 88, 3) := by decide +kernel
theorem dL_law_567 : decode cL_law 567 = .ok (.if_icmp .eq 216, 3) := by decide +kernel
theorem dL_law_570 : decode cL_law 570 = .ok (.iconst 0, 1) := by decide +kernel
theorem dL_law_571 : decode cL_law 571 = .ok (.ireturn, 1) := by decide +kernel
theorem dL_law_572 : decode cL_law 572 = .ok (.aload_n 1, 1) := by decide +kernel
theorem dL_law_573 : decode cL_law 573 = .ok (.aload_n 0, 1) := by decide +kernel
theorem dL_law_574 : decode cL_law 574 = .ok (.iload_n 3, 1) := by decide +kernel
theorem dL_law_575 : decode cL_law 575 = .ok (.iconst 1, 1) := by decide +kernel
theorem dL_law_576 : decode cL_law 576 = .ok (.iadd, 1) := by decide +kernel
theorem dL_law_577 : decode cL_law 577 = .ok (.iaload, 1) := by decide +kernel
theorem dL_law_578 : decode cL_law 578 = .ok (.invokevirtual 89, 3) := by decide +kernel
theorem dL_law_581 : decode cL_law 581 = .ok (.aload_n 2, 1) := by decide +kernel
theorem dL_law_582 : decode cL_law 582 = .ok (.aload_n 0, 1) := by decide +kernel
theorem dL_law_583 : decode cL_law 583 = .ok (.iload_n 3, 1) := by decide +kernel
theorem dL_law_584 : decode cL_law 584 = .ok (.iconst 1, 1) := by decide +kernel
theorem dL_law_585 : decode cL_law 585 = .ok (.iadd, 1) := by decide +kernel
theorem dL_law_586 : decode cL_law 586 = .ok (.iaload, 1) := by decide +kernel
theorem dL_law_587 : decode cL_law 587 = .ok (.invokevirtual 92, 3) := by decide +kernel
theorem dL_law_590 : decode cL_law 590 = .ok (.if_icmp .eq 193, 3) := by decide +kernel
theorem dL_law_593 : decode cL_law 593 = .ok (.iconst 0, 1) := by decide +kernel
theorem dL_law_594 : decode cL_law 594 = .ok (.ireturn, 1) := by decide +kernel
theorem dL_law_595 : decode cL_law 595 = .ok (.aload_n 1, 1) := by decide +kernel
theorem dL_law_596 : decode cL_law 596 = .ok (.aload_n 0, 1) := by decide +kernel
theorem dL_law_597 : decode cL_law 597 = .ok (.iload_n 3, 1) := by decide +kernel
theorem dL_law_598 : decode cL_law 598 = .ok (.iconst 1, 1) := by decide +kernel
theorem dL_law_599 : decode cL_law 599 = .ok (.iadd, 1) := by decide +kernel
theorem dL_law_600 : decode cL_law 600 = .ok (.iaload, 1) := by decide +kernel
theorem dL_law_601 : decode cL_law 601 = .ok (.invokevirtual 93, 3) := by decide +kernel
theorem dL_law_604 : decode cL_law 604 = .ok (.aload_n 2, 1) := by decide +kernel
theorem dL_law_605 : decode cL_law 605 = .ok (.aload_n 0, 1) := by decide +kernel
theorem dL_law_606 : decode cL_law 606 = .ok (.iload_n 3, 1) := by decide +kernel
theorem dL_law_607 : decode cL_law 607 = .ok (.iconst 1, 1) := by decide +kernel
theorem dL_law_608 : decode cL_law 608 = .ok (.iadd, 1) := by decide +kernel
theorem dL_law_609 : decode cL_law 609 = .ok (.iaload, 1) := by decide +kernel
theorem dL_law_610 : decode cL_law 610 = .ok (.invokevirtual 96, 3) := by decide +kernel
theorem dL_law_613 : decode cL_law 613 = .ok (.if_icmp .eq 170, 3) := by decide +kernel
theorem dL_law_616 : decode cL_law 616 = .ok (.iconst 0, 1) := by decide +kernel
theorem dL_law_617 : decode cL_law 617 = .ok (.ireturn, 1) := by decide +kernel
theorem dL_law_618 : decode cL_law 618 = .ok (.aload_n 1, 1) := by decide +kernel
theorem dL_law_619 : decode cL_law 619 = .ok (.aload_n 0, 1) := by decide +kernel
theorem dL_law_620 : decode cL_law 620 = .ok (.iload_n 3, 1) := by decide +kernel
theorem dL_law_621 : decode cL_law 621 = .ok (.iconst 1, 1) := by decide +kernel
theorem dL_law_622 : decode cL_law 622 = .ok (.iadd, 1) := by decide +kernel
theorem dL_law_623 : decode cL_law 623 = .ok (.iaload, 1) := by decide +kernel
theorem dL_law_624 : decode cL_law 624 = .ok (.aload_n 0, 1) := by decide +kernel
theorem dL_law_625 : decode cL_law 625 = .ok (.iload_n 3, 1) := by decide +kernel
theorem dL_law_626 : decode cL_law 626 = .ok (.iconst 2, 1) := by decide +kernel
theorem dL_law_627 : decode cL_law 627 = .ok (.iadd, 1) := by decide +kernel
theorem dL_law_628 : decode cL_law 628 = .ok (.iaload, 1) := by decide +kernel
theorem dL_law_629 : decode cL_law 629 = .ok (.aload_n 0, 1) := by decide +kernel
theorem dL_law_630 : decode cL_law 630 = .ok (.iload_n 3, 1) := by decide +kernel
theorem dL_law_631 : decode cL_law 631 = .ok (.iconst 3, 1) := by decide +kernel
theorem dL_law_632 : decode cL_law 632 = .ok (.iadd, 1) := by decide +kernel
theorem dL_law_633 : decode cL_law 633 = .ok (.iaload, 1) := by decide +kernel
theorem dL_law_634 : decode cL_law 634 = .ok (.invokevirtual 97, 3) := by decide +kernel
theorem dL_law_637 : decode cL_law 637 = .ok (.aload_n 2, 1) := by decide +kernel
theorem dL_law_638 : decode cL_law 638 = .ok (.aload_n 0, 1) := by decide +kernel
theorem dL_law_639 : decode cL_law 639 = .ok (.iload_n 3, 1) := by decide +kernel
theorem dL_law_640 : decode cL_law 640 = .ok (.iconst 1, 1) := by decide +kernel
theorem dL_law_641 : decode cL_law 641 = .ok (.iadd, 1) := by decide +kernel
theorem dL_law_642 : decode cL_law 642 = .ok (.iaload, 1) := by decide +kernel
theorem dL_law_643 : decode cL_law 643 = .ok (.aload_n 0, 1) := by decide +kernel
theorem dL_law_644 : decode cL_law 644 = .ok (.iload_n 3, 1) := by decide +kernel
theorem dL_law_645 : decode cL_law 645 = .ok (.iconst 2, 1) := by decide +kernel
theorem dL_law_646 : decode cL_law 646 = .ok (.iadd, 1) := by decide +kernel
theorem dL_law_647 : decode cL_law 647 = .ok (.iaload, 1) := by decide +kernel
theorem dL_law_648 : decode cL_law 648 = .ok (.aload_n 0, 1) := by decide +kernel
theorem dL_law_649 : decode cL_law 649 = .ok (.iload_n 3, 1) := by decide +kernel
theorem dL_law_650 : decode cL_law 650 = .ok (.iconst 3, 1) := by decide +kernel
theorem dL_law_651 : decode cL_law 651 = .ok (.iadd, 1) := by decide +kernel
theorem dL_law_652 : decode cL_law 652 = .ok (.iaload, 1) := by decide +kernel
theorem dL_law_653 : decode cL_law 653 = .ok (.invokevirtual 100, 3) := by decide +kernel
theorem dL_law_656 : decode cL_law 656 = .ok (.if_icmp .eq 127, 3) := by decide +kernel
theorem dL_law_659 : decode cL_law 659 = .ok (.iconst 0, 1) := by decide +kernel
theorem dL_law_660 : decode cL_law 660 = .ok (.ireturn, 1) := by decide +kernel
theorem dL_law_661 : decode cL_law 661 = .ok (.aload_n 1, 1) := by decide +kernel
theorem dL_law_662 : decode cL_law 662 = .ok (.aload_n 0, 1) := by decide +kernel
theorem dL_law_663 : decode cL_law 663 = .ok (.iload_n 3, 1) := by decide +kernel
theorem dL_law_664 : decode cL_law 664 = .ok (.iconst 1, 1) := by decide +kernel
theorem dL_law_665 : decode cL_law 665 = .ok (.iadd, 1) := by decide +kernel
theorem dL_law_666 : decode cL_law 666 = .ok (.iaload, 1) := by decide +kernel
theorem dL_law_667 : decode cL_law 667 = .ok (.aload_n 0, 1) := by decide +kernel
theorem dL_law_668 : decode cL_law 668 = .ok (.iload_n 3, 1) := by decide +kernel
theorem dL_law_669 : decode cL_law 669 = .ok (.iconst 2, 1) := by decide +kernel
theorem dL_law_670 : decode cL_law 670 = .ok (.iadd, 1) := by decide +kernel
theorem dL_law_671 : decode cL_law 671 = .ok (.iaload, 1) := by decide +kernel
theorem dL_law_672 : decode cL_law 672 = .ok (.aload_n 0, 1) := by decide +kernel
theorem dL_law_673 : decode cL_law 673 = .ok (.iload_n 3, 1) := by decide +kernel
theorem dL_law_674 : decode cL_law 674 = .ok (.iconst 3, 1) := by decide +kernel
theorem dL_law_675 : decode cL_law 675 = .ok (.iadd, 1) := by decide +kernel
theorem dL_law_676 : decode cL_law 676 = .ok (.iaload, 1) := by decide +kernel
theorem dL_law_677 : decode cL_law 677 = .ok (.aload_n 0, 1) := by decide +kernel
theorem dL_law_678 : decode cL_law 678 = .ok (.iload_n 3, 1) := by decide +kernel
theorem dL_law_679 : decode cL_law 679 = .ok (.iconst 4, 1) := by decide +kernel
theorem dL_law_680 : decode cL_law 680 = .ok (.iadd, 1) := by decide +kernel
theorem dL_law_681 : decode cL_law 681 = .ok (.iaload, 1) := by decide +kernel
theorem dL_law_682 : decode cL_law 682 = .ok (.aload_n 0, 1) := by decide +kernel
theorem dL_law_683 : decode cL_law 683 = .ok (.iload_n 3, 1) := by decide +kernel
theorem dL_law_684 : decode cL_law 684 = .ok (.iconst 5, 1) := by decide +kernel
theorem dL_law_685 : decode cL_law 685 = .ok (.iadd, 1) := by decide +kernel
theorem dL_law_686 : decode cL_law 686 = .ok (.iaload, 1) := by decide +kernel
theorem dL_law_687 : decode cL_law 687 = .ok (.invokevirtual 101, 3) := by decide +kernel
theorem dL_law_690 : decode cL_law 690 = .ok (.aload_n 2, 1) := by decide +kernel
theorem dL_law_691 : decode cL_law 691 = .ok (.aload_n 0, 1) := by decide +kernel
theorem dL_law_692 : decode cL_law 692 = .ok (.iload_n 3, 1) := by decide +kernel
theorem dL_law_693 : decode cL_law 693 = .ok (.iconst 1, 1) := by decide +kernel
theorem dL_law_694 : decode cL_law 694 = .ok (.iadd, 1) := by decide +kernel
theorem dL_law_695 : decode cL_law 695 = .ok (.iaload, 1) := by decide +kernel
theorem dL_law_696 : decode cL_law 696 = .ok (.aload_n 0, 1) := by decide +kernel
theorem dL_law_697 : decode cL_law 697 = .ok (.iload_n 3, 1) := by decide +kernel
theorem dL_law_698 : decode cL_law 698 = .ok (.iconst 2, 1) := by decide +kernel
theorem dL_law_699 : decode cL_law 699 = .ok (.iadd, 1) := by decide +kernel
theorem dL_law_700 : decode cL_law 700 = .ok (.iaload, 1) := by decide +kernel
theorem dL_law_701 : decode cL_law 701 = .ok (.aload_n 0, 1) := by decide +kernel
theorem dL_law_702 : decode cL_law 702 = .ok (.iload_n 3, 1) := by decide +kernel
theorem dL_law_703 : decode cL_law 703 = .ok (.iconst 3, 1) := by decide +kernel
theorem dL_law_704 : decode cL_law 704 = .ok (.iadd, 1) := by decide +kernel
theorem dL_law_705 : decode cL_law 705 = .ok (.iaload, 1) := by decide +kernel
theorem dL_law_706 : decode cL_law 706 = .ok (.aload_n 0, 1) := by decide +kernel
theorem dL_law_707 : decode cL_law 707 = .ok (.iload_n 3, 1) := by decide +kernel
theorem dL_law_708 : decode cL_law 708 = .ok (.iconst 4, 1) := by decide +kernel
theorem dL_law_709 : decode cL_law 709 = .ok (.iadd, 1) := by decide +kernel
theorem dL_law_710 : decode cL_law 710 = .ok (.iaload, 1) := by decide +kernel
theorem dL_law_711 : decode cL_law 711 = .ok (.aload_n 0, 1) := by decide +kernel
theorem dL_law_712 : decode cL_law 712 = .ok (.iload_n 3, 1) := by decide +kernel
theorem dL_law_713 : decode cL_law 713 = .ok (.iconst 5, 1) := by decide +kernel
theorem dL_law_714 : decode cL_law 714 = .ok (.iadd, 1) := by decide +kernel
theorem dL_law_715 : decode cL_law 715 = .ok (.iaload, 1) := by decide +kernel
theorem dL_law_716 : decode cL_law 716 = .ok (.invokevirtual 105, 3) := by decide +kernel
theorem dL_law_719 : decode cL_law 719 = .ok (.if_icmp .eq 64, 3) := by decide +kernel
theorem dL_law_722 : decode cL_law 722 = .ok (.iconst 0, 1) := by decide +kernel
theorem dL_law_723 : decode cL_law 723 = .ok (.ireturn, 1) := by decide +kernel
theorem dL_law_724 : decode cL_law 724 = .ok (.aload_n 1, 1) := by decide +kernel
theorem dL_law_725 : decode cL_law 725 = .ok (.invokevirtual 106, 3) := by decide +kernel
theorem dL_law_728 : decode cL_law 728 = .ok (.aload_n 2, 1) := by decide +kernel
theorem dL_law_729 : decode cL_law 729 = .ok (.invokevirtual 109, 3) := by decide +kernel
theorem dL_law_732 : decode cL_law 732 = .ok (.if_icmp .eq 51, 3) := by decide +kernel
theorem dL_law_735 : decode cL_law 735 = .ok (.iconst 0, 1) := by decide +kernel
theorem dL_law_736 : decode cL_law 736 = .ok (.ireturn, 1) := by decide +kernel
theorem dL_law_737 : decode cL_law 737 = .ok (.aload_n 1, 1) := by decide +kernel
theorem dL_law_738 : decode cL_law 738 = .ok (.aload_n 0, 1) := by decide +kernel
theorem dL_law_739 : decode cL_law 739 = .ok (.iload_n 3, 1) := by decide +kernel
theorem dL_law_740 : decode cL_law 740 = .ok (.iconst 1, 1) := by decide +kernel
theorem dL_law_741 : decode cL_law 741 = .ok (.iadd, 1) := by decide +kernel
theorem dL_law_742 : decode cL_law 742 = .ok (.iaload, 1) := by decide +kernel
theorem dL_law_743 : decode cL_law 743 = .ok (.invokevirtual 110, 3) := by decide +kernel
theorem dL_law_746 : decode cL_law 746 = .ok (.aload_n 2, 1) := by decide +kernel
theorem dL_law_747 : decode cL_law 747 = .ok (.aload_n 0, 1) := by decide +kernel
theorem dL_law_748 : decode cL_law 748 = .ok (.iload_n 3, 1) := by decide +kernel
theorem dL_law_749 : decode cL_law 749 = .ok (.iconst 1, 1) := by decide +kernel
theorem dL_law_750 : decode cL_law 750 = .ok (.iadd, 1) := by decide +kernel
theorem dL_law_751 : decode cL_law 751 = .ok (.iaload, 1) := by decide +kernel
theorem dL_law_752 : decode cL_law 752 = .ok (.invokevirtual 113, 3) := by decide +kernel
theorem dL_law_755 : decode cL_law 755 = .ok (.if_icmp .eq 28, 3) := by decide +kernel
theorem dL_law_758 : decode cL_law 758 = .ok (.iconst 0, 1) := by decide +kernel
theorem dL_law_759 : decode cL_law 759 = .ok (.ireturn, 1) := by decide +kernel
theorem dL_law_760 : decode cL_law 760 = .ok (.aload_n 1, 1) := by decide +kernel
theorem dL_law_761 : decode cL_law 761 = .ok (.aload_n 0, 1) := by decide +kernel
theorem dL_law_762 : decode cL_law 762 = .ok (.iload_n 3, 1) := by decide +kernel
theorem dL_law_763 : decode cL_law 763 = .ok (.iconst 1, 1) := by decide +kernel
theorem dL_law_764 : decode cL_law 764 = .ok (.iadd, 1) := by decide +kernel
theorem dL_law_765 : decode cL_law 765 = .ok (.iaload, 1) := by decide +kernel
theorem dL_law_766 : decode cL_law 766 = .ok (.invokevirtual 114, 3) := by decide +kernel
theorem dL_law_769 : decode cL_law 769 = .ok (.aload_n 2, 1) := by decide +kernel
theorem dL_law_770 : decode cL_law 770 = .ok (.aload_n 0, 1) := by decide +kernel
theorem dL_law_771 : decode cL_law 771 = .ok (.iload_n 3, 1) := by decide +kernel
theorem dL_law_772 : decode cL_law 772 = .ok (.iconst 1, 1) := by decide +kernel
theorem dL_law_773 : decode cL_law 773 = .ok (.iadd, 1) := by decide +kernel
theorem dL_law_774 : decode cL_law 774 = .ok (.iaload, 1) := by decide +kernel
theorem dL_law_775 : decode cL_law 775 = .ok (.invokevirtual 117, 3) := by decide +kernel
theorem dL_law_778 : decode cL_law 778 = .ok (.if_icmp .eq 5, 3) := by decide +kernel
theorem dL_law_781 : decode cL_law 781 = .ok (.iconst 0, 1) := by decide +kernel
theorem dL_law_782 : decode cL_law 782 = .ok (.ireturn, 1) := by decide +kernel
theorem dL_law_783 : decode cL_law 783 = .ok (.iinc 3 6, 3) := by decide +kernel
theorem dL_law_786 : decode cL_law 786 = .ok (.goto (-768), 3) := by decide +kernel
theorem dL_law_789 : decode cL_law 789 = .ok (.iconst 1, 1) := by decide +kernel
theorem dL_law_790 : decode cL_law 790 = .ok (.ireturn, 1) := by decide +kernel
end
section
-- decode rows (printed by program)
theorem dX0_init_0 : decode cX0_init 0 = .ok (.aload_n 0, 1) := by decide +kernel
theorem dX0_init_1 : decode cX0_init 1 = .ok (.invokespecial 5, 3) := by decide +kernel
theorem dX0_init_4 : decode cX0_init 4 = .ok (.aload_n 0, 1) := by decide +kernel
theorem dX0_init_5 : decode cX0_init 5 = .ok (.bipush 45, 2) := by decide +kernel
theorem dX0_init_7 : decode cX0_init 7 = .ok (.newarray .int, 2) := by decide +kernel
theorem dX0_init_9 : decode cX0_init 9 = .ok (.putfield 11, 3) := by decide +kernel
theorem dX0_init_12 : decode cX0_init 12 = .ok (.return_, 1) := by decide +kernel
theorem dX0_layFrom_0 : decode cX0_layFrom 0 = .ok (.aload_n 0, 1) := by decide +kernel
theorem dX0_layFrom_1 : decode cX0_layFrom 1 = .ok (.aload_n 1, 1) := by decide +kernel
theorem dX0_layFrom_2 : decode cX0_layFrom 2 = .ok (.getfield 15, 3) := by decide +kernel
theorem dX0_layFrom_5 : decode cX0_layFrom 5 = .ok (.putfield 21, 3) := by decide +kernel
theorem dX0_layFrom_8 : decode cX0_layFrom 8 = .ok (.aload_n 0, 1) := by decide +kernel
theorem dX0_layFrom_9 : decode cX0_layFrom 9 = .ok (.aload_n 1, 1) := by decide +kernel
theorem dX0_layFrom_10 : decode cX0_layFrom 10 = .ok (.getfield 22, 3) := by decide +kernel
theorem dX0_layFrom_13 : decode cX0_layFrom 13 = .ok (.putfield 25, 3) := by decide +kernel
theorem dX0_layFrom_16 : decode cX0_layFrom 16 = .ok (.aload_n 1, 1) := by decide +kernel
theorem dX0_layFrom_17 : decode cX0_layFrom 17 = .ok (.getfield 26, 3) := by decide +kernel
theorem dX0_layFrom_20 : decode cX0_layFrom 20 = .ok (.iconst 0, 1) := by decide +kernel
theorem dX0_layFrom_21 : decode cX0_layFrom 21 = .ok (.aload_n 0, 1) := by decide +kernel
theorem dX0_layFrom_22 : decode cX0_layFrom 22 = .ok (.getfield 11, 3) := by decide +kernel
theorem dX0_layFrom_25 : decode cX0_layFrom 25 = .ok (.iconst 0, 1) := by decide +kernel
theorem dX0_layFrom_26 : decode cX0_layFrom 26 = .ok (.bipush 40, 2) := by decide +kernel
theorem dX0_layFrom_28 : decode cX0_layFrom 28 = .ok (.invokestatic 29, 3) := by decide +kernel
theorem dX0_layFrom_31 : decode cX0_layFrom 31 = .ok (.aload_n 1, 1) := by decide +kernel
theorem dX0_layFrom_32 : decode cX0_layFrom 32 = .ok (.getfield 35, 3) := by decide +kernel
theorem dX0_layFrom_35 : decode cX0_layFrom 35 = .ok (.iconst 0, 1) := by decide +kernel
theorem dX0_layFrom_36 : decode cX0_layFrom 36 = .ok (.aload_n 0, 1) := by decide +kernel
theorem dX0_layFrom_37 : decode cX0_layFrom 37 = .ok (.getfield 11, 3) := by decide +kernel
theorem dX0_layFrom_40 : decode cX0_layFrom 40 = .ok (.bipush 40, 2) := by decide +kernel
theorem dX0_layFrom_42 : decode cX0_layFrom 42 = .ok (.iconst 3, 1) := by decide +kernel
theorem dX0_layFrom_43 : decode cX0_layFrom 43 = .ok (.invokestatic 29, 3) := by decide +kernel
theorem dX0_layFrom_46 : decode cX0_layFrom 46 = .ok (.aload_n 0, 1) := by decide +kernel
theorem dX0_layFrom_47 : decode cX0_layFrom 47 = .ok (.getfield 11, 3) := by decide +kernel
theorem dX0_layFrom_50 : decode cX0_layFrom 50 = .ok (.bipush 43, 2) := by decide +kernel
theorem dX0_layFrom_52 : decode cX0_layFrom 52 = .ok (.iconst 0, 1) := by decide +kernel
theorem dX0_layFrom_53 : decode cX0_layFrom 53 = .ok (.iastore, 1) := by decide +kernel
theorem dX0_layFrom_54 : decode cX0_layFrom 54 = .ok (.aload_n 0, 1) := by decide +kernel
theorem dX0_layFrom_55 : decode cX0_layFrom 55 = .ok (.getfield 11, 3) := by decide +kernel
theorem dX0_layFrom_58 : decode cX0_layFrom 58 = .ok (.bipush 44, 2) := by decide +kernel
theorem dX0_layFrom_60 : decode cX0_layFrom 60 = .ok (.iconst 0, 1) := by decide +kernel
theorem dX0_layFrom_61 : decode cX0_layFrom 61 = .ok (.iastore, 1) := by decide +kernel
theorem dX0_layFrom_62 : decode cX0_layFrom 62 = .ok (.return_, 1) := by decide +kernel
theorem dX0_numberOf_0 : decode cX0_numberOf 0 = .ok (.aload_n 0, 1) := by decide +kernel
theorem dX0_numberOf_1 : decode cX0_numberOf 1 = .ok (.getfield 11, 3) := by decide +kernel
theorem dX0_numberOf_4 : decode cX0_numberOf 4 = .ok (.iload_n 1, 1) := by decide +kernel
theorem dX0_numberOf_5 : decode cX0_numberOf 5 = .ok (.iconst 5, 1) := by decide +kernel
theorem dX0_numberOf_6 : decode cX0_numberOf 6 = .ok (.imul, 1) := by decide +kernel
theorem dX0_numberOf_7 : decode cX0_numberOf 7 = .ok (.iload_n 2, 1) := by decide +kernel
theorem dX0_numberOf_8 : decode cX0_numberOf 8 = .ok (.iadd, 1) := by decide +kernel
theorem dX0_numberOf_9 : decode cX0_numberOf 9 = .ok (.iaload, 1) := by decide +kernel
theorem dX0_numberOf_10 : decode cX0_numberOf 10 = .ok (.ireturn, 1) := by decide +kernel
theorem dX0_tellNumber_0 : decode cX0_tellNumber 0 = .ok (.aload_n 0, 1) := by decide +kernel
theorem dX0_tellNumber_1 : decode cX0_tellNumber 1 = .ok (.getfield 11, 3) := by decide +kernel
theorem dX0_tellNumber_4 : decode cX0_tellNumber 4 = .ok (.iload_n 1, 1) := by decide +kernel
theorem dX0_tellNumber_5 : decode cX0_tellNumber 5 = .ok (.iconst 5, 1) := by decide +kernel
theorem dX0_tellNumber_6 : decode cX0_tellNumber 6 = .ok (.imul, 1) := by decide +kernel
theorem dX0_tellNumber_7 : decode cX0_tellNumber 7 = .ok (.iload_n 2, 1) := by decide +kernel
theorem dX0_tellNumber_8 : decode cX0_tellNumber 8 = .ok (.iadd, 1) := by decide +kernel
theorem dX0_tellNumber_9 : decode cX0_tellNumber 9 = .ok (.iload_n 3, 1) := by decide +kernel
theorem dX0_tellNumber_10 : decode cX0_tellNumber 10 = .ok (.iastore, 1) := by decide +kernel
theorem dX0_tellNumber_11 : decode cX0_tellNumber 11 = .ok (.return_, 1) := by decide +kernel
theorem dX0_limitOf_0 : decode cX0_limitOf 0 = .ok (.aload_n 0, 1) := by decide +kernel
theorem dX0_limitOf_1 : decode cX0_limitOf 1 = .ok (.getfield 11, 3) := by decide +kernel
theorem dX0_limitOf_4 : decode cX0_limitOf 4 = .ok (.bipush 40, 2) := by decide +kernel
theorem dX0_limitOf_6 : decode cX0_limitOf 6 = .ok (.iload_n 1, 1) := by decide +kernel
theorem dX0_limitOf_7 : decode cX0_limitOf 7 = .ok (.iadd, 1) := by decide +kernel
theorem dX0_limitOf_8 : decode cX0_limitOf 8 = .ok (.iaload, 1) := by decide +kernel
theorem dX0_limitOf_9 : decode cX0_limitOf 9 = .ok (.ireturn, 1) := by decide +kernel
theorem dX0_tellLimit_0 : decode cX0_tellLimit 0 = .ok (.aload_n 0, 1) := by decide +kernel
theorem dX0_tellLimit_1 : decode cX0_tellLimit 1 = .ok (.getfield 11, 3) := by decide +kernel
theorem dX0_tellLimit_4 : decode cX0_tellLimit 4 = .ok (.bipush 40, 2) := by decide +kernel
theorem dX0_tellLimit_6 : decode cX0_tellLimit 6 = .ok (.iload_n 1, 1) := by decide +kernel
theorem dX0_tellLimit_7 : decode cX0_tellLimit 7 = .ok (.iadd, 1) := by decide +kernel
theorem dX0_tellLimit_8 : decode cX0_tellLimit 8 = .ok (.iload_n 2, 1) := by decide +kernel
theorem dX0_tellLimit_9 : decode cX0_tellLimit 9 = .ok (.iastore, 1) := by decide +kernel
theorem dX0_tellLimit_10 : decode cX0_tellLimit 10 = .ok (.return_, 1) := by decide +kernel
theorem dX0_shiftNow_0 : decode cX0_shiftNow 0 = .ok (.aload_n 0, 1) := by decide +kernel
theorem dX0_shiftNow_1 : decode cX0_shiftNow 1 = .ok (.getfield 11, 3) := by decide +kernel
theorem dX0_shiftNow_4 : decode cX0_shiftNow 4 = .ok (.bipush 43, 2) := by decide +kernel
theorem dX0_shiftNow_6 : decode cX0_shiftNow 6 = .ok (.iaload, 1) := by decide +kernel
theorem dX0_shiftNow_7 : decode cX0_shiftNow 7 = .ok (.ireturn, 1) := by decide +kernel
theorem dX0_tellShift_0 : decode cX0_tellShift 0 = .ok (.aload_n 0, 1) := by decide +kernel
theorem dX0_tellShift_1 : decode cX0_tellShift 1 = .ok (.getfield 11, 3) := by decide +kernel
theorem dX0_tellShift_4 : decode cX0_tellShift 4 = .ok (.bipush 43, 2) := by decide +kernel
theorem dX0_tellShift_6 : decode cX0_tellShift 6 = .ok (.iload_n 1, 1) := by decide +kernel
theorem dX0_tellShift_7 : decode cX0_tellShift 7 = .ok (.iastore, 1) := by decide +kernel
theorem dX0_tellShift_8 : decode cX0_tellShift 8 = .ok (.return_, 1) := by decide +kernel
theorem dX0_bonded_0 : decode cX0_bonded 0 = .ok (.aload_n 0, 1) := by decide +kernel
theorem dX0_bonded_1 : decode cX0_bonded 1 = .ok (.getfield 11, 3) := by decide +kernel
theorem dX0_bonded_4 : decode cX0_bonded 4 = .ok (.bipush 44, 2) := by decide +kernel
theorem dX0_bonded_6 : decode cX0_bonded 6 = .ok (.iaload, 1) := by decide +kernel
theorem dX0_bonded_7 : decode cX0_bonded 7 = .ok (.ireturn, 1) := by decide +kernel
theorem dX0_tellBonded_0 : decode cX0_tellBonded 0 = .ok (.aload_n 0, 1) := by decide +kernel
theorem dX0_tellBonded_1 : decode cX0_tellBonded 1 = .ok (.getfield 11, 3) := by decide +kernel
theorem dX0_tellBonded_4 : decode cX0_tellBonded 4 = .ok (.bipush 44, 2) := by decide +kernel
theorem dX0_tellBonded_6 : decode cX0_tellBonded 6 = .ok (.iload_n 1, 1) := by decide +kernel
theorem dX0_tellBonded_7 : decode cX0_tellBonded 7 = .ok (.iastore, 1) := by decide +kernel
theorem dX0_tellBonded_8 : decode cX0_tellBonded 8 = .ok (.return_, 1) := by decide +kernel
theorem dX0_isBonded_0 : decode cX0_isBonded 0 = .ok (.aload_n 0, 1) := by decide +kernel
theorem dX0_isBonded_1 : decode cX0_isBonded 1 = .ok (.invokevirtual 38, 3) := by decide +kernel
theorem dX0_isBonded_4 : decode cX0_isBonded 4 = .ok (.iconst 1, 1) := by decide +kernel
theorem dX0_isBonded_5 : decode cX0_isBonded 5 = .ok (.iload_n 1, 1) := by decide +kernel
theorem dX0_isBonded_6 : decode cX0_isBonded 6 = .ok (.ishl, 1) := by decide +kernel
theorem dX0_isBonded_7 : decode cX0_isBonded 7 = .ok (.iand, 1) := by decide +kernel
theorem dX0_isBonded_8 : decode cX0_isBonded 8 = .ok (.ifCond .eq 7, 3) := by decide +kernel
theorem dX0_isBonded_11 : decode cX0_isBonded 11 = .ok (.iconst 1, 1) := by decide +kernel
theorem dX0_isBonded_12 : decode cX0_isBonded 12 = .ok (.goto 4, 3) := by decide +kernel
theorem dX0_isBonded_15 : decode cX0_isBonded 15 = .ok (.iconst 0, 1) := by decide +kernel
theorem dX0_isBonded_16 : decode cX0_isBonded 16 = .ok (.ireturn, 1) := by decide +kernel
end
section
-- decode rows (printed by program)
theorem dX1_init_0 : decode cX1_init 0 = .ok (.aload_n 0, 1) := by decide +kernel
theorem dX1_init_1 : decode cX1_init 1 = .ok (.invokespecial 3, 3) := by decide +kernel
theorem dX1_init_4 : decode cX1_init 4 = .ok (.aload_n 0, 1) := by decide +kernel
theorem dX1_init_5 : decode cX1_init 5 = .ok (.bipush 40, 2) := by decide +kernel
theorem dX1_init_7 : decode cX1_init 7 = .ok (.newarray .int, 2) := by decide +kernel
theorem dX1_init_9 : decode cX1_init 9 = .ok (.putfield 9, 3) := by decide +kernel
theorem dX1_init_12 : decode cX1_init 12 = .ok (.aload_n 0, 1) := by decide +kernel
theorem dX1_init_13 : decode cX1_init 13 = .ok (.iconst 3, 1) := by decide +kernel
theorem dX1_init_14 : decode cX1_init 14 = .ok (.newarray .int, 2) := by decide +kernel
theorem dX1_init_16 : decode cX1_init 16 = .ok (.putfield 15, 3) := by decide +kernel
theorem dX1_init_19 : decode cX1_init 19 = .ok (.return_, 1) := by decide +kernel
theorem dX1_read_0 : decode cX1_read 0 = .ok (.aload_n 0, 1) := by decide +kernel
theorem dX1_read_1 : decode cX1_read 1 = .ok (.iconst 0, 1) := by decide +kernel
theorem dX1_read_2 : decode cX1_read 2 = .ok (.putfield 18, 3) := by decide +kernel
theorem dX1_read_5 : decode cX1_read 5 = .ok (.aload_n 0, 1) := by decide +kernel
theorem dX1_read_6 : decode cX1_read 6 = .ok (.iconst 0, 1) := by decide +kernel
theorem dX1_read_7 : decode cX1_read 7 = .ok (.putfield 22, 3) := by decide +kernel
theorem dX1_read_10 : decode cX1_read 10 = .ok (.aload_n 0, 1) := by decide +kernel
theorem dX1_read_11 : decode cX1_read 11 = .ok (.iconst 0, 1) := by decide +kernel
theorem dX1_read_12 : decode cX1_read 12 = .ok (.putfield 25, 3) := by decide +kernel
theorem dX1_read_15 : decode cX1_read 15 = .ok (.aload_n 0, 1) := by decide +kernel
theorem dX1_read_16 : decode cX1_read 16 = .ok (.bipush (-4), 2) := by decide +kernel
theorem dX1_read_18 : decode cX1_read 18 = .ok (.putfield 28, 3) := by decide +kernel
theorem dX1_read_21 : decode cX1_read 21 = .ok (.getstatic 31, 3) := by decide +kernel
theorem dX1_read_24 : decode cX1_read 24 = .ok (.iconst 0, 1) := by decide +kernel
theorem dX1_read_25 : decode cX1_read 25 = .ok (.aload_n 0, 1) := by decide +kernel
theorem dX1_read_26 : decode cX1_read 26 = .ok (.getfield 15, 3) := by decide +kernel
theorem dX1_read_29 : decode cX1_read 29 = .ok (.iconst 0, 1) := by decide +kernel
theorem dX1_read_30 : decode cX1_read 30 = .ok (.iconst 3, 1) := by decide +kernel
theorem dX1_read_31 : decode cX1_read 31 = .ok (.invokestatic 34, 3) := by decide +kernel
theorem dX1_read_34 : decode cX1_read 34 = .ok (.iconst 0, 1) := by decide +kernel
theorem dX1_read_35 : decode cX1_read 35 = .ok (.istore_n 2, 1) := by decide +kernel
theorem dX1_read_36 : decode cX1_read 36 = .ok (.iload_n 2, 1) := by decide +kernel
theorem dX1_read_37 : decode cX1_read 37 = .ok (.sipush 200, 3) := by decide +kernel
theorem dX1_read_40 : decode cX1_read 40 = .ok (.if_icmp .ge 39, 3) := by decide +kernel
theorem dX1_read_43 : decode cX1_read 43 = .ok (.aload_n 0, 1) := by decide +kernel
theorem dX1_read_44 : decode cX1_read 44 = .ok (.getfield 25, 3) := by decide +kernel
theorem dX1_read_47 : decode cX1_read 47 = .ok (.aload_n 1, 1) := by decide +kernel
theorem dX1_read_48 : decode cX1_read 48 = .ok (.getfield 40, 3) := by decide +kernel
theorem dX1_read_51 : decode cX1_read 51 = .ok (.if_icmp .ge 28, 3) := by decide +kernel
theorem dX1_read_54 : decode cX1_read 54 = .ok (.aload_n 0, 1) := by decide +kernel
theorem dX1_read_55 : decode cX1_read 55 = .ok (.getfield 25, 3) := by decide +kernel
theorem dX1_read_58 : decode cX1_read 58 = .ok (.istore_n 3, 1) := by decide +kernel
theorem dX1_read_59 : decode cX1_read 59 = .ok (.aload_n 0, 1) := by decide +kernel
theorem dX1_read_60 : decode cX1_read 60 = .ok (.aload_n 1, 1) := by decide +kernel
theorem dX1_read_61 : decode cX1_read 61 = .ok (.invokevirtual 45, 3) := by decide +kernel
theorem dX1_read_64 : decode cX1_read 64 = .ok (.ifCond .ne 9, 3) := by decide +kernel
theorem dX1_read_67 : decode cX1_read 67 = .ok (.aload_n 0, 1) := by decide +kernel
theorem dX1_read_68 : decode cX1_read 68 = .ok (.iload_n 3, 1) := by decide +kernel
theorem dX1_read_69 : decode cX1_read 69 = .ok (.putfield 28, 3) := by decide +kernel
theorem dX1_read_72 : decode cX1_read 72 = .ok (.return_, 1) := by decide +kernel
theorem dX1_read_73 : decode cX1_read 73 = .ok (.iinc 2 1, 3) := by decide +kernel
theorem dX1_read_76 : decode cX1_read 76 = .ok (.goto (-40), 3) := by decide +kernel
theorem dX1_read_79 : decode cX1_read 79 = .ok (.return_, 1) := by decide +kernel
theorem dX1_readItem_0 : decode cX1_readItem 0 = .ok (.aload_n 1, 1) := by decide +kernel
theorem dX1_readItem_1 : decode cX1_readItem 1 = .ok (.aload_n 0, 1) := by decide +kernel
theorem dX1_readItem_2 : decode cX1_readItem 2 = .ok (.getfield 25, 3) := by decide +kernel
theorem dX1_readItem_5 : decode cX1_readItem 5 = .ok (.invokevirtual 49, 3) := by decide +kernel
theorem dX1_readItem_8 : decode cX1_readItem 8 = .ok (.istore_n 2, 1) := by decide +kernel
theorem dX1_readItem_9 : decode cX1_readItem 9 = .ok (.aload_n 0, 1) := by decide +kernel
theorem dX1_readItem_10 : decode cX1_readItem 10 = .ok (.dup, 1) := by decide +kernel
theorem dX1_readItem_11 : decode cX1_readItem 11 = .ok (.getfield 25, 3) := by decide +kernel
theorem dX1_readItem_14 : decode cX1_readItem 14 = .ok (.iconst 1, 1) := by decide +kernel
theorem dX1_readItem_15 : decode cX1_readItem 15 = .ok (.iadd, 1) := by decide +kernel
theorem dX1_readItem_16 : decode cX1_readItem 16 = .ok (.putfield 25, 3) := by decide +kernel
theorem dX1_readItem_19 : decode cX1_readItem 19 = .ok (.iload_n 2, 1) := by decide +kernel
theorem dX1_readItem_20 : decode cX1_readItem 20 = .ok (.bipush 115, 2) := by decide +kernel
theorem dX1_readItem_22 : decode cX1_readItem 22 = .ok (.if_icmp .ne 7, 3) := by decide +kernel
theorem dX1_readItem_25 : decode cX1_readItem 25 = .ok (.iconst 1, 1) := by decide +kernel
theorem dX1_readItem_26 : decode cX1_readItem 26 = .ok (.goto 4, 3) := by decide +kernel
theorem dX1_readItem_29 : decode cX1_readItem 29 = .ok (.iconst 0, 1) := by decide +kernel
theorem dX1_readItem_30 : decode cX1_readItem 30 = .ok (.aload_n 0, 1) := by decide +kernel
theorem dX1_readItem_31 : decode cX1_readItem 31 = .ok (.getfield 18, 3) := by decide +kernel
theorem dX1_readItem_34 : decode cX1_readItem 34 = .ok (.ifCond .ne 7, 3) := by decide +kernel
theorem dX1_readItem_37 : decode cX1_readItem 37 = .ok (.iconst 1, 1) := by decide +kernel
theorem dX1_readItem_38 : decode cX1_readItem 38 = .ok (.goto 4, 3) := by decide +kernel
theorem dX1_readItem_41 : decode cX1_readItem 41 = .ok (.iconst 0, 1) := by decide +kernel
theorem dX1_readItem_42 : decode cX1_readItem 42 = .ok (.if_icmp .eq 5, 3) := by decide +kernel
theorem dX1_readItem_45 : decode cX1_readItem 45 = .ok (.iconst 0, 1) := by decide +kernel
theorem dX1_readItem_46 : decode cX1_readItem 46 = .ok (.ireturn, 1) := by decide +kernel
theorem dX1_readItem_47 : decode cX1_readItem 47 = .ok (.iload_n 2, 1) := by decide +kernel
theorem dX1_readItem_48 : decode cX1_readItem 48 = .ok (.lookupswitch 85 #[(103, 58), (104, 65), (115, 52), (116, 72), (119, 79)], 52) := by decide +kernel
theorem dX1_readItem_100 : decode cX1_readItem 100 = .ok (.aload_n 0, 1) := by decide +kernel
theorem dX1_readItem_101 : decode cX1_readItem 101 = .ok (.aload_n 1, 1) := by decide +kernel
theorem dX1_readItem_102 : decode cX1_readItem 102 = .ok (.invokevirtual 53, 3) := by decide +kernel
theorem dX1_readItem_105 : decode cX1_readItem 105 = .ok (.ireturn, 1) := by decide +kernel
theorem dX1_readItem_106 : decode cX1_readItem 106 = .ok (.aload_n 0, 1) := by decide +kernel
theorem dX1_readItem_107 : decode cX1_readItem 107 = .ok (.aload_n 1, 1) := by decide +kernel
theorem dX1_readItem_108 : decode cX1_readItem 108 = .ok (.iconst 0, 1) := by decide +kernel
theorem dX1_readItem_109 : decode cX1_readItem 109 = .ok (.invokevirtual 56, 3) := by decide +kernel
theorem dX1_readItem_112 : decode cX1_readItem 112 = .ok (.ireturn, 1) := by decide +kernel
theorem dX1_readItem_113 : decode cX1_readItem 113 = .ok (.aload_n 0, 1) := by decide +kernel
theorem dX1_readItem_114 : decode cX1_readItem 114 = .ok (.aload_n 1, 1) := by decide +kernel
theorem dX1_readItem_115 : decode cX1_readItem 115 = .ok (.iconst 1, 1) := by decide +kernel
theorem dX1_readItem_116 : decode cX1_readItem 116 = .ok (.invokevirtual 56, 3) := by decide +kernel
theorem dX1_readItem_119 : decode cX1_readItem 119 = .ok (.ireturn, 1) := by decide +kernel
theorem dX1_readItem_120 : decode cX1_readItem 120 = .ok (.aload_n 0, 1) := by decide +kernel
theorem dX1_readItem_121 : decode cX1_readItem 121 = .ok (.aload_n 1, 1) := by decide +kernel
theorem dX1_readItem_122 : decode cX1_readItem 122 = .ok (.iconst 2, 1) := by decide +kernel
theorem dX1_readItem_123 : decode cX1_readItem 123 = .ok (.invokevirtual 56, 3) := by decide +kernel
theorem dX1_readItem_126 : decode cX1_readItem 126 = .ok (.ireturn, 1) := by decide +kernel
theorem dX1_readItem_127 : decode cX1_readItem 127 = .ok (.aload_n 0, 1) := by decide +kernel
theorem dX1_readItem_128 : decode cX1_readItem 128 = .ok (.aload_n 1, 1) := by decide +kernel
theorem dX1_readItem_129 : decode cX1_readItem 129 = .ok (.invokevirtual 60, 3) := by decide +kernel
theorem dX1_readItem_132 : decode cX1_readItem 132 = .ok (.ireturn, 1) := by decide +kernel
theorem dX1_readItem_133 : decode cX1_readItem 133 = .ok (.iconst 0, 1) := by decide +kernel
theorem dX1_readItem_134 : decode cX1_readItem 134 = .ok (.ireturn, 1) := by decide +kernel
theorem dX1_readSpan_0 : decode cX1_readSpan 0 = .ok (.aload_n 0, 1) := by decide +kernel
theorem dX1_readSpan_1 : decode cX1_readSpan 1 = .ok (.aload_n 1, 1) := by decide +kernel
theorem dX1_readSpan_2 : decode cX1_readSpan 2 = .ok (.bipush 59, 2) := by decide +kernel
theorem dX1_readSpan_4 : decode cX1_readSpan 4 = .ok (.invokevirtual 63, 3) := by decide +kernel
theorem dX1_readSpan_7 : decode cX1_readSpan 7 = .ok (.istore_n 2, 1) := by decide +kernel
theorem dX1_readSpan_8 : decode cX1_readSpan 8 = .ok (.iload_n 2, 1) := by decide +kernel
theorem dX1_readSpan_9 : decode cX1_readSpan 9 = .ok (.bipush 8, 2) := by decide +kernel
theorem dX1_readSpan_11 : decode cX1_readSpan 11 = .ok (.if_icmp .lt 9, 3) := by decide +kernel
theorem dX1_readSpan_14 : decode cX1_readSpan 14 = .ok (.iload_n 2, 1) := by decide +kernel
theorem dX1_readSpan_15 : decode cX1_readSpan 15 = .ok (.bipush 40, 2) := by decide +kernel
theorem dX1_readSpan_17 : decode cX1_readSpan 17 = .ok (.if_icmp .le 5, 3) := by decide +kernel
theorem dX1_readSpan_20 : decode cX1_readSpan 20 = .ok (.iconst 0, 1) := by decide +kernel
theorem dX1_readSpan_21 : decode cX1_readSpan 21 = .ok (.ireturn, 1) := by decide +kernel
theorem dX1_readSpan_22 : decode cX1_readSpan 22 = .ok (.aload_n 0, 1) := by decide +kernel
theorem dX1_readSpan_23 : decode cX1_readSpan 23 = .ok (.iload_n 2, 1) := by decide +kernel
theorem dX1_readSpan_24 : decode cX1_readSpan 24 = .ok (.putfield 18, 3) := by decide +kernel
theorem dX1_readSpan_27 : decode cX1_readSpan 27 = .ok (.iconst 1, 1) := by decide +kernel
theorem dX1_readSpan_28 : decode cX1_readSpan 28 = .ok (.ireturn, 1) := by decide +kernel
theorem dX1_readLimit_0 : decode cX1_readLimit 0 = .ok (.aload_n 0, 1) := by decide +kernel
theorem dX1_readLimit_1 : decode cX1_readLimit 1 = .ok (.aload_n 1, 1) := by decide +kernel
theorem dX1_readLimit_2 : decode cX1_readLimit 2 = .ok (.bipush 59, 2) := by decide +kernel
theorem dX1_readLimit_4 : decode cX1_readLimit 4 = .ok (.invokevirtual 63, 3) := by decide +kernel
theorem dX1_readLimit_7 : decode cX1_readLimit 7 = .ok (.istore_n 3, 1) := by decide +kernel
theorem dX1_readLimit_8 : decode cX1_readLimit 8 = .ok (.iload_n 3, 1) := by decide +kernel
theorem dX1_readLimit_9 : decode cX1_readLimit 9 = .ok (.iconst 1, 1) := by decide +kernel
theorem dX1_readLimit_10 : decode cX1_readLimit 10 = .ok (.if_icmp .lt 12, 3) := by decide +kernel
theorem dX1_readLimit_13 : decode cX1_readLimit 13 = .ok (.iload_n 3, 1) := by decide +kernel
theorem dX1_readLimit_14 : decode cX1_readLimit 14 = .ok (.getstatic 67, 3) := by decide +kernel
theorem dX1_readLimit_17 : decode cX1_readLimit 17 = .ok (.iload_n 2, 1) := by decide +kernel
theorem dX1_readLimit_18 : decode cX1_readLimit 18 = .ok (.iaload, 1) := by decide +kernel
theorem dX1_readLimit_19 : decode cX1_readLimit 19 = .ok (.if_icmp .le 5, 3) := by decide +kernel
theorem dX1_readLimit_22 : decode cX1_readLimit 22 = .ok (.iconst 0, 1) := by decide +kernel
theorem dX1_readLimit_23 : decode cX1_readLimit 23 = .ok (.ireturn, 1) := by decide +kernel
theorem dX1_readLimit_24 : decode cX1_readLimit 24 = .ok (.aload_n 0, 1) := by decide +kernel
theorem dX1_readLimit_25 : decode cX1_readLimit 25 = .ok (.getfield 15, 3) := by decide +kernel
theorem dX1_readLimit_28 : decode cX1_readLimit 28 = .ok (.iload_n 2, 1) := by decide +kernel
theorem dX1_readLimit_29 : decode cX1_readLimit 29 = .ok (.iload_n 3, 1) := by decide +kernel
theorem dX1_readLimit_30 : decode cX1_readLimit 30 = .ok (.iastore, 1) := by decide +kernel
theorem dX1_readLimit_31 : decode cX1_readLimit 31 = .ok (.iconst 1, 1) := by decide +kernel
theorem dX1_readLimit_32 : decode cX1_readLimit 32 = .ok (.ireturn, 1) := by decide +kernel
theorem dX1_readWire_0 : decode cX1_readWire 0 = .ok (.aload_n 0, 1) := by decide +kernel
theorem dX1_readWire_1 : decode cX1_readWire 1 = .ok (.getfield 22, 3) := by decide +kernel
theorem dX1_readWire_4 : decode cX1_readWire 4 = .ok (.bipush 8, 2) := by decide +kernel
theorem dX1_readWire_6 : decode cX1_readWire 6 = .ok (.if_icmp .lt 5, 3) := by decide +kernel
theorem dX1_readWire_9 : decode cX1_readWire 9 = .ok (.iconst 0, 1) := by decide +kernel
theorem dX1_readWire_10 : decode cX1_readWire 10 = .ok (.ireturn, 1) := by decide +kernel
theorem dX1_readWire_11 : decode cX1_readWire 11 = .ok (.iconst 0, 1) := by decide +kernel
theorem dX1_readWire_12 : decode cX1_readWire 12 = .ok (.istore_n 2, 1) := by decide +kernel
theorem dX1_readWire_13 : decode cX1_readWire 13 = .ok (.iload_n 2, 1) := by decide +kernel
theorem dX1_readWire_14 : decode cX1_readWire 14 = .ok (.iconst 5, 1) := by decide +kernel
theorem dX1_readWire_15 : decode cX1_readWire 15 = .ok (.if_icmp .ge 61, 3) := by decide +kernel
theorem dX1_readWire_18 : decode cX1_readWire 18 = .ok (.aload_n 0, 1) := by decide +kernel
theorem dX1_readWire_19 : decode cX1_readWire 19 = .ok (.aload_n 1, 1) := by decide +kernel
theorem dX1_readWire_20 : decode cX1_readWire 20 = .ok (.iload_n 2, 1) := by decide +kernel
theorem dX1_readWire_21 : decode cX1_readWire 21 = .ok (.iconst 4, 1) := by decide +kernel
theorem dX1_readWire_22 : decode cX1_readWire 22 = .ok (.if_icmp .ne 8, 3) := by decide +kernel
theorem dX1_readWire_25 : decode cX1_readWire 25 = .ok (.bipush 59, 2) := by decide +kernel
theorem dX1_readWire_27 : decode cX1_readWire 27 = .ok (.goto 5, 3) := by decide +kernel
theorem dX1_readWire_30 : decode cX1_readWire 30 = .ok (.bipush 44, 2) := by decide +kernel
theorem dX1_readWire_32 : decode cX1_readWire 32 = .ok (.invokevirtual 63, 3) := by decide +kernel
theorem dX1_readWire_35 : decode cX1_readWire 35 = .ok (.istore_n 3, 1) := by decide +kernel
theorem dX1_readWire_36 : decode cX1_readWire 36 = .ok (.iload_n 3, 1) := by decide +kernel
theorem dX1_readWire_37 : decode cX1_readWire 37 = .ok (.getstatic 70, 3) := by decide +kernel
theorem dX1_readWire_40 : decode cX1_readWire 40 = .ok (.iload_n 2, 1) := by decide +kernel
theorem dX1_readWire_41 : decode cX1_readWire 41 = .ok (.iaload, 1) := by decide +kernel
theorem dX1_readWire_42 : decode cX1_readWire 42 = .ok (.if_icmp .lt 12, 3) := by decide +kernel
theorem dX1_readWire_45 : decode cX1_readWire 45 = .ok (.iload_n 3, 1) := by decide +kernel
theorem dX1_readWire_46 : decode cX1_readWire 46 = .ok (.getstatic 73, 3) := by decide +kernel
theorem dX1_readWire_49 : decode cX1_readWire 49 = .ok (.iload_n 2, 1) := by decide +kernel
theorem dX1_readWire_50 : decode cX1_readWire 50 = .ok (.iaload, 1) := by decide +kernel
theorem dX1_readWire_51 : decode cX1_readWire 51 = .ok (.if_icmp .le 5, 3) := by decide +kernel
theorem dX1_readWire_54 : decode cX1_readWire 54 = .ok (.iconst 0, 1) := by decide +kernel
theorem dX1_readWire_55 : decode cX1_readWire 55 = .ok (.ireturn, 1) := by decide +kernel
theorem dX1_readWire_56 : decode cX1_readWire 56 = .ok (.aload_n 0, 1) := by decide +kernel
theorem dX1_readWire_57 : decode cX1_readWire 57 = .ok (.getfield 9, 3) := by decide +kernel
theorem dX1_readWire_60 : decode cX1_readWire 60 = .ok (.aload_n 0, 1) := by decide +kernel
theorem dX1_readWire_61 : decode cX1_readWire 61 = .ok (.getfield 22, 3) := by decide +kernel
theorem dX1_readWire_64 : decode cX1_readWire 64 = .ok (.iconst 5, 1) := by decide +kernel
theorem dX1_readWire_65 : decode cX1_readWire 65 = .ok (.imul, 1) := by decide +kernel
theorem dX1_readWire_66 : decode cX1_readWire 66 = .ok (.iload_n 2, 1) := by decide +kernel
theorem dX1_readWire_67 : decode cX1_readWire 67 = .ok (.iadd, 1) := by decide +kernel
theorem dX1_readWire_68 : decode cX1_readWire 68 = .ok (.iload_n 3, 1) := by decide +kernel
theorem dX1_readWire_69 : decode cX1_readWire 69 = .ok (.iastore, 1) := by decide +kernel
theorem dX1_readWire_70 : decode cX1_readWire 70 = .ok (.iinc 2 1, 3) := by decide +kernel
theorem dX1_readWire_73 : decode cX1_readWire 73 = .ok (.goto (-60), 3) := by decide +kernel
theorem dX1_readWire_76 : decode cX1_readWire 76 = .ok (.aload_n 0, 1) := by decide +kernel
theorem dX1_readWire_77 : decode cX1_readWire 77 = .ok (.dup, 1) := by decide +kernel
theorem dX1_readWire_78 : decode cX1_readWire 78 = .ok (.getfield 22, 3) := by decide +kernel
theorem dX1_readWire_81 : decode cX1_readWire 81 = .ok (.iconst 1, 1) := by decide +kernel
theorem dX1_readWire_82 : decode cX1_readWire 82 = .ok (.iadd, 1) := by decide +kernel
theorem dX1_readWire_83 : decode cX1_readWire 83 = .ok (.putfield 22, 3) := by decide +kernel
theorem dX1_readWire_86 : decode cX1_readWire 86 = .ok (.iconst 1, 1) := by decide +kernel
theorem dX1_readWire_87 : decode cX1_readWire 87 = .ok (.ireturn, 1) := by decide +kernel
theorem dX1_readNumber_0 : decode cX1_readNumber 0 = .ok (.aload_n 1, 1) := by decide +kernel
theorem dX1_readNumber_1 : decode cX1_readNumber 1 = .ok (.aload_n 0, 1) := by decide +kernel
theorem dX1_readNumber_2 : decode cX1_readNumber 2 = .ok (.getfield 25, 3) := by decide +kernel
theorem dX1_readNumber_5 : decode cX1_readNumber 5 = .ok (.invokevirtual 49, 3) := by decide +kernel
theorem dX1_readNumber_8 : decode cX1_readNumber 8 = .ok (.invokestatic 76, 3) := by decide +kernel
theorem dX1_readNumber_11 : decode cX1_readNumber 11 = .ok (.istore_n 3, 1) := by decide +kernel
theorem dX1_readNumber_12 : decode cX1_readNumber 12 = .ok (.iload_n 3, 1) := by decide +kernel
theorem dX1_readNumber_13 : decode cX1_readNumber 13 = .ok (.ifCond .ge 5, 3) := by decide +kernel
theorem dX1_readNumber_16 : decode cX1_readNumber 16 = .ok (.iconst (-1), 1) := by decide +kernel
theorem dX1_readNumber_17 : decode cX1_readNumber 17 = .ok (.ireturn, 1) := by decide +kernel
theorem dX1_readNumber_18 : decode cX1_readNumber 18 = .ok (.aload_n 0, 1) := by decide +kernel
theorem dX1_readNumber_19 : decode cX1_readNumber 19 = .ok (.dup, 1) := by decide +kernel
theorem dX1_readNumber_20 : decode cX1_readNumber 20 = .ok (.getfield 25, 3) := by decide +kernel
theorem dX1_readNumber_23 : decode cX1_readNumber 23 = .ok (.iconst 1, 1) := by decide +kernel
theorem dX1_readNumber_24 : decode cX1_readNumber 24 = .ok (.iadd, 1) := by decide +kernel
theorem dX1_readNumber_25 : decode cX1_readNumber 25 = .ok (.putfield 25, 3) := by decide +kernel
theorem dX1_readNumber_28 : decode cX1_readNumber 28 = .ok (.aload_n 1, 1) := by decide +kernel
theorem dX1_readNumber_29 : decode cX1_readNumber 29 = .ok (.aload_n 0, 1) := by decide +kernel
theorem dX1_readNumber_30 : decode cX1_readNumber 30 = .ok (.getfield 25, 3) := by decide +kernel
theorem dX1_readNumber_33 : decode cX1_readNumber 33 = .ok (.invokevirtual 49, 3) := by decide +kernel
theorem dX1_readNumber_36 : decode cX1_readNumber 36 = .ok (.invokestatic 76, 3) := by decide +kernel
theorem dX1_readNumber_39 : decode cX1_readNumber 39 = .ok (.istore 4, 2) := by decide +kernel
theorem dX1_readNumber_41 : decode cX1_readNumber 41 = .ok (.iload 4, 2) := by decide +kernel
theorem dX1_readNumber_43 : decode cX1_readNumber 43 = .ok (.ifCond .lt 21, 3) := by decide +kernel
theorem dX1_readNumber_46 : decode cX1_readNumber 46 = .ok (.bipush 10, 2) := by decide +kernel
theorem dX1_readNumber_48 : decode cX1_readNumber 48 = .ok (.iload_n 3, 1) := by decide +kernel
theorem dX1_readNumber_49 : decode cX1_readNumber 49 = .ok (.imul, 1) := by decide +kernel
theorem dX1_readNumber_50 : decode cX1_readNumber 50 = .ok (.iload 4, 2) := by decide +kernel
theorem dX1_readNumber_52 : decode cX1_readNumber 52 = .ok (.iadd, 1) := by decide +kernel
theorem dX1_readNumber_53 : decode cX1_readNumber 53 = .ok (.istore_n 3, 1) := by decide +kernel
theorem dX1_readNumber_54 : decode cX1_readNumber 54 = .ok (.aload_n 0, 1) := by decide +kernel
theorem dX1_readNumber_55 : decode cX1_readNumber 55 = .ok (.dup, 1) := by decide +kernel
theorem dX1_readNumber_56 : decode cX1_readNumber 56 = .ok (.getfield 25, 3) := by decide +kernel
theorem dX1_readNumber_59 : decode cX1_readNumber 59 = .ok (.iconst 1, 1) := by decide +kernel
theorem dX1_readNumber_60 : decode cX1_readNumber 60 = .ok (.iadd, 1) := by decide +kernel
theorem dX1_readNumber_61 : decode cX1_readNumber 61 = .ok (.putfield 25, 3) := by decide +kernel
theorem dX1_readNumber_64 : decode cX1_readNumber 64 = .ok (.aload_n 1, 1) := by decide +kernel
theorem dX1_readNumber_65 : decode cX1_readNumber 65 = .ok (.aload_n 0, 1) := by decide +kernel
theorem dX1_readNumber_66 : decode cX1_readNumber 66 = .ok (.getfield 25, 3) := by decide +kernel
theorem dX1_readNumber_69 : decode cX1_readNumber 69 = .ok (.invokevirtual 49, 3) := by decide +kernel
theorem dX1_readNumber_72 : decode cX1_readNumber 72 = .ok (.iload_n 2, 1) := by decide +kernel
theorem dX1_readNumber_73 : decode cX1_readNumber 73 = .ok (.if_icmp .eq 5, 3) := by decide +kernel
theorem dX1_readNumber_76 : decode cX1_readNumber 76 = .ok (.iconst (-1), 1) := by decide +kernel
theorem dX1_readNumber_77 : decode cX1_readNumber 77 = .ok (.ireturn, 1) := by decide +kernel
theorem dX1_readNumber_78 : decode cX1_readNumber 78 = .ok (.aload_n 0, 1) := by decide +kernel
theorem dX1_readNumber_79 : decode cX1_readNumber 79 = .ok (.dup, 1) := by decide +kernel
theorem dX1_readNumber_80 : decode cX1_readNumber 80 = .ok (.getfield 25, 3) := by decide +kernel
theorem dX1_readNumber_83 : decode cX1_readNumber 83 = .ok (.iconst 1, 1) := by decide +kernel
theorem dX1_readNumber_84 : decode cX1_readNumber 84 = .ok (.iadd, 1) := by decide +kernel
theorem dX1_readNumber_85 : decode cX1_readNumber 85 = .ok (.putfield 25, 3) := by decide +kernel
theorem dX1_readNumber_88 : decode cX1_readNumber 88 = .ok (.iload_n 3, 1) := by decide +kernel
theorem dX1_readNumber_89 : decode cX1_readNumber 89 = .ok (.ireturn, 1) := by decide +kernel
theorem dX1_figure_0 : decode cX1_figure 0 = .ok (.iload_n 0, 1) := by decide +kernel
theorem dX1_figure_1 : decode cX1_figure 1 = .ok (.bipush 48, 2) := by decide +kernel
theorem dX1_figure_3 : decode cX1_figure 3 = .ok (.if_icmp .lt 16, 3) := by decide +kernel
theorem dX1_figure_6 : decode cX1_figure 6 = .ok (.iload_n 0, 1) := by decide +kernel
theorem dX1_figure_7 : decode cX1_figure 7 = .ok (.bipush 57, 2) := by decide +kernel
theorem dX1_figure_9 : decode cX1_figure 9 = .ok (.if_icmp .gt 10, 3) := by decide +kernel
theorem dX1_figure_12 : decode cX1_figure 12 = .ok (.iload_n 0, 1) := by decide +kernel
theorem dX1_figure_13 : decode cX1_figure 13 = .ok (.bipush 48, 2) := by decide +kernel
theorem dX1_figure_15 : decode cX1_figure 15 = .ok (.isub, 1) := by decide +kernel
theorem dX1_figure_16 : decode cX1_figure 16 = .ok (.goto 4, 3) := by decide +kernel
theorem dX1_figure_19 : decode cX1_figure 19 = .ok (.iconst (-1), 1) := by decide +kernel
theorem dX1_figure_20 : decode cX1_figure 20 = .ok (.ireturn, 1) := by decide +kernel
end
section
-- decode rows (printed by program)
theorem dX2_init_0 : decode cX2_init 0 = .ok (.aload_n 0, 1) := by decide +kernel
theorem dX2_init_1 : decode cX2_init 1 = .ok (.invokespecial 3, 3) := by decide +kernel
theorem dX2_init_4 : decode cX2_init 4 = .ok (.aload_n 0, 1) := by decide +kernel
theorem dX2_init_5 : decode cX2_init 5 = .ok (.bipush 41, 2) := by decide +kernel
theorem dX2_init_7 : decode cX2_init 7 = .ok (.newarray .int, 2) := by decide +kernel
theorem dX2_init_9 : decode cX2_init 9 = .ok (.putfield 9, 3) := by decide +kernel
theorem dX2_init_12 : decode cX2_init 12 = .ok (.aload_n 0, 1) := by decide +kernel
theorem dX2_init_13 : decode cX2_init 13 = .ok (.bipush 8, 2) := by decide +kernel
theorem dX2_init_15 : decode cX2_init 15 = .ok (.newarray .long, 2) := by decide +kernel
theorem dX2_init_17 : decode cX2_init 17 = .ok (.putfield 15, 3) := by decide +kernel
theorem dX2_init_20 : decode cX2_init 20 = .ok (.aload_n 0, 1) := by decide +kernel
theorem dX2_init_21 : decode cX2_init 21 = .ok (.aload_n 1, 1) := by decide +kernel
theorem dX2_init_22 : decode cX2_init 22 = .ok (.putfield 19, 3) := by decide +kernel
theorem dX2_init_25 : decode cX2_init 25 = .ok (.aload_n 0, 1) := by decide +kernel
theorem dX2_init_26 : decode cX2_init 26 = .ok (.aload_n 2, 1) := by decide +kernel
theorem dX2_init_27 : decode cX2_init 27 = .ok (.putfield 23, 3) := by decide +kernel
theorem dX2_init_30 : decode cX2_init 30 = .ok (.return_, 1) := by decide +kernel
theorem dX2_find_0 : decode cX2_find 0 = .ok (.aload_n 0, 1) := by decide +kernel
theorem dX2_find_1 : decode cX2_find 1 = .ok (.iload_n 1, 1) := by decide +kernel
theorem dX2_find_2 : decode cX2_find 2 = .ok (.invokevirtual 27, 3) := by decide +kernel
theorem dX2_find_5 : decode cX2_find 5 = .ok (.aload_n 0, 1) := by decide +kernel
theorem dX2_find_6 : decode cX2_find 6 = .ok (.aload_n 0, 1) := by decide +kernel
theorem dX2_find_7 : decode cX2_find 7 = .ok (.getfield 23, 3) := by decide +kernel
theorem dX2_find_10 : decode cX2_find 10 = .ok (.iload_n 1, 1) := by decide +kernel
theorem dX2_find_11 : decode cX2_find 11 = .ok (.invokevirtual 31, 3) := by decide +kernel
theorem dX2_find_14 : decode cX2_find 14 = .ok (.putfield 37, 3) := by decide +kernel
theorem dX2_find_17 : decode cX2_find 17 = .ok (.aload_n 0, 1) := by decide +kernel
theorem dX2_find_18 : decode cX2_find 18 = .ok (.getfield 19, 3) := by decide +kernel
theorem dX2_find_21 : decode cX2_find 21 = .ok (.iload_n 1, 1) := by decide +kernel
theorem dX2_find_22 : decode cX2_find 22 = .ok (.iconst 3, 1) := by decide +kernel
theorem dX2_find_23 : decode cX2_find 23 = .ok (.invokevirtual 41, 3) := by decide +kernel
theorem dX2_find_26 : decode cX2_find 26 = .ok (.istore_n 2, 1) := by decide +kernel
theorem dX2_find_27 : decode cX2_find 27 = .ok (.aload_n 0, 1) := by decide +kernel
theorem dX2_find_28 : decode cX2_find 28 = .ok (.getfield 19, 3) := by decide +kernel
theorem dX2_find_31 : decode cX2_find 31 = .ok (.iload_n 1, 1) := by decide +kernel
theorem dX2_find_32 : decode cX2_find 32 = .ok (.iconst 4, 1) := by decide +kernel
theorem dX2_find_33 : decode cX2_find 33 = .ok (.invokevirtual 41, 3) := by decide +kernel
theorem dX2_find_36 : decode cX2_find 36 = .ok (.istore_n 3, 1) := by decide +kernel
theorem dX2_find_37 : decode cX2_find 37 = .ok (.iconst 0, 1) := by decide +kernel
theorem dX2_find_38 : decode cX2_find 38 = .ok (.istore 4, 2) := by decide +kernel
theorem dX2_find_40 : decode cX2_find 40 = .ok (.iload 4, 2) := by decide +kernel
theorem dX2_find_42 : decode cX2_find 42 = .ok (.bipush 40, 2) := by decide +kernel
theorem dX2_find_44 : decode cX2_find 44 = .ok (.if_icmp .ge 62, 3) := by decide +kernel
theorem dX2_find_47 : decode cX2_find 47 = .ok (.iconst 0, 1) := by decide +kernel
theorem dX2_find_48 : decode cX2_find 48 = .ok (.istore 5, 2) := by decide +kernel
theorem dX2_find_50 : decode cX2_find 50 = .ok (.iload 5, 2) := by decide +kernel
theorem dX2_find_52 : decode cX2_find 52 = .ok (.iconst 3, 1) := by decide +kernel
theorem dX2_find_53 : decode cX2_find 53 = .ok (.if_icmp .ge 47, 3) := by decide +kernel
theorem dX2_find_56 : decode cX2_find 56 = .ok (.iload_n 2, 1) := by decide +kernel
theorem dX2_find_57 : decode cX2_find 57 = .ok (.iload 5, 2) := by decide +kernel
theorem dX2_find_59 : decode cX2_find 59 = .ok (.invokestatic 47, 3) := by decide +kernel
theorem dX2_find_62 : decode cX2_find 62 = .ok (.istore 6, 2) := by decide +kernel
theorem dX2_find_64 : decode cX2_find 64 = .ok (.aload_n 0, 1) := by decide +kernel
theorem dX2_find_65 : decode cX2_find 65 = .ok (.iload_n 1, 1) := by decide +kernel
theorem dX2_find_66 : decode cX2_find 66 = .ok (.iload 6, 2) := by decide +kernel
theorem dX2_find_68 : decode cX2_find 68 = .ok (.iload_n 3, 1) := by decide +kernel
theorem dX2_find_69 : decode cX2_find 69 = .ok (.iload 4, 2) := by decide +kernel
theorem dX2_find_71 : decode cX2_find 71 = .ok (.isub, 1) := by decide +kernel
theorem dX2_find_72 : decode cX2_find 72 = .ok (.invokevirtual 50, 3) := by decide +kernel
theorem dX2_find_75 : decode cX2_find 75 = .ok (.ifCond .ne 17, 3) := by decide +kernel
theorem dX2_find_78 : decode cX2_find 78 = .ok (.aload_n 0, 1) := by decide +kernel
theorem dX2_find_79 : decode cX2_find 79 = .ok (.iload_n 1, 1) := by decide +kernel
theorem dX2_find_80 : decode cX2_find 80 = .ok (.iload 6, 2) := by decide +kernel
theorem dX2_find_82 : decode cX2_find 82 = .ok (.iload_n 3, 1) := by decide +kernel
theorem dX2_find_83 : decode cX2_find 83 = .ok (.iload 4, 2) := by decide +kernel
theorem dX2_find_85 : decode cX2_find 85 = .ok (.iadd, 1) := by decide +kernel
theorem dX2_find_86 : decode cX2_find 86 = .ok (.invokevirtual 50, 3) := by decide +kernel
theorem dX2_find_89 : decode cX2_find 89 = .ok (.ifCond .eq 5, 3) := by decide +kernel
theorem dX2_find_92 : decode cX2_find 92 = .ok (.iconst 1, 1) := by decide +kernel
theorem dX2_find_93 : decode cX2_find 93 = .ok (.ireturn, 1) := by decide +kernel
theorem dX2_find_94 : decode cX2_find 94 = .ok (.iinc 5 1, 3) := by decide +kernel
theorem dX2_find_97 : decode cX2_find 97 = .ok (.goto (-47), 3) := by decide +kernel
theorem dX2_find_100 : decode cX2_find 100 = .ok (.iinc 4 1, 3) := by decide +kernel
theorem dX2_find_103 : decode cX2_find 103 = .ok (.goto (-63), 3) := by decide +kernel
theorem dX2_find_106 : decode cX2_find 106 = .ok (.iconst 0, 1) := by decide +kernel
theorem dX2_find_107 : decode cX2_find 107 = .ok (.ireturn, 1) := by decide +kernel
theorem dX2_findCloseRows_0 : decode cX2_findCloseRows 0 = .ok (.iconst 0, 1) := by decide +kernel
theorem dX2_findCloseRows_1 : decode cX2_findCloseRows 1 = .ok (.istore_n 2, 1) := by decide +kernel
theorem dX2_findCloseRows_2 : decode cX2_findCloseRows 2 = .ok (.iload_n 2, 1) := by decide +kernel
theorem dX2_findCloseRows_3 : decode cX2_findCloseRows 3 = .ok (.aload_n 0, 1) := by decide +kernel
theorem dX2_findCloseRows_4 : decode cX2_findCloseRows 4 = .ok (.getfield 19, 3) := by decide +kernel
theorem dX2_findCloseRows_7 : decode cX2_findCloseRows 7 = .ok (.getfield 54, 3) := by decide +kernel
theorem dX2_findCloseRows_10 : decode cX2_findCloseRows 10 = .ok (.if_icmp .ge 60, 3) := by decide +kernel
theorem dX2_findCloseRows_13 : decode cX2_findCloseRows 13 = .ok (.lconst 0, 1) := by decide +kernel
theorem dX2_findCloseRows_14 : decode cX2_findCloseRows 14 = .ok (.lstore_n 3, 1) := by decide +kernel
theorem dX2_findCloseRows_15 : decode cX2_findCloseRows 15 = .ok (.iconst 0, 1) := by decide +kernel
theorem dX2_findCloseRows_16 : decode cX2_findCloseRows 16 = .ok (.istore 5, 2) := by decide +kernel
theorem dX2_findCloseRows_18 : decode cX2_findCloseRows 18 = .ok (.iload 5, 2) := by decide +kernel
theorem dX2_findCloseRows_20 : decode cX2_findCloseRows 20 = .ok (.aload_n 0, 1) := by decide +kernel
theorem dX2_findCloseRows_21 : decode cX2_findCloseRows 21 = .ok (.getfield 19, 3) := by decide +kernel
theorem dX2_findCloseRows_24 : decode cX2_findCloseRows 24 = .ok (.getfield 57, 3) := by decide +kernel
theorem dX2_findCloseRows_27 : decode cX2_findCloseRows 27 = .ok (.if_icmp .gt 30, 3) := by decide +kernel
theorem dX2_findCloseRows_30 : decode cX2_findCloseRows 30 = .ok (.aload_n 0, 1) := by decide +kernel
theorem dX2_findCloseRows_31 : decode cX2_findCloseRows 31 = .ok (.getfield 23, 3) := by decide +kernel
theorem dX2_findCloseRows_34 : decode cX2_findCloseRows 34 = .ok (.iload_n 1, 1) := by decide +kernel
theorem dX2_findCloseRows_35 : decode cX2_findCloseRows 35 = .ok (.iload_n 2, 1) := by decide +kernel
theorem dX2_findCloseRows_36 : decode cX2_findCloseRows 36 = .ok (.iload 5, 2) := by decide +kernel
theorem dX2_findCloseRows_38 : decode cX2_findCloseRows 38 = .ok (.invokevirtual 60, 3) := by decide +kernel
theorem dX2_findCloseRows_41 : decode cX2_findCloseRows 41 = .ok (.ifCond .eq 10, 3) := by decide +kernel
theorem dX2_findCloseRows_44 : decode cX2_findCloseRows 44 = .ok (.lload_n 3, 1) := by decide +kernel
theorem dX2_findCloseRows_45 : decode cX2_findCloseRows 45 = .ok (.lconst 1, 1) := by decide +kernel
theorem dX2_findCloseRows_46 : decode cX2_findCloseRows 46 = .ok (.iload 5, 2) := by decide +kernel
theorem dX2_findCloseRows_48 : decode cX2_findCloseRows 48 = .ok (.lshl, 1) := by decide +kernel
theorem dX2_findCloseRows_49 : decode cX2_findCloseRows 49 = .ok (.lor, 1) := by decide +kernel
theorem dX2_findCloseRows_50 : decode cX2_findCloseRows 50 = .ok (.lstore_n 3, 1) := by decide +kernel
theorem dX2_findCloseRows_51 : decode cX2_findCloseRows 51 = .ok (.iinc 5 1, 3) := by decide +kernel
theorem dX2_findCloseRows_54 : decode cX2_findCloseRows 54 = .ok (.goto (-36), 3) := by decide +kernel
theorem dX2_findCloseRows_57 : decode cX2_findCloseRows 57 = .ok (.aload_n 0, 1) := by decide +kernel
theorem dX2_findCloseRows_58 : decode cX2_findCloseRows 58 = .ok (.getfield 15, 3) := by decide +kernel
theorem dX2_findCloseRows_61 : decode cX2_findCloseRows 61 = .ok (.iload_n 2, 1) := by decide +kernel
theorem dX2_findCloseRows_62 : decode cX2_findCloseRows 62 = .ok (.lload_n 3, 1) := by decide +kernel
theorem dX2_findCloseRows_63 : decode cX2_findCloseRows 63 = .ok (.lastore, 1) := by decide +kernel
theorem dX2_findCloseRows_64 : decode cX2_findCloseRows 64 = .ok (.iinc 2 1, 3) := by decide +kernel
theorem dX2_findCloseRows_67 : decode cX2_findCloseRows 67 = .ok (.goto (-65), 3) := by decide +kernel
theorem dX2_findCloseRows_70 : decode cX2_findCloseRows 70 = .ok (.return_, 1) := by decide +kernel
theorem dX2_shapeAtTurn_0 : decode cX2_shapeAtTurn 0 = .ok (.iload_n 1, 1) := by decide +kernel
theorem dX2_shapeAtTurn_1 : decode cX2_shapeAtTurn 1 = .ok (.ifCond .ne 5, 3) := by decide +kernel
theorem dX2_shapeAtTurn_4 : decode cX2_shapeAtTurn 4 = .ok (.iload_n 0, 1) := by decide +kernel
theorem dX2_shapeAtTurn_5 : decode cX2_shapeAtTurn 5 = .ok (.ireturn, 1) := by decide +kernel
theorem dX2_shapeAtTurn_6 : decode cX2_shapeAtTurn 6 = .ok (.iload_n 1, 1) := by decide +kernel
theorem dX2_shapeAtTurn_7 : decode cX2_shapeAtTurn 7 = .ok (.iload_n 0, 1) := by decide +kernel
theorem dX2_shapeAtTurn_8 : decode cX2_shapeAtTurn 8 = .ok (.if_icmp .gt 9, 3) := by decide +kernel
theorem dX2_shapeAtTurn_11 : decode cX2_shapeAtTurn 11 = .ok (.iload_n 1, 1) := by decide +kernel
theorem dX2_shapeAtTurn_12 : decode cX2_shapeAtTurn 12 = .ok (.iconst 1, 1) := by decide +kernel
theorem dX2_shapeAtTurn_13 : decode cX2_shapeAtTurn 13 = .ok (.isub, 1) := by decide +kernel
theorem dX2_shapeAtTurn_14 : decode cX2_shapeAtTurn 14 = .ok (.goto 4, 3) := by decide +kernel
theorem dX2_shapeAtTurn_17 : decode cX2_shapeAtTurn 17 = .ok (.iload_n 1, 1) := by decide +kernel
theorem dX2_shapeAtTurn_18 : decode cX2_shapeAtTurn 18 = .ok (.ireturn, 1) := by decide +kernel
theorem dX2_mends_0 : decode cX2_mends 0 = .ok (.iload_n 3, 1) := by decide +kernel
theorem dX2_mends_1 : decode cX2_mends 1 = .ok (.iconst 1, 1) := by decide +kernel
theorem dX2_mends_2 : decode cX2_mends 2 = .ok (.if_icmp .lt 9, 3) := by decide +kernel
theorem dX2_mends_5 : decode cX2_mends 5 = .ok (.iload_n 3, 1) := by decide +kernel
theorem dX2_mends_6 : decode cX2_mends 6 = .ok (.bipush 40, 2) := by decide +kernel
theorem dX2_mends_8 : decode cX2_mends 8 = .ok (.if_icmp .le 5, 3) := by decide +kernel
theorem dX2_mends_11 : decode cX2_mends 11 = .ok (.iconst 0, 1) := by decide +kernel
theorem dX2_mends_12 : decode cX2_mends 12 = .ok (.ireturn, 1) := by decide +kernel
theorem dX2_mends_13 : decode cX2_mends 13 = .ok (.aload_n 0, 1) := by decide +kernel
theorem dX2_mends_14 : decode cX2_mends 14 = .ok (.getfield 23, 3) := by decide +kernel
theorem dX2_mends_17 : decode cX2_mends 17 = .ok (.aload_n 0, 1) := by decide +kernel
theorem dX2_mends_18 : decode cX2_mends 18 = .ok (.getfield 9, 3) := by decide +kernel
theorem dX2_mends_21 : decode cX2_mends 21 = .ok (.iload_n 1, 1) := by decide +kernel
theorem dX2_mends_22 : decode cX2_mends 22 = .ok (.iload_n 2, 1) := by decide +kernel
theorem dX2_mends_23 : decode cX2_mends 23 = .ok (.iload_n 3, 1) := by decide +kernel
theorem dX2_mends_24 : decode cX2_mends 24 = .ok (.invokevirtual 63, 3) := by decide +kernel
theorem dX2_mends_27 : decode cX2_mends 27 = .ok (.iconst 0, 1) := by decide +kernel
theorem dX2_mends_28 : decode cX2_mends 28 = .ok (.istore 4, 2) := by decide +kernel
theorem dX2_mends_30 : decode cX2_mends 30 = .ok (.iload 4, 2) := by decide +kernel
theorem dX2_mends_32 : decode cX2_mends 32 = .ok (.aload_n 0, 1) := by decide +kernel
theorem dX2_mends_33 : decode cX2_mends 33 = .ok (.getfield 19, 3) := by decide +kernel
theorem dX2_mends_36 : decode cX2_mends 36 = .ok (.getfield 54, 3) := by decide +kernel
theorem dX2_mends_39 : decode cX2_mends 39 = .ok (.if_icmp .ge 36, 3) := by decide +kernel
theorem dX2_mends_42 : decode cX2_mends 42 = .ok (.iload 4, 2) := by decide +kernel
theorem dX2_mends_44 : decode cX2_mends 44 = .ok (.iload_n 1, 1) := by decide +kernel
theorem dX2_mends_45 : decode cX2_mends 45 = .ok (.if_icmp .eq 24, 3) := by decide +kernel
theorem dX2_mends_48 : decode cX2_mends 48 = .ok (.aload_n 0, 1) := by decide +kernel
theorem dX2_mends_49 : decode cX2_mends 49 = .ok (.iload 4, 2) := by decide +kernel
theorem dX2_mends_51 : decode cX2_mends 51 = .ok (.invokevirtual 67, 3) := by decide +kernel
theorem dX2_mends_54 : decode cX2_mends 54 = .ok (.ifCond .ne 13, 3) := by decide +kernel
theorem dX2_mends_57 : decode cX2_mends 57 = .ok (.aload_n 0, 1) := by decide +kernel
theorem dX2_mends_58 : decode cX2_mends 58 = .ok (.iload_n 1, 1) := by decide +kernel
theorem dX2_mends_59 : decode cX2_mends 59 = .ok (.iload 4, 2) := by decide +kernel
theorem dX2_mends_61 : decode cX2_mends 61 = .ok (.invokevirtual 71, 3) := by decide +kernel
theorem dX2_mends_64 : decode cX2_mends 64 = .ok (.ifCond .eq 5, 3) := by decide +kernel
theorem dX2_mends_67 : decode cX2_mends 67 = .ok (.iconst 0, 1) := by decide +kernel
theorem dX2_mends_68 : decode cX2_mends 68 = .ok (.ireturn, 1) := by decide +kernel
theorem dX2_mends_69 : decode cX2_mends 69 = .ok (.iinc 4 1, 3) := by decide +kernel
theorem dX2_mends_72 : decode cX2_mends 72 = .ok (.goto (-42), 3) := by decide +kernel
theorem dX2_mends_75 : decode cX2_mends 75 = .ok (.aload_n 0, 1) := by decide +kernel
theorem dX2_mends_76 : decode cX2_mends 76 = .ok (.iload_n 2, 1) := by decide +kernel
theorem dX2_mends_77 : decode cX2_mends 77 = .ok (.putfield 75, 3) := by decide +kernel
theorem dX2_mends_80 : decode cX2_mends 80 = .ok (.aload_n 0, 1) := by decide +kernel
theorem dX2_mends_81 : decode cX2_mends 81 = .ok (.iload_n 3, 1) := by decide +kernel
theorem dX2_mends_82 : decode cX2_mends 82 = .ok (.putfield 78, 3) := by decide +kernel
theorem dX2_mends_85 : decode cX2_mends 85 = .ok (.iconst 1, 1) := by decide +kernel
theorem dX2_mends_86 : decode cX2_mends 86 = .ok (.ireturn, 1) := by decide +kernel
theorem dX2_isNear_0 : decode cX2_isNear 0 = .ok (.aload_n 0, 1) := by decide +kernel
theorem dX2_isNear_1 : decode cX2_isNear 1 = .ok (.getfield 15, 3) := by decide +kernel
theorem dX2_isNear_4 : decode cX2_isNear 4 = .ok (.iload_n 1, 1) := by decide +kernel
theorem dX2_isNear_5 : decode cX2_isNear 5 = .ok (.laload, 1) := by decide +kernel
theorem dX2_isNear_6 : decode cX2_isNear 6 = .ok (.lstore_n 2, 1) := by decide +kernel
theorem dX2_isNear_7 : decode cX2_isNear 7 = .ok (.iconst 0, 1) := by decide +kernel
theorem dX2_isNear_8 : decode cX2_isNear 8 = .ok (.istore 4, 2) := by decide +kernel
theorem dX2_isNear_10 : decode cX2_isNear 10 = .ok (.iload 4, 2) := by decide +kernel
theorem dX2_isNear_12 : decode cX2_isNear 12 = .ok (.aload_n 0, 1) := by decide +kernel
theorem dX2_isNear_13 : decode cX2_isNear 13 = .ok (.getfield 19, 3) := by decide +kernel
theorem dX2_isNear_16 : decode cX2_isNear 16 = .ok (.getfield 57, 3) := by decide +kernel
theorem dX2_isNear_19 : decode cX2_isNear 19 = .ok (.if_icmp .gt 61, 3) := by decide +kernel
theorem dX2_isNear_22 : decode cX2_isNear 22 = .ok (.lload_n 2, 1) := by decide +kernel
theorem dX2_isNear_23 : decode cX2_isNear 23 = .ok (.lconst 0, 1) := by decide +kernel
theorem dX2_isNear_24 : decode cX2_isNear 24 = .ok (.lcmp, 1) := by decide +kernel
theorem dX2_isNear_25 : decode cX2_isNear 25 = .ok (.ifCond .eq 55, 3) := by decide +kernel
theorem dX2_isNear_28 : decode cX2_isNear 28 = .ok (.lload_n 2, 1) := by decide +kernel
theorem dX2_isNear_29 : decode cX2_isNear 29 = .ok (.lconst 1, 1) := by decide +kernel
theorem dX2_isNear_30 : decode cX2_isNear 30 = .ok (.land, 1) := by decide +kernel
theorem dX2_isNear_31 : decode cX2_isNear 31 = .ok (.lconst 0, 1) := by decide +kernel
theorem dX2_isNear_32 : decode cX2_isNear 32 = .ok (.lcmp, 1) := by decide +kernel
theorem dX2_isNear_33 : decode cX2_isNear 33 = .ok (.ifCond .eq 37, 3) := by decide +kernel
theorem dX2_isNear_36 : decode cX2_isNear 36 = .ok (.aload_n 0, 1) := by decide +kernel
theorem dX2_isNear_37 : decode cX2_isNear 37 = .ok (.getfield 9, 3) := by decide +kernel
theorem dX2_isNear_40 : decode cX2_isNear 40 = .ok (.iload 4, 2) := by decide +kernel
theorem dX2_isNear_42 : decode cX2_isNear 42 = .ok (.iaload, 1) := by decide +kernel
theorem dX2_isNear_43 : decode cX2_isNear 43 = .ok (.aload_n 0, 1) := by decide +kernel
theorem dX2_isNear_44 : decode cX2_isNear 44 = .ok (.getfield 23, 3) := by decide +kernel
theorem dX2_isNear_47 : decode cX2_isNear 47 = .ok (.iload_n 1, 1) := by decide +kernel
theorem dX2_isNear_48 : decode cX2_isNear 48 = .ok (.iload 4, 2) := by decide +kernel
theorem dX2_isNear_50 : decode cX2_isNear 50 = .ok (.invokevirtual 81, 3) := by decide +kernel
theorem dX2_isNear_53 : decode cX2_isNear 53 = .ok (.isub, 1) := by decide +kernel
theorem dX2_isNear_54 : decode cX2_isNear 54 = .ok (.invokestatic 84, 3) := by decide +kernel
theorem dX2_isNear_57 : decode cX2_isNear 57 = .ok (.aload_n 0, 1) := by decide +kernel
theorem dX2_isNear_58 : decode cX2_isNear 58 = .ok (.getfield 19, 3) := by decide +kernel
theorem dX2_isNear_61 : decode cX2_isNear 61 = .ok (.iconst 1, 1) := by decide +kernel
theorem dX2_isNear_62 : decode cX2_isNear 62 = .ok (.invokevirtual 89, 3) := by decide +kernel
theorem dX2_isNear_65 : decode cX2_isNear 65 = .ok (.if_icmp .ge 5, 3) := by decide +kernel
theorem dX2_isNear_68 : decode cX2_isNear 68 = .ok (.iconst 1, 1) := by decide +kernel
theorem dX2_isNear_69 : decode cX2_isNear 69 = .ok (.ireturn, 1) := by decide +kernel
theorem dX2_isNear_70 : decode cX2_isNear 70 = .ok (.lload_n 2, 1) := by decide +kernel
theorem dX2_isNear_71 : decode cX2_isNear 71 = .ok (.iconst 1, 1) := by decide +kernel
theorem dX2_isNear_72 : decode cX2_isNear 72 = .ok (.lushr, 1) := by decide +kernel
theorem dX2_isNear_73 : decode cX2_isNear 73 = .ok (.lstore_n 2, 1) := by decide +kernel
theorem dX2_isNear_74 : decode cX2_isNear 74 = .ok (.iinc 4 1, 3) := by decide +kernel
theorem dX2_isNear_77 : decode cX2_isNear 77 = .ok (.goto (-67), 3) := by decide +kernel
theorem dX2_isNear_80 : decode cX2_isNear 80 = .ok (.iconst 0, 1) := by decide +kernel
theorem dX2_isNear_81 : decode cX2_isNear 81 = .ok (.ireturn, 1) := by decide +kernel
theorem dX2_isMutual_0 : decode cX2_isMutual 0 = .ok (.aload_n 0, 1) := by decide +kernel
theorem dX2_isMutual_1 : decode cX2_isMutual 1 = .ok (.getfield 37, 3) := by decide +kernel
theorem dX2_isMutual_4 : decode cX2_isMutual 4 = .ok (.iconst 1, 1) := by decide +kernel
theorem dX2_isMutual_5 : decode cX2_isMutual 5 = .ok (.iload_n 2, 1) := by decide +kernel
theorem dX2_isMutual_6 : decode cX2_isMutual 6 = .ok (.ishl, 1) := by decide +kernel
theorem dX2_isMutual_7 : decode cX2_isMutual 7 = .ok (.iand, 1) := by decide +kernel
theorem dX2_isMutual_8 : decode cX2_isMutual 8 = .ok (.ifCond .eq 23, 3) := by decide +kernel
theorem dX2_isMutual_11 : decode cX2_isMutual 11 = .ok (.aload_n 0, 1) := by decide +kernel
theorem dX2_isMutual_12 : decode cX2_isMutual 12 = .ok (.getfield 23, 3) := by decide +kernel
theorem dX2_isMutual_15 : decode cX2_isMutual 15 = .ok (.iload_n 1, 1) := by decide +kernel
theorem dX2_isMutual_16 : decode cX2_isMutual 16 = .ok (.aload_n 0, 1) := by decide +kernel
theorem dX2_isMutual_17 : decode cX2_isMutual 17 = .ok (.getfield 9, 3) := by decide +kernel
theorem dX2_isMutual_20 : decode cX2_isMutual 20 = .ok (.iload_n 2, 1) := by decide +kernel
theorem dX2_isMutual_21 : decode cX2_isMutual 21 = .ok (.invokevirtual 92, 3) := by decide +kernel
theorem dX2_isMutual_24 : decode cX2_isMutual 24 = .ok (.ifCond .eq 7, 3) := by decide +kernel
theorem dX2_isMutual_27 : decode cX2_isMutual 27 = .ok (.iconst 1, 1) := by decide +kernel
theorem dX2_isMutual_28 : decode cX2_isMutual 28 = .ok (.goto 4, 3) := by decide +kernel
theorem dX2_isMutual_31 : decode cX2_isMutual 31 = .ok (.iconst 0, 1) := by decide +kernel
theorem dX2_isMutual_32 : decode cX2_isMutual 32 = .ok (.ireturn, 1) := by decide +kernel
end
section
-- decode rows (printed by program)
theorem dX3_init_0 : decode cX3_init 0 = .ok (.aload_n 0, 1) := by decide +kernel
theorem dX3_init_1 : decode cX3_init 1 = .ok (.invokespecial 3, 3) := by decide +kernel
theorem dX3_init_4 : decode cX3_init 4 = .ok (.aload_n 0, 1) := by decide +kernel
theorem dX3_init_5 : decode cX3_init 5 = .ok (.bipush 6, 2) := by decide +kernel
theorem dX3_init_7 : decode cX3_init 7 = .ok (.bipush 45, 2) := by decide +kernel
theorem dX3_init_9 : decode cX3_init 9 = .ok (.multianewarray 11 2, 4) := by decide +kernel
theorem dX3_init_13 : decode cX3_init 13 = .ok (.putfield 13, 3) := by decide +kernel
theorem dX3_init_16 : decode cX3_init 16 = .ok (.return_, 1) := by decide +kernel
theorem dX3_clear_0 : decode cX3_clear 0 = .ok (.aload_n 0, 1) := by decide +kernel
theorem dX3_clear_1 : decode cX3_clear 1 = .ok (.iconst 0, 1) := by decide +kernel
theorem dX3_clear_2 : decode cX3_clear 2 = .ok (.putfield 18, 3) := by decide +kernel
theorem dX3_clear_5 : decode cX3_clear 5 = .ok (.return_, 1) := by decide +kernel
theorem dX3_keep_0 : decode cX3_keep 0 = .ok (.aload_n 1, 1) := by decide +kernel
theorem dX3_keep_1 : decode cX3_keep 1 = .ok (.getfield 22, 3) := by decide +kernel
theorem dX3_keep_4 : decode cX3_keep 4 = .ok (.iconst 0, 1) := by decide +kernel
theorem dX3_keep_5 : decode cX3_keep 5 = .ok (.aload_n 0, 1) := by decide +kernel
theorem dX3_keep_6 : decode cX3_keep 6 = .ok (.getfield 13, 3) := by decide +kernel
theorem dX3_keep_9 : decode cX3_keep 9 = .ok (.aload_n 0, 1) := by decide +kernel
theorem dX3_keep_10 : decode cX3_keep 10 = .ok (.getfield 26, 3) := by decide +kernel
theorem dX3_keep_13 : decode cX3_keep 13 = .ok (.aaload, 1) := by decide +kernel
theorem dX3_keep_14 : decode cX3_keep 14 = .ok (.iconst 0, 1) := by decide +kernel
theorem dX3_keep_15 : decode cX3_keep 15 = .ok (.bipush 45, 2) := by decide +kernel
theorem dX3_keep_17 : decode cX3_keep 17 = .ok (.invokestatic 29, 3) := by decide +kernel
theorem dX3_keep_20 : decode cX3_keep 20 = .ok (.aload_n 0, 1) := by decide +kernel
theorem dX3_keep_21 : decode cX3_keep 21 = .ok (.aload_n 0, 1) := by decide +kernel
theorem dX3_keep_22 : decode cX3_keep 22 = .ok (.getfield 26, 3) := by decide +kernel
theorem dX3_keep_25 : decode cX3_keep 25 = .ok (.iconst 1, 1) := by decide +kernel
theorem dX3_keep_26 : decode cX3_keep 26 = .ok (.iadd, 1) := by decide +kernel
theorem dX3_keep_27 : decode cX3_keep 27 = .ok (.bipush 6, 2) := by decide +kernel
theorem dX3_keep_29 : decode cX3_keep 29 = .ok (.if_icmp .ge 12, 3) := by decide +kernel
theorem dX3_keep_32 : decode cX3_keep 32 = .ok (.aload_n 0, 1) := by decide +kernel
theorem dX3_keep_33 : decode cX3_keep 33 = .ok (.getfield 26, 3) := by decide +kernel
theorem dX3_keep_36 : decode cX3_keep 36 = .ok (.iconst 1, 1) := by decide +kernel
theorem dX3_keep_37 : decode cX3_keep 37 = .ok (.iadd, 1) := by decide +kernel
theorem dX3_keep_38 : decode cX3_keep 38 = .ok (.goto 4, 3) := by decide +kernel
theorem dX3_keep_41 : decode cX3_keep 41 = .ok (.iconst 0, 1) := by decide +kernel
theorem dX3_keep_42 : decode cX3_keep 42 = .ok (.putfield 26, 3) := by decide +kernel
theorem dX3_keep_45 : decode cX3_keep 45 = .ok (.aload_n 0, 1) := by decide +kernel
theorem dX3_keep_46 : decode cX3_keep 46 = .ok (.aload_n 0, 1) := by decide +kernel
theorem dX3_keep_47 : decode cX3_keep 47 = .ok (.getfield 18, 3) := by decide +kernel
theorem dX3_keep_50 : decode cX3_keep 50 = .ok (.iconst 1, 1) := by decide +kernel
theorem dX3_keep_51 : decode cX3_keep 51 = .ok (.iadd, 1) := by decide +kernel
theorem dX3_keep_52 : decode cX3_keep 52 = .ok (.bipush 6, 2) := by decide +kernel
theorem dX3_keep_54 : decode cX3_keep 54 = .ok (.invokestatic 35, 3) := by decide +kernel
theorem dX3_keep_57 : decode cX3_keep 57 = .ok (.putfield 18, 3) := by decide +kernel
theorem dX3_keep_60 : decode cX3_keep 60 = .ok (.return_, 1) := by decide +kernel
theorem dX3_giveBack_0 : decode cX3_giveBack 0 = .ok (.aload_n 0, 1) := by decide +kernel
theorem dX3_giveBack_1 : decode cX3_giveBack 1 = .ok (.getfield 18, 3) := by decide +kernel
theorem dX3_giveBack_4 : decode cX3_giveBack 4 = .ok (.ifCond .ne 4, 3) := by decide +kernel
theorem dX3_giveBack_7 : decode cX3_giveBack 7 = .ok (.return_, 1) := by decide +kernel
theorem dX3_giveBack_8 : decode cX3_giveBack 8 = .ok (.aload_n 0, 1) := by decide +kernel
theorem dX3_giveBack_9 : decode cX3_giveBack 9 = .ok (.aload_n 0, 1) := by decide +kernel
theorem dX3_giveBack_10 : decode cX3_giveBack 10 = .ok (.getfield 26, 3) := by decide +kernel
theorem dX3_giveBack_13 : decode cX3_giveBack 13 = .ok (.ifCond .le 12, 3) := by decide +kernel
theorem dX3_giveBack_16 : decode cX3_giveBack 16 = .ok (.aload_n 0, 1) := by decide +kernel
theorem dX3_giveBack_17 : decode cX3_giveBack 17 = .ok (.getfield 26, 3) := by decide +kernel
theorem dX3_giveBack_20 : decode cX3_giveBack 20 = .ok (.iconst 1, 1) := by decide +kernel
theorem dX3_giveBack_21 : decode cX3_giveBack 21 = .ok (.isub, 1) := by decide +kernel
theorem dX3_giveBack_22 : decode cX3_giveBack 22 = .ok (.goto 4, 3) := by decide +kernel
theorem dX3_giveBack_25 : decode cX3_giveBack 25 = .ok (.iconst 5, 1) := by decide +kernel
theorem dX3_giveBack_26 : decode cX3_giveBack 26 = .ok (.putfield 26, 3) := by decide +kernel
theorem dX3_giveBack_29 : decode cX3_giveBack 29 = .ok (.aload_n 0, 1) := by decide +kernel
theorem dX3_giveBack_30 : decode cX3_giveBack 30 = .ok (.dup, 1) := by decide +kernel
theorem dX3_giveBack_31 : decode cX3_giveBack 31 = .ok (.getfield 18, 3) := by decide +kernel
theorem dX3_giveBack_34 : decode cX3_giveBack 34 = .ok (.iconst 1, 1) := by decide +kernel
theorem dX3_giveBack_35 : decode cX3_giveBack 35 = .ok (.isub, 1) := by decide +kernel
theorem dX3_giveBack_36 : decode cX3_giveBack 36 = .ok (.putfield 18, 3) := by decide +kernel
theorem dX3_giveBack_39 : decode cX3_giveBack 39 = .ok (.aload_n 0, 1) := by decide +kernel
theorem dX3_giveBack_40 : decode cX3_giveBack 40 = .ok (.getfield 13, 3) := by decide +kernel
theorem dX3_giveBack_43 : decode cX3_giveBack 43 = .ok (.aload_n 0, 1) := by decide +kernel
theorem dX3_giveBack_44 : decode cX3_giveBack 44 = .ok (.getfield 26, 3) := by decide +kernel
theorem dX3_giveBack_47 : decode cX3_giveBack 47 = .ok (.aaload, 1) := by decide +kernel
theorem dX3_giveBack_48 : decode cX3_giveBack 48 = .ok (.iconst 0, 1) := by decide +kernel
theorem dX3_giveBack_49 : decode cX3_giveBack 49 = .ok (.aload_n 1, 1) := by decide +kernel
theorem dX3_giveBack_50 : decode cX3_giveBack 50 = .ok (.getfield 22, 3) := by decide +kernel
theorem dX3_giveBack_53 : decode cX3_giveBack 53 = .ok (.iconst 0, 1) := by decide +kernel
theorem dX3_giveBack_54 : decode cX3_giveBack 54 = .ok (.bipush 45, 2) := by decide +kernel
theorem dX3_giveBack_56 : decode cX3_giveBack 56 = .ok (.invokestatic 29, 3) := by decide +kernel
theorem dX3_giveBack_59 : decode cX3_giveBack 59 = .ok (.return_, 1) := by decide +kernel
end
section
-- decode rows (printed by program)
theorem dX4_init_0 : decode cX4_init 0 = .ok (.aload_n 0, 1) := by decide +kernel
theorem dX4_init_1 : decode cX4_init 1 = .ok (.invokespecial 3, 3) := by decide +kernel
theorem dX4_init_4 : decode cX4_init 4 = .ok (.aload_n 0, 1) := by decide +kernel
theorem dX4_init_5 : decode cX4_init 5 = .ok (.bipush 8, 2) := by decide +kernel
theorem dX4_init_7 : decode cX4_init 7 = .ok (.newarray .int, 2) := by decide +kernel
theorem dX4_init_9 : decode cX4_init 9 = .ok (.putfield 9, 3) := by decide +kernel
theorem dX4_init_12 : decode cX4_init 12 = .ok (.aload_n 0, 1) := by decide +kernel
theorem dX4_init_13 : decode cX4_init 13 = .ok (.sipush 256, 3) := by decide +kernel
theorem dX4_init_16 : decode cX4_init 16 = .ok (.newarray .int, 2) := by decide +kernel
theorem dX4_init_18 : decode cX4_init 18 = .ok (.putfield 15, 3) := by decide +kernel
theorem dX4_init_21 : decode cX4_init 21 = .ok (.aload_n 0, 1) := by decide +kernel
theorem dX4_init_22 : decode cX4_init 22 = .ok (.aload_n 1, 1) := by decide +kernel
theorem dX4_init_23 : decode cX4_init 23 = .ok (.putfield 18, 3) := by decide +kernel
theorem dX4_init_26 : decode cX4_init 26 = .ok (.aload_n 0, 1) := by decide +kernel
theorem dX4_init_27 : decode cX4_init 27 = .ok (.aload_n 2, 1) := by decide +kernel
theorem dX4_init_28 : decode cX4_init 28 = .ok (.putfield 22, 3) := by decide +kernel
theorem dX4_init_31 : decode cX4_init 31 = .ok (.return_, 1) := by decide +kernel
theorem dX4_arrange_0 : decode cX4_arrange 0 = .ok (.aload_n 0, 1) := by decide +kernel
theorem dX4_arrange_1 : decode cX4_arrange 1 = .ok (.getfield 22, 3) := by decide +kernel
theorem dX4_arrange_4 : decode cX4_arrange 4 = .ok (.invokevirtual 26, 3) := by decide +kernel
theorem dX4_arrange_7 : decode cX4_arrange 7 = .ok (.astore_n 1, 1) := by decide +kernel
theorem dX4_arrange_8 : decode cX4_arrange 8 = .ok (.iconst 1, 1) := by decide +kernel
theorem dX4_arrange_9 : decode cX4_arrange 9 = .ok (.aload_n 0, 1) := by decide +kernel
theorem dX4_arrange_10 : decode cX4_arrange 10 = .ok (.getfield 18, 3) := by decide +kernel
theorem dX4_arrange_13 : decode cX4_arrange 13 = .ok (.getfield 32, 3) := by decide +kernel
theorem dX4_arrange_16 : decode cX4_arrange 16 = .ok (.ishl, 1) := by decide +kernel
theorem dX4_arrange_17 : decode cX4_arrange 17 = .ok (.iconst 1, 1) := by decide +kernel
theorem dX4_arrange_18 : decode cX4_arrange 18 = .ok (.isub, 1) := by decide +kernel
theorem dX4_arrange_19 : decode cX4_arrange 19 = .ok (.istore_n 2, 1) := by decide +kernel
theorem dX4_arrange_20 : decode cX4_arrange 20 = .ok (.iconst 0, 1) := by decide +kernel
theorem dX4_arrange_21 : decode cX4_arrange 21 = .ok (.istore_n 3, 1) := by decide +kernel
theorem dX4_arrange_22 : decode cX4_arrange 22 = .ok (.iload_n 3, 1) := by decide +kernel
theorem dX4_arrange_23 : decode cX4_arrange 23 = .ok (.aload_n 0, 1) := by decide +kernel
theorem dX4_arrange_24 : decode cX4_arrange 24 = .ok (.getfield 18, 3) := by decide +kernel
theorem dX4_arrange_27 : decode cX4_arrange 27 = .ok (.getfield 32, 3) := by decide +kernel
theorem dX4_arrange_30 : decode cX4_arrange 30 = .ok (.if_icmp .ge 41, 3) := by decide +kernel
theorem dX4_arrange_33 : decode cX4_arrange 33 = .ok (.aload_n 0, 1) := by decide +kernel
theorem dX4_arrange_34 : decode cX4_arrange 34 = .ok (.iload_n 2, 1) := by decide +kernel
theorem dX4_arrange_35 : decode cX4_arrange 35 = .ok (.aload_n 1, 1) := by decide +kernel
theorem dX4_arrange_36 : decode cX4_arrange 36 = .ok (.invokevirtual 38, 3) := by decide +kernel
theorem dX4_arrange_39 : decode cX4_arrange 39 = .ok (.istore 4, 2) := by decide +kernel
theorem dX4_arrange_41 : decode cX4_arrange 41 = .ok (.iload 4, 2) := by decide +kernel
theorem dX4_arrange_43 : decode cX4_arrange 43 = .ok (.ifCond .ge 5, 3) := by decide +kernel
theorem dX4_arrange_46 : decode cX4_arrange 46 = .ok (.iload_n 2, 1) := by decide +kernel
theorem dX4_arrange_47 : decode cX4_arrange 47 = .ok (.ireturn, 1) := by decide +kernel
theorem dX4_arrange_48 : decode cX4_arrange 48 = .ok (.aload_n 0, 1) := by decide +kernel
theorem dX4_arrange_49 : decode cX4_arrange 49 = .ok (.getfield 9, 3) := by decide +kernel
theorem dX4_arrange_52 : decode cX4_arrange 52 = .ok (.iload_n 3, 1) := by decide +kernel
theorem dX4_arrange_53 : decode cX4_arrange 53 = .ok (.iload 4, 2) := by decide +kernel
theorem dX4_arrange_55 : decode cX4_arrange 55 = .ok (.iastore, 1) := by decide +kernel
theorem dX4_arrange_56 : decode cX4_arrange 56 = .ok (.iload_n 2, 1) := by decide +kernel
theorem dX4_arrange_57 : decode cX4_arrange 57 = .ok (.iconst 1, 1) := by decide +kernel
theorem dX4_arrange_58 : decode cX4_arrange 58 = .ok (.iload 4, 2) := by decide +kernel
theorem dX4_arrange_60 : decode cX4_arrange 60 = .ok (.ishl, 1) := by decide +kernel
theorem dX4_arrange_61 : decode cX4_arrange 61 = .ok (.iconst (-1), 1) := by decide +kernel
theorem dX4_arrange_62 : decode cX4_arrange 62 = .ok (.ixor, 1) := by decide +kernel
theorem dX4_arrange_63 : decode cX4_arrange 63 = .ok (.iand, 1) := by decide +kernel
theorem dX4_arrange_64 : decode cX4_arrange 64 = .ok (.istore_n 2, 1) := by decide +kernel
theorem dX4_arrange_65 : decode cX4_arrange 65 = .ok (.iinc 3 1, 3) := by decide +kernel
theorem dX4_arrange_68 : decode cX4_arrange 68 = .ok (.goto (-46), 3) := by decide +kernel
theorem dX4_arrange_71 : decode cX4_arrange 71 = .ok (.iload_n 2, 1) := by decide +kernel
theorem dX4_arrange_72 : decode cX4_arrange 72 = .ok (.ireturn, 1) := by decide +kernel
theorem dX4_lowestFree_0 : decode cX4_lowestFree 0 = .ok (.iconst 0, 1) := by decide +kernel
theorem dX4_lowestFree_1 : decode cX4_lowestFree 1 = .ok (.istore_n 3, 1) := by decide +kernel
theorem dX4_lowestFree_2 : decode cX4_lowestFree 2 = .ok (.iload_n 3, 1) := by decide +kernel
theorem dX4_lowestFree_3 : decode cX4_lowestFree 3 = .ok (.aload_n 0, 1) := by decide +kernel
theorem dX4_lowestFree_4 : decode cX4_lowestFree 4 = .ok (.getfield 18, 3) := by decide +kernel
theorem dX4_lowestFree_7 : decode cX4_lowestFree 7 = .ok (.getfield 32, 3) := by decide +kernel
theorem dX4_lowestFree_10 : decode cX4_lowestFree 10 = .ok (.if_icmp .ge 27, 3) := by decide +kernel
theorem dX4_lowestFree_13 : decode cX4_lowestFree 13 = .ok (.iload_n 1, 1) := by decide +kernel
theorem dX4_lowestFree_14 : decode cX4_lowestFree 14 = .ok (.iconst 1, 1) := by decide +kernel
theorem dX4_lowestFree_15 : decode cX4_lowestFree 15 = .ok (.iload_n 3, 1) := by decide +kernel
theorem dX4_lowestFree_16 : decode cX4_lowestFree 16 = .ok (.ishl, 1) := by decide +kernel
theorem dX4_lowestFree_17 : decode cX4_lowestFree 17 = .ok (.iand, 1) := by decide +kernel
theorem dX4_lowestFree_18 : decode cX4_lowestFree 18 = .ok (.ifCond .eq 13, 3) := by decide +kernel
theorem dX4_lowestFree_21 : decode cX4_lowestFree 21 = .ok (.aload_n 2, 1) := by decide +kernel
theorem dX4_lowestFree_22 : decode cX4_lowestFree 22 = .ok (.iload_n 3, 1) := by decide +kernel
theorem dX4_lowestFree_23 : decode cX4_lowestFree 23 = .ok (.iaload, 1) := by decide +kernel
theorem dX4_lowestFree_24 : decode cX4_lowestFree 24 = .ok (.iload_n 1, 1) := by decide +kernel
theorem dX4_lowestFree_25 : decode cX4_lowestFree 25 = .ok (.iand, 1) := by decide +kernel
theorem dX4_lowestFree_26 : decode cX4_lowestFree 26 = .ok (.ifCond .ne 5, 3) := by decide +kernel
theorem dX4_lowestFree_29 : decode cX4_lowestFree 29 = .ok (.iload_n 3, 1) := by decide +kernel
theorem dX4_lowestFree_30 : decode cX4_lowestFree 30 = .ok (.ireturn, 1) := by decide +kernel
theorem dX4_lowestFree_31 : decode cX4_lowestFree 31 = .ok (.iinc 3 1, 3) := by decide +kernel
theorem dX4_lowestFree_34 : decode cX4_lowestFree 34 = .ok (.goto (-32), 3) := by decide +kernel
theorem dX4_lowestFree_37 : decode cX4_lowestFree 37 = .ok (.iconst (-1), 1) := by decide +kernel
theorem dX4_lowestFree_38 : decode cX4_lowestFree 38 = .ok (.ireturn, 1) := by decide +kernel
theorem dX4_wireAt_0 : decode cX4_wireAt 0 = .ok (.aload_n 0, 1) := by decide +kernel
theorem dX4_wireAt_1 : decode cX4_wireAt 1 = .ok (.getfield 9, 3) := by decide +kernel
theorem dX4_wireAt_4 : decode cX4_wireAt 4 = .ok (.iload_n 1, 1) := by decide +kernel
theorem dX4_wireAt_5 : decode cX4_wireAt 5 = .ok (.iaload, 1) := by decide +kernel
theorem dX4_wireAt_6 : decode cX4_wireAt 6 = .ok (.ireturn, 1) := by decide +kernel
theorem dX4_howMany_0 : decode cX4_howMany 0 = .ok (.aload_n 0, 1) := by decide +kernel
theorem dX4_howMany_1 : decode cX4_howMany 1 = .ok (.getfield 22, 3) := by decide +kernel
theorem dX4_howMany_4 : decode cX4_howMany 4 = .ok (.invokevirtual 26, 3) := by decide +kernel
theorem dX4_howMany_7 : decode cX4_howMany 7 = .ok (.astore_n 1, 1) := by decide +kernel
theorem dX4_howMany_8 : decode cX4_howMany 8 = .ok (.iconst 1, 1) := by decide +kernel
theorem dX4_howMany_9 : decode cX4_howMany 9 = .ok (.aload_n 0, 1) := by decide +kernel
theorem dX4_howMany_10 : decode cX4_howMany 10 = .ok (.getfield 18, 3) := by decide +kernel
theorem dX4_howMany_13 : decode cX4_howMany 13 = .ok (.getfield 32, 3) := by decide +kernel
theorem dX4_howMany_16 : decode cX4_howMany 16 = .ok (.ishl, 1) := by decide +kernel
theorem dX4_howMany_17 : decode cX4_howMany 17 = .ok (.iconst 1, 1) := by decide +kernel
theorem dX4_howMany_18 : decode cX4_howMany 18 = .ok (.isub, 1) := by decide +kernel
theorem dX4_howMany_19 : decode cX4_howMany 19 = .ok (.istore_n 2, 1) := by decide +kernel
theorem dX4_howMany_20 : decode cX4_howMany 20 = .ok (.aload_n 0, 1) := by decide +kernel
theorem dX4_howMany_21 : decode cX4_howMany 21 = .ok (.getfield 15, 3) := by decide +kernel
theorem dX4_howMany_24 : decode cX4_howMany 24 = .ok (.iconst 0, 1) := by decide +kernel
theorem dX4_howMany_25 : decode cX4_howMany 25 = .ok (.iconst 1, 1) := by decide +kernel
theorem dX4_howMany_26 : decode cX4_howMany 26 = .ok (.iastore, 1) := by decide +kernel
theorem dX4_howMany_27 : decode cX4_howMany 27 = .ok (.iconst 1, 1) := by decide +kernel
theorem dX4_howMany_28 : decode cX4_howMany 28 = .ok (.istore_n 3, 1) := by decide +kernel
theorem dX4_howMany_29 : decode cX4_howMany 29 = .ok (.iload_n 3, 1) := by decide +kernel
theorem dX4_howMany_30 : decode cX4_howMany 30 = .ok (.iload_n 2, 1) := by decide +kernel
theorem dX4_howMany_31 : decode cX4_howMany 31 = .ok (.if_icmp .gt 21, 3) := by decide +kernel
theorem dX4_howMany_34 : decode cX4_howMany 34 = .ok (.aload_n 0, 1) := by decide +kernel
theorem dX4_howMany_35 : decode cX4_howMany 35 = .ok (.getfield 15, 3) := by decide +kernel
theorem dX4_howMany_38 : decode cX4_howMany 38 = .ok (.iload_n 3, 1) := by decide +kernel
theorem dX4_howMany_39 : decode cX4_howMany 39 = .ok (.aload_n 0, 1) := by decide +kernel
theorem dX4_howMany_40 : decode cX4_howMany 40 = .ok (.iload_n 3, 1) := by decide +kernel
theorem dX4_howMany_41 : decode cX4_howMany 41 = .ok (.aload_n 1, 1) := by decide +kernel
theorem dX4_howMany_42 : decode cX4_howMany 42 = .ok (.invokevirtual 42, 3) := by decide +kernel
theorem dX4_howMany_45 : decode cX4_howMany 45 = .ok (.iastore, 1) := by decide +kernel
theorem dX4_howMany_46 : decode cX4_howMany 46 = .ok (.iinc 3 1, 3) := by decide +kernel
theorem dX4_howMany_49 : decode cX4_howMany 49 = .ok (.goto (-20), 3) := by decide +kernel
theorem dX4_howMany_52 : decode cX4_howMany 52 = .ok (.aload_n 0, 1) := by decide +kernel
theorem dX4_howMany_53 : decode cX4_howMany 53 = .ok (.getfield 15, 3) := by decide +kernel
theorem dX4_howMany_56 : decode cX4_howMany 56 = .ok (.iload_n 2, 1) := by decide +kernel
theorem dX4_howMany_57 : decode cX4_howMany 57 = .ok (.iaload, 1) := by decide +kernel
theorem dX4_howMany_58 : decode cX4_howMany 58 = .ok (.ireturn, 1) := by decide +kernel
theorem dX4_waysOf_0 : decode cX4_waysOf 0 = .ok (.iconst 0, 1) := by decide +kernel
theorem dX4_waysOf_1 : decode cX4_waysOf 1 = .ok (.istore_n 3, 1) := by decide +kernel
theorem dX4_waysOf_2 : decode cX4_waysOf 2 = .ok (.iconst 0, 1) := by decide +kernel
theorem dX4_waysOf_3 : decode cX4_waysOf 3 = .ok (.istore 4, 2) := by decide +kernel
theorem dX4_waysOf_5 : decode cX4_waysOf 5 = .ok (.iload 4, 2) := by decide +kernel
theorem dX4_waysOf_7 : decode cX4_waysOf 7 = .ok (.aload_n 0, 1) := by decide +kernel
theorem dX4_waysOf_8 : decode cX4_waysOf 8 = .ok (.getfield 18, 3) := by decide +kernel
theorem dX4_waysOf_11 : decode cX4_waysOf 11 = .ok (.getfield 32, 3) := by decide +kernel
theorem dX4_waysOf_14 : decode cX4_waysOf 14 = .ok (.if_icmp .ge 45, 3) := by decide +kernel
theorem dX4_waysOf_17 : decode cX4_waysOf 17 = .ok (.iload_n 1, 1) := by decide +kernel
theorem dX4_waysOf_18 : decode cX4_waysOf 18 = .ok (.iconst 1, 1) := by decide +kernel
theorem dX4_waysOf_19 : decode cX4_waysOf 19 = .ok (.iload 4, 2) := by decide +kernel
theorem dX4_waysOf_21 : decode cX4_waysOf 21 = .ok (.ishl, 1) := by decide +kernel
theorem dX4_waysOf_22 : decode cX4_waysOf 22 = .ok (.iand, 1) := by decide +kernel
theorem dX4_waysOf_23 : decode cX4_waysOf 23 = .ok (.ifCond .eq 30, 3) := by decide +kernel
theorem dX4_waysOf_26 : decode cX4_waysOf 26 = .ok (.aload_n 2, 1) := by decide +kernel
theorem dX4_waysOf_27 : decode cX4_waysOf 27 = .ok (.iload 4, 2) := by decide +kernel
theorem dX4_waysOf_29 : decode cX4_waysOf 29 = .ok (.iaload, 1) := by decide +kernel
theorem dX4_waysOf_30 : decode cX4_waysOf 30 = .ok (.iload_n 1, 1) := by decide +kernel
theorem dX4_waysOf_31 : decode cX4_waysOf 31 = .ok (.iconst (-1), 1) := by decide +kernel
theorem dX4_waysOf_32 : decode cX4_waysOf 32 = .ok (.ixor, 1) := by decide +kernel
theorem dX4_waysOf_33 : decode cX4_waysOf 33 = .ok (.iand, 1) := by decide +kernel
theorem dX4_waysOf_34 : decode cX4_waysOf 34 = .ok (.ifCond .ne 19, 3) := by decide +kernel
theorem dX4_waysOf_37 : decode cX4_waysOf 37 = .ok (.iload_n 3, 1) := by decide +kernel
theorem dX4_waysOf_38 : decode cX4_waysOf 38 = .ok (.aload_n 0, 1) := by decide +kernel
theorem dX4_waysOf_39 : decode cX4_waysOf 39 = .ok (.getfield 15, 3) := by decide +kernel
theorem dX4_waysOf_42 : decode cX4_waysOf 42 = .ok (.iload_n 1, 1) := by decide +kernel
theorem dX4_waysOf_43 : decode cX4_waysOf 43 = .ok (.iconst 1, 1) := by decide +kernel
theorem dX4_waysOf_44 : decode cX4_waysOf 44 = .ok (.iload 4, 2) := by decide +kernel
theorem dX4_waysOf_46 : decode cX4_waysOf 46 = .ok (.ishl, 1) := by decide +kernel
theorem dX4_waysOf_47 : decode cX4_waysOf 47 = .ok (.iconst (-1), 1) := by decide +kernel
theorem dX4_waysOf_48 : decode cX4_waysOf 48 = .ok (.ixor, 1) := by decide +kernel
theorem dX4_waysOf_49 : decode cX4_waysOf 49 = .ok (.iand, 1) := by decide +kernel
theorem dX4_waysOf_50 : decode cX4_waysOf 50 = .ok (.iaload, 1) := by decide +kernel
theorem dX4_waysOf_51 : decode cX4_waysOf 51 = .ok (.iadd, 1) := by decide +kernel
theorem dX4_waysOf_52 : decode cX4_waysOf 52 = .ok (.istore_n 3, 1) := by decide +kernel
theorem dX4_waysOf_53 : decode cX4_waysOf 53 = .ok (.iinc 4 1, 3) := by decide +kernel
theorem dX4_waysOf_56 : decode cX4_waysOf 56 = .ok (.goto (-51), 3) := by decide +kernel
theorem dX4_waysOf_59 : decode cX4_waysOf 59 = .ok (.iload_n 3, 1) := by decide +kernel
theorem dX4_waysOf_60 : decode cX4_waysOf 60 = .ok (.ireturn, 1) := by decide +kernel
end
section
-- decode rows (printed by program)
theorem dX5_init_0 : decode cX5_init 0 = .ok (.aload_n 0, 1) := by decide +kernel
theorem dX5_init_1 : decode cX5_init 1 = .ok (.invokespecial 3, 3) := by decide +kernel
theorem dX5_init_4 : decode cX5_init 4 = .ok (.aload_n 0, 1) := by decide +kernel
theorem dX5_init_5 : decode cX5_init 5 = .ok (.iconst 2, 1) := by decide +kernel
theorem dX5_init_6 : decode cX5_init 6 = .ok (.newarray .boolean, 2) := by decide +kernel
theorem dX5_init_8 : decode cX5_init 8 = .ok (.putfield 9, 3) := by decide +kernel
theorem dX5_init_11 : decode cX5_init 11 = .ok (.aload_n 0, 1) := by decide +kernel
theorem dX5_init_12 : decode cX5_init 12 = .ok (.iconst 2, 1) := by decide +kernel
theorem dX5_init_13 : decode cX5_init 13 = .ok (.newarray .int, 2) := by decide +kernel
theorem dX5_init_15 : decode cX5_init 15 = .ok (.putfield 15, 3) := by decide +kernel
theorem dX5_init_18 : decode cX5_init 18 = .ok (.aload_n 0, 1) := by decide +kernel
theorem dX5_init_19 : decode cX5_init 19 = .ok (.iconst 2, 1) := by decide +kernel
theorem dX5_init_20 : decode cX5_init 20 = .ok (.newarray .int, 2) := by decide +kernel
theorem dX5_init_22 : decode cX5_init 22 = .ok (.putfield 19, 3) := by decide +kernel
theorem dX5_init_25 : decode cX5_init 25 = .ok (.aload_n 0, 1) := by decide +kernel
theorem dX5_init_26 : decode cX5_init 26 = .ok (.iconst 2, 1) := by decide +kernel
theorem dX5_init_27 : decode cX5_init 27 = .ok (.newarray .int, 2) := by decide +kernel
theorem dX5_init_29 : decode cX5_init 29 = .ok (.putfield 22, 3) := by decide +kernel
theorem dX5_init_32 : decode cX5_init 32 = .ok (.aload_n 0, 1) := by decide +kernel
theorem dX5_init_33 : decode cX5_init 33 = .ok (.iconst 2, 1) := by decide +kernel
theorem dX5_init_34 : decode cX5_init 34 = .ok (.newarray .int, 2) := by decide +kernel
theorem dX5_init_36 : decode cX5_init 36 = .ok (.putfield 25, 3) := by decide +kernel
theorem dX5_init_39 : decode cX5_init 39 = .ok (.aload_n 0, 1) := by decide +kernel
theorem dX5_init_40 : decode cX5_init 40 = .ok (.aload_n 1, 1) := by decide +kernel
theorem dX5_init_41 : decode cX5_init 41 = .ok (.putfield 28, 3) := by decide +kernel
theorem dX5_init_44 : decode cX5_init 44 = .ok (.return_, 1) := by decide +kernel
theorem dX5_clear_0 : decode cX5_clear 0 = .ok (.iconst 0, 1) := by decide +kernel
theorem dX5_clear_1 : decode cX5_clear 1 = .ok (.istore_n 1, 1) := by decide +kernel
theorem dX5_clear_2 : decode cX5_clear 2 = .ok (.iload_n 1, 1) := by decide +kernel
theorem dX5_clear_3 : decode cX5_clear 3 = .ok (.iconst 2, 1) := by decide +kernel
theorem dX5_clear_4 : decode cX5_clear 4 = .ok (.if_icmp .ge 16, 3) := by decide +kernel
theorem dX5_clear_7 : decode cX5_clear 7 = .ok (.aload_n 0, 1) := by decide +kernel
theorem dX5_clear_8 : decode cX5_clear 8 = .ok (.getfield 9, 3) := by decide +kernel
theorem dX5_clear_11 : decode cX5_clear 11 = .ok (.iload_n 1, 1) := by decide +kernel
theorem dX5_clear_12 : decode cX5_clear 12 = .ok (.iconst 0, 1) := by decide +kernel
theorem dX5_clear_13 : decode cX5_clear 13 = .ok (.bastore, 1) := by decide +kernel
theorem dX5_clear_14 : decode cX5_clear 14 = .ok (.iinc 1 1, 3) := by decide +kernel
theorem dX5_clear_17 : decode cX5_clear 17 = .ok (.goto (-15), 3) := by decide +kernel
theorem dX5_clear_20 : decode cX5_clear 20 = .ok (.return_, 1) := by decide +kernel
theorem dX5_tell_0 : decode cX5_tell 0 = .ok (.aload_n 0, 1) := by decide +kernel
theorem dX5_tell_1 : decode cX5_tell 1 = .ok (.getfield 9, 3) := by decide +kernel
theorem dX5_tell_4 : decode cX5_tell 4 = .ok (.iload_n 1, 1) := by decide +kernel
theorem dX5_tell_5 : decode cX5_tell 5 = .ok (.iconst 1, 1) := by decide +kernel
theorem dX5_tell_6 : decode cX5_tell 6 = .ok (.bastore, 1) := by decide +kernel
theorem dX5_tell_7 : decode cX5_tell 7 = .ok (.aload_n 0, 1) := by decide +kernel
theorem dX5_tell_8 : decode cX5_tell 8 = .ok (.getfield 15, 3) := by decide +kernel
theorem dX5_tell_11 : decode cX5_tell 11 = .ok (.iload_n 1, 1) := by decide +kernel
theorem dX5_tell_12 : decode cX5_tell 12 = .ok (.iload_n 2, 1) := by decide +kernel
theorem dX5_tell_13 : decode cX5_tell 13 = .ok (.iastore, 1) := by decide +kernel
theorem dX5_tell_14 : decode cX5_tell 14 = .ok (.aload_n 0, 1) := by decide +kernel
theorem dX5_tell_15 : decode cX5_tell 15 = .ok (.getfield 19, 3) := by decide +kernel
theorem dX5_tell_18 : decode cX5_tell 18 = .ok (.iload_n 1, 1) := by decide +kernel
theorem dX5_tell_19 : decode cX5_tell 19 = .ok (.iload_n 3, 1) := by decide +kernel
theorem dX5_tell_20 : decode cX5_tell 20 = .ok (.iastore, 1) := by decide +kernel
theorem dX5_tell_21 : decode cX5_tell 21 = .ok (.aload_n 0, 1) := by decide +kernel
theorem dX5_tell_22 : decode cX5_tell 22 = .ok (.getfield 22, 3) := by decide +kernel
theorem dX5_tell_25 : decode cX5_tell 25 = .ok (.iload_n 1, 1) := by decide +kernel
theorem dX5_tell_26 : decode cX5_tell 26 = .ok (.iload 4, 2) := by decide +kernel
theorem dX5_tell_28 : decode cX5_tell 28 = .ok (.iastore, 1) := by decide +kernel
theorem dX5_tell_29 : decode cX5_tell 29 = .ok (.aload_n 0, 1) := by decide +kernel
theorem dX5_tell_30 : decode cX5_tell 30 = .ok (.getfield 25, 3) := by decide +kernel
theorem dX5_tell_33 : decode cX5_tell 33 = .ok (.iload_n 1, 1) := by decide +kernel
theorem dX5_tell_34 : decode cX5_tell 34 = .ok (.iload 5, 2) := by decide +kernel
theorem dX5_tell_36 : decode cX5_tell 36 = .ok (.iastore, 1) := by decide +kernel
theorem dX5_tell_37 : decode cX5_tell 37 = .ok (.return_, 1) := by decide +kernel
theorem dX5_howMany_0 : decode cX5_howMany 0 = .ok (.iconst 0, 1) := by decide +kernel
theorem dX5_howMany_1 : decode cX5_howMany 1 = .ok (.istore_n 1, 1) := by decide +kernel
theorem dX5_howMany_2 : decode cX5_howMany 2 = .ok (.iconst 0, 1) := by decide +kernel
theorem dX5_howMany_3 : decode cX5_howMany 3 = .ok (.istore_n 2, 1) := by decide +kernel
theorem dX5_howMany_4 : decode cX5_howMany 4 = .ok (.iload_n 2, 1) := by decide +kernel
theorem dX5_howMany_5 : decode cX5_howMany 5 = .ok (.iconst 2, 1) := by decide +kernel
theorem dX5_howMany_6 : decode cX5_howMany 6 = .ok (.if_icmp .ge 21, 3) := by decide +kernel
theorem dX5_howMany_9 : decode cX5_howMany 9 = .ok (.aload_n 0, 1) := by decide +kernel
theorem dX5_howMany_10 : decode cX5_howMany 10 = .ok (.getfield 9, 3) := by decide +kernel
theorem dX5_howMany_13 : decode cX5_howMany 13 = .ok (.iload_n 2, 1) := by decide +kernel
theorem dX5_howMany_14 : decode cX5_howMany 14 = .ok (.baload, 1) := by decide +kernel
theorem dX5_howMany_15 : decode cX5_howMany 15 = .ok (.ifCond .eq 6, 3) := by decide +kernel
theorem dX5_howMany_18 : decode cX5_howMany 18 = .ok (.iinc 1 1, 3) := by decide +kernel
theorem dX5_howMany_21 : decode cX5_howMany 21 = .ok (.iinc 2 1, 3) := by decide +kernel
theorem dX5_howMany_24 : decode cX5_howMany 24 = .ok (.goto (-20), 3) := by decide +kernel
theorem dX5_howMany_27 : decode cX5_howMany 27 = .ok (.iload_n 1, 1) := by decide +kernel
theorem dX5_howMany_28 : decode cX5_howMany 28 = .ok (.ireturn, 1) := by decide +kernel
theorem dX5_seen_0 : decode cX5_seen 0 = .ok (.iconst 0, 1) := by decide +kernel
theorem dX5_seen_1 : decode cX5_seen 1 = .ok (.istore 5, 2) := by decide +kernel
theorem dX5_seen_3 : decode cX5_seen 3 = .ok (.iconst 0, 1) := by decide +kernel
theorem dX5_seen_4 : decode cX5_seen 4 = .ok (.istore 6, 2) := by decide +kernel
theorem dX5_seen_6 : decode cX5_seen 6 = .ok (.iconst 0, 1) := by decide +kernel
theorem dX5_seen_7 : decode cX5_seen 7 = .ok (.istore 7, 2) := by decide +kernel
theorem dX5_seen_9 : decode cX5_seen 9 = .ok (.iload 7, 2) := by decide +kernel
theorem dX5_seen_11 : decode cX5_seen 11 = .ok (.aload_n 0, 1) := by decide +kernel
theorem dX5_seen_12 : decode cX5_seen 12 = .ok (.getfield 28, 3) := by decide +kernel
theorem dX5_seen_15 : decode cX5_seen 15 = .ok (.getfield 32, 3) := by decide +kernel
theorem dX5_seen_18 : decode cX5_seen 18 = .ok (.if_icmp .ge 94, 3) := by decide +kernel
theorem dX5_seen_21 : decode cX5_seen 21 = .ok (.aload_n 0, 1) := by decide +kernel
theorem dX5_seen_22 : decode cX5_seen 22 = .ok (.getfield 28, 3) := by decide +kernel
theorem dX5_seen_25 : decode cX5_seen 25 = .ok (.iload 7, 2) := by decide +kernel
theorem dX5_seen_27 : decode cX5_seen 27 = .ok (.iconst 0, 1) := by decide +kernel
theorem dX5_seen_28 : decode cX5_seen 28 = .ok (.invokevirtual 38, 3) := by decide +kernel
theorem dX5_seen_31 : decode cX5_seen 31 = .ok (.iload 4, 2) := by decide +kernel
theorem dX5_seen_33 : decode cX5_seen 33 = .ok (.iadd, 1) := by decide +kernel
theorem dX5_seen_34 : decode cX5_seen 34 = .ok (.istore 8, 2) := by decide +kernel
theorem dX5_seen_36 : decode cX5_seen 36 = .ok (.aload_n 0, 1) := by decide +kernel
theorem dX5_seen_37 : decode cX5_seen 37 = .ok (.getfield 28, 3) := by decide +kernel
theorem dX5_seen_40 : decode cX5_seen 40 = .ok (.iload 7, 2) := by decide +kernel
theorem dX5_seen_42 : decode cX5_seen 42 = .ok (.iconst 1, 1) := by decide +kernel
theorem dX5_seen_43 : decode cX5_seen 43 = .ok (.invokevirtual 38, 3) := by decide +kernel
theorem dX5_seen_46 : decode cX5_seen 46 = .ok (.istore 9, 2) := by decide +kernel
theorem dX5_seen_48 : decode cX5_seen 48 = .ok (.iload 8, 2) := by decide +kernel
theorem dX5_seen_50 : decode cX5_seen 50 = .ok (.iload_n 2, 1) := by decide +kernel
theorem dX5_seen_51 : decode cX5_seen 51 = .ok (.if_icmp .lt 26, 3) := by decide +kernel
theorem dX5_seen_54 : decode cX5_seen 54 = .ok (.iload 8, 2) := by decide +kernel
theorem dX5_seen_56 : decode cX5_seen 56 = .ok (.iload_n 3, 1) := by decide +kernel
theorem dX5_seen_57 : decode cX5_seen 57 = .ok (.if_icmp .gt 20, 3) := by decide +kernel
theorem dX5_seen_60 : decode cX5_seen 60 = .ok (.iload 9, 2) := by decide +kernel
theorem dX5_seen_62 : decode cX5_seen 62 = .ok (.iload_n 1, 1) := by decide +kernel
theorem dX5_seen_63 : decode cX5_seen 63 = .ok (.if_icmp .ne 14, 3) := by decide +kernel
theorem dX5_seen_66 : decode cX5_seen 66 = .ok (.iload 5, 2) := by decide +kernel
theorem dX5_seen_68 : decode cX5_seen 68 = .ok (.iconst 1, 1) := by decide +kernel
theorem dX5_seen_69 : decode cX5_seen 69 = .ok (.iload 8, 2) := by decide +kernel
theorem dX5_seen_71 : decode cX5_seen 71 = .ok (.iload_n 2, 1) := by decide +kernel
theorem dX5_seen_72 : decode cX5_seen 72 = .ok (.isub, 1) := by decide +kernel
theorem dX5_seen_73 : decode cX5_seen 73 = .ok (.ishl, 1) := by decide +kernel
theorem dX5_seen_74 : decode cX5_seen 74 = .ok (.ior, 1) := by decide +kernel
theorem dX5_seen_75 : decode cX5_seen 75 = .ok (.istore 5, 2) := by decide +kernel
theorem dX5_seen_77 : decode cX5_seen 77 = .ok (.iload 8, 2) := by decide +kernel
theorem dX5_seen_79 : decode cX5_seen 79 = .ok (.iload_n 2, 1) := by decide +kernel
theorem dX5_seen_80 : decode cX5_seen 80 = .ok (.if_icmp .lt 26, 3) := by decide +kernel
theorem dX5_seen_83 : decode cX5_seen 83 = .ok (.iload 8, 2) := by decide +kernel
theorem dX5_seen_85 : decode cX5_seen 85 = .ok (.iload_n 3, 1) := by decide +kernel
theorem dX5_seen_86 : decode cX5_seen 86 = .ok (.if_icmp .gt 20, 3) := by decide +kernel
theorem dX5_seen_89 : decode cX5_seen 89 = .ok (.iload 9, 2) := by decide +kernel
theorem dX5_seen_91 : decode cX5_seen 91 = .ok (.iload_n 1, 1) := by decide +kernel
theorem dX5_seen_92 : decode cX5_seen 92 = .ok (.if_icmp .le 14, 3) := by decide +kernel
theorem dX5_seen_95 : decode cX5_seen 95 = .ok (.iload 6, 2) := by decide +kernel
theorem dX5_seen_97 : decode cX5_seen 97 = .ok (.iconst 1, 1) := by decide +kernel
theorem dX5_seen_98 : decode cX5_seen 98 = .ok (.iload 8, 2) := by decide +kernel
theorem dX5_seen_100 : decode cX5_seen 100 = .ok (.iload_n 2, 1) := by decide +kernel
theorem dX5_seen_101 : decode cX5_seen 101 = .ok (.isub, 1) := by decide +kernel
theorem dX5_seen_102 : decode cX5_seen 102 = .ok (.ishl, 1) := by decide +kernel
theorem dX5_seen_103 : decode cX5_seen 103 = .ok (.ior, 1) := by decide +kernel
theorem dX5_seen_104 : decode cX5_seen 104 = .ok (.istore 6, 2) := by decide +kernel
theorem dX5_seen_106 : decode cX5_seen 106 = .ok (.iinc 7 1, 3) := by decide +kernel
theorem dX5_seen_109 : decode cX5_seen 109 = .ok (.goto (-100), 3) := by decide +kernel
theorem dX5_seen_112 : decode cX5_seen 112 = .ok (.iload 5, 2) := by decide +kernel
theorem dX5_seen_114 : decode cX5_seen 114 = .ok (.iload 6, 2) := by decide +kernel
theorem dX5_seen_116 : decode cX5_seen 116 = .ok (.iconst (-1), 1) := by decide +kernel
theorem dX5_seen_117 : decode cX5_seen 117 = .ok (.ixor, 1) := by decide +kernel
theorem dX5_seen_118 : decode cX5_seen 118 = .ok (.iand, 1) := by decide +kernel
theorem dX5_seen_119 : decode cX5_seen 119 = .ok (.ireturn, 1) := by decide +kernel
theorem dX5_shiftsThatExplain_0 : decode cX5_shiftsThatExplain 0 = .ok (.iconst 0, 1) := by decide +kernel
theorem dX5_shiftsThatExplain_1 : decode cX5_shiftsThatExplain 1 = .ok (.istore_n 1, 1) := by decide +kernel
theorem dX5_shiftsThatExplain_2 : decode cX5_shiftsThatExplain 2 = .ok (.bipush (-9), 2) := by decide +kernel
theorem dX5_shiftsThatExplain_4 : decode cX5_shiftsThatExplain 4 = .ok (.istore_n 2, 1) := by decide +kernel
theorem dX5_shiftsThatExplain_5 : decode cX5_shiftsThatExplain 5 = .ok (.iload_n 2, 1) := by decide +kernel
theorem dX5_shiftsThatExplain_6 : decode cX5_shiftsThatExplain 6 = .ok (.bipush 9, 2) := by decide +kernel
theorem dX5_shiftsThatExplain_8 : decode cX5_shiftsThatExplain 8 = .ok (.if_icmp .gt 20, 3) := by decide +kernel
theorem dX5_shiftsThatExplain_11 : decode cX5_shiftsThatExplain 11 = .ok (.aload_n 0, 1) := by decide +kernel
theorem dX5_shiftsThatExplain_12 : decode cX5_shiftsThatExplain 12 = .ok (.iload_n 2, 1) := by decide +kernel
theorem dX5_shiftsThatExplain_13 : decode cX5_shiftsThatExplain 13 = .ok (.invokevirtual 42, 3) := by decide +kernel
theorem dX5_shiftsThatExplain_16 : decode cX5_shiftsThatExplain 16 = .ok (.ifCond .eq 6, 3) := by decide +kernel
theorem dX5_shiftsThatExplain_19 : decode cX5_shiftsThatExplain 19 = .ok (.iinc 1 1, 3) := by decide +kernel
theorem dX5_shiftsThatExplain_22 : decode cX5_shiftsThatExplain 22 = .ok (.iinc 2 1, 3) := by decide +kernel
theorem dX5_shiftsThatExplain_25 : decode cX5_shiftsThatExplain 25 = .ok (.goto (-20), 3) := by decide +kernel
theorem dX5_shiftsThatExplain_28 : decode cX5_shiftsThatExplain 28 = .ok (.iload_n 1, 1) := by decide +kernel
theorem dX5_shiftsThatExplain_29 : decode cX5_shiftsThatExplain 29 = .ok (.ireturn, 1) := by decide +kernel
theorem dX5_nearestShift_0 : decode cX5_nearestShift 0 = .ok (.iconst 0, 1) := by decide +kernel
theorem dX5_nearestShift_1 : decode cX5_nearestShift 1 = .ok (.istore_n 1, 1) := by decide +kernel
theorem dX5_nearestShift_2 : decode cX5_nearestShift 2 = .ok (.iload_n 1, 1) := by decide +kernel
theorem dX5_nearestShift_3 : decode cX5_nearestShift 3 = .ok (.bipush 9, 2) := by decide +kernel
theorem dX5_nearestShift_5 : decode cX5_nearestShift 5 = .ok (.if_icmp .gt 36, 3) := by decide +kernel
theorem dX5_nearestShift_8 : decode cX5_nearestShift 8 = .ok (.aload_n 0, 1) := by decide +kernel
theorem dX5_nearestShift_9 : decode cX5_nearestShift 9 = .ok (.iload_n 1, 1) := by decide +kernel
theorem dX5_nearestShift_10 : decode cX5_nearestShift 10 = .ok (.ineg, 1) := by decide +kernel
theorem dX5_nearestShift_11 : decode cX5_nearestShift 11 = .ok (.invokevirtual 42, 3) := by decide +kernel
theorem dX5_nearestShift_14 : decode cX5_nearestShift 14 = .ok (.ifCond .eq 8, 3) := by decide +kernel
theorem dX5_nearestShift_17 : decode cX5_nearestShift 17 = .ok (.ldc 46, 2) := by decide +kernel
theorem dX5_nearestShift_19 : decode cX5_nearestShift 19 = .ok (.iload_n 1, 1) := by decide +kernel
theorem dX5_nearestShift_20 : decode cX5_nearestShift 20 = .ok (.isub, 1) := by decide +kernel
theorem dX5_nearestShift_21 : decode cX5_nearestShift 21 = .ok (.ireturn, 1) := by decide +kernel
theorem dX5_nearestShift_22 : decode cX5_nearestShift 22 = .ok (.aload_n 0, 1) := by decide +kernel
theorem dX5_nearestShift_23 : decode cX5_nearestShift 23 = .ok (.iload_n 1, 1) := by decide +kernel
theorem dX5_nearestShift_24 : decode cX5_nearestShift 24 = .ok (.invokevirtual 42, 3) := by decide +kernel
theorem dX5_nearestShift_27 : decode cX5_nearestShift 27 = .ok (.ifCond .eq 8, 3) := by decide +kernel
theorem dX5_nearestShift_30 : decode cX5_nearestShift 30 = .ok (.ldc 46, 2) := by decide +kernel
theorem dX5_nearestShift_32 : decode cX5_nearestShift 32 = .ok (.iload_n 1, 1) := by decide +kernel
theorem dX5_nearestShift_33 : decode cX5_nearestShift 33 = .ok (.iadd, 1) := by decide +kernel
theorem dX5_nearestShift_34 : decode cX5_nearestShift 34 = .ok (.ireturn, 1) := by decide +kernel
theorem dX5_nearestShift_35 : decode cX5_nearestShift 35 = .ok (.iinc 1 1, 3) := by decide +kernel
theorem dX5_nearestShift_38 : decode cX5_nearestShift 38 = .ok (.goto (-36), 3) := by decide +kernel
theorem dX5_nearestShift_41 : decode cX5_nearestShift 41 = .ok (.bipush (-4), 2) := by decide +kernel
theorem dX5_nearestShift_43 : decode cX5_nearestShift 43 = .ok (.ireturn, 1) := by decide +kernel
theorem dX5_isExplainedBy_0 : decode cX5_isExplainedBy 0 = .ok (.iconst 0, 1) := by decide +kernel
theorem dX5_isExplainedBy_1 : decode cX5_isExplainedBy 1 = .ok (.istore_n 2, 1) := by decide +kernel
theorem dX5_isExplainedBy_2 : decode cX5_isExplainedBy 2 = .ok (.iload_n 2, 1) := by decide +kernel
theorem dX5_isExplainedBy_3 : decode cX5_isExplainedBy 3 = .ok (.iconst 2, 1) := by decide +kernel
theorem dX5_isExplainedBy_4 : decode cX5_isExplainedBy 4 = .ok (.if_icmp .ge 52, 3) := by decide +kernel
theorem dX5_isExplainedBy_7 : decode cX5_isExplainedBy 7 = .ok (.aload_n 0, 1) := by decide +kernel
theorem dX5_isExplainedBy_8 : decode cX5_isExplainedBy 8 = .ok (.getfield 9, 3) := by decide +kernel
theorem dX5_isExplainedBy_11 : decode cX5_isExplainedBy 11 = .ok (.iload_n 2, 1) := by decide +kernel
theorem dX5_isExplainedBy_12 : decode cX5_isExplainedBy 12 = .ok (.baload, 1) := by decide +kernel
theorem dX5_isExplainedBy_13 : decode cX5_isExplainedBy 13 = .ok (.ifCond .eq 37, 3) := by decide +kernel
theorem dX5_isExplainedBy_16 : decode cX5_isExplainedBy 16 = .ok (.aload_n 0, 1) := by decide +kernel
theorem dX5_isExplainedBy_17 : decode cX5_isExplainedBy 17 = .ok (.aload_n 0, 1) := by decide +kernel
theorem dX5_isExplainedBy_18 : decode cX5_isExplainedBy 18 = .ok (.getfield 15, 3) := by decide +kernel
theorem dX5_isExplainedBy_21 : decode cX5_isExplainedBy 21 = .ok (.iload_n 2, 1) := by decide +kernel
theorem dX5_isExplainedBy_22 : decode cX5_isExplainedBy 22 = .ok (.iaload, 1) := by decide +kernel
theorem dX5_isExplainedBy_23 : decode cX5_isExplainedBy 23 = .ok (.aload_n 0, 1) := by decide +kernel
theorem dX5_isExplainedBy_24 : decode cX5_isExplainedBy 24 = .ok (.getfield 19, 3) := by decide +kernel
theorem dX5_isExplainedBy_27 : decode cX5_isExplainedBy 27 = .ok (.iload_n 2, 1) := by decide +kernel
theorem dX5_isExplainedBy_28 : decode cX5_isExplainedBy 28 = .ok (.iaload, 1) := by decide +kernel
theorem dX5_isExplainedBy_29 : decode cX5_isExplainedBy 29 = .ok (.aload_n 0, 1) := by decide +kernel
theorem dX5_isExplainedBy_30 : decode cX5_isExplainedBy 30 = .ok (.getfield 22, 3) := by decide +kernel
theorem dX5_isExplainedBy_33 : decode cX5_isExplainedBy 33 = .ok (.iload_n 2, 1) := by decide +kernel
theorem dX5_isExplainedBy_34 : decode cX5_isExplainedBy 34 = .ok (.iaload, 1) := by decide +kernel
theorem dX5_isExplainedBy_35 : decode cX5_isExplainedBy 35 = .ok (.iload_n 1, 1) := by decide +kernel
theorem dX5_isExplainedBy_36 : decode cX5_isExplainedBy 36 = .ok (.invokevirtual 47, 3) := by decide +kernel
theorem dX5_isExplainedBy_39 : decode cX5_isExplainedBy 39 = .ok (.aload_n 0, 1) := by decide +kernel
theorem dX5_isExplainedBy_40 : decode cX5_isExplainedBy 40 = .ok (.getfield 25, 3) := by decide +kernel
theorem dX5_isExplainedBy_43 : decode cX5_isExplainedBy 43 = .ok (.iload_n 2, 1) := by decide +kernel
theorem dX5_isExplainedBy_44 : decode cX5_isExplainedBy 44 = .ok (.iaload, 1) := by decide +kernel
theorem dX5_isExplainedBy_45 : decode cX5_isExplainedBy 45 = .ok (.if_icmp .eq 5, 3) := by decide +kernel
theorem dX5_isExplainedBy_48 : decode cX5_isExplainedBy 48 = .ok (.iconst 0, 1) := by decide +kernel
theorem dX5_isExplainedBy_49 : decode cX5_isExplainedBy 49 = .ok (.ireturn, 1) := by decide +kernel
theorem dX5_isExplainedBy_50 : decode cX5_isExplainedBy 50 = .ok (.iinc 2 1, 3) := by decide +kernel
theorem dX5_isExplainedBy_53 : decode cX5_isExplainedBy 53 = .ok (.goto (-51), 3) := by decide +kernel
theorem dX5_isExplainedBy_56 : decode cX5_isExplainedBy 56 = .ok (.iconst 1, 1) := by decide +kernel
theorem dX5_isExplainedBy_57 : decode cX5_isExplainedBy 57 = .ok (.ireturn, 1) := by decide +kernel
end
section
-- decode rows (printed by program)
theorem dX6_init_0 : decode cX6_init 0 = .ok (.aload_n 0, 1) := by decide +kernel
theorem dX6_init_1 : decode cX6_init 1 = .ok (.invokespecial 3, 3) := by decide +kernel
theorem dX6_init_4 : decode cX6_init 4 = .ok (.aload_n 0, 1) := by decide +kernel
theorem dX6_init_5 : decode cX6_init 5 = .ok (.sipush 200, 3) := by decide +kernel
theorem dX6_init_8 : decode cX6_init 8 = .ok (.newarray .char, 2) := by decide +kernel
theorem dX6_init_10 : decode cX6_init 10 = .ok (.putfield 9, 3) := by decide +kernel
theorem dX6_init_13 : decode cX6_init 13 = .ok (.return_, 1) := by decide +kernel
theorem dX6_append_0 : decode cX6_append 0 = .ok (.aload_n 0, 1) := by decide +kernel
theorem dX6_append_1 : decode cX6_append 1 = .ok (.getfield 15, 3) := by decide +kernel
theorem dX6_append_4 : decode cX6_append 4 = .ok (.sipush 200, 3) := by decide +kernel
theorem dX6_append_7 : decode cX6_append 7 = .ok (.if_icmp .lt 5, 3) := by decide +kernel
theorem dX6_append_10 : decode cX6_append 10 = .ok (.iconst 0, 1) := by decide +kernel
theorem dX6_append_11 : decode cX6_append 11 = .ok (.ireturn, 1) := by decide +kernel
theorem dX6_append_12 : decode cX6_append 12 = .ok (.aload_n 0, 1) := by decide +kernel
theorem dX6_append_13 : decode cX6_append 13 = .ok (.getfield 9, 3) := by decide +kernel
theorem dX6_append_16 : decode cX6_append 16 = .ok (.aload_n 0, 1) := by decide +kernel
theorem dX6_append_17 : decode cX6_append 17 = .ok (.getfield 15, 3) := by decide +kernel
theorem dX6_append_20 : decode cX6_append 20 = .ok (.iload_n 1, 1) := by decide +kernel
theorem dX6_append_21 : decode cX6_append 21 = .ok (.castore, 1) := by decide +kernel
theorem dX6_append_22 : decode cX6_append 22 = .ok (.aload_n 0, 1) := by decide +kernel
theorem dX6_append_23 : decode cX6_append 23 = .ok (.dup, 1) := by decide +kernel
theorem dX6_append_24 : decode cX6_append 24 = .ok (.getfield 15, 3) := by decide +kernel
theorem dX6_append_27 : decode cX6_append 27 = .ok (.iconst 1, 1) := by decide +kernel
theorem dX6_append_28 : decode cX6_append 28 = .ok (.iadd, 1) := by decide +kernel
theorem dX6_append_29 : decode cX6_append 29 = .ok (.putfield 15, 3) := by decide +kernel
theorem dX6_append_32 : decode cX6_append 32 = .ok (.iconst 1, 1) := by decide +kernel
theorem dX6_append_33 : decode cX6_append 33 = .ok (.ireturn, 1) := by decide +kernel
theorem dX6_clear_0 : decode cX6_clear 0 = .ok (.aload_n 0, 1) := by decide +kernel
theorem dX6_clear_1 : decode cX6_clear 1 = .ok (.iconst 0, 1) := by decide +kernel
theorem dX6_clear_2 : decode cX6_clear 2 = .ok (.putfield 15, 3) := by decide +kernel
theorem dX6_clear_5 : decode cX6_clear 5 = .ok (.return_, 1) := by decide +kernel
theorem dX6_letterAt_0 : decode cX6_letterAt 0 = .ok (.iload_n 1, 1) := by decide +kernel
theorem dX6_letterAt_1 : decode cX6_letterAt 1 = .ok (.ifCond .lt 20, 3) := by decide +kernel
theorem dX6_letterAt_4 : decode cX6_letterAt 4 = .ok (.iload_n 1, 1) := by decide +kernel
theorem dX6_letterAt_5 : decode cX6_letterAt 5 = .ok (.aload_n 0, 1) := by decide +kernel
theorem dX6_letterAt_6 : decode cX6_letterAt 6 = .ok (.getfield 15, 3) := by decide +kernel
theorem dX6_letterAt_9 : decode cX6_letterAt 9 = .ok (.if_icmp .ge 12, 3) := by decide +kernel
theorem dX6_letterAt_12 : decode cX6_letterAt 12 = .ok (.aload_n 0, 1) := by decide +kernel
theorem dX6_letterAt_13 : decode cX6_letterAt 13 = .ok (.getfield 9, 3) := by decide +kernel
theorem dX6_letterAt_16 : decode cX6_letterAt 16 = .ok (.iload_n 1, 1) := by decide +kernel
theorem dX6_letterAt_17 : decode cX6_letterAt 17 = .ok (.caload, 1) := by decide +kernel
theorem dX6_letterAt_18 : decode cX6_letterAt 18 = .ok (.goto 4, 3) := by decide +kernel
theorem dX6_letterAt_21 : decode cX6_letterAt 21 = .ok (.iconst 0, 1) := by decide +kernel
theorem dX6_letterAt_22 : decode cX6_letterAt 22 = .ok (.ireturn, 1) := by decide +kernel
end
section
-- decode rows (printed by program)
theorem dX7_init_0 : decode cX7_init 0 = .ok (.aload_n 0, 1) := by decide +kernel
theorem dX7_init_1 : decode cX7_init 1 = .ok (.invokespecial 3, 3) := by decide +kernel
theorem dX7_init_4 : decode cX7_init 4 = .ok (.aload_n 0, 1) := by decide +kernel
theorem dX7_init_5 : decode cX7_init 5 = .ok (.bipush 8, 2) := by decide +kernel
theorem dX7_init_7 : decode cX7_init 7 = .ok (.bipush 41, 2) := by decide +kernel
theorem dX7_init_9 : decode cX7_init 9 = .ok (.multianewarray 9 2, 4) := by decide +kernel
theorem dX7_init_13 : decode cX7_init 13 = .ok (.putfield 11, 3) := by decide +kernel
theorem dX7_init_16 : decode cX7_init 16 = .ok (.aload_n 0, 1) := by decide +kernel
theorem dX7_init_17 : decode cX7_init 17 = .ok (.bipush 8, 2) := by decide +kernel
theorem dX7_init_19 : decode cX7_init 19 = .ok (.bipush 41, 2) := by decide +kernel
theorem dX7_init_21 : decode cX7_init 21 = .ok (.multianewarray 9 2, 4) := by decide +kernel
theorem dX7_init_25 : decode cX7_init 25 = .ok (.putfield 16, 3) := by decide +kernel
theorem dX7_init_28 : decode cX7_init 28 = .ok (.aload_n 0, 1) := by decide +kernel
theorem dX7_init_29 : decode cX7_init 29 = .ok (.bipush 8, 2) := by decide +kernel
theorem dX7_init_31 : decode cX7_init 31 = .ok (.newarray .int, 2) := by decide +kernel
theorem dX7_init_33 : decode cX7_init 33 = .ok (.putfield 19, 3) := by decide +kernel
theorem dX7_init_36 : decode cX7_init 36 = .ok (.aload_n 0, 1) := by decide +kernel
theorem dX7_init_37 : decode cX7_init 37 = .ok (.bipush 8, 2) := by decide +kernel
theorem dX7_init_39 : decode cX7_init 39 = .ok (.newarray .int, 2) := by decide +kernel
theorem dX7_init_41 : decode cX7_init 41 = .ok (.putfield 23, 3) := by decide +kernel
theorem dX7_init_44 : decode cX7_init 44 = .ok (.aload_n 0, 1) := by decide +kernel
theorem dX7_init_45 : decode cX7_init 45 = .ok (.aload_n 1, 1) := by decide +kernel
theorem dX7_init_46 : decode cX7_init 46 = .ok (.putfield 26, 3) := by decide +kernel
theorem dX7_init_49 : decode cX7_init 49 = .ok (.return_, 1) := by decide +kernel
theorem dX7_refresh_0 : decode cX7_refresh 0 = .ok (.iconst 0, 1) := by decide +kernel
theorem dX7_refresh_1 : decode cX7_refresh 1 = .ok (.istore_n 1, 1) := by decide +kernel
theorem dX7_refresh_2 : decode cX7_refresh 2 = .ok (.iload_n 1, 1) := by decide +kernel
theorem dX7_refresh_3 : decode cX7_refresh 3 = .ok (.aload_n 0, 1) := by decide +kernel
theorem dX7_refresh_4 : decode cX7_refresh 4 = .ok (.getfield 26, 3) := by decide +kernel
theorem dX7_refresh_7 : decode cX7_refresh 7 = .ok (.getfield 30, 3) := by decide +kernel
theorem dX7_refresh_10 : decode cX7_refresh 10 = .ok (.if_icmp .ge 43, 3) := by decide +kernel
theorem dX7_refresh_13 : decode cX7_refresh 13 = .ok (.aload_n 0, 1) := by decide +kernel
theorem dX7_refresh_14 : decode cX7_refresh 14 = .ok (.iload_n 1, 1) := by decide +kernel
theorem dX7_refresh_15 : decode cX7_refresh 15 = .ok (.invokevirtual 36, 3) := by decide +kernel
theorem dX7_refresh_18 : decode cX7_refresh 18 = .ok (.aload_n 0, 1) := by decide +kernel
theorem dX7_refresh_19 : decode cX7_refresh 19 = .ok (.aload_n 0, 1) := by decide +kernel
theorem dX7_refresh_20 : decode cX7_refresh 20 = .ok (.getfield 16, 3) := by decide +kernel
theorem dX7_refresh_23 : decode cX7_refresh 23 = .ok (.iload_n 1, 1) := by decide +kernel
theorem dX7_refresh_24 : decode cX7_refresh 24 = .ok (.aaload, 1) := by decide +kernel
theorem dX7_refresh_25 : decode cX7_refresh 25 = .ok (.iload_n 1, 1) := by decide +kernel
theorem dX7_refresh_26 : decode cX7_refresh 26 = .ok (.aload_n 0, 1) := by decide +kernel
theorem dX7_refresh_27 : decode cX7_refresh 27 = .ok (.getfield 26, 3) := by decide +kernel
theorem dX7_refresh_30 : decode cX7_refresh 30 = .ok (.iload_n 1, 1) := by decide +kernel
theorem dX7_refresh_31 : decode cX7_refresh 31 = .ok (.iconst 3, 1) := by decide +kernel
theorem dX7_refresh_32 : decode cX7_refresh 32 = .ok (.invokevirtual 40, 3) := by decide +kernel
theorem dX7_refresh_35 : decode cX7_refresh 35 = .ok (.aload_n 0, 1) := by decide +kernel
theorem dX7_refresh_36 : decode cX7_refresh 36 = .ok (.getfield 26, 3) := by decide +kernel
theorem dX7_refresh_39 : decode cX7_refresh 39 = .ok (.iload_n 1, 1) := by decide +kernel
theorem dX7_refresh_40 : decode cX7_refresh 40 = .ok (.iconst 4, 1) := by decide +kernel
theorem dX7_refresh_41 : decode cX7_refresh 41 = .ok (.invokevirtual 40, 3) := by decide +kernel
theorem dX7_refresh_44 : decode cX7_refresh 44 = .ok (.invokevirtual 44, 3) := by decide +kernel
theorem dX7_refresh_47 : decode cX7_refresh 47 = .ok (.iinc 1 1, 3) := by decide +kernel
theorem dX7_refresh_50 : decode cX7_refresh 50 = .ok (.goto (-48), 3) := by decide +kernel
theorem dX7_refresh_53 : decode cX7_refresh 53 = .ok (.aload_n 0, 1) := by decide +kernel
theorem dX7_refresh_54 : decode cX7_refresh 54 = .ok (.iconst 0, 1) := by decide +kernel
theorem dX7_refresh_55 : decode cX7_refresh 55 = .ok (.putfield 48, 3) := by decide +kernel
theorem dX7_refresh_58 : decode cX7_refresh 58 = .ok (.return_, 1) := by decide +kernel
theorem dX7_fillPlaces_0 : decode cX7_fillPlaces 0 = .ok (.aload_n 0, 1) := by decide +kernel
theorem dX7_fillPlaces_1 : decode cX7_fillPlaces 1 = .ok (.getfield 26, 3) := by decide +kernel
theorem dX7_fillPlaces_4 : decode cX7_fillPlaces 4 = .ok (.iload_n 1, 1) := by decide +kernel
theorem dX7_fillPlaces_5 : decode cX7_fillPlaces 5 = .ok (.iconst 0, 1) := by decide +kernel
theorem dX7_fillPlaces_6 : decode cX7_fillPlaces 6 = .ok (.invokevirtual 40, 3) := by decide +kernel
theorem dX7_fillPlaces_9 : decode cX7_fillPlaces 9 = .ok (.aload_n 0, 1) := by decide +kernel
theorem dX7_fillPlaces_10 : decode cX7_fillPlaces 10 = .ok (.getfield 26, 3) := by decide +kernel
theorem dX7_fillPlaces_13 : decode cX7_fillPlaces 13 = .ok (.invokevirtual 52, 3) := by decide +kernel
theorem dX7_fillPlaces_16 : decode cX7_fillPlaces 16 = .ok (.iadd, 1) := by decide +kernel
theorem dX7_fillPlaces_17 : decode cX7_fillPlaces 17 = .ok (.istore_n 2, 1) := by decide +kernel
theorem dX7_fillPlaces_18 : decode cX7_fillPlaces 18 = .ok (.aload_n 0, 1) := by decide +kernel
theorem dX7_fillPlaces_19 : decode cX7_fillPlaces 19 = .ok (.getfield 26, 3) := by decide +kernel
theorem dX7_fillPlaces_22 : decode cX7_fillPlaces 22 = .ok (.iload_n 1, 1) := by decide +kernel
theorem dX7_fillPlaces_23 : decode cX7_fillPlaces 23 = .ok (.iconst 2, 1) := by decide +kernel
theorem dX7_fillPlaces_24 : decode cX7_fillPlaces 24 = .ok (.invokevirtual 40, 3) := by decide +kernel
theorem dX7_fillPlaces_27 : decode cX7_fillPlaces 27 = .ok (.istore_n 3, 1) := by decide +kernel
theorem dX7_fillPlaces_28 : decode cX7_fillPlaces 28 = .ok (.iconst 0, 1) := by decide +kernel
theorem dX7_fillPlaces_29 : decode cX7_fillPlaces 29 = .ok (.istore 4, 2) := by decide +kernel
theorem dX7_fillPlaces_31 : decode cX7_fillPlaces 31 = .ok (.iload 4, 2) := by decide +kernel
theorem dX7_fillPlaces_33 : decode cX7_fillPlaces 33 = .ok (.aload_n 0, 1) := by decide +kernel
theorem dX7_fillPlaces_34 : decode cX7_fillPlaces 34 = .ok (.getfield 26, 3) := by decide +kernel
theorem dX7_fillPlaces_37 : decode cX7_fillPlaces 37 = .ok (.getfield 56, 3) := by decide +kernel
theorem dX7_fillPlaces_40 : decode cX7_fillPlaces 40 = .ok (.if_icmp .gt 35, 3) := by decide +kernel
theorem dX7_fillPlaces_43 : decode cX7_fillPlaces 43 = .ok (.aload_n 0, 1) := by decide +kernel
theorem dX7_fillPlaces_44 : decode cX7_fillPlaces 44 = .ok (.getfield 11, 3) := by decide +kernel
theorem dX7_fillPlaces_47 : decode cX7_fillPlaces 47 = .ok (.iload_n 1, 1) := by decide +kernel
theorem dX7_fillPlaces_48 : decode cX7_fillPlaces 48 = .ok (.aaload, 1) := by decide +kernel
theorem dX7_fillPlaces_49 : decode cX7_fillPlaces 49 = .ok (.iload 4, 2) := by decide +kernel
theorem dX7_fillPlaces_51 : decode cX7_fillPlaces 51 = .ok (.iload_n 2, 1) := by decide +kernel
theorem dX7_fillPlaces_52 : decode cX7_fillPlaces 52 = .ok (.aload_n 0, 1) := by decide +kernel
theorem dX7_fillPlaces_53 : decode cX7_fillPlaces 53 = .ok (.getfield 26, 3) := by decide +kernel
theorem dX7_fillPlaces_56 : decode cX7_fillPlaces 56 = .ok (.getfield 56, 3) := by decide +kernel
theorem dX7_fillPlaces_59 : decode cX7_fillPlaces 59 = .ok (.iload 4, 2) := by decide +kernel
theorem dX7_fillPlaces_61 : decode cX7_fillPlaces 61 = .ok (.isub, 1) := by decide +kernel
theorem dX7_fillPlaces_62 : decode cX7_fillPlaces 62 = .ok (.imul, 1) := by decide +kernel
theorem dX7_fillPlaces_63 : decode cX7_fillPlaces 63 = .ok (.iload_n 3, 1) := by decide +kernel
theorem dX7_fillPlaces_64 : decode cX7_fillPlaces 64 = .ok (.iload 4, 2) := by decide +kernel
theorem dX7_fillPlaces_66 : decode cX7_fillPlaces 66 = .ok (.imul, 1) := by decide +kernel
theorem dX7_fillPlaces_67 : decode cX7_fillPlaces 67 = .ok (.iadd, 1) := by decide +kernel
theorem dX7_fillPlaces_68 : decode cX7_fillPlaces 68 = .ok (.iastore, 1) := by decide +kernel
theorem dX7_fillPlaces_69 : decode cX7_fillPlaces 69 = .ok (.iinc 4 1, 3) := by decide +kernel
theorem dX7_fillPlaces_72 : decode cX7_fillPlaces 72 = .ok (.goto (-41), 3) := by decide +kernel
theorem dX7_fillPlaces_75 : decode cX7_fillPlaces 75 = .ok (.return_, 1) := by decide +kernel
theorem dX7_fillHeights_0 : decode cX7_fillHeights 0 = .ok (.bipush 10, 2) := by decide +kernel
theorem dX7_fillHeights_2 : decode cX7_fillHeights 2 = .ok (.aload_n 0, 1) := by decide +kernel
theorem dX7_fillHeights_3 : decode cX7_fillHeights 3 = .ok (.getfield 26, 3) := by decide +kernel
theorem dX7_fillHeights_6 : decode cX7_fillHeights 6 = .ok (.iload_n 2, 1) := by decide +kernel
theorem dX7_fillHeights_7 : decode cX7_fillHeights 7 = .ok (.iconst 1, 1) := by decide +kernel
theorem dX7_fillHeights_8 : decode cX7_fillHeights 8 = .ok (.invokevirtual 40, 3) := by decide +kernel
theorem dX7_fillHeights_11 : decode cX7_fillHeights 11 = .ok (.imul, 1) := by decide +kernel
theorem dX7_fillHeights_12 : decode cX7_fillHeights 12 = .ok (.istore 5, 2) := by decide +kernel
theorem dX7_fillHeights_14 : decode cX7_fillHeights 14 = .ok (.aload_n 1, 1) := by decide +kernel
theorem dX7_fillHeights_15 : decode cX7_fillHeights 15 = .ok (.iconst 0, 1) := by decide +kernel
theorem dX7_fillHeights_16 : decode cX7_fillHeights 16 = .ok (.iload 5, 2) := by decide +kernel
theorem dX7_fillHeights_18 : decode cX7_fillHeights 18 = .ok (.iastore, 1) := by decide +kernel
theorem dX7_fillHeights_19 : decode cX7_fillHeights 19 = .ok (.iconst 1, 1) := by decide +kernel
theorem dX7_fillHeights_20 : decode cX7_fillHeights 20 = .ok (.istore 6, 2) := by decide +kernel
theorem dX7_fillHeights_22 : decode cX7_fillHeights 22 = .ok (.iload 6, 2) := by decide +kernel
theorem dX7_fillHeights_24 : decode cX7_fillHeights 24 = .ok (.aload_n 0, 1) := by decide +kernel
theorem dX7_fillHeights_25 : decode cX7_fillHeights 25 = .ok (.getfield 26, 3) := by decide +kernel
theorem dX7_fillHeights_28 : decode cX7_fillHeights 28 = .ok (.getfield 56, 3) := by decide +kernel
theorem dX7_fillHeights_31 : decode cX7_fillHeights 31 = .ok (.if_icmp .ge 24, 3) := by decide +kernel
theorem dX7_fillHeights_34 : decode cX7_fillHeights 34 = .ok (.aload_n 1, 1) := by decide +kernel
theorem dX7_fillHeights_35 : decode cX7_fillHeights 35 = .ok (.iload 6, 2) := by decide +kernel
theorem dX7_fillHeights_37 : decode cX7_fillHeights 37 = .ok (.aload_n 0, 1) := by decide +kernel
theorem dX7_fillHeights_38 : decode cX7_fillHeights 38 = .ok (.iload 5, 2) := by decide +kernel
theorem dX7_fillHeights_40 : decode cX7_fillHeights 40 = .ok (.iload_n 3, 1) := by decide +kernel
theorem dX7_fillHeights_41 : decode cX7_fillHeights 41 = .ok (.iload 4, 2) := by decide +kernel
theorem dX7_fillHeights_43 : decode cX7_fillHeights 43 = .ok (.iload 6, 2) := by decide +kernel
theorem dX7_fillHeights_45 : decode cX7_fillHeights 45 = .ok (.invokevirtual 59, 3) := by decide +kernel
theorem dX7_fillHeights_48 : decode cX7_fillHeights 48 = .ok (.iastore, 1) := by decide +kernel
theorem dX7_fillHeights_49 : decode cX7_fillHeights 49 = .ok (.iinc 6 1, 3) := by decide +kernel
theorem dX7_fillHeights_52 : decode cX7_fillHeights 52 = .ok (.goto (-30), 3) := by decide +kernel
theorem dX7_fillHeights_55 : decode cX7_fillHeights 55 = .ok (.aload_n 1, 1) := by decide +kernel
theorem dX7_fillHeights_56 : decode cX7_fillHeights 56 = .ok (.aload_n 0, 1) := by decide +kernel
theorem dX7_fillHeights_57 : decode cX7_fillHeights 57 = .ok (.getfield 26, 3) := by decide +kernel
theorem dX7_fillHeights_60 : decode cX7_fillHeights 60 = .ok (.getfield 56, 3) := by decide +kernel
theorem dX7_fillHeights_63 : decode cX7_fillHeights 63 = .ok (.iconst 0, 1) := by decide +kernel
theorem dX7_fillHeights_64 : decode cX7_fillHeights 64 = .ok (.iastore, 1) := by decide +kernel
theorem dX7_fillHeights_65 : decode cX7_fillHeights 65 = .ok (.return_, 1) := by decide +kernel
theorem dX7_heightBetween_0 : decode cX7_heightBetween 0 = .ok (.aload_n 0, 1) := by decide +kernel
theorem dX7_heightBetween_1 : decode cX7_heightBetween 1 = .ok (.getfield 26, 3) := by decide +kernel
theorem dX7_heightBetween_4 : decode cX7_heightBetween 4 = .ok (.getfield 56, 3) := by decide +kernel
theorem dX7_heightBetween_7 : decode cX7_heightBetween 7 = .ok (.istore 5, 2) := by decide +kernel
theorem dX7_heightBetween_9 : decode cX7_heightBetween 9 = .ok (.iload_n 2, 1) := by decide +kernel
theorem dX7_heightBetween_10 : decode cX7_heightBetween 10 = .ok (.ifCond .ne 7, 3) := by decide +kernel
theorem dX7_heightBetween_13 : decode cX7_heightBetween 13 = .ok (.iload_n 1, 1) := by decide +kernel
theorem dX7_heightBetween_14 : decode cX7_heightBetween 14 = .ok (.iload_n 3, 1) := by decide +kernel
theorem dX7_heightBetween_15 : decode cX7_heightBetween 15 = .ok (.iadd, 1) := by decide +kernel
theorem dX7_heightBetween_16 : decode cX7_heightBetween 16 = .ok (.ireturn, 1) := by decide +kernel
theorem dX7_heightBetween_17 : decode cX7_heightBetween 17 = .ok (.iload_n 2, 1) := by decide +kernel
theorem dX7_heightBetween_18 : decode cX7_heightBetween 18 = .ok (.iconst 1, 1) := by decide +kernel
theorem dX7_heightBetween_19 : decode cX7_heightBetween 19 = .ok (.if_icmp .ne 37, 3) := by decide +kernel
theorem dX7_heightBetween_22 : decode cX7_heightBetween 22 = .ok (.iload_n 1, 1) := by decide +kernel
theorem dX7_heightBetween_23 : decode cX7_heightBetween 23 = .ok (.iload 5, 2) := by decide +kernel
theorem dX7_heightBetween_25 : decode cX7_heightBetween 25 = .ok (.iload 4, 2) := by decide +kernel
theorem dX7_heightBetween_27 : decode cX7_heightBetween 27 = .ok (.isub, 1) := by decide +kernel
theorem dX7_heightBetween_28 : decode cX7_heightBetween 28 = .ok (.imul, 1) := by decide +kernel
theorem dX7_heightBetween_29 : decode cX7_heightBetween 29 = .ok (.iload 5, 2) := by decide +kernel
theorem dX7_heightBetween_31 : decode cX7_heightBetween 31 = .ok (.invokestatic 63, 3) := by decide +kernel
theorem dX7_heightBetween_34 : decode cX7_heightBetween 34 = .ok (.iconst 4, 1) := by decide +kernel
theorem dX7_heightBetween_35 : decode cX7_heightBetween 35 = .ok (.iload_n 3, 1) := by decide +kernel
theorem dX7_heightBetween_36 : decode cX7_heightBetween 36 = .ok (.imul, 1) := by decide +kernel
theorem dX7_heightBetween_37 : decode cX7_heightBetween 37 = .ok (.iload 4, 2) := by decide +kernel
theorem dX7_heightBetween_39 : decode cX7_heightBetween 39 = .ok (.imul, 1) := by decide +kernel
theorem dX7_heightBetween_40 : decode cX7_heightBetween 40 = .ok (.iload 5, 2) := by decide +kernel
theorem dX7_heightBetween_42 : decode cX7_heightBetween 42 = .ok (.iload 4, 2) := by decide +kernel
theorem dX7_heightBetween_44 : decode cX7_heightBetween 44 = .ok (.isub, 1) := by decide +kernel
theorem dX7_heightBetween_45 : decode cX7_heightBetween 45 = .ok (.imul, 1) := by decide +kernel
theorem dX7_heightBetween_46 : decode cX7_heightBetween 46 = .ok (.iload 5, 2) := by decide +kernel
theorem dX7_heightBetween_48 : decode cX7_heightBetween 48 = .ok (.iload 5, 2) := by decide +kernel
theorem dX7_heightBetween_50 : decode cX7_heightBetween 50 = .ok (.imul, 1) := by decide +kernel
theorem dX7_heightBetween_51 : decode cX7_heightBetween 51 = .ok (.invokestatic 63, 3) := by decide +kernel
theorem dX7_heightBetween_54 : decode cX7_heightBetween 54 = .ok (.iadd, 1) := by decide +kernel
theorem dX7_heightBetween_55 : decode cX7_heightBetween 55 = .ok (.ireturn, 1) := by decide +kernel
theorem dX7_heightBetween_56 : decode cX7_heightBetween 56 = .ok (.iload 5, 2) := by decide +kernel
theorem dX7_heightBetween_58 : decode cX7_heightBetween 58 = .ok (.iconst 4, 1) := by decide +kernel
theorem dX7_heightBetween_59 : decode cX7_heightBetween 59 = .ok (.invokestatic 63, 3) := by decide +kernel
theorem dX7_heightBetween_62 : decode cX7_heightBetween 62 = .ok (.istore 6, 2) := by decide +kernel
theorem dX7_heightBetween_64 : decode cX7_heightBetween 64 = .ok (.iload 4, 2) := by decide +kernel
theorem dX7_heightBetween_66 : decode cX7_heightBetween 66 = .ok (.iload 6, 2) := by decide +kernel
theorem dX7_heightBetween_68 : decode cX7_heightBetween 68 = .ok (.if_icmp .ge 15, 3) := by decide +kernel
theorem dX7_heightBetween_71 : decode cX7_heightBetween 71 = .ok (.iload_n 1, 1) := by decide +kernel
theorem dX7_heightBetween_72 : decode cX7_heightBetween 72 = .ok (.iload_n 3, 1) := by decide +kernel
theorem dX7_heightBetween_73 : decode cX7_heightBetween 73 = .ok (.iload 4, 2) := by decide +kernel
theorem dX7_heightBetween_75 : decode cX7_heightBetween 75 = .ok (.imul, 1) := by decide +kernel
theorem dX7_heightBetween_76 : decode cX7_heightBetween 76 = .ok (.iload 6, 2) := by decide +kernel
theorem dX7_heightBetween_78 : decode cX7_heightBetween 78 = .ok (.invokestatic 63, 3) := by decide +kernel
theorem dX7_heightBetween_81 : decode cX7_heightBetween 81 = .ok (.iadd, 1) := by decide +kernel
theorem dX7_heightBetween_82 : decode cX7_heightBetween 82 = .ok (.ireturn, 1) := by decide +kernel
theorem dX7_heightBetween_83 : decode cX7_heightBetween 83 = .ok (.iload_n 1, 1) := by decide +kernel
theorem dX7_heightBetween_84 : decode cX7_heightBetween 84 = .ok (.iload_n 3, 1) := by decide +kernel
theorem dX7_heightBetween_85 : decode cX7_heightBetween 85 = .ok (.iadd, 1) := by decide +kernel
theorem dX7_heightBetween_86 : decode cX7_heightBetween 86 = .ok (.iload 5, 2) := by decide +kernel
theorem dX7_heightBetween_88 : decode cX7_heightBetween 88 = .ok (.iload 4, 2) := by decide +kernel
theorem dX7_heightBetween_90 : decode cX7_heightBetween 90 = .ok (.isub, 1) := by decide +kernel
theorem dX7_heightBetween_91 : decode cX7_heightBetween 91 = .ok (.imul, 1) := by decide +kernel
theorem dX7_heightBetween_92 : decode cX7_heightBetween 92 = .ok (.iload 5, 2) := by decide +kernel
theorem dX7_heightBetween_94 : decode cX7_heightBetween 94 = .ok (.iload 6, 2) := by decide +kernel
theorem dX7_heightBetween_96 : decode cX7_heightBetween 96 = .ok (.isub, 1) := by decide +kernel
theorem dX7_heightBetween_97 : decode cX7_heightBetween 97 = .ok (.invokestatic 63, 3) := by decide +kernel
theorem dX7_heightBetween_100 : decode cX7_heightBetween 100 = .ok (.ireturn, 1) := by decide +kernel
theorem dX7_cut_0 : decode cX7_cut 0 = .ok (.iload_n 1, 1) := by decide +kernel
theorem dX7_cut_1 : decode cX7_cut 1 = .ok (.ifCond .le 9, 3) := by decide +kernel
theorem dX7_cut_4 : decode cX7_cut 4 = .ok (.iload_n 0, 1) := by decide +kernel
theorem dX7_cut_5 : decode cX7_cut 5 = .ok (.iload_n 1, 1) := by decide +kernel
theorem dX7_cut_6 : decode cX7_cut 6 = .ok (.idiv, 1) := by decide +kernel
theorem dX7_cut_7 : decode cX7_cut 7 = .ok (.goto 4, 3) := by decide +kernel
theorem dX7_cut_10 : decode cX7_cut 10 = .ok (.iconst 0, 1) := by decide +kernel
theorem dX7_cut_11 : decode cX7_cut 11 = .ok (.ireturn, 1) := by decide +kernel
theorem dX7_placeOf_0 : decode cX7_placeOf 0 = .ok (.aload_n 0, 1) := by decide +kernel
theorem dX7_placeOf_1 : decode cX7_placeOf 1 = .ok (.getfield 11, 3) := by decide +kernel
theorem dX7_placeOf_4 : decode cX7_placeOf 4 = .ok (.iload_n 1, 1) := by decide +kernel
theorem dX7_placeOf_5 : decode cX7_placeOf 5 = .ok (.aaload, 1) := by decide +kernel
theorem dX7_placeOf_6 : decode cX7_placeOf 6 = .ok (.iload_n 2, 1) := by decide +kernel
theorem dX7_placeOf_7 : decode cX7_placeOf 7 = .ok (.iaload, 1) := by decide +kernel
theorem dX7_placeOf_8 : decode cX7_placeOf 8 = .ok (.ireturn, 1) := by decide +kernel
theorem dX7_heightOf_0 : decode cX7_heightOf 0 = .ok (.aload_n 0, 1) := by decide +kernel
theorem dX7_heightOf_1 : decode cX7_heightOf 1 = .ok (.getfield 16, 3) := by decide +kernel
theorem dX7_heightOf_4 : decode cX7_heightOf 4 = .ok (.iload_n 1, 1) := by decide +kernel
theorem dX7_heightOf_5 : decode cX7_heightOf 5 = .ok (.aaload, 1) := by decide +kernel
theorem dX7_heightOf_6 : decode cX7_heightOf 6 = .ok (.iload_n 2, 1) := by decide +kernel
theorem dX7_heightOf_7 : decode cX7_heightOf 7 = .ok (.iaload, 1) := by decide +kernel
theorem dX7_heightOf_8 : decode cX7_heightOf 8 = .ok (.ireturn, 1) := by decide +kernel
theorem dX7_longOf_0 : decode cX7_longOf 0 = .ok (.aload_n 0, 1) := by decide +kernel
theorem dX7_longOf_1 : decode cX7_longOf 1 = .ok (.getfield 16, 3) := by decide +kernel
theorem dX7_longOf_4 : decode cX7_longOf 4 = .ok (.iload_n 1, 1) := by decide +kernel
theorem dX7_longOf_5 : decode cX7_longOf 5 = .ok (.aaload, 1) := by decide +kernel
theorem dX7_longOf_6 : decode cX7_longOf 6 = .ok (.astore_n 2, 1) := by decide +kernel
theorem dX7_longOf_7 : decode cX7_longOf 7 = .ok (.aload_n 0, 1) := by decide +kernel
theorem dX7_longOf_8 : decode cX7_longOf 8 = .ok (.getfield 26, 3) := by decide +kernel
theorem dX7_longOf_11 : decode cX7_longOf 11 = .ok (.getfield 56, 3) := by decide +kernel
theorem dX7_longOf_14 : decode cX7_longOf 14 = .ok (.istore_n 3, 1) := by decide +kernel
theorem dX7_longOf_15 : decode cX7_longOf 15 = .ok (.iload_n 3, 1) := by decide +kernel
theorem dX7_longOf_16 : decode cX7_longOf 16 = .ok (.aload_n 0, 1) := by decide +kernel
theorem dX7_longOf_17 : decode cX7_longOf 17 = .ok (.getfield 11, 3) := by decide +kernel
theorem dX7_longOf_20 : decode cX7_longOf 20 = .ok (.iload_n 1, 1) := by decide +kernel
theorem dX7_longOf_21 : decode cX7_longOf 21 = .ok (.aaload, 1) := by decide +kernel
theorem dX7_longOf_22 : decode cX7_longOf 22 = .ok (.iconst 0, 1) := by decide +kernel
theorem dX7_longOf_23 : decode cX7_longOf 23 = .ok (.iaload, 1) := by decide +kernel
theorem dX7_longOf_24 : decode cX7_longOf 24 = .ok (.aload_n 0, 1) := by decide +kernel
theorem dX7_longOf_25 : decode cX7_longOf 25 = .ok (.getfield 11, 3) := by decide +kernel
theorem dX7_longOf_28 : decode cX7_longOf 28 = .ok (.iload_n 1, 1) := by decide +kernel
theorem dX7_longOf_29 : decode cX7_longOf 29 = .ok (.aaload, 1) := by decide +kernel
theorem dX7_longOf_30 : decode cX7_longOf 30 = .ok (.iload_n 3, 1) := by decide +kernel
theorem dX7_longOf_31 : decode cX7_longOf 31 = .ok (.iaload, 1) := by decide +kernel
theorem dX7_longOf_32 : decode cX7_longOf 32 = .ok (.isub, 1) := by decide +kernel
theorem dX7_longOf_33 : decode cX7_longOf 33 = .ok (.invokestatic 66, 3) := by decide +kernel
theorem dX7_longOf_36 : decode cX7_longOf 36 = .ok (.iload_n 3, 1) := by decide +kernel
theorem dX7_longOf_37 : decode cX7_longOf 37 = .ok (.invokestatic 63, 3) := by decide +kernel
theorem dX7_longOf_40 : decode cX7_longOf 40 = .ok (.iadd, 1) := by decide +kernel
theorem dX7_longOf_41 : decode cX7_longOf 41 = .ok (.istore 4, 2) := by decide +kernel
theorem dX7_longOf_43 : decode cX7_longOf 43 = .ok (.iconst 0, 1) := by decide +kernel
theorem dX7_longOf_44 : decode cX7_longOf 44 = .ok (.istore 5, 2) := by decide +kernel
theorem dX7_longOf_46 : decode cX7_longOf 46 = .ok (.iload 5, 2) := by decide +kernel
theorem dX7_longOf_48 : decode cX7_longOf 48 = .ok (.iload_n 3, 1) := by decide +kernel
theorem dX7_longOf_49 : decode cX7_longOf 49 = .ok (.if_icmp .ge 28, 3) := by decide +kernel
theorem dX7_longOf_52 : decode cX7_longOf 52 = .ok (.iload 4, 2) := by decide +kernel
theorem dX7_longOf_54 : decode cX7_longOf 54 = .ok (.aload_n 2, 1) := by decide +kernel
theorem dX7_longOf_55 : decode cX7_longOf 55 = .ok (.iload 5, 2) := by decide +kernel
theorem dX7_longOf_57 : decode cX7_longOf 57 = .ok (.iaload, 1) := by decide +kernel
theorem dX7_longOf_58 : decode cX7_longOf 58 = .ok (.aload_n 2, 1) := by decide +kernel
theorem dX7_longOf_59 : decode cX7_longOf 59 = .ok (.iload 5, 2) := by decide +kernel
theorem dX7_longOf_61 : decode cX7_longOf 61 = .ok (.iconst 1, 1) := by decide +kernel
theorem dX7_longOf_62 : decode cX7_longOf 62 = .ok (.iadd, 1) := by decide +kernel
theorem dX7_longOf_63 : decode cX7_longOf 63 = .ok (.iaload, 1) := by decide +kernel
theorem dX7_longOf_64 : decode cX7_longOf 64 = .ok (.isub, 1) := by decide +kernel
theorem dX7_longOf_65 : decode cX7_longOf 65 = .ok (.invokestatic 66, 3) := by decide +kernel
theorem dX7_longOf_68 : decode cX7_longOf 68 = .ok (.iadd, 1) := by decide +kernel
theorem dX7_longOf_69 : decode cX7_longOf 69 = .ok (.istore 4, 2) := by decide +kernel
theorem dX7_longOf_71 : decode cX7_longOf 71 = .ok (.iinc 5 1, 3) := by decide +kernel
theorem dX7_longOf_74 : decode cX7_longOf 74 = .ok (.goto (-28), 3) := by decide +kernel
theorem dX7_longOf_77 : decode cX7_longOf 77 = .ok (.iload 4, 2) := by decide +kernel
theorem dX7_longOf_79 : decode cX7_longOf 79 = .ok (.ireturn, 1) := by decide +kernel
theorem dX7_longOfAll_0 : decode cX7_longOfAll 0 = .ok (.iconst 0, 1) := by decide +kernel
theorem dX7_longOfAll_1 : decode cX7_longOfAll 1 = .ok (.istore_n 1, 1) := by decide +kernel
theorem dX7_longOfAll_2 : decode cX7_longOfAll 2 = .ok (.iconst 0, 1) := by decide +kernel
theorem dX7_longOfAll_3 : decode cX7_longOfAll 3 = .ok (.istore_n 2, 1) := by decide +kernel
theorem dX7_longOfAll_4 : decode cX7_longOfAll 4 = .ok (.iload_n 2, 1) := by decide +kernel
theorem dX7_longOfAll_5 : decode cX7_longOfAll 5 = .ok (.aload_n 0, 1) := by decide +kernel
theorem dX7_longOfAll_6 : decode cX7_longOfAll 6 = .ok (.getfield 26, 3) := by decide +kernel
theorem dX7_longOfAll_9 : decode cX7_longOfAll 9 = .ok (.getfield 30, 3) := by decide +kernel
theorem dX7_longOfAll_12 : decode cX7_longOfAll 12 = .ok (.if_icmp .ge 17, 3) := by decide +kernel
theorem dX7_longOfAll_15 : decode cX7_longOfAll 15 = .ok (.iload_n 1, 1) := by decide +kernel
theorem dX7_longOfAll_16 : decode cX7_longOfAll 16 = .ok (.aload_n 0, 1) := by decide +kernel
theorem dX7_longOfAll_17 : decode cX7_longOfAll 17 = .ok (.iload_n 2, 1) := by decide +kernel
theorem dX7_longOfAll_18 : decode cX7_longOfAll 18 = .ok (.invokevirtual 72, 3) := by decide +kernel
theorem dX7_longOfAll_21 : decode cX7_longOfAll 21 = .ok (.iadd, 1) := by decide +kernel
theorem dX7_longOfAll_22 : decode cX7_longOfAll 22 = .ok (.istore_n 1, 1) := by decide +kernel
theorem dX7_longOfAll_23 : decode cX7_longOfAll 23 = .ok (.iinc 2 1, 3) := by decide +kernel
theorem dX7_longOfAll_26 : decode cX7_longOfAll 26 = .ok (.goto (-22), 3) := by decide +kernel
theorem dX7_longOfAll_29 : decode cX7_longOfAll 29 = .ok (.iload_n 1, 1) := by decide +kernel
theorem dX7_longOfAll_30 : decode cX7_longOfAll 30 = .ok (.ireturn, 1) := by decide +kernel
theorem dX7_topRow_0 : decode cX7_topRow 0 = .ok (.iconst 0, 1) := by decide +kernel
theorem dX7_topRow_1 : decode cX7_topRow 1 = .ok (.istore_n 2, 1) := by decide +kernel
theorem dX7_topRow_2 : decode cX7_topRow 2 = .ok (.iconst 1, 1) := by decide +kernel
theorem dX7_topRow_3 : decode cX7_topRow 3 = .ok (.istore_n 3, 1) := by decide +kernel
theorem dX7_topRow_4 : decode cX7_topRow 4 = .ok (.iload_n 3, 1) := by decide +kernel
theorem dX7_topRow_5 : decode cX7_topRow 5 = .ok (.aload_n 0, 1) := by decide +kernel
theorem dX7_topRow_6 : decode cX7_topRow 6 = .ok (.getfield 26, 3) := by decide +kernel
theorem dX7_topRow_9 : decode cX7_topRow 9 = .ok (.getfield 56, 3) := by decide +kernel
theorem dX7_topRow_12 : decode cX7_topRow 12 = .ok (.if_icmp .gt 30, 3) := by decide +kernel
theorem dX7_topRow_15 : decode cX7_topRow 15 = .ok (.aload_n 0, 1) := by decide +kernel
theorem dX7_topRow_16 : decode cX7_topRow 16 = .ok (.getfield 16, 3) := by decide +kernel
theorem dX7_topRow_19 : decode cX7_topRow 19 = .ok (.iload_n 1, 1) := by decide +kernel
theorem dX7_topRow_20 : decode cX7_topRow 20 = .ok (.aaload, 1) := by decide +kernel
theorem dX7_topRow_21 : decode cX7_topRow 21 = .ok (.iload_n 3, 1) := by decide +kernel
theorem dX7_topRow_22 : decode cX7_topRow 22 = .ok (.iaload, 1) := by decide +kernel
theorem dX7_topRow_23 : decode cX7_topRow 23 = .ok (.aload_n 0, 1) := by decide +kernel
theorem dX7_topRow_24 : decode cX7_topRow 24 = .ok (.getfield 16, 3) := by decide +kernel
theorem dX7_topRow_27 : decode cX7_topRow 27 = .ok (.iload_n 1, 1) := by decide +kernel
theorem dX7_topRow_28 : decode cX7_topRow 28 = .ok (.aaload, 1) := by decide +kernel
theorem dX7_topRow_29 : decode cX7_topRow 29 = .ok (.iload_n 2, 1) := by decide +kernel
theorem dX7_topRow_30 : decode cX7_topRow 30 = .ok (.iaload, 1) := by decide +kernel
theorem dX7_topRow_31 : decode cX7_topRow 31 = .ok (.if_icmp .le 5, 3) := by decide +kernel
theorem dX7_topRow_34 : decode cX7_topRow 34 = .ok (.iload_n 3, 1) := by decide +kernel
theorem dX7_topRow_35 : decode cX7_topRow 35 = .ok (.istore_n 2, 1) := by decide +kernel
theorem dX7_topRow_36 : decode cX7_topRow 36 = .ok (.iinc 3 1, 3) := by decide +kernel
theorem dX7_topRow_39 : decode cX7_topRow 39 = .ok (.goto (-35), 3) := by decide +kernel
theorem dX7_topRow_42 : decode cX7_topRow 42 = .ok (.iload_n 2, 1) := by decide +kernel
theorem dX7_topRow_43 : decode cX7_topRow 43 = .ok (.ireturn, 1) := by decide +kernel
theorem dX7_closeAt_0 : decode cX7_closeAt 0 = .ok (.aload_n 0, 1) := by decide +kernel
theorem dX7_closeAt_1 : decode cX7_closeAt 1 = .ok (.getfield 11, 3) := by decide +kernel
theorem dX7_closeAt_4 : decode cX7_closeAt 4 = .ok (.iload_n 1, 1) := by decide +kernel
theorem dX7_closeAt_5 : decode cX7_closeAt 5 = .ok (.aaload, 1) := by decide +kernel
theorem dX7_closeAt_6 : decode cX7_closeAt 6 = .ok (.iload_n 3, 1) := by decide +kernel
theorem dX7_closeAt_7 : decode cX7_closeAt 7 = .ok (.iaload, 1) := by decide +kernel
theorem dX7_closeAt_8 : decode cX7_closeAt 8 = .ok (.aload_n 0, 1) := by decide +kernel
theorem dX7_closeAt_9 : decode cX7_closeAt 9 = .ok (.getfield 11, 3) := by decide +kernel
theorem dX7_closeAt_12 : decode cX7_closeAt 12 = .ok (.iload_n 2, 1) := by decide +kernel
theorem dX7_closeAt_13 : decode cX7_closeAt 13 = .ok (.aaload, 1) := by decide +kernel
theorem dX7_closeAt_14 : decode cX7_closeAt 14 = .ok (.iload_n 3, 1) := by decide +kernel
theorem dX7_closeAt_15 : decode cX7_closeAt 15 = .ok (.iaload, 1) := by decide +kernel
theorem dX7_closeAt_16 : decode cX7_closeAt 16 = .ok (.isub, 1) := by decide +kernel
theorem dX7_closeAt_17 : decode cX7_closeAt 17 = .ok (.invokestatic 66, 3) := by decide +kernel
theorem dX7_closeAt_20 : decode cX7_closeAt 20 = .ok (.aload_n 0, 1) := by decide +kernel
theorem dX7_closeAt_21 : decode cX7_closeAt 21 = .ok (.getfield 26, 3) := by decide +kernel
theorem dX7_closeAt_24 : decode cX7_closeAt 24 = .ok (.iconst 0, 1) := by decide +kernel
theorem dX7_closeAt_25 : decode cX7_closeAt 25 = .ok (.invokevirtual 75, 3) := by decide +kernel
theorem dX7_closeAt_28 : decode cX7_closeAt 28 = .ok (.aload_n 0, 1) := by decide +kernel
theorem dX7_closeAt_29 : decode cX7_closeAt 29 = .ok (.getfield 26, 3) := by decide +kernel
theorem dX7_closeAt_32 : decode cX7_closeAt 32 = .ok (.getfield 56, 3) := by decide +kernel
theorem dX7_closeAt_35 : decode cX7_closeAt 35 = .ok (.imul, 1) := by decide +kernel
theorem dX7_closeAt_36 : decode cX7_closeAt 36 = .ok (.if_icmp .ge 7, 3) := by decide +kernel
theorem dX7_closeAt_39 : decode cX7_closeAt 39 = .ok (.iconst 1, 1) := by decide +kernel
theorem dX7_closeAt_40 : decode cX7_closeAt 40 = .ok (.goto 4, 3) := by decide +kernel
theorem dX7_closeAt_43 : decode cX7_closeAt 43 = .ok (.iconst 0, 1) := by decide +kernel
theorem dX7_closeAt_44 : decode cX7_closeAt 44 = .ok (.ireturn, 1) := by decide +kernel
theorem dX7_nearAt_0 : decode cX7_nearAt 0 = .ok (.aload_n 0, 1) := by decide +kernel
theorem dX7_nearAt_1 : decode cX7_nearAt 1 = .ok (.iload_n 1, 1) := by decide +kernel
theorem dX7_nearAt_2 : decode cX7_nearAt 2 = .ok (.iload_n 2, 1) := by decide +kernel
theorem dX7_nearAt_3 : decode cX7_nearAt 3 = .ok (.iload_n 3, 1) := by decide +kernel
theorem dX7_nearAt_4 : decode cX7_nearAt 4 = .ok (.invokevirtual 78, 3) := by decide +kernel
theorem dX7_nearAt_7 : decode cX7_nearAt 7 = .ok (.ifCond .eq 38, 3) := by decide +kernel
theorem dX7_nearAt_10 : decode cX7_nearAt 10 = .ok (.aload_n 0, 1) := by decide +kernel
theorem dX7_nearAt_11 : decode cX7_nearAt 11 = .ok (.getfield 16, 3) := by decide +kernel
theorem dX7_nearAt_14 : decode cX7_nearAt 14 = .ok (.iload_n 1, 1) := by decide +kernel
theorem dX7_nearAt_15 : decode cX7_nearAt 15 = .ok (.aaload, 1) := by decide +kernel
theorem dX7_nearAt_16 : decode cX7_nearAt 16 = .ok (.iload_n 3, 1) := by decide +kernel
theorem dX7_nearAt_17 : decode cX7_nearAt 17 = .ok (.iaload, 1) := by decide +kernel
theorem dX7_nearAt_18 : decode cX7_nearAt 18 = .ok (.aload_n 0, 1) := by decide +kernel
theorem dX7_nearAt_19 : decode cX7_nearAt 19 = .ok (.getfield 16, 3) := by decide +kernel
theorem dX7_nearAt_22 : decode cX7_nearAt 22 = .ok (.iload_n 2, 1) := by decide +kernel
theorem dX7_nearAt_23 : decode cX7_nearAt 23 = .ok (.aaload, 1) := by decide +kernel
theorem dX7_nearAt_24 : decode cX7_nearAt 24 = .ok (.iload_n 3, 1) := by decide +kernel
theorem dX7_nearAt_25 : decode cX7_nearAt 25 = .ok (.iaload, 1) := by decide +kernel
theorem dX7_nearAt_26 : decode cX7_nearAt 26 = .ok (.isub, 1) := by decide +kernel
theorem dX7_nearAt_27 : decode cX7_nearAt 27 = .ok (.invokestatic 66, 3) := by decide +kernel
theorem dX7_nearAt_30 : decode cX7_nearAt 30 = .ok (.aload_n 0, 1) := by decide +kernel
theorem dX7_nearAt_31 : decode cX7_nearAt 31 = .ok (.getfield 26, 3) := by decide +kernel
theorem dX7_nearAt_34 : decode cX7_nearAt 34 = .ok (.iconst 1, 1) := by decide +kernel
theorem dX7_nearAt_35 : decode cX7_nearAt 35 = .ok (.invokevirtual 75, 3) := by decide +kernel
theorem dX7_nearAt_38 : decode cX7_nearAt 38 = .ok (.if_icmp .ge 7, 3) := by decide +kernel
theorem dX7_nearAt_41 : decode cX7_nearAt 41 = .ok (.iconst 1, 1) := by decide +kernel
theorem dX7_nearAt_42 : decode cX7_nearAt 42 = .ok (.goto 4, 3) := by decide +kernel
theorem dX7_nearAt_45 : decode cX7_nearAt 45 = .ok (.iconst 0, 1) := by decide +kernel
theorem dX7_nearAt_46 : decode cX7_nearAt 46 = .ok (.ireturn, 1) := by decide +kernel
theorem dX7_firstNear_0 : decode cX7_firstNear 0 = .ok (.iconst 0, 1) := by decide +kernel
theorem dX7_firstNear_1 : decode cX7_firstNear 1 = .ok (.istore_n 3, 1) := by decide +kernel
theorem dX7_firstNear_2 : decode cX7_firstNear 2 = .ok (.iload_n 3, 1) := by decide +kernel
theorem dX7_firstNear_3 : decode cX7_firstNear 3 = .ok (.aload_n 0, 1) := by decide +kernel
theorem dX7_firstNear_4 : decode cX7_firstNear 4 = .ok (.getfield 26, 3) := by decide +kernel
theorem dX7_firstNear_7 : decode cX7_firstNear 7 = .ok (.getfield 56, 3) := by decide +kernel
theorem dX7_firstNear_10 : decode cX7_firstNear 10 = .ok (.if_icmp .gt 21, 3) := by decide +kernel
theorem dX7_firstNear_13 : decode cX7_firstNear 13 = .ok (.aload_n 0, 1) := by decide +kernel
theorem dX7_firstNear_14 : decode cX7_firstNear 14 = .ok (.iload_n 1, 1) := by decide +kernel
theorem dX7_firstNear_15 : decode cX7_firstNear 15 = .ok (.iload_n 2, 1) := by decide +kernel
theorem dX7_firstNear_16 : decode cX7_firstNear 16 = .ok (.iload_n 3, 1) := by decide +kernel
theorem dX7_firstNear_17 : decode cX7_firstNear 17 = .ok (.invokevirtual 82, 3) := by decide +kernel
theorem dX7_firstNear_20 : decode cX7_firstNear 20 = .ok (.ifCond .eq 5, 3) := by decide +kernel
theorem dX7_firstNear_23 : decode cX7_firstNear 23 = .ok (.iload_n 3, 1) := by decide +kernel
theorem dX7_firstNear_24 : decode cX7_firstNear 24 = .ok (.ireturn, 1) := by decide +kernel
theorem dX7_firstNear_25 : decode cX7_firstNear 25 = .ok (.iinc 3 1, 3) := by decide +kernel
theorem dX7_firstNear_28 : decode cX7_firstNear 28 = .ok (.goto (-26), 3) := by decide +kernel
theorem dX7_firstNear_31 : decode cX7_firstNear 31 = .ok (.bipush (-4), 2) := by decide +kernel
theorem dX7_firstNear_33 : decode cX7_firstNear 33 = .ok (.ireturn, 1) := by decide +kernel
theorem dX7_nearRows_0 : decode cX7_nearRows 0 = .ok (.iconst 0, 1) := by decide +kernel
theorem dX7_nearRows_1 : decode cX7_nearRows 1 = .ok (.istore_n 3, 1) := by decide +kernel
theorem dX7_nearRows_2 : decode cX7_nearRows 2 = .ok (.iconst 0, 1) := by decide +kernel
theorem dX7_nearRows_3 : decode cX7_nearRows 3 = .ok (.istore 4, 2) := by decide +kernel
theorem dX7_nearRows_5 : decode cX7_nearRows 5 = .ok (.iload 4, 2) := by decide +kernel
theorem dX7_nearRows_7 : decode cX7_nearRows 7 = .ok (.aload_n 0, 1) := by decide +kernel
theorem dX7_nearRows_8 : decode cX7_nearRows 8 = .ok (.getfield 26, 3) := by decide +kernel
theorem dX7_nearRows_11 : decode cX7_nearRows 11 = .ok (.getfield 56, 3) := by decide +kernel
theorem dX7_nearRows_14 : decode cX7_nearRows 14 = .ok (.if_icmp .gt 23, 3) := by decide +kernel
theorem dX7_nearRows_17 : decode cX7_nearRows 17 = .ok (.aload_n 0, 1) := by decide +kernel
theorem dX7_nearRows_18 : decode cX7_nearRows 18 = .ok (.iload_n 1, 1) := by decide +kernel
theorem dX7_nearRows_19 : decode cX7_nearRows 19 = .ok (.iload_n 2, 1) := by decide +kernel
theorem dX7_nearRows_20 : decode cX7_nearRows 20 = .ok (.iload 4, 2) := by decide +kernel
theorem dX7_nearRows_22 : decode cX7_nearRows 22 = .ok (.invokevirtual 82, 3) := by decide +kernel
theorem dX7_nearRows_25 : decode cX7_nearRows 25 = .ok (.ifCond .eq 6, 3) := by decide +kernel
theorem dX7_nearRows_28 : decode cX7_nearRows 28 = .ok (.iinc 3 1, 3) := by decide +kernel
theorem dX7_nearRows_31 : decode cX7_nearRows 31 = .ok (.iinc 4 1, 3) := by decide +kernel
theorem dX7_nearRows_34 : decode cX7_nearRows 34 = .ok (.goto (-29), 3) := by decide +kernel
theorem dX7_nearRows_37 : decode cX7_nearRows 37 = .ok (.iload_n 3, 1) := by decide +kernel
theorem dX7_nearRows_38 : decode cX7_nearRows 38 = .ok (.ireturn, 1) := by decide +kernel
theorem dX7_cross_0 : decode cX7_cross 0 = .ok (.aload_n 0, 1) := by decide +kernel
theorem dX7_cross_1 : decode cX7_cross 1 = .ok (.getfield 11, 3) := by decide +kernel
theorem dX7_cross_4 : decode cX7_cross 4 = .ok (.iload_n 1, 1) := by decide +kernel
theorem dX7_cross_5 : decode cX7_cross 5 = .ok (.aaload, 1) := by decide +kernel
theorem dX7_cross_6 : decode cX7_cross 6 = .ok (.iconst 0, 1) := by decide +kernel
theorem dX7_cross_7 : decode cX7_cross 7 = .ok (.iaload, 1) := by decide +kernel
theorem dX7_cross_8 : decode cX7_cross 8 = .ok (.aload_n 0, 1) := by decide +kernel
theorem dX7_cross_9 : decode cX7_cross 9 = .ok (.getfield 11, 3) := by decide +kernel
theorem dX7_cross_12 : decode cX7_cross 12 = .ok (.iload_n 2, 1) := by decide +kernel
theorem dX7_cross_13 : decode cX7_cross 13 = .ok (.aaload, 1) := by decide +kernel
theorem dX7_cross_14 : decode cX7_cross 14 = .ok (.iconst 0, 1) := by decide +kernel
theorem dX7_cross_15 : decode cX7_cross 15 = .ok (.iaload, 1) := by decide +kernel
theorem dX7_cross_16 : decode cX7_cross 16 = .ok (.invokestatic 85, 3) := by decide +kernel
theorem dX7_cross_19 : decode cX7_cross 19 = .ok (.istore_n 3, 1) := by decide +kernel
theorem dX7_cross_20 : decode cX7_cross 20 = .ok (.aload_n 0, 1) := by decide +kernel
theorem dX7_cross_21 : decode cX7_cross 21 = .ok (.getfield 11, 3) := by decide +kernel
theorem dX7_cross_24 : decode cX7_cross 24 = .ok (.iload_n 1, 1) := by decide +kernel
theorem dX7_cross_25 : decode cX7_cross 25 = .ok (.aaload, 1) := by decide +kernel
theorem dX7_cross_26 : decode cX7_cross 26 = .ok (.aload_n 0, 1) := by decide +kernel
theorem dX7_cross_27 : decode cX7_cross 27 = .ok (.getfield 26, 3) := by decide +kernel
theorem dX7_cross_30 : decode cX7_cross 30 = .ok (.getfield 56, 3) := by decide +kernel
theorem dX7_cross_33 : decode cX7_cross 33 = .ok (.iaload, 1) := by decide +kernel
theorem dX7_cross_34 : decode cX7_cross 34 = .ok (.aload_n 0, 1) := by decide +kernel
theorem dX7_cross_35 : decode cX7_cross 35 = .ok (.getfield 11, 3) := by decide +kernel
theorem dX7_cross_38 : decode cX7_cross 38 = .ok (.iload_n 2, 1) := by decide +kernel
theorem dX7_cross_39 : decode cX7_cross 39 = .ok (.aaload, 1) := by decide +kernel
theorem dX7_cross_40 : decode cX7_cross 40 = .ok (.aload_n 0, 1) := by decide +kernel
theorem dX7_cross_41 : decode cX7_cross 41 = .ok (.getfield 26, 3) := by decide +kernel
theorem dX7_cross_44 : decode cX7_cross 44 = .ok (.getfield 56, 3) := by decide +kernel
theorem dX7_cross_47 : decode cX7_cross 47 = .ok (.iaload, 1) := by decide +kernel
theorem dX7_cross_48 : decode cX7_cross 48 = .ok (.invokestatic 85, 3) := by decide +kernel
theorem dX7_cross_51 : decode cX7_cross 51 = .ok (.istore 4, 2) := by decide +kernel
theorem dX7_cross_53 : decode cX7_cross 53 = .ok (.iload_n 3, 1) := by decide +kernel
theorem dX7_cross_54 : decode cX7_cross 54 = .ok (.iload 4, 2) := by decide +kernel
theorem dX7_cross_56 : decode cX7_cross 56 = .ok (.imul, 1) := by decide +kernel
theorem dX7_cross_57 : decode cX7_cross 57 = .ok (.ifCond .ge 7, 3) := by decide +kernel
theorem dX7_cross_60 : decode cX7_cross 60 = .ok (.iconst 1, 1) := by decide +kernel
theorem dX7_cross_61 : decode cX7_cross 61 = .ok (.goto 4, 3) := by decide +kernel
theorem dX7_cross_64 : decode cX7_cross 64 = .ok (.iconst 0, 1) := by decide +kernel
theorem dX7_cross_65 : decode cX7_cross 65 = .ok (.ireturn, 1) := by decide +kernel
theorem dX7_nearPairs_0 : decode cX7_nearPairs 0 = .ok (.iconst 0, 1) := by decide +kernel
theorem dX7_nearPairs_1 : decode cX7_nearPairs 1 = .ok (.istore_n 1, 1) := by decide +kernel
theorem dX7_nearPairs_2 : decode cX7_nearPairs 2 = .ok (.iconst 0, 1) := by decide +kernel
theorem dX7_nearPairs_3 : decode cX7_nearPairs 3 = .ok (.istore_n 2, 1) := by decide +kernel
theorem dX7_nearPairs_4 : decode cX7_nearPairs 4 = .ok (.iload_n 2, 1) := by decide +kernel
theorem dX7_nearPairs_5 : decode cX7_nearPairs 5 = .ok (.aload_n 0, 1) := by decide +kernel
theorem dX7_nearPairs_6 : decode cX7_nearPairs 6 = .ok (.getfield 26, 3) := by decide +kernel
theorem dX7_nearPairs_9 : decode cX7_nearPairs 9 = .ok (.getfield 30, 3) := by decide +kernel
theorem dX7_nearPairs_12 : decode cX7_nearPairs 12 = .ok (.if_icmp .ge 44, 3) := by decide +kernel
theorem dX7_nearPairs_15 : decode cX7_nearPairs 15 = .ok (.iload_n 2, 1) := by decide +kernel
theorem dX7_nearPairs_16 : decode cX7_nearPairs 16 = .ok (.iconst 1, 1) := by decide +kernel
theorem dX7_nearPairs_17 : decode cX7_nearPairs 17 = .ok (.iadd, 1) := by decide +kernel
theorem dX7_nearPairs_18 : decode cX7_nearPairs 18 = .ok (.istore_n 3, 1) := by decide +kernel
theorem dX7_nearPairs_19 : decode cX7_nearPairs 19 = .ok (.iload_n 3, 1) := by decide +kernel
theorem dX7_nearPairs_20 : decode cX7_nearPairs 20 = .ok (.aload_n 0, 1) := by decide +kernel
theorem dX7_nearPairs_21 : decode cX7_nearPairs 21 = .ok (.getfield 26, 3) := by decide +kernel
theorem dX7_nearPairs_24 : decode cX7_nearPairs 24 = .ok (.getfield 30, 3) := by decide +kernel
theorem dX7_nearPairs_27 : decode cX7_nearPairs 27 = .ok (.if_icmp .ge 23, 3) := by decide +kernel
theorem dX7_nearPairs_30 : decode cX7_nearPairs 30 = .ok (.aload_n 0, 1) := by decide +kernel
theorem dX7_nearPairs_31 : decode cX7_nearPairs 31 = .ok (.iload_n 2, 1) := by decide +kernel
theorem dX7_nearPairs_32 : decode cX7_nearPairs 32 = .ok (.iload_n 3, 1) := by decide +kernel
theorem dX7_nearPairs_33 : decode cX7_nearPairs 33 = .ok (.invokevirtual 90, 3) := by decide +kernel
theorem dX7_nearPairs_36 : decode cX7_nearPairs 36 = .ok (.bipush (-4), 2) := by decide +kernel
theorem dX7_nearPairs_38 : decode cX7_nearPairs 38 = .ok (.if_icmp .eq 6, 3) := by decide +kernel
theorem dX7_nearPairs_41 : decode cX7_nearPairs 41 = .ok (.iinc 1 1, 3) := by decide +kernel
theorem dX7_nearPairs_44 : decode cX7_nearPairs 44 = .ok (.iinc 3 1, 3) := by decide +kernel
theorem dX7_nearPairs_47 : decode cX7_nearPairs 47 = .ok (.goto (-28), 3) := by decide +kernel
theorem dX7_nearPairs_50 : decode cX7_nearPairs 50 = .ok (.iinc 2 1, 3) := by decide +kernel
theorem dX7_nearPairs_53 : decode cX7_nearPairs 53 = .ok (.goto (-49), 3) := by decide +kernel
theorem dX7_nearPairs_56 : decode cX7_nearPairs 56 = .ok (.iload_n 1, 1) := by decide +kernel
theorem dX7_nearPairs_57 : decode cX7_nearPairs 57 = .ok (.ireturn, 1) := by decide +kernel
theorem dX7_crossPairs_0 : decode cX7_crossPairs 0 = .ok (.iconst 0, 1) := by decide +kernel
theorem dX7_crossPairs_1 : decode cX7_crossPairs 1 = .ok (.istore_n 1, 1) := by decide +kernel
theorem dX7_crossPairs_2 : decode cX7_crossPairs 2 = .ok (.iconst 0, 1) := by decide +kernel
theorem dX7_crossPairs_3 : decode cX7_crossPairs 3 = .ok (.istore_n 2, 1) := by decide +kernel
theorem dX7_crossPairs_4 : decode cX7_crossPairs 4 = .ok (.iload_n 2, 1) := by decide +kernel
theorem dX7_crossPairs_5 : decode cX7_crossPairs 5 = .ok (.aload_n 0, 1) := by decide +kernel
theorem dX7_crossPairs_6 : decode cX7_crossPairs 6 = .ok (.getfield 26, 3) := by decide +kernel
theorem dX7_crossPairs_9 : decode cX7_crossPairs 9 = .ok (.getfield 30, 3) := by decide +kernel
theorem dX7_crossPairs_12 : decode cX7_crossPairs 12 = .ok (.if_icmp .ge 42, 3) := by decide +kernel
theorem dX7_crossPairs_15 : decode cX7_crossPairs 15 = .ok (.iload_n 2, 1) := by decide +kernel
theorem dX7_crossPairs_16 : decode cX7_crossPairs 16 = .ok (.iconst 1, 1) := by decide +kernel
theorem dX7_crossPairs_17 : decode cX7_crossPairs 17 = .ok (.iadd, 1) := by decide +kernel
theorem dX7_crossPairs_18 : decode cX7_crossPairs 18 = .ok (.istore_n 3, 1) := by decide +kernel
theorem dX7_crossPairs_19 : decode cX7_crossPairs 19 = .ok (.iload_n 3, 1) := by decide +kernel
theorem dX7_crossPairs_20 : decode cX7_crossPairs 20 = .ok (.aload_n 0, 1) := by decide +kernel
theorem dX7_crossPairs_21 : decode cX7_crossPairs 21 = .ok (.getfield 26, 3) := by decide +kernel
theorem dX7_crossPairs_24 : decode cX7_crossPairs 24 = .ok (.getfield 30, 3) := by decide +kernel
theorem dX7_crossPairs_27 : decode cX7_crossPairs 27 = .ok (.if_icmp .ge 21, 3) := by decide +kernel
theorem dX7_crossPairs_30 : decode cX7_crossPairs 30 = .ok (.aload_n 0, 1) := by decide +kernel
theorem dX7_crossPairs_31 : decode cX7_crossPairs 31 = .ok (.iload_n 2, 1) := by decide +kernel
theorem dX7_crossPairs_32 : decode cX7_crossPairs 32 = .ok (.iload_n 3, 1) := by decide +kernel
theorem dX7_crossPairs_33 : decode cX7_crossPairs 33 = .ok (.invokevirtual 93, 3) := by decide +kernel
theorem dX7_crossPairs_36 : decode cX7_crossPairs 36 = .ok (.ifCond .eq 6, 3) := by decide +kernel
theorem dX7_crossPairs_39 : decode cX7_crossPairs 39 = .ok (.iinc 1 1, 3) := by decide +kernel
theorem dX7_crossPairs_42 : decode cX7_crossPairs 42 = .ok (.iinc 3 1, 3) := by decide +kernel
theorem dX7_crossPairs_45 : decode cX7_crossPairs 45 = .ok (.goto (-26), 3) := by decide +kernel
theorem dX7_crossPairs_48 : decode cX7_crossPairs 48 = .ok (.iinc 2 1, 3) := by decide +kernel
theorem dX7_crossPairs_51 : decode cX7_crossPairs 51 = .ok (.goto (-47), 3) := by decide +kernel
theorem dX7_crossPairs_54 : decode cX7_crossPairs 54 = .ok (.iload_n 1, 1) := by decide +kernel
theorem dX7_crossPairs_55 : decode cX7_crossPairs 55 = .ok (.ireturn, 1) := by decide +kernel
theorem dX7_blockedPairs_0 : decode cX7_blockedPairs 0 = .ok (.iconst 0, 1) := by decide +kernel
theorem dX7_blockedPairs_1 : decode cX7_blockedPairs 1 = .ok (.istore_n 1, 1) := by decide +kernel
theorem dX7_blockedPairs_2 : decode cX7_blockedPairs 2 = .ok (.iconst 0, 1) := by decide +kernel
theorem dX7_blockedPairs_3 : decode cX7_blockedPairs 3 = .ok (.istore_n 2, 1) := by decide +kernel
theorem dX7_blockedPairs_4 : decode cX7_blockedPairs 4 = .ok (.iload_n 2, 1) := by decide +kernel
theorem dX7_blockedPairs_5 : decode cX7_blockedPairs 5 = .ok (.aload_n 0, 1) := by decide +kernel
theorem dX7_blockedPairs_6 : decode cX7_blockedPairs 6 = .ok (.getfield 26, 3) := by decide +kernel
theorem dX7_blockedPairs_9 : decode cX7_blockedPairs 9 = .ok (.getfield 30, 3) := by decide +kernel
theorem dX7_blockedPairs_12 : decode cX7_blockedPairs 12 = .ok (.if_icmp .ge 20, 3) := by decide +kernel
theorem dX7_blockedPairs_15 : decode cX7_blockedPairs 15 = .ok (.iload_n 1, 1) := by decide +kernel
theorem dX7_blockedPairs_16 : decode cX7_blockedPairs 16 = .ok (.aload_n 0, 1) := by decide +kernel
theorem dX7_blockedPairs_17 : decode cX7_blockedPairs 17 = .ok (.iload_n 2, 1) := by decide +kernel
theorem dX7_blockedPairs_18 : decode cX7_blockedPairs 18 = .ok (.invokevirtual 97, 3) := by decide +kernel
theorem dX7_blockedPairs_21 : decode cX7_blockedPairs 21 = .ok (.invokestatic 100, 3) := by decide +kernel
theorem dX7_blockedPairs_24 : decode cX7_blockedPairs 24 = .ok (.iadd, 1) := by decide +kernel
theorem dX7_blockedPairs_25 : decode cX7_blockedPairs 25 = .ok (.istore_n 1, 1) := by decide +kernel
theorem dX7_blockedPairs_26 : decode cX7_blockedPairs 26 = .ok (.iinc 2 1, 3) := by decide +kernel
theorem dX7_blockedPairs_29 : decode cX7_blockedPairs 29 = .ok (.goto (-25), 3) := by decide +kernel
theorem dX7_blockedPairs_32 : decode cX7_blockedPairs 32 = .ok (.iload_n 1, 1) := by decide +kernel
theorem dX7_blockedPairs_33 : decode cX7_blockedPairs 33 = .ok (.ireturn, 1) := by decide +kernel
theorem dX7_blockersOf_0 : decode cX7_blockersOf 0 = .ok (.aload_n 0, 1) := by decide +kernel
theorem dX7_blockersOf_1 : decode cX7_blockersOf 1 = .ok (.invokevirtual 103, 3) := by decide +kernel
theorem dX7_blockersOf_4 : decode cX7_blockersOf 4 = .ok (.aload_n 0, 1) := by decide +kernel
theorem dX7_blockersOf_5 : decode cX7_blockersOf 5 = .ok (.getfield 19, 3) := by decide +kernel
theorem dX7_blockersOf_8 : decode cX7_blockersOf 8 = .ok (.iload_n 1, 1) := by decide +kernel
theorem dX7_blockersOf_9 : decode cX7_blockersOf 9 = .ok (.iaload, 1) := by decide +kernel
theorem dX7_blockersOf_10 : decode cX7_blockersOf 10 = .ok (.ireturn, 1) := by decide +kernel
theorem dX7_blockedByEach_0 : decode cX7_blockedByEach 0 = .ok (.aload_n 0, 1) := by decide +kernel
theorem dX7_blockedByEach_1 : decode cX7_blockedByEach 1 = .ok (.invokevirtual 103, 3) := by decide +kernel
theorem dX7_blockedByEach_4 : decode cX7_blockedByEach 4 = .ok (.aload_n 0, 1) := by decide +kernel
theorem dX7_blockedByEach_5 : decode cX7_blockedByEach 5 = .ok (.getfield 23, 3) := by decide +kernel
theorem dX7_blockedByEach_8 : decode cX7_blockedByEach 8 = .ok (.areturn, 1) := by decide +kernel
theorem dX7_findBlockers_0 : decode cX7_findBlockers 0 = .ok (.aload_n 0, 1) := by decide +kernel
theorem dX7_findBlockers_1 : decode cX7_findBlockers 1 = .ok (.getfield 48, 3) := by decide +kernel
theorem dX7_findBlockers_4 : decode cX7_findBlockers 4 = .ok (.ifCond .eq 4, 3) := by decide +kernel
theorem dX7_findBlockers_7 : decode cX7_findBlockers 7 = .ok (.return_, 1) := by decide +kernel
theorem dX7_findBlockers_8 : decode cX7_findBlockers 8 = .ok (.iconst 0, 1) := by decide +kernel
theorem dX7_findBlockers_9 : decode cX7_findBlockers 9 = .ok (.istore_n 1, 1) := by decide +kernel
theorem dX7_findBlockers_10 : decode cX7_findBlockers 10 = .ok (.iload_n 1, 1) := by decide +kernel
theorem dX7_findBlockers_11 : decode cX7_findBlockers 11 = .ok (.bipush 8, 2) := by decide +kernel
theorem dX7_findBlockers_13 : decode cX7_findBlockers 13 = .ok (.if_icmp .ge 23, 3) := by decide +kernel
theorem dX7_findBlockers_16 : decode cX7_findBlockers 16 = .ok (.aload_n 0, 1) := by decide +kernel
theorem dX7_findBlockers_17 : decode cX7_findBlockers 17 = .ok (.getfield 19, 3) := by decide +kernel
theorem dX7_findBlockers_20 : decode cX7_findBlockers 20 = .ok (.iload_n 1, 1) := by decide +kernel
theorem dX7_findBlockers_21 : decode cX7_findBlockers 21 = .ok (.iconst 0, 1) := by decide +kernel
theorem dX7_findBlockers_22 : decode cX7_findBlockers 22 = .ok (.iastore, 1) := by decide +kernel
theorem dX7_findBlockers_23 : decode cX7_findBlockers 23 = .ok (.aload_n 0, 1) := by decide +kernel
theorem dX7_findBlockers_24 : decode cX7_findBlockers 24 = .ok (.getfield 23, 3) := by decide +kernel
theorem dX7_findBlockers_27 : decode cX7_findBlockers 27 = .ok (.iload_n 1, 1) := by decide +kernel
theorem dX7_findBlockers_28 : decode cX7_findBlockers 28 = .ok (.iconst 0, 1) := by decide +kernel
theorem dX7_findBlockers_29 : decode cX7_findBlockers 29 = .ok (.iastore, 1) := by decide +kernel
theorem dX7_findBlockers_30 : decode cX7_findBlockers 30 = .ok (.iinc 1 1, 3) := by decide +kernel
theorem dX7_findBlockers_33 : decode cX7_findBlockers 33 = .ok (.goto (-23), 3) := by decide +kernel
theorem dX7_findBlockers_36 : decode cX7_findBlockers 36 = .ok (.iconst 0, 1) := by decide +kernel
theorem dX7_findBlockers_37 : decode cX7_findBlockers 37 = .ok (.istore_n 1, 1) := by decide +kernel
theorem dX7_findBlockers_38 : decode cX7_findBlockers 38 = .ok (.iload_n 1, 1) := by decide +kernel
theorem dX7_findBlockers_39 : decode cX7_findBlockers 39 = .ok (.aload_n 0, 1) := by decide +kernel
theorem dX7_findBlockers_40 : decode cX7_findBlockers 40 = .ok (.getfield 26, 3) := by decide +kernel
theorem dX7_findBlockers_43 : decode cX7_findBlockers 43 = .ok (.getfield 30, 3) := by decide +kernel
theorem dX7_findBlockers_46 : decode cX7_findBlockers 46 = .ok (.if_icmp .ge 72, 3) := by decide +kernel
theorem dX7_findBlockers_49 : decode cX7_findBlockers 49 = .ok (.iconst 0, 1) := by decide +kernel
theorem dX7_findBlockers_50 : decode cX7_findBlockers 50 = .ok (.istore_n 2, 1) := by decide +kernel
theorem dX7_findBlockers_51 : decode cX7_findBlockers 51 = .ok (.iload_n 2, 1) := by decide +kernel
theorem dX7_findBlockers_52 : decode cX7_findBlockers 52 = .ok (.aload_n 0, 1) := by decide +kernel
theorem dX7_findBlockers_53 : decode cX7_findBlockers 53 = .ok (.getfield 26, 3) := by decide +kernel
theorem dX7_findBlockers_56 : decode cX7_findBlockers 56 = .ok (.getfield 30, 3) := by decide +kernel
theorem dX7_findBlockers_59 : decode cX7_findBlockers 59 = .ok (.if_icmp .ge 53, 3) := by decide +kernel
theorem dX7_findBlockers_62 : decode cX7_findBlockers 62 = .ok (.iload_n 1, 1) := by decide +kernel
theorem dX7_findBlockers_63 : decode cX7_findBlockers 63 = .ok (.iload_n 2, 1) := by decide +kernel
theorem dX7_findBlockers_64 : decode cX7_findBlockers 64 = .ok (.if_icmp .eq 42, 3) := by decide +kernel
theorem dX7_findBlockers_67 : decode cX7_findBlockers 67 = .ok (.aload_n 0, 1) := by decide +kernel
theorem dX7_findBlockers_68 : decode cX7_findBlockers 68 = .ok (.iload_n 2, 1) := by decide +kernel
theorem dX7_findBlockers_69 : decode cX7_findBlockers 69 = .ok (.aload_n 0, 1) := by decide +kernel
theorem dX7_findBlockers_70 : decode cX7_findBlockers 70 = .ok (.getfield 16, 3) := by decide +kernel
theorem dX7_findBlockers_73 : decode cX7_findBlockers 73 = .ok (.iload_n 2, 1) := by decide +kernel
theorem dX7_findBlockers_74 : decode cX7_findBlockers 74 = .ok (.aaload, 1) := by decide +kernel
theorem dX7_findBlockers_75 : decode cX7_findBlockers 75 = .ok (.iload_n 1, 1) := by decide +kernel
theorem dX7_findBlockers_76 : decode cX7_findBlockers 76 = .ok (.invokevirtual 106, 3) := by decide +kernel
theorem dX7_findBlockers_79 : decode cX7_findBlockers 79 = .ok (.ifCond .eq 27, 3) := by decide +kernel
theorem dX7_findBlockers_82 : decode cX7_findBlockers 82 = .ok (.aload_n 0, 1) := by decide +kernel
theorem dX7_findBlockers_83 : decode cX7_findBlockers 83 = .ok (.getfield 19, 3) := by decide +kernel
theorem dX7_findBlockers_86 : decode cX7_findBlockers 86 = .ok (.iload_n 1, 1) := by decide +kernel
theorem dX7_findBlockers_87 : decode cX7_findBlockers 87 = .ok (.dup2, 1) := by decide +kernel
theorem dX7_findBlockers_88 : decode cX7_findBlockers 88 = .ok (.iaload, 1) := by decide +kernel
theorem dX7_findBlockers_89 : decode cX7_findBlockers 89 = .ok (.iconst 1, 1) := by decide +kernel
theorem dX7_findBlockers_90 : decode cX7_findBlockers 90 = .ok (.iload_n 2, 1) := by decide +kernel
theorem dX7_findBlockers_91 : decode cX7_findBlockers 91 = .ok (.ishl, 1) := by decide +kernel
theorem dX7_findBlockers_92 : decode cX7_findBlockers 92 = .ok (.ior, 1) := by decide +kernel
theorem dX7_findBlockers_93 : decode cX7_findBlockers 93 = .ok (.iastore, 1) := by decide +kernel
theorem dX7_findBlockers_94 : decode cX7_findBlockers 94 = .ok (.aload_n 0, 1) := by decide +kernel
theorem dX7_findBlockers_95 : decode cX7_findBlockers 95 = .ok (.getfield 23, 3) := by decide +kernel
theorem dX7_findBlockers_98 : decode cX7_findBlockers 98 = .ok (.iload_n 2, 1) := by decide +kernel
theorem dX7_findBlockers_99 : decode cX7_findBlockers 99 = .ok (.dup2, 1) := by decide +kernel
theorem dX7_findBlockers_100 : decode cX7_findBlockers 100 = .ok (.iaload, 1) := by decide +kernel
theorem dX7_findBlockers_101 : decode cX7_findBlockers 101 = .ok (.iconst 1, 1) := by decide +kernel
theorem dX7_findBlockers_102 : decode cX7_findBlockers 102 = .ok (.iload_n 1, 1) := by decide +kernel
theorem dX7_findBlockers_103 : decode cX7_findBlockers 103 = .ok (.ishl, 1) := by decide +kernel
theorem dX7_findBlockers_104 : decode cX7_findBlockers 104 = .ok (.ior, 1) := by decide +kernel
theorem dX7_findBlockers_105 : decode cX7_findBlockers 105 = .ok (.iastore, 1) := by decide +kernel
theorem dX7_findBlockers_106 : decode cX7_findBlockers 106 = .ok (.iinc 2 1, 3) := by decide +kernel
theorem dX7_findBlockers_109 : decode cX7_findBlockers 109 = .ok (.goto (-58), 3) := by decide +kernel
theorem dX7_findBlockers_112 : decode cX7_findBlockers 112 = .ok (.iinc 1 1, 3) := by decide +kernel
theorem dX7_findBlockers_115 : decode cX7_findBlockers 115 = .ok (.goto (-77), 3) := by decide +kernel
theorem dX7_findBlockers_118 : decode cX7_findBlockers 118 = .ok (.aload_n 0, 1) := by decide +kernel
theorem dX7_findBlockers_119 : decode cX7_findBlockers 119 = .ok (.iconst 1, 1) := by decide +kernel
theorem dX7_findBlockers_120 : decode cX7_findBlockers 120 = .ok (.putfield 48, 3) := by decide +kernel
theorem dX7_findBlockers_123 : decode cX7_findBlockers 123 = .ok (.return_, 1) := by decide +kernel
theorem dX7_isInTheWay_0 : decode cX7_isInTheWay 0 = .ok (.aload_n 0, 1) := by decide +kernel
theorem dX7_isInTheWay_1 : decode cX7_isInTheWay 1 = .ok (.iload_n 1, 1) := by decide +kernel
theorem dX7_isInTheWay_2 : decode cX7_isInTheWay 2 = .ok (.aload_n 2, 1) := by decide +kernel
theorem dX7_isInTheWay_3 : decode cX7_isInTheWay 3 = .ok (.iload_n 3, 1) := by decide +kernel
theorem dX7_isInTheWay_4 : decode cX7_isInTheWay 4 = .ok (.iconst 0, 1) := by decide +kernel
theorem dX7_isInTheWay_5 : decode cX7_isInTheWay 5 = .ok (.invokevirtual 110, 3) := by decide +kernel
theorem dX7_isInTheWay_8 : decode cX7_isInTheWay 8 = .ok (.ifCond .ne 20, 3) := by decide +kernel
theorem dX7_isInTheWay_11 : decode cX7_isInTheWay 11 = .ok (.aload_n 0, 1) := by decide +kernel
theorem dX7_isInTheWay_12 : decode cX7_isInTheWay 12 = .ok (.iload_n 1, 1) := by decide +kernel
theorem dX7_isInTheWay_13 : decode cX7_isInTheWay 13 = .ok (.aload_n 2, 1) := by decide +kernel
theorem dX7_isInTheWay_14 : decode cX7_isInTheWay 14 = .ok (.iload_n 3, 1) := by decide +kernel
theorem dX7_isInTheWay_15 : decode cX7_isInTheWay 15 = .ok (.aload_n 0, 1) := by decide +kernel
theorem dX7_isInTheWay_16 : decode cX7_isInTheWay 16 = .ok (.getfield 26, 3) := by decide +kernel
theorem dX7_isInTheWay_19 : decode cX7_isInTheWay 19 = .ok (.getfield 56, 3) := by decide +kernel
theorem dX7_isInTheWay_22 : decode cX7_isInTheWay 22 = .ok (.invokevirtual 110, 3) := by decide +kernel
theorem dX7_isInTheWay_25 : decode cX7_isInTheWay 25 = .ok (.ifCond .eq 7, 3) := by decide +kernel
theorem dX7_isInTheWay_28 : decode cX7_isInTheWay 28 = .ok (.iconst 1, 1) := by decide +kernel
theorem dX7_isInTheWay_29 : decode cX7_isInTheWay 29 = .ok (.goto 4, 3) := by decide +kernel
theorem dX7_isInTheWay_32 : decode cX7_isInTheWay 32 = .ok (.iconst 0, 1) := by decide +kernel
theorem dX7_isInTheWay_33 : decode cX7_isInTheWay 33 = .ok (.ireturn, 1) := by decide +kernel
theorem dX7_isOverEnd_0 : decode cX7_isOverEnd 0 = .ok (.aload_n 0, 1) := by decide +kernel
theorem dX7_isOverEnd_1 : decode cX7_isOverEnd 1 = .ok (.getfield 26, 3) := by decide +kernel
theorem dX7_isOverEnd_4 : decode cX7_isOverEnd 4 = .ok (.getfield 56, 3) := by decide +kernel
theorem dX7_isOverEnd_7 : decode cX7_isOverEnd 7 = .ok (.istore 5, 2) := by decide +kernel
theorem dX7_isOverEnd_9 : decode cX7_isOverEnd 9 = .ok (.iconst 2, 1) := by decide +kernel
theorem dX7_isOverEnd_10 : decode cX7_isOverEnd 10 = .ok (.aload_n 0, 1) := by decide +kernel
theorem dX7_isOverEnd_11 : decode cX7_isOverEnd 11 = .ok (.getfield 26, 3) := by decide +kernel
theorem dX7_isOverEnd_14 : decode cX7_isOverEnd 14 = .ok (.iconst 2, 1) := by decide +kernel
theorem dX7_isOverEnd_15 : decode cX7_isOverEnd 15 = .ok (.invokevirtual 75, 3) := by decide +kernel
theorem dX7_isOverEnd_18 : decode cX7_isOverEnd 18 = .ok (.imul, 1) := by decide +kernel
theorem dX7_isOverEnd_19 : decode cX7_isOverEnd 19 = .ok (.istore 6, 2) := by decide +kernel
theorem dX7_isOverEnd_21 : decode cX7_isOverEnd 21 = .ok (.aload_n 0, 1) := by decide +kernel
theorem dX7_isOverEnd_22 : decode cX7_isOverEnd 22 = .ok (.getfield 11, 3) := by decide +kernel
theorem dX7_isOverEnd_25 : decode cX7_isOverEnd 25 = .ok (.iload_n 3, 1) := by decide +kernel
theorem dX7_isOverEnd_26 : decode cX7_isOverEnd 26 = .ok (.aaload, 1) := by decide +kernel
theorem dX7_isOverEnd_27 : decode cX7_isOverEnd 27 = .ok (.iload 4, 2) := by decide +kernel
theorem dX7_isOverEnd_29 : decode cX7_isOverEnd 29 = .ok (.iaload, 1) := by decide +kernel
theorem dX7_isOverEnd_30 : decode cX7_isOverEnd 30 = .ok (.istore 7, 2) := by decide +kernel
theorem dX7_isOverEnd_32 : decode cX7_isOverEnd 32 = .ok (.aload_n 0, 1) := by decide +kernel
theorem dX7_isOverEnd_33 : decode cX7_isOverEnd 33 = .ok (.getfield 16, 3) := by decide +kernel
theorem dX7_isOverEnd_36 : decode cX7_isOverEnd 36 = .ok (.iload_n 3, 1) := by decide +kernel
theorem dX7_isOverEnd_37 : decode cX7_isOverEnd 37 = .ok (.aaload, 1) := by decide +kernel
theorem dX7_isOverEnd_38 : decode cX7_isOverEnd 38 = .ok (.iload 4, 2) := by decide +kernel
theorem dX7_isOverEnd_40 : decode cX7_isOverEnd 40 = .ok (.iaload, 1) := by decide +kernel
theorem dX7_isOverEnd_41 : decode cX7_isOverEnd 41 = .ok (.istore 8, 2) := by decide +kernel
theorem dX7_isOverEnd_43 : decode cX7_isOverEnd 43 = .ok (.iconst 0, 1) := by decide +kernel
theorem dX7_isOverEnd_44 : decode cX7_isOverEnd 44 = .ok (.istore 9, 2) := by decide +kernel
theorem dX7_isOverEnd_46 : decode cX7_isOverEnd 46 = .ok (.iload 9, 2) := by decide +kernel
theorem dX7_isOverEnd_48 : decode cX7_isOverEnd 48 = .ok (.iload 5, 2) := by decide +kernel
theorem dX7_isOverEnd_50 : decode cX7_isOverEnd 50 = .ok (.if_icmp .gt 72, 3) := by decide +kernel
theorem dX7_isOverEnd_53 : decode cX7_isOverEnd 53 = .ok (.aload_n 2, 1) := by decide +kernel
theorem dX7_isOverEnd_54 : decode cX7_isOverEnd 54 = .ok (.iload 9, 2) := by decide +kernel
theorem dX7_isOverEnd_56 : decode cX7_isOverEnd 56 = .ok (.iaload, 1) := by decide +kernel
theorem dX7_isOverEnd_57 : decode cX7_isOverEnd 57 = .ok (.iload 8, 2) := by decide +kernel
theorem dX7_isOverEnd_59 : decode cX7_isOverEnd 59 = .ok (.isub, 1) := by decide +kernel
theorem dX7_isOverEnd_60 : decode cX7_isOverEnd 60 = .ok (.istore 10, 2) := by decide +kernel
theorem dX7_isOverEnd_62 : decode cX7_isOverEnd 62 = .ok (.iload 6, 2) := by decide +kernel
theorem dX7_isOverEnd_64 : decode cX7_isOverEnd 64 = .ok (.iload 10, 2) := by decide +kernel
theorem dX7_isOverEnd_66 : decode cX7_isOverEnd 66 = .ok (.iadd, 1) := by decide +kernel
theorem dX7_isOverEnd_67 : decode cX7_isOverEnd 67 = .ok (.istore 11, 2) := by decide +kernel
theorem dX7_isOverEnd_69 : decode cX7_isOverEnd 69 = .ok (.iload 10, 2) := by decide +kernel
theorem dX7_isOverEnd_71 : decode cX7_isOverEnd 71 = .ok (.ifCond .lt 45, 3) := by decide +kernel
theorem dX7_isOverEnd_74 : decode cX7_isOverEnd 74 = .ok (.iconst 2, 1) := by decide +kernel
theorem dX7_isOverEnd_75 : decode cX7_isOverEnd 75 = .ok (.iload 9, 2) := by decide +kernel
theorem dX7_isOverEnd_77 : decode cX7_isOverEnd 77 = .ok (.iload 4, 2) := by decide +kernel
theorem dX7_isOverEnd_79 : decode cX7_isOverEnd 79 = .ok (.isub, 1) := by decide +kernel
theorem dX7_isOverEnd_80 : decode cX7_isOverEnd 80 = .ok (.invokestatic 66, 3) := by decide +kernel
theorem dX7_isOverEnd_83 : decode cX7_isOverEnd 83 = .ok (.imul, 1) := by decide +kernel
theorem dX7_isOverEnd_84 : decode cX7_isOverEnd 84 = .ok (.iload 11, 2) := by decide +kernel
theorem dX7_isOverEnd_86 : decode cX7_isOverEnd 86 = .ok (.if_icmp .ge 30, 3) := by decide +kernel
theorem dX7_isOverEnd_89 : decode cX7_isOverEnd 89 = .ok (.iconst 2, 1) := by decide +kernel
theorem dX7_isOverEnd_90 : decode cX7_isOverEnd 90 = .ok (.aload_n 0, 1) := by decide +kernel
theorem dX7_isOverEnd_91 : decode cX7_isOverEnd 91 = .ok (.getfield 11, 3) := by decide +kernel
theorem dX7_isOverEnd_94 : decode cX7_isOverEnd 94 = .ok (.iload_n 1, 1) := by decide +kernel
theorem dX7_isOverEnd_95 : decode cX7_isOverEnd 95 = .ok (.aaload, 1) := by decide +kernel
theorem dX7_isOverEnd_96 : decode cX7_isOverEnd 96 = .ok (.iload 9, 2) := by decide +kernel
theorem dX7_isOverEnd_98 : decode cX7_isOverEnd 98 = .ok (.iaload, 1) := by decide +kernel
theorem dX7_isOverEnd_99 : decode cX7_isOverEnd 99 = .ok (.iload 7, 2) := by decide +kernel
theorem dX7_isOverEnd_101 : decode cX7_isOverEnd 101 = .ok (.isub, 1) := by decide +kernel
theorem dX7_isOverEnd_102 : decode cX7_isOverEnd 102 = .ok (.invokestatic 66, 3) := by decide +kernel
theorem dX7_isOverEnd_105 : decode cX7_isOverEnd 105 = .ok (.imul, 1) := by decide +kernel
theorem dX7_isOverEnd_106 : decode cX7_isOverEnd 106 = .ok (.iload 5, 2) := by decide +kernel
theorem dX7_isOverEnd_108 : decode cX7_isOverEnd 108 = .ok (.iload 11, 2) := by decide +kernel
theorem dX7_isOverEnd_110 : decode cX7_isOverEnd 110 = .ok (.imul, 1) := by decide +kernel
theorem dX7_isOverEnd_111 : decode cX7_isOverEnd 111 = .ok (.if_icmp .ge 5, 3) := by decide +kernel
theorem dX7_isOverEnd_114 : decode cX7_isOverEnd 114 = .ok (.iconst 1, 1) := by decide +kernel
theorem dX7_isOverEnd_115 : decode cX7_isOverEnd 115 = .ok (.ireturn, 1) := by decide +kernel
theorem dX7_isOverEnd_116 : decode cX7_isOverEnd 116 = .ok (.iinc 9 1, 3) := by decide +kernel
theorem dX7_isOverEnd_119 : decode cX7_isOverEnd 119 = .ok (.goto (-73), 3) := by decide +kernel
theorem dX7_isOverEnd_122 : decode cX7_isOverEnd 122 = .ok (.iconst 0, 1) := by decide +kernel
theorem dX7_isOverEnd_123 : decode cX7_isOverEnd 123 = .ok (.ireturn, 1) := by decide +kernel
end
section
-- decode rows (printed by program)
theorem dX8_init_0 : decode cX8_init 0 = .ok (.aload_n 0, 1) := by decide +kernel
theorem dX8_init_1 : decode cX8_init 1 = .ok (.invokespecial 1, 3) := by decide +kernel
theorem dX8_init_4 : decode cX8_init 4 = .ok (.aload_n 0, 1) := by decide +kernel
theorem dX8_init_5 : decode cX8_init 5 = .ok (.new 7, 3) := by decide +kernel
theorem dX8_init_8 : decode cX8_init 8 = .ok (.dup, 1) := by decide +kernel
theorem dX8_init_9 : decode cX8_init 9 = .ok (.invokespecial 9, 3) := by decide +kernel
theorem dX8_init_12 : decode cX8_init 12 = .ok (.putfield 10, 3) := by decide +kernel
theorem dX8_init_15 : decode cX8_init 15 = .ok (.aload_n 0, 1) := by decide +kernel
theorem dX8_init_16 : decode cX8_init 16 = .ok (.new 16, 3) := by decide +kernel
theorem dX8_init_19 : decode cX8_init 19 = .ok (.dup, 1) := by decide +kernel
theorem dX8_init_20 : decode cX8_init 20 = .ok (.invokespecial 18, 3) := by decide +kernel
theorem dX8_init_23 : decode cX8_init 23 = .ok (.putfield 19, 3) := by decide +kernel
theorem dX8_init_26 : decode cX8_init 26 = .ok (.aload_n 0, 1) := by decide +kernel
theorem dX8_init_27 : decode cX8_init 27 = .ok (.new 23, 3) := by decide +kernel
theorem dX8_init_30 : decode cX8_init 30 = .ok (.dup, 1) := by decide +kernel
theorem dX8_init_31 : decode cX8_init 31 = .ok (.invokespecial 25, 3) := by decide +kernel
theorem dX8_init_34 : decode cX8_init 34 = .ok (.putfield 26, 3) := by decide +kernel
theorem dX8_init_37 : decode cX8_init 37 = .ok (.aload_n 0, 1) := by decide +kernel
theorem dX8_init_38 : decode cX8_init 38 = .ok (.new 30, 3) := by decide +kernel
theorem dX8_init_41 : decode cX8_init 41 = .ok (.dup, 1) := by decide +kernel
theorem dX8_init_42 : decode cX8_init 42 = .ok (.invokespecial 32, 3) := by decide +kernel
theorem dX8_init_45 : decode cX8_init 45 = .ok (.putfield 33, 3) := by decide +kernel
theorem dX8_init_48 : decode cX8_init 48 = .ok (.aload_n 0, 1) := by decide +kernel
theorem dX8_init_49 : decode cX8_init 49 = .ok (.new 37, 3) := by decide +kernel
theorem dX8_init_52 : decode cX8_init 52 = .ok (.dup, 1) := by decide +kernel
theorem dX8_init_53 : decode cX8_init 53 = .ok (.aload_n 0, 1) := by decide +kernel
theorem dX8_init_54 : decode cX8_init 54 = .ok (.getfield 26, 3) := by decide +kernel
theorem dX8_init_57 : decode cX8_init 57 = .ok (.invokespecial 39, 3) := by decide +kernel
theorem dX8_init_60 : decode cX8_init 60 = .ok (.putfield 42, 3) := by decide +kernel
theorem dX8_init_63 : decode cX8_init 63 = .ok (.aload_n 0, 1) := by decide +kernel
theorem dX8_init_64 : decode cX8_init 64 = .ok (.new 46, 3) := by decide +kernel
theorem dX8_init_67 : decode cX8_init 67 = .ok (.dup, 1) := by decide +kernel
theorem dX8_init_68 : decode cX8_init 68 = .ok (.aload_n 0, 1) := by decide +kernel
theorem dX8_init_69 : decode cX8_init 69 = .ok (.getfield 26, 3) := by decide +kernel
theorem dX8_init_72 : decode cX8_init 72 = .ok (.aload_n 0, 1) := by decide +kernel
theorem dX8_init_73 : decode cX8_init 73 = .ok (.getfield 42, 3) := by decide +kernel
theorem dX8_init_76 : decode cX8_init 76 = .ok (.invokespecial 48, 3) := by decide +kernel
theorem dX8_init_79 : decode cX8_init 79 = .ok (.putfield 51, 3) := by decide +kernel
theorem dX8_init_82 : decode cX8_init 82 = .ok (.aload_n 0, 1) := by decide +kernel
theorem dX8_init_83 : decode cX8_init 83 = .ok (.new 55, 3) := by decide +kernel
theorem dX8_init_86 : decode cX8_init 86 = .ok (.dup, 1) := by decide +kernel
theorem dX8_init_87 : decode cX8_init 87 = .ok (.aload_n 0, 1) := by decide +kernel
theorem dX8_init_88 : decode cX8_init 88 = .ok (.getfield 26, 3) := by decide +kernel
theorem dX8_init_91 : decode cX8_init 91 = .ok (.aload_n 0, 1) := by decide +kernel
theorem dX8_init_92 : decode cX8_init 92 = .ok (.getfield 42, 3) := by decide +kernel
theorem dX8_init_95 : decode cX8_init 95 = .ok (.invokespecial 57, 3) := by decide +kernel
theorem dX8_init_98 : decode cX8_init 98 = .ok (.putfield 58, 3) := by decide +kernel
theorem dX8_init_101 : decode cX8_init 101 = .ok (.aload_n 0, 1) := by decide +kernel
theorem dX8_init_102 : decode cX8_init 102 = .ok (.new 62, 3) := by decide +kernel
theorem dX8_init_105 : decode cX8_init 105 = .ok (.dup, 1) := by decide +kernel
theorem dX8_init_106 : decode cX8_init 106 = .ok (.aload_n 0, 1) := by decide +kernel
theorem dX8_init_107 : decode cX8_init 107 = .ok (.getfield 26, 3) := by decide +kernel
theorem dX8_init_110 : decode cX8_init 110 = .ok (.invokespecial 64, 3) := by decide +kernel
theorem dX8_init_113 : decode cX8_init 113 = .ok (.putfield 65, 3) := by decide +kernel
theorem dX8_init_116 : decode cX8_init 116 = .ok (.iconst 0, 1) := by decide +kernel
theorem dX8_init_117 : decode cX8_init 117 = .ok (.istore_n 1, 1) := by decide +kernel
theorem dX8_init_118 : decode cX8_init 118 = .ok (.iload_n 1, 1) := by decide +kernel
theorem dX8_init_119 : decode cX8_init 119 = .ok (.ldc 69, 2) := by decide +kernel
theorem dX8_init_121 : decode cX8_init 121 = .ok (.invokevirtual 71, 3) := by decide +kernel
theorem dX8_init_124 : decode cX8_init 124 = .ok (.if_icmp .ge 23, 3) := by decide +kernel
theorem dX8_init_127 : decode cX8_init 127 = .ok (.aload_n 0, 1) := by decide +kernel
theorem dX8_init_128 : decode cX8_init 128 = .ok (.getfield 10, 3) := by decide +kernel
theorem dX8_init_131 : decode cX8_init 131 = .ok (.ldc 69, 2) := by decide +kernel
theorem dX8_init_133 : decode cX8_init 133 = .ok (.iload_n 1, 1) := by decide +kernel
theorem dX8_init_134 : decode cX8_init 134 = .ok (.invokevirtual 77, 3) := by decide +kernel
theorem dX8_init_137 : decode cX8_init 137 = .ok (.invokevirtual 81, 3) := by decide +kernel
theorem dX8_init_140 : decode cX8_init 140 = .ok (.pop, 1) := by decide +kernel
theorem dX8_init_141 : decode cX8_init 141 = .ok (.iinc 1 1, 3) := by decide +kernel
theorem dX8_init_144 : decode cX8_init 144 = .ok (.goto (-26), 3) := by decide +kernel
theorem dX8_init_147 : decode cX8_init 147 = .ok (.aload_n 0, 1) := by decide +kernel
theorem dX8_init_148 : decode cX8_init 148 = .ok (.invokevirtual 85, 3) := by decide +kernel
theorem dX8_init_151 : decode cX8_init 151 = .ok (.pop, 1) := by decide +kernel
theorem dX8_init_152 : decode cX8_init 152 = .ok (.aload_n 0, 1) := by decide +kernel
theorem dX8_init_153 : decode cX8_init 153 = .ok (.getfield 10, 3) := by decide +kernel
theorem dX8_init_156 : decode cX8_init 156 = .ok (.invokevirtual 89, 3) := by decide +kernel
theorem dX8_init_159 : decode cX8_init 159 = .ok (.return_, 1) := by decide +kernel
theorem dX8_write_0 : decode cX8_write 0 = .ok (.iload_n 1, 1) := by decide +kernel
theorem dX8_write_1 : decode cX8_write 1 = .ok (.bipush 32, 2) := by decide +kernel
theorem dX8_write_3 : decode cX8_write 3 = .ok (.if_icmp .lt 9, 3) := by decide +kernel
theorem dX8_write_6 : decode cX8_write 6 = .ok (.iload_n 1, 1) := by decide +kernel
theorem dX8_write_7 : decode cX8_write 7 = .ok (.bipush 126, 2) := by decide +kernel
theorem dX8_write_9 : decode cX8_write 9 = .ok (.if_icmp .le 5, 3) := by decide +kernel
theorem dX8_write_12 : decode cX8_write 12 = .ok (.iconst (-1), 1) := by decide +kernel
theorem dX8_write_13 : decode cX8_write 13 = .ok (.ireturn, 1) := by decide +kernel
theorem dX8_write_14 : decode cX8_write 14 = .ok (.aload_n 0, 1) := by decide +kernel
theorem dX8_write_15 : decode cX8_write 15 = .ok (.getfield 10, 3) := by decide +kernel
theorem dX8_write_18 : decode cX8_write 18 = .ok (.iload_n 1, 1) := by decide +kernel
theorem dX8_write_19 : decode cX8_write 19 = .ok (.i2c, 1) := by decide +kernel
theorem dX8_write_20 : decode cX8_write 20 = .ok (.invokevirtual 81, 3) := by decide +kernel
theorem dX8_write_23 : decode cX8_write 23 = .ok (.ifCond .eq 13, 3) := by decide +kernel
theorem dX8_write_26 : decode cX8_write 26 = .ok (.aload_n 0, 1) := by decide +kernel
theorem dX8_write_27 : decode cX8_write 27 = .ok (.getfield 10, 3) := by decide +kernel
theorem dX8_write_30 : decode cX8_write 30 = .ok (.getfield 92, 3) := by decide +kernel
theorem dX8_write_33 : decode cX8_write 33 = .ok (.goto 5, 3) := by decide +kernel
theorem dX8_write_36 : decode cX8_write 36 = .ok (.bipush (-3), 2) := by decide +kernel
theorem dX8_write_38 : decode cX8_write 38 = .ok (.ireturn, 1) := by decide +kernel
theorem dX8_wipe_0 : decode cX8_wipe 0 = .ok (.aload_n 0, 1) := by decide +kernel
theorem dX8_wipe_1 : decode cX8_wipe 1 = .ok (.getfield 10, 3) := by decide +kernel
theorem dX8_wipe_4 : decode cX8_wipe 4 = .ok (.getfield 92, 3) := by decide +kernel
theorem dX8_wipe_7 : decode cX8_wipe 7 = .ok (.istore_n 1, 1) := by decide +kernel
theorem dX8_wipe_8 : decode cX8_wipe 8 = .ok (.aload_n 0, 1) := by decide +kernel
theorem dX8_wipe_9 : decode cX8_wipe 9 = .ok (.getfield 10, 3) := by decide +kernel
theorem dX8_wipe_12 : decode cX8_wipe 12 = .ok (.invokevirtual 89, 3) := by decide +kernel
theorem dX8_wipe_15 : decode cX8_wipe 15 = .ok (.iload_n 1, 1) := by decide +kernel
theorem dX8_wipe_16 : decode cX8_wipe 16 = .ok (.ireturn, 1) := by decide +kernel
theorem dX8_fault_0 : decode cX8_fault 0 = .ok (.aload_n 0, 1) := by decide +kernel
theorem dX8_fault_1 : decode cX8_fault 1 = .ok (.getfield 19, 3) := by decide +kernel
theorem dX8_fault_4 : decode cX8_fault 4 = .ok (.aload_n 0, 1) := by decide +kernel
theorem dX8_fault_5 : decode cX8_fault 5 = .ok (.getfield 10, 3) := by decide +kernel
theorem dX8_fault_8 : decode cX8_fault 8 = .ok (.invokevirtual 95, 3) := by decide +kernel
theorem dX8_fault_11 : decode cX8_fault 11 = .ok (.aload_n 0, 1) := by decide +kernel
theorem dX8_fault_12 : decode cX8_fault 12 = .ok (.getfield 19, 3) := by decide +kernel
theorem dX8_fault_15 : decode cX8_fault 15 = .ok (.getfield 99, 3) := by decide +kernel
theorem dX8_fault_18 : decode cX8_fault 18 = .ok (.ireturn, 1) := by decide +kernel
theorem dX8_lay_0 : decode cX8_lay 0 = .ok (.aload_n 0, 1) := by decide +kernel
theorem dX8_lay_1 : decode cX8_lay 1 = .ok (.invokevirtual 85, 3) := by decide +kernel
theorem dX8_lay_4 : decode cX8_lay 4 = .ok (.ifCond .eq 13, 3) := by decide +kernel
theorem dX8_lay_7 : decode cX8_lay 7 = .ok (.aload_n 0, 1) := by decide +kernel
theorem dX8_lay_8 : decode cX8_lay 8 = .ok (.getfield 26, 3) := by decide +kernel
theorem dX8_lay_11 : decode cX8_lay 11 = .ok (.getfield 102, 3) := by decide +kernel
theorem dX8_lay_14 : decode cX8_lay 14 = .ok (.goto 5, 3) := by decide +kernel
theorem dX8_lay_17 : decode cX8_lay 17 = .ok (.bipush (-2), 2) := by decide +kernel
theorem dX8_lay_19 : decode cX8_lay 19 = .ok (.ireturn, 1) := by decide +kernel
theorem dX8_set_0 : decode cX8_set 0 = .ok (.aload_n 0, 1) := by decide +kernel
theorem dX8_set_1 : decode cX8_set 1 = .ok (.iload_n 1, 1) := by decide +kernel
theorem dX8_set_2 : decode cX8_set 2 = .ok (.invokevirtual 105, 3) := by decide +kernel
theorem dX8_set_5 : decode cX8_set 5 = .ok (.ifCond .eq 12, 3) := by decide +kernel
theorem dX8_set_8 : decode cX8_set 8 = .ok (.iload_n 2, 1) := by decide +kernel
theorem dX8_set_9 : decode cX8_set 9 = .ok (.ifCond .lt 8, 3) := by decide +kernel
theorem dX8_set_12 : decode cX8_set 12 = .ok (.iload_n 2, 1) := by decide +kernel
theorem dX8_set_13 : decode cX8_set 13 = .ok (.iconst 5, 1) := by decide +kernel
theorem dX8_set_14 : decode cX8_set 14 = .ok (.if_icmp .lt 5, 3) := by decide +kernel
theorem dX8_set_17 : decode cX8_set 17 = .ok (.iconst (-1), 1) := by decide +kernel
theorem dX8_set_18 : decode cX8_set 18 = .ok (.ireturn, 1) := by decide +kernel
theorem dX8_set_19 : decode cX8_set 19 = .ok (.iload_n 3, 1) := by decide +kernel
theorem dX8_set_20 : decode cX8_set 20 = .ok (.getstatic 109, 3) := by decide +kernel
theorem dX8_set_23 : decode cX8_set 23 = .ok (.iload_n 2, 1) := by decide +kernel
theorem dX8_set_24 : decode cX8_set 24 = .ok (.iaload, 1) := by decide +kernel
theorem dX8_set_25 : decode cX8_set 25 = .ok (.if_icmp .lt 12, 3) := by decide +kernel
theorem dX8_set_28 : decode cX8_set 28 = .ok (.iload_n 3, 1) := by decide +kernel
theorem dX8_set_29 : decode cX8_set 29 = .ok (.getstatic 113, 3) := by decide +kernel
theorem dX8_set_32 : decode cX8_set 32 = .ok (.iload_n 2, 1) := by decide +kernel
theorem dX8_set_33 : decode cX8_set 33 = .ok (.iaload, 1) := by decide +kernel
theorem dX8_set_34 : decode cX8_set 34 = .ok (.if_icmp .le 5, 3) := by decide +kernel
theorem dX8_set_37 : decode cX8_set 37 = .ok (.iconst (-1), 1) := by decide +kernel
theorem dX8_set_38 : decode cX8_set 38 = .ok (.ireturn, 1) := by decide +kernel
theorem dX8_set_39 : decode cX8_set 39 = .ok (.aload_n 0, 1) := by decide +kernel
theorem dX8_set_40 : decode cX8_set 40 = .ok (.getfield 26, 3) := by decide +kernel
theorem dX8_set_43 : decode cX8_set 43 = .ok (.iload_n 1, 1) := by decide +kernel
theorem dX8_set_44 : decode cX8_set 44 = .ok (.iload_n 2, 1) := by decide +kernel
theorem dX8_set_45 : decode cX8_set 45 = .ok (.invokevirtual 116, 3) := by decide +kernel
theorem dX8_set_48 : decode cX8_set 48 = .ok (.istore 4, 2) := by decide +kernel
theorem dX8_set_50 : decode cX8_set 50 = .ok (.iload 4, 2) := by decide +kernel
theorem dX8_set_52 : decode cX8_set 52 = .ok (.iload_n 3, 1) := by decide +kernel
theorem dX8_set_53 : decode cX8_set 53 = .ok (.if_icmp .ne 6, 3) := by decide +kernel
theorem dX8_set_56 : decode cX8_set 56 = .ok (.bipush (-2), 2) := by decide +kernel
theorem dX8_set_58 : decode cX8_set 58 = .ok (.ireturn, 1) := by decide +kernel
theorem dX8_set_59 : decode cX8_set 59 = .ok (.aload_n 0, 1) := by decide +kernel
theorem dX8_set_60 : decode cX8_set 60 = .ok (.getfield 33, 3) := by decide +kernel
theorem dX8_set_63 : decode cX8_set 63 = .ok (.aload_n 0, 1) := by decide +kernel
theorem dX8_set_64 : decode cX8_set 64 = .ok (.getfield 26, 3) := by decide +kernel
theorem dX8_set_67 : decode cX8_set 67 = .ok (.invokevirtual 120, 3) := by decide +kernel
theorem dX8_set_70 : decode cX8_set 70 = .ok (.aload_n 0, 1) := by decide +kernel
theorem dX8_set_71 : decode cX8_set 71 = .ok (.getfield 26, 3) := by decide +kernel
theorem dX8_set_74 : decode cX8_set 74 = .ok (.iload_n 1, 1) := by decide +kernel
theorem dX8_set_75 : decode cX8_set 75 = .ok (.iload_n 2, 1) := by decide +kernel
theorem dX8_set_76 : decode cX8_set 76 = .ok (.iload_n 3, 1) := by decide +kernel
theorem dX8_set_77 : decode cX8_set 77 = .ok (.invokevirtual 123, 3) := by decide +kernel
theorem dX8_set_80 : decode cX8_set 80 = .ok (.aload_n 0, 1) := by decide +kernel
theorem dX8_set_81 : decode cX8_set 81 = .ok (.getfield 42, 3) := by decide +kernel
theorem dX8_set_84 : decode cX8_set 84 = .ok (.invokevirtual 127, 3) := by decide +kernel
theorem dX8_set_87 : decode cX8_set 87 = .ok (.iload 4, 2) := by decide +kernel
theorem dX8_set_89 : decode cX8_set 89 = .ok (.ireturn, 1) := by decide +kernel
theorem dX8_limit_0 : decode cX8_limit 0 = .ok (.iload_n 1, 1) := by decide +kernel
theorem dX8_limit_1 : decode cX8_limit 1 = .ok (.ifCond .lt 22, 3) := by decide +kernel
theorem dX8_limit_4 : decode cX8_limit 4 = .ok (.iload_n 1, 1) := by decide +kernel
theorem dX8_limit_5 : decode cX8_limit 5 = .ok (.iconst 3, 1) := by decide +kernel
theorem dX8_limit_6 : decode cX8_limit 6 = .ok (.if_icmp .ge 17, 3) := by decide +kernel
theorem dX8_limit_9 : decode cX8_limit 9 = .ok (.iload_n 2, 1) := by decide +kernel
theorem dX8_limit_10 : decode cX8_limit 10 = .ok (.iconst 1, 1) := by decide +kernel
theorem dX8_limit_11 : decode cX8_limit 11 = .ok (.if_icmp .lt 12, 3) := by decide +kernel
theorem dX8_limit_14 : decode cX8_limit 14 = .ok (.iload_n 2, 1) := by decide +kernel
theorem dX8_limit_15 : decode cX8_limit 15 = .ok (.getstatic 130, 3) := by decide +kernel
theorem dX8_limit_18 : decode cX8_limit 18 = .ok (.iload_n 1, 1) := by decide +kernel
theorem dX8_limit_19 : decode cX8_limit 19 = .ok (.iaload, 1) := by decide +kernel
theorem dX8_limit_20 : decode cX8_limit 20 = .ok (.if_icmp .le 5, 3) := by decide +kernel
theorem dX8_limit_23 : decode cX8_limit 23 = .ok (.iconst (-1), 1) := by decide +kernel
theorem dX8_limit_24 : decode cX8_limit 24 = .ok (.ireturn, 1) := by decide +kernel
theorem dX8_limit_25 : decode cX8_limit 25 = .ok (.aload_n 0, 1) := by decide +kernel
theorem dX8_limit_26 : decode cX8_limit 26 = .ok (.getfield 26, 3) := by decide +kernel
theorem dX8_limit_29 : decode cX8_limit 29 = .ok (.iload_n 1, 1) := by decide +kernel
theorem dX8_limit_30 : decode cX8_limit 30 = .ok (.invokevirtual 133, 3) := by decide +kernel
theorem dX8_limit_33 : decode cX8_limit 33 = .ok (.istore_n 3, 1) := by decide +kernel
theorem dX8_limit_34 : decode cX8_limit 34 = .ok (.iload_n 3, 1) := by decide +kernel
theorem dX8_limit_35 : decode cX8_limit 35 = .ok (.iload_n 2, 1) := by decide +kernel
theorem dX8_limit_36 : decode cX8_limit 36 = .ok (.if_icmp .ne 6, 3) := by decide +kernel
theorem dX8_limit_39 : decode cX8_limit 39 = .ok (.bipush (-2), 2) := by decide +kernel
theorem dX8_limit_41 : decode cX8_limit 41 = .ok (.ireturn, 1) := by decide +kernel
theorem dX8_limit_42 : decode cX8_limit 42 = .ok (.aload_n 0, 1) := by decide +kernel
theorem dX8_limit_43 : decode cX8_limit 43 = .ok (.getfield 33, 3) := by decide +kernel
theorem dX8_limit_46 : decode cX8_limit 46 = .ok (.aload_n 0, 1) := by decide +kernel
theorem dX8_limit_47 : decode cX8_limit 47 = .ok (.getfield 26, 3) := by decide +kernel
theorem dX8_limit_50 : decode cX8_limit 50 = .ok (.invokevirtual 120, 3) := by decide +kernel
theorem dX8_limit_53 : decode cX8_limit 53 = .ok (.aload_n 0, 1) := by decide +kernel
theorem dX8_limit_54 : decode cX8_limit 54 = .ok (.getfield 26, 3) := by decide +kernel
theorem dX8_limit_57 : decode cX8_limit 57 = .ok (.iload_n 1, 1) := by decide +kernel
theorem dX8_limit_58 : decode cX8_limit 58 = .ok (.iload_n 2, 1) := by decide +kernel
theorem dX8_limit_59 : decode cX8_limit 59 = .ok (.invokevirtual 137, 3) := by decide +kernel
theorem dX8_limit_62 : decode cX8_limit 62 = .ok (.aload_n 0, 1) := by decide +kernel
theorem dX8_limit_63 : decode cX8_limit 63 = .ok (.getfield 42, 3) := by decide +kernel
theorem dX8_limit_66 : decode cX8_limit 66 = .ok (.invokevirtual 127, 3) := by decide +kernel
theorem dX8_limit_69 : decode cX8_limit 69 = .ok (.iload_n 3, 1) := by decide +kernel
theorem dX8_limit_70 : decode cX8_limit 70 = .ok (.ireturn, 1) := by decide +kernel
theorem dX8_shift_0 : decode cX8_shift 0 = .ok (.iload_n 1, 1) := by decide +kernel
theorem dX8_shift_1 : decode cX8_shift 1 = .ok (.bipush (-9), 2) := by decide +kernel
theorem dX8_shift_3 : decode cX8_shift 3 = .ok (.if_icmp .lt 9, 3) := by decide +kernel
theorem dX8_shift_6 : decode cX8_shift 6 = .ok (.iload_n 1, 1) := by decide +kernel
theorem dX8_shift_7 : decode cX8_shift 7 = .ok (.bipush 9, 2) := by decide +kernel
theorem dX8_shift_9 : decode cX8_shift 9 = .ok (.if_icmp .le 5, 3) := by decide +kernel
theorem dX8_shift_12 : decode cX8_shift 12 = .ok (.iconst (-1), 1) := by decide +kernel
theorem dX8_shift_13 : decode cX8_shift 13 = .ok (.ireturn, 1) := by decide +kernel
theorem dX8_shift_14 : decode cX8_shift 14 = .ok (.aload_n 0, 1) := by decide +kernel
theorem dX8_shift_15 : decode cX8_shift 15 = .ok (.getfield 26, 3) := by decide +kernel
theorem dX8_shift_18 : decode cX8_shift 18 = .ok (.invokevirtual 141, 3) := by decide +kernel
theorem dX8_shift_21 : decode cX8_shift 21 = .ok (.istore_n 2, 1) := by decide +kernel
theorem dX8_shift_22 : decode cX8_shift 22 = .ok (.iload_n 2, 1) := by decide +kernel
theorem dX8_shift_23 : decode cX8_shift 23 = .ok (.iload_n 1, 1) := by decide +kernel
theorem dX8_shift_24 : decode cX8_shift 24 = .ok (.if_icmp .ne 6, 3) := by decide +kernel
theorem dX8_shift_27 : decode cX8_shift 27 = .ok (.bipush (-2), 2) := by decide +kernel
theorem dX8_shift_29 : decode cX8_shift 29 = .ok (.ireturn, 1) := by decide +kernel
theorem dX8_shift_30 : decode cX8_shift 30 = .ok (.aload_n 0, 1) := by decide +kernel
theorem dX8_shift_31 : decode cX8_shift 31 = .ok (.getfield 33, 3) := by decide +kernel
theorem dX8_shift_34 : decode cX8_shift 34 = .ok (.aload_n 0, 1) := by decide +kernel
theorem dX8_shift_35 : decode cX8_shift 35 = .ok (.getfield 26, 3) := by decide +kernel
theorem dX8_shift_38 : decode cX8_shift 38 = .ok (.invokevirtual 120, 3) := by decide +kernel
theorem dX8_shift_41 : decode cX8_shift 41 = .ok (.aload_n 0, 1) := by decide +kernel
theorem dX8_shift_42 : decode cX8_shift 42 = .ok (.getfield 26, 3) := by decide +kernel
theorem dX8_shift_45 : decode cX8_shift 45 = .ok (.iload_n 1, 1) := by decide +kernel
theorem dX8_shift_46 : decode cX8_shift 46 = .ok (.invokevirtual 144, 3) := by decide +kernel
theorem dX8_shift_49 : decode cX8_shift 49 = .ok (.aload_n 0, 1) := by decide +kernel
theorem dX8_shift_50 : decode cX8_shift 50 = .ok (.getfield 42, 3) := by decide +kernel
theorem dX8_shift_53 : decode cX8_shift 53 = .ok (.invokevirtual 127, 3) := by decide +kernel
theorem dX8_shift_56 : decode cX8_shift 56 = .ok (.iload_n 2, 1) := by decide +kernel
theorem dX8_shift_57 : decode cX8_shift 57 = .ok (.ldc 148, 2) := by decide +kernel
theorem dX8_shift_59 : decode cX8_shift 59 = .ok (.iadd, 1) := by decide +kernel
theorem dX8_shift_60 : decode cX8_shift 60 = .ok (.ireturn, 1) := by decide +kernel
theorem dX8_undo_0 : decode cX8_undo 0 = .ok (.aload_n 0, 1) := by decide +kernel
theorem dX8_undo_1 : decode cX8_undo 1 = .ok (.getfield 33, 3) := by decide +kernel
theorem dX8_undo_4 : decode cX8_undo 4 = .ok (.getfield 149, 3) := by decide +kernel
theorem dX8_undo_7 : decode cX8_undo 7 = .ok (.ifCond .ne 6, 3) := by decide +kernel
theorem dX8_undo_10 : decode cX8_undo 10 = .ok (.bipush (-2), 2) := by decide +kernel
theorem dX8_undo_12 : decode cX8_undo 12 = .ok (.ireturn, 1) := by decide +kernel
theorem dX8_undo_13 : decode cX8_undo 13 = .ok (.aload_n 0, 1) := by decide +kernel
theorem dX8_undo_14 : decode cX8_undo 14 = .ok (.getfield 33, 3) := by decide +kernel
theorem dX8_undo_17 : decode cX8_undo 17 = .ok (.aload_n 0, 1) := by decide +kernel
theorem dX8_undo_18 : decode cX8_undo 18 = .ok (.getfield 26, 3) := by decide +kernel
theorem dX8_undo_21 : decode cX8_undo 21 = .ok (.invokevirtual 152, 3) := by decide +kernel
theorem dX8_undo_24 : decode cX8_undo 24 = .ok (.aload_n 0, 1) := by decide +kernel
theorem dX8_undo_25 : decode cX8_undo 25 = .ok (.getfield 42, 3) := by decide +kernel
theorem dX8_undo_28 : decode cX8_undo 28 = .ok (.invokevirtual 127, 3) := by decide +kernel
theorem dX8_undo_31 : decode cX8_undo 31 = .ok (.aload_n 0, 1) := by decide +kernel
theorem dX8_undo_32 : decode cX8_undo 32 = .ok (.getfield 33, 3) := by decide +kernel
theorem dX8_undo_35 : decode cX8_undo 35 = .ok (.getfield 149, 3) := by decide +kernel
theorem dX8_undo_38 : decode cX8_undo 38 = .ok (.ireturn, 1) := by decide +kernel
theorem dX8_wire_0 : decode cX8_wire 0 = .ok (.aload_n 0, 1) := by decide +kernel
theorem dX8_wire_1 : decode cX8_wire 1 = .ok (.iload_n 1, 1) := by decide +kernel
theorem dX8_wire_2 : decode cX8_wire 2 = .ok (.invokevirtual 105, 3) := by decide +kernel
theorem dX8_wire_5 : decode cX8_wire 5 = .ok (.ifCond .ne 5, 3) := by decide +kernel
theorem dX8_wire_8 : decode cX8_wire 8 = .ok (.iconst (-1), 1) := by decide +kernel
theorem dX8_wire_9 : decode cX8_wire 9 = .ok (.ireturn, 1) := by decide +kernel
theorem dX8_wire_10 : decode cX8_wire 10 = .ok (.iload_n 2, 1) := by decide +kernel
theorem dX8_wire_11 : decode cX8_wire 11 = .ok (.tableswitch 111 0 8 #[49, 49, 49, 49, 49, 59, 76, 85, 102], 49) := by decide +kernel
theorem dX8_wire_60 : decode cX8_wire 60 = .ok (.aload_n 0, 1) := by decide +kernel
theorem dX8_wire_61 : decode cX8_wire 61 = .ok (.getfield 26, 3) := by decide +kernel
theorem dX8_wire_64 : decode cX8_wire 64 = .ok (.iload_n 1, 1) := by decide +kernel
theorem dX8_wire_65 : decode cX8_wire 65 = .ok (.iload_n 2, 1) := by decide +kernel
theorem dX8_wire_66 : decode cX8_wire 66 = .ok (.invokevirtual 116, 3) := by decide +kernel
theorem dX8_wire_69 : decode cX8_wire 69 = .ok (.ireturn, 1) := by decide +kernel
theorem dX8_wire_70 : decode cX8_wire 70 = .ok (.aload_n 0, 1) := by decide +kernel
theorem dX8_wire_71 : decode cX8_wire 71 = .ok (.getfield 26, 3) := by decide +kernel
theorem dX8_wire_74 : decode cX8_wire 74 = .ok (.iload_n 1, 1) := by decide +kernel
theorem dX8_wire_75 : decode cX8_wire 75 = .ok (.invokevirtual 155, 3) := by decide +kernel
theorem dX8_wire_78 : decode cX8_wire 78 = .ok (.ifCond .eq 7, 3) := by decide +kernel
theorem dX8_wire_81 : decode cX8_wire 81 = .ok (.iconst 1, 1) := by decide +kernel
theorem dX8_wire_82 : decode cX8_wire 82 = .ok (.goto 4, 3) := by decide +kernel
theorem dX8_wire_85 : decode cX8_wire 85 = .ok (.iconst 0, 1) := by decide +kernel
theorem dX8_wire_86 : decode cX8_wire 86 = .ok (.ireturn, 1) := by decide +kernel
theorem dX8_wire_87 : decode cX8_wire 87 = .ok (.aload_n 0, 1) := by decide +kernel
theorem dX8_wire_88 : decode cX8_wire 88 = .ok (.getfield 42, 3) := by decide +kernel
theorem dX8_wire_91 : decode cX8_wire 91 = .ok (.iload_n 1, 1) := by decide +kernel
theorem dX8_wire_92 : decode cX8_wire 92 = .ok (.invokevirtual 158, 3) := by decide +kernel
theorem dX8_wire_95 : decode cX8_wire 95 = .ok (.ireturn, 1) := by decide +kernel
theorem dX8_wire_96 : decode cX8_wire 96 = .ok (.aload_n 0, 1) := by decide +kernel
theorem dX8_wire_97 : decode cX8_wire 97 = .ok (.getfield 42, 3) := by decide +kernel
theorem dX8_wire_100 : decode cX8_wire 100 = .ok (.iload_n 1, 1) := by decide +kernel
theorem dX8_wire_101 : decode cX8_wire 101 = .ok (.aload_n 0, 1) := by decide +kernel
theorem dX8_wire_102 : decode cX8_wire 102 = .ok (.getfield 42, 3) := by decide +kernel
theorem dX8_wire_105 : decode cX8_wire 105 = .ok (.iload_n 1, 1) := by decide +kernel
theorem dX8_wire_106 : decode cX8_wire 106 = .ok (.invokevirtual 161, 3) := by decide +kernel
theorem dX8_wire_109 : decode cX8_wire 109 = .ok (.invokevirtual 164, 3) := by decide +kernel
theorem dX8_wire_112 : decode cX8_wire 112 = .ok (.ireturn, 1) := by decide +kernel
theorem dX8_wire_113 : decode cX8_wire 113 = .ok (.aload_n 0, 1) := by decide +kernel
theorem dX8_wire_114 : decode cX8_wire 114 = .ok (.getfield 42, 3) := by decide +kernel
theorem dX8_wire_117 : decode cX8_wire 117 = .ok (.iload_n 1, 1) := by decide +kernel
theorem dX8_wire_118 : decode cX8_wire 118 = .ok (.invokevirtual 161, 3) := by decide +kernel
theorem dX8_wire_121 : decode cX8_wire 121 = .ok (.ireturn, 1) := by decide +kernel
theorem dX8_wire_122 : decode cX8_wire 122 = .ok (.iconst (-1), 1) := by decide +kernel
theorem dX8_wire_123 : decode cX8_wire 123 = .ok (.ireturn, 1) := by decide +kernel
theorem dX8_place_0 : decode cX8_place 0 = .ok (.aload_n 0, 1) := by decide +kernel
theorem dX8_place_1 : decode cX8_place 1 = .ok (.iload_n 1, 1) := by decide +kernel
theorem dX8_place_2 : decode cX8_place 2 = .ok (.invokevirtual 105, 3) := by decide +kernel
theorem dX8_place_5 : decode cX8_place 5 = .ok (.ifCond .eq 26, 3) := by decide +kernel
theorem dX8_place_8 : decode cX8_place 8 = .ok (.aload_n 0, 1) := by decide +kernel
theorem dX8_place_9 : decode cX8_place 9 = .ok (.iload_n 2, 1) := by decide +kernel
theorem dX8_place_10 : decode cX8_place 10 = .ok (.invokevirtual 167, 3) := by decide +kernel
theorem dX8_place_13 : decode cX8_place 13 = .ok (.ifCond .eq 18, 3) := by decide +kernel
theorem dX8_place_16 : decode cX8_place 16 = .ok (.aload_n 0, 1) := by decide +kernel
theorem dX8_place_17 : decode cX8_place 17 = .ok (.getfield 42, 3) := by decide +kernel
theorem dX8_place_20 : decode cX8_place 20 = .ok (.iload_n 1, 1) := by decide +kernel
theorem dX8_place_21 : decode cX8_place 21 = .ok (.iload_n 2, 1) := by decide +kernel
theorem dX8_place_22 : decode cX8_place 22 = .ok (.invokevirtual 170, 3) := by decide +kernel
theorem dX8_place_25 : decode cX8_place 25 = .ok (.ldc 148, 2) := by decide +kernel
theorem dX8_place_27 : decode cX8_place 27 = .ok (.iadd, 1) := by decide +kernel
theorem dX8_place_28 : decode cX8_place 28 = .ok (.goto 4, 3) := by decide +kernel
theorem dX8_place_31 : decode cX8_place 31 = .ok (.iconst (-1), 1) := by decide +kernel
theorem dX8_place_32 : decode cX8_place 32 = .ok (.ireturn, 1) := by decide +kernel
theorem dX8_height_0 : decode cX8_height 0 = .ok (.aload_n 0, 1) := by decide +kernel
theorem dX8_height_1 : decode cX8_height 1 = .ok (.iload_n 1, 1) := by decide +kernel
theorem dX8_height_2 : decode cX8_height 2 = .ok (.invokevirtual 105, 3) := by decide +kernel
theorem dX8_height_5 : decode cX8_height 5 = .ok (.ifCond .eq 23, 3) := by decide +kernel
theorem dX8_height_8 : decode cX8_height 8 = .ok (.aload_n 0, 1) := by decide +kernel
theorem dX8_height_9 : decode cX8_height 9 = .ok (.iload_n 2, 1) := by decide +kernel
theorem dX8_height_10 : decode cX8_height 10 = .ok (.invokevirtual 167, 3) := by decide +kernel
theorem dX8_height_13 : decode cX8_height 13 = .ok (.ifCond .eq 15, 3) := by decide +kernel
theorem dX8_height_16 : decode cX8_height 16 = .ok (.aload_n 0, 1) := by decide +kernel
theorem dX8_height_17 : decode cX8_height 17 = .ok (.getfield 42, 3) := by decide +kernel
theorem dX8_height_20 : decode cX8_height 20 = .ok (.iload_n 1, 1) := by decide +kernel
theorem dX8_height_21 : decode cX8_height 21 = .ok (.iload_n 2, 1) := by decide +kernel
theorem dX8_height_22 : decode cX8_height 22 = .ok (.invokevirtual 164, 3) := by decide +kernel
theorem dX8_height_25 : decode cX8_height 25 = .ok (.goto 4, 3) := by decide +kernel
theorem dX8_height_28 : decode cX8_height 28 = .ok (.iconst (-1), 1) := by decide +kernel
theorem dX8_height_29 : decode cX8_height 29 = .ok (.ireturn, 1) := by decide +kernel
theorem dX8_pair_0 : decode cX8_pair 0 = .ok (.aload_n 0, 1) := by decide +kernel
theorem dX8_pair_1 : decode cX8_pair 1 = .ok (.iload_n 1, 1) := by decide +kernel
theorem dX8_pair_2 : decode cX8_pair 2 = .ok (.invokevirtual 105, 3) := by decide +kernel
theorem dX8_pair_5 : decode cX8_pair 5 = .ok (.ifCond .eq 16, 3) := by decide +kernel
theorem dX8_pair_8 : decode cX8_pair 8 = .ok (.aload_n 0, 1) := by decide +kernel
theorem dX8_pair_9 : decode cX8_pair 9 = .ok (.iload_n 2, 1) := by decide +kernel
theorem dX8_pair_10 : decode cX8_pair 10 = .ok (.invokevirtual 105, 3) := by decide +kernel
theorem dX8_pair_13 : decode cX8_pair 13 = .ok (.ifCond .eq 8, 3) := by decide +kernel
theorem dX8_pair_16 : decode cX8_pair 16 = .ok (.iload_n 1, 1) := by decide +kernel
theorem dX8_pair_17 : decode cX8_pair 17 = .ok (.iload_n 2, 1) := by decide +kernel
theorem dX8_pair_18 : decode cX8_pair 18 = .ok (.if_icmp .ne 5, 3) := by decide +kernel
theorem dX8_pair_21 : decode cX8_pair 21 = .ok (.iconst (-1), 1) := by decide +kernel
theorem dX8_pair_22 : decode cX8_pair 22 = .ok (.ireturn, 1) := by decide +kernel
theorem dX8_pair_23 : decode cX8_pair 23 = .ok (.iload_n 3, 1) := by decide +kernel
theorem dX8_pair_24 : decode cX8_pair 24 = .ok (.tableswitch 83 0 3 #[32, 42, 52, 70], 32) := by decide +kernel
theorem dX8_pair_56 : decode cX8_pair 56 = .ok (.aload_n 0, 1) := by decide +kernel
theorem dX8_pair_57 : decode cX8_pair 57 = .ok (.getfield 42, 3) := by decide +kernel
theorem dX8_pair_60 : decode cX8_pair 60 = .ok (.iload_n 1, 1) := by decide +kernel
theorem dX8_pair_61 : decode cX8_pair 61 = .ok (.iload_n 2, 1) := by decide +kernel
theorem dX8_pair_62 : decode cX8_pair 62 = .ok (.invokevirtual 173, 3) := by decide +kernel
theorem dX8_pair_65 : decode cX8_pair 65 = .ok (.ireturn, 1) := by decide +kernel
theorem dX8_pair_66 : decode cX8_pair 66 = .ok (.aload_n 0, 1) := by decide +kernel
theorem dX8_pair_67 : decode cX8_pair 67 = .ok (.getfield 42, 3) := by decide +kernel
theorem dX8_pair_70 : decode cX8_pair 70 = .ok (.iload_n 1, 1) := by decide +kernel
theorem dX8_pair_71 : decode cX8_pair 71 = .ok (.iload_n 2, 1) := by decide +kernel
theorem dX8_pair_72 : decode cX8_pair 72 = .ok (.invokevirtual 176, 3) := by decide +kernel
theorem dX8_pair_75 : decode cX8_pair 75 = .ok (.ireturn, 1) := by decide +kernel
theorem dX8_pair_76 : decode cX8_pair 76 = .ok (.aload_n 0, 1) := by decide +kernel
theorem dX8_pair_77 : decode cX8_pair 77 = .ok (.getfield 42, 3) := by decide +kernel
theorem dX8_pair_80 : decode cX8_pair 80 = .ok (.iload_n 1, 1) := by decide +kernel
theorem dX8_pair_81 : decode cX8_pair 81 = .ok (.iload_n 2, 1) := by decide +kernel
theorem dX8_pair_82 : decode cX8_pair 82 = .ok (.invokevirtual 179, 3) := by decide +kernel
theorem dX8_pair_85 : decode cX8_pair 85 = .ok (.ifCond .eq 7, 3) := by decide +kernel
theorem dX8_pair_88 : decode cX8_pair 88 = .ok (.iconst 1, 1) := by decide +kernel
theorem dX8_pair_89 : decode cX8_pair 89 = .ok (.goto 4, 3) := by decide +kernel
theorem dX8_pair_92 : decode cX8_pair 92 = .ok (.iconst 0, 1) := by decide +kernel
theorem dX8_pair_93 : decode cX8_pair 93 = .ok (.ireturn, 1) := by decide +kernel
theorem dX8_pair_94 : decode cX8_pair 94 = .ok (.aload_n 0, 1) := by decide +kernel
theorem dX8_pair_95 : decode cX8_pair 95 = .ok (.getfield 42, 3) := by decide +kernel
theorem dX8_pair_98 : decode cX8_pair 98 = .ok (.iload_n 1, 1) := by decide +kernel
theorem dX8_pair_99 : decode cX8_pair 99 = .ok (.invokevirtual 183, 3) := by decide +kernel
theorem dX8_pair_102 : decode cX8_pair 102 = .ok (.iload_n 2, 1) := by decide +kernel
theorem dX8_pair_103 : decode cX8_pair 103 = .ok (.ishr, 1) := by decide +kernel
theorem dX8_pair_104 : decode cX8_pair 104 = .ok (.iconst 1, 1) := by decide +kernel
theorem dX8_pair_105 : decode cX8_pair 105 = .ok (.iand, 1) := by decide +kernel
theorem dX8_pair_106 : decode cX8_pair 106 = .ok (.ireturn, 1) := by decide +kernel
theorem dX8_pair_107 : decode cX8_pair 107 = .ok (.iconst (-1), 1) := by decide +kernel
theorem dX8_pair_108 : decode cX8_pair 108 = .ok (.ireturn, 1) := by decide +kernel
theorem dX8_bond_0 : decode cX8_bond 0 = .ok (.aload_n 0, 1) := by decide +kernel
theorem dX8_bond_1 : decode cX8_bond 1 = .ok (.iload_n 1, 1) := by decide +kernel
theorem dX8_bond_2 : decode cX8_bond 2 = .ok (.invokevirtual 105, 3) := by decide +kernel
theorem dX8_bond_5 : decode cX8_bond 5 = .ok (.ifCond .ne 5, 3) := by decide +kernel
theorem dX8_bond_8 : decode cX8_bond 8 = .ok (.iconst (-1), 1) := by decide +kernel
theorem dX8_bond_9 : decode cX8_bond 9 = .ok (.ireturn, 1) := by decide +kernel
theorem dX8_bond_10 : decode cX8_bond 10 = .ok (.aload_n 0, 1) := by decide +kernel
theorem dX8_bond_11 : decode cX8_bond 11 = .ok (.iload_n 1, 1) := by decide +kernel
theorem dX8_bond_12 : decode cX8_bond 12 = .ok (.invokevirtual 186, 3) := by decide +kernel
theorem dX8_bond_15 : decode cX8_bond 15 = .ok (.ifCond .ne 6, 3) := by decide +kernel
theorem dX8_bond_18 : decode cX8_bond 18 = .ok (.bipush (-2), 2) := by decide +kernel
theorem dX8_bond_20 : decode cX8_bond 20 = .ok (.ireturn, 1) := by decide +kernel
theorem dX8_bond_21 : decode cX8_bond 21 = .ok (.aload_n 0, 1) := by decide +kernel
theorem dX8_bond_22 : decode cX8_bond 22 = .ok (.getfield 33, 3) := by decide +kernel
theorem dX8_bond_25 : decode cX8_bond 25 = .ok (.aload_n 0, 1) := by decide +kernel
theorem dX8_bond_26 : decode cX8_bond 26 = .ok (.getfield 26, 3) := by decide +kernel
theorem dX8_bond_29 : decode cX8_bond 29 = .ok (.invokevirtual 120, 3) := by decide +kernel
theorem dX8_bond_32 : decode cX8_bond 32 = .ok (.aload_n 0, 1) := by decide +kernel
theorem dX8_bond_33 : decode cX8_bond 33 = .ok (.getfield 26, 3) := by decide +kernel
theorem dX8_bond_36 : decode cX8_bond 36 = .ok (.aload_n 0, 1) := by decide +kernel
theorem dX8_bond_37 : decode cX8_bond 37 = .ok (.getfield 26, 3) := by decide +kernel
theorem dX8_bond_40 : decode cX8_bond 40 = .ok (.invokevirtual 189, 3) := by decide +kernel
theorem dX8_bond_43 : decode cX8_bond 43 = .ok (.iconst 1, 1) := by decide +kernel
theorem dX8_bond_44 : decode cX8_bond 44 = .ok (.iload_n 1, 1) := by decide +kernel
theorem dX8_bond_45 : decode cX8_bond 45 = .ok (.ishl, 1) := by decide +kernel
theorem dX8_bond_46 : decode cX8_bond 46 = .ok (.ior, 1) := by decide +kernel
theorem dX8_bond_47 : decode cX8_bond 47 = .ok (.invokevirtual 192, 3) := by decide +kernel
theorem dX8_bond_50 : decode cX8_bond 50 = .ok (.aload_n 0, 1) := by decide +kernel
theorem dX8_bond_51 : decode cX8_bond 51 = .ok (.getfield 26, 3) := by decide +kernel
theorem dX8_bond_54 : decode cX8_bond 54 = .ok (.invokevirtual 189, 3) := by decide +kernel
theorem dX8_bond_57 : decode cX8_bond 57 = .ok (.invokestatic 195, 3) := by decide +kernel
theorem dX8_bond_60 : decode cX8_bond 60 = .ok (.ireturn, 1) := by decide +kernel
theorem dX8_take_0 : decode cX8_take 0 = .ok (.aload_n 0, 1) := by decide +kernel
theorem dX8_take_1 : decode cX8_take 1 = .ok (.iload_n 1, 1) := by decide +kernel
theorem dX8_take_2 : decode cX8_take 2 = .ok (.invokevirtual 105, 3) := by decide +kernel
theorem dX8_take_5 : decode cX8_take 5 = .ok (.ifCond .ne 5, 3) := by decide +kernel
theorem dX8_take_8 : decode cX8_take 8 = .ok (.iconst (-1), 1) := by decide +kernel
theorem dX8_take_9 : decode cX8_take 9 = .ok (.ireturn, 1) := by decide +kernel
theorem dX8_take_10 : decode cX8_take 10 = .ok (.aload_n 0, 1) := by decide +kernel
theorem dX8_take_11 : decode cX8_take 11 = .ok (.getfield 26, 3) := by decide +kernel
theorem dX8_take_14 : decode cX8_take 14 = .ok (.iload_n 1, 1) := by decide +kernel
theorem dX8_take_15 : decode cX8_take 15 = .ok (.invokevirtual 155, 3) := by decide +kernel
theorem dX8_take_18 : decode cX8_take 18 = .ok (.ifCond .ne 6, 3) := by decide +kernel
theorem dX8_take_21 : decode cX8_take 21 = .ok (.bipush (-2), 2) := by decide +kernel
theorem dX8_take_23 : decode cX8_take 23 = .ok (.ireturn, 1) := by decide +kernel
theorem dX8_take_24 : decode cX8_take 24 = .ok (.aload_n 0, 1) := by decide +kernel
theorem dX8_take_25 : decode cX8_take 25 = .ok (.getfield 33, 3) := by decide +kernel
theorem dX8_take_28 : decode cX8_take 28 = .ok (.aload_n 0, 1) := by decide +kernel
theorem dX8_take_29 : decode cX8_take 29 = .ok (.getfield 26, 3) := by decide +kernel
theorem dX8_take_32 : decode cX8_take 32 = .ok (.invokevirtual 120, 3) := by decide +kernel
theorem dX8_take_35 : decode cX8_take 35 = .ok (.aload_n 0, 1) := by decide +kernel
theorem dX8_take_36 : decode cX8_take 36 = .ok (.getfield 26, 3) := by decide +kernel
theorem dX8_take_39 : decode cX8_take 39 = .ok (.aload_n 0, 1) := by decide +kernel
theorem dX8_take_40 : decode cX8_take 40 = .ok (.getfield 26, 3) := by decide +kernel
theorem dX8_take_43 : decode cX8_take 43 = .ok (.invokevirtual 189, 3) := by decide +kernel
theorem dX8_take_46 : decode cX8_take 46 = .ok (.iconst 1, 1) := by decide +kernel
theorem dX8_take_47 : decode cX8_take 47 = .ok (.iload_n 1, 1) := by decide +kernel
theorem dX8_take_48 : decode cX8_take 48 = .ok (.ishl, 1) := by decide +kernel
theorem dX8_take_49 : decode cX8_take 49 = .ok (.iconst (-1), 1) := by decide +kernel
theorem dX8_take_50 : decode cX8_take 50 = .ok (.ixor, 1) := by decide +kernel
theorem dX8_take_51 : decode cX8_take 51 = .ok (.iand, 1) := by decide +kernel
theorem dX8_take_52 : decode cX8_take 52 = .ok (.invokevirtual 192, 3) := by decide +kernel
theorem dX8_take_55 : decode cX8_take 55 = .ok (.aload_n 0, 1) := by decide +kernel
theorem dX8_take_56 : decode cX8_take 56 = .ok (.getfield 26, 3) := by decide +kernel
theorem dX8_take_59 : decode cX8_take 59 = .ok (.invokevirtual 189, 3) := by decide +kernel
theorem dX8_take_62 : decode cX8_take 62 = .ok (.invokestatic 195, 3) := by decide +kernel
theorem dX8_take_65 : decode cX8_take 65 = .ok (.ireturn, 1) := by decide +kernel
theorem dX8_ready_0 : decode cX8_ready 0 = .ok (.iconst 0, 1) := by decide +kernel
theorem dX8_ready_1 : decode cX8_ready 1 = .ok (.istore_n 1, 1) := by decide +kernel
theorem dX8_ready_2 : decode cX8_ready 2 = .ok (.iconst 0, 1) := by decide +kernel
theorem dX8_ready_3 : decode cX8_ready 3 = .ok (.istore_n 2, 1) := by decide +kernel
theorem dX8_ready_4 : decode cX8_ready 4 = .ok (.iload_n 2, 1) := by decide +kernel
theorem dX8_ready_5 : decode cX8_ready 5 = .ok (.aload_n 0, 1) := by decide +kernel
theorem dX8_ready_6 : decode cX8_ready 6 = .ok (.getfield 26, 3) := by decide +kernel
theorem dX8_ready_9 : decode cX8_ready 9 = .ok (.getfield 102, 3) := by decide +kernel
theorem dX8_ready_12 : decode cX8_ready 12 = .ok (.if_icmp .ge 23, 3) := by decide +kernel
theorem dX8_ready_15 : decode cX8_ready 15 = .ok (.aload_n 0, 1) := by decide +kernel
theorem dX8_ready_16 : decode cX8_ready 16 = .ok (.iload_n 2, 1) := by decide +kernel
theorem dX8_ready_17 : decode cX8_ready 17 = .ok (.invokevirtual 186, 3) := by decide +kernel
theorem dX8_ready_20 : decode cX8_ready 20 = .ok (.ifCond .eq 9, 3) := by decide +kernel
theorem dX8_ready_23 : decode cX8_ready 23 = .ok (.iload_n 1, 1) := by decide +kernel
theorem dX8_ready_24 : decode cX8_ready 24 = .ok (.iconst 1, 1) := by decide +kernel
theorem dX8_ready_25 : decode cX8_ready 25 = .ok (.iload_n 2, 1) := by decide +kernel
theorem dX8_ready_26 : decode cX8_ready 26 = .ok (.ishl, 1) := by decide +kernel
theorem dX8_ready_27 : decode cX8_ready 27 = .ok (.ior, 1) := by decide +kernel
theorem dX8_ready_28 : decode cX8_ready 28 = .ok (.istore_n 1, 1) := by decide +kernel
theorem dX8_ready_29 : decode cX8_ready 29 = .ok (.iinc 2 1, 3) := by decide +kernel
theorem dX8_ready_32 : decode cX8_ready 32 = .ok (.goto (-28), 3) := by decide +kernel
theorem dX8_ready_35 : decode cX8_ready 35 = .ok (.iload_n 1, 1) := by decide +kernel
theorem dX8_ready_36 : decode cX8_ready 36 = .ok (.ireturn, 1) := by decide +kernel
theorem dX8_order_0 : decode cX8_order 0 = .ok (.iload_n 1, 1) := by decide +kernel
theorem dX8_order_1 : decode cX8_order 1 = .ok (.ifCond .lt 9, 3) := by decide +kernel
theorem dX8_order_4 : decode cX8_order 4 = .ok (.iload_n 1, 1) := by decide +kernel
theorem dX8_order_5 : decode cX8_order 5 = .ok (.bipush 8, 2) := by decide +kernel
theorem dX8_order_7 : decode cX8_order 7 = .ok (.if_icmp .lt 5, 3) := by decide +kernel
theorem dX8_order_10 : decode cX8_order 10 = .ok (.iconst (-1), 1) := by decide +kernel
theorem dX8_order_11 : decode cX8_order 11 = .ok (.ireturn, 1) := by decide +kernel
theorem dX8_order_12 : decode cX8_order 12 = .ok (.aload_n 0, 1) := by decide +kernel
theorem dX8_order_13 : decode cX8_order 13 = .ok (.getfield 51, 3) := by decide +kernel
theorem dX8_order_16 : decode cX8_order 16 = .ok (.invokevirtual 200, 3) := by decide +kernel
theorem dX8_order_19 : decode cX8_order 19 = .ok (.ifCond .eq 6, 3) := by decide +kernel
theorem dX8_order_22 : decode cX8_order 22 = .ok (.bipush (-2), 2) := by decide +kernel
theorem dX8_order_24 : decode cX8_order 24 = .ok (.ireturn, 1) := by decide +kernel
theorem dX8_order_25 : decode cX8_order 25 = .ok (.iload_n 1, 1) := by decide +kernel
theorem dX8_order_26 : decode cX8_order 26 = .ok (.aload_n 0, 1) := by decide +kernel
theorem dX8_order_27 : decode cX8_order 27 = .ok (.getfield 26, 3) := by decide +kernel
theorem dX8_order_30 : decode cX8_order 30 = .ok (.getfield 102, 3) := by decide +kernel
theorem dX8_order_33 : decode cX8_order 33 = .ok (.if_icmp .ge 14, 3) := by decide +kernel
theorem dX8_order_36 : decode cX8_order 36 = .ok (.aload_n 0, 1) := by decide +kernel
theorem dX8_order_37 : decode cX8_order 37 = .ok (.getfield 51, 3) := by decide +kernel
theorem dX8_order_40 : decode cX8_order 40 = .ok (.iload_n 1, 1) := by decide +kernel
theorem dX8_order_41 : decode cX8_order 41 = .ok (.invokevirtual 203, 3) := by decide +kernel
theorem dX8_order_44 : decode cX8_order 44 = .ok (.goto 5, 3) := by decide +kernel
theorem dX8_order_47 : decode cX8_order 47 = .ok (.bipush (-4), 2) := by decide +kernel
theorem dX8_order_49 : decode cX8_order 49 = .ok (.ireturn, 1) := by decide +kernel
theorem dX8_orders_0 : decode cX8_orders 0 = .ok (.aload_n 0, 1) := by decide +kernel
theorem dX8_orders_1 : decode cX8_orders 1 = .ok (.getfield 51, 3) := by decide +kernel
theorem dX8_orders_4 : decode cX8_orders 4 = .ok (.invokevirtual 206, 3) := by decide +kernel
theorem dX8_orders_7 : decode cX8_orders 7 = .ok (.ireturn, 1) := by decide +kernel
theorem dX8_stuck_0 : decode cX8_stuck 0 = .ok (.aload_n 0, 1) := by decide +kernel
theorem dX8_stuck_1 : decode cX8_stuck 1 = .ok (.getfield 51, 3) := by decide +kernel
theorem dX8_stuck_4 : decode cX8_stuck 4 = .ok (.invokevirtual 200, 3) := by decide +kernel
theorem dX8_stuck_7 : decode cX8_stuck 7 = .ok (.ireturn, 1) := by decide +kernel
theorem dX8_loop_0 : decode cX8_loop 0 = .ok (.aload_n 0, 1) := by decide +kernel
theorem dX8_loop_1 : decode cX8_loop 1 = .ok (.iload_n 1, 1) := by decide +kernel
theorem dX8_loop_2 : decode cX8_loop 2 = .ok (.invokevirtual 105, 3) := by decide +kernel
theorem dX8_loop_5 : decode cX8_loop 5 = .ok (.ifCond .ne 5, 3) := by decide +kernel
theorem dX8_loop_8 : decode cX8_loop 8 = .ok (.iconst (-1), 1) := by decide +kernel
theorem dX8_loop_9 : decode cX8_loop 9 = .ok (.ireturn, 1) := by decide +kernel
theorem dX8_loop_10 : decode cX8_loop 10 = .ok (.aload_n 0, 1) := by decide +kernel
theorem dX8_loop_11 : decode cX8_loop 11 = .ok (.getfield 58, 3) := by decide +kernel
theorem dX8_loop_14 : decode cX8_loop 14 = .ok (.iload_n 1, 1) := by decide +kernel
theorem dX8_loop_15 : decode cX8_loop 15 = .ok (.invokevirtual 209, 3) := by decide +kernel
theorem dX8_loop_18 : decode cX8_loop 18 = .ok (.ifCond .eq 24, 3) := by decide +kernel
theorem dX8_loop_21 : decode cX8_loop 21 = .ok (.bipush 100, 2) := by decide +kernel
theorem dX8_loop_23 : decode cX8_loop 23 = .ok (.aload_n 0, 1) := by decide +kernel
theorem dX8_loop_24 : decode cX8_loop 24 = .ok (.getfield 58, 3) := by decide +kernel
theorem dX8_loop_27 : decode cX8_loop 27 = .ok (.getfield 212, 3) := by decide +kernel
theorem dX8_loop_30 : decode cX8_loop 30 = .ok (.imul, 1) := by decide +kernel
theorem dX8_loop_31 : decode cX8_loop 31 = .ok (.aload_n 0, 1) := by decide +kernel
theorem dX8_loop_32 : decode cX8_loop 32 = .ok (.getfield 58, 3) := by decide +kernel
theorem dX8_loop_35 : decode cX8_loop 35 = .ok (.getfield 215, 3) := by decide +kernel
theorem dX8_loop_38 : decode cX8_loop 38 = .ok (.iadd, 1) := by decide +kernel
theorem dX8_loop_39 : decode cX8_loop 39 = .ok (.goto 5, 3) := by decide +kernel
theorem dX8_loop_42 : decode cX8_loop 42 = .ok (.bipush (-4), 2) := by decide +kernel
theorem dX8_loop_44 : decode cX8_loop 44 = .ok (.ireturn, 1) := by decide +kernel
theorem dX8_mend_0 : decode cX8_mend 0 = .ok (.aload_n 0, 1) := by decide +kernel
theorem dX8_mend_1 : decode cX8_mend 1 = .ok (.iload_n 1, 1) := by decide +kernel
theorem dX8_mend_2 : decode cX8_mend 2 = .ok (.invokevirtual 105, 3) := by decide +kernel
theorem dX8_mend_5 : decode cX8_mend 5 = .ok (.ifCond .ne 5, 3) := by decide +kernel
theorem dX8_mend_8 : decode cX8_mend 8 = .ok (.iconst (-1), 1) := by decide +kernel
theorem dX8_mend_9 : decode cX8_mend 9 = .ok (.ireturn, 1) := by decide +kernel
theorem dX8_mend_10 : decode cX8_mend 10 = .ok (.aload_n 0, 1) := by decide +kernel
theorem dX8_mend_11 : decode cX8_mend 11 = .ok (.getfield 58, 3) := by decide +kernel
theorem dX8_mend_14 : decode cX8_mend 14 = .ok (.iload_n 1, 1) := by decide +kernel
theorem dX8_mend_15 : decode cX8_mend 15 = .ok (.invokevirtual 209, 3) := by decide +kernel
theorem dX8_mend_18 : decode cX8_mend 18 = .ok (.ifCond .ne 6, 3) := by decide +kernel
theorem dX8_mend_21 : decode cX8_mend 21 = .ok (.bipush (-4), 2) := by decide +kernel
theorem dX8_mend_23 : decode cX8_mend 23 = .ok (.ireturn, 1) := by decide +kernel
theorem dX8_mend_24 : decode cX8_mend 24 = .ok (.aload_n 0, 1) := by decide +kernel
theorem dX8_mend_25 : decode cX8_mend 25 = .ok (.getfield 26, 3) := by decide +kernel
theorem dX8_mend_28 : decode cX8_mend 28 = .ok (.iload_n 1, 1) := by decide +kernel
theorem dX8_mend_29 : decode cX8_mend 29 = .ok (.iconst 4, 1) := by decide +kernel
theorem dX8_mend_30 : decode cX8_mend 30 = .ok (.invokevirtual 116, 3) := by decide +kernel
theorem dX8_mend_33 : decode cX8_mend 33 = .ok (.istore_n 2, 1) := by decide +kernel
theorem dX8_mend_34 : decode cX8_mend 34 = .ok (.aload_n 0, 1) := by decide +kernel
theorem dX8_mend_35 : decode cX8_mend 35 = .ok (.getfield 58, 3) := by decide +kernel
theorem dX8_mend_38 : decode cX8_mend 38 = .ok (.getfield 212, 3) := by decide +kernel
theorem dX8_mend_41 : decode cX8_mend 41 = .ok (.aload_n 0, 1) := by decide +kernel
theorem dX8_mend_42 : decode cX8_mend 42 = .ok (.getfield 26, 3) := by decide +kernel
theorem dX8_mend_45 : decode cX8_mend 45 = .ok (.iload_n 1, 1) := by decide +kernel
theorem dX8_mend_46 : decode cX8_mend 46 = .ok (.iconst 3, 1) := by decide +kernel
theorem dX8_mend_47 : decode cX8_mend 47 = .ok (.invokevirtual 116, 3) := by decide +kernel
theorem dX8_mend_50 : decode cX8_mend 50 = .ok (.if_icmp .ne 17, 3) := by decide +kernel
theorem dX8_mend_53 : decode cX8_mend 53 = .ok (.aload_n 0, 1) := by decide +kernel
theorem dX8_mend_54 : decode cX8_mend 54 = .ok (.getfield 58, 3) := by decide +kernel
theorem dX8_mend_57 : decode cX8_mend 57 = .ok (.getfield 215, 3) := by decide +kernel
theorem dX8_mend_60 : decode cX8_mend 60 = .ok (.iload_n 2, 1) := by decide +kernel
theorem dX8_mend_61 : decode cX8_mend 61 = .ok (.if_icmp .ne 6, 3) := by decide +kernel
theorem dX8_mend_64 : decode cX8_mend 64 = .ok (.bipush (-2), 2) := by decide +kernel
theorem dX8_mend_66 : decode cX8_mend 66 = .ok (.ireturn, 1) := by decide +kernel
theorem dX8_mend_67 : decode cX8_mend 67 = .ok (.aload_n 0, 1) := by decide +kernel
theorem dX8_mend_68 : decode cX8_mend 68 = .ok (.getfield 33, 3) := by decide +kernel
theorem dX8_mend_71 : decode cX8_mend 71 = .ok (.aload_n 0, 1) := by decide +kernel
theorem dX8_mend_72 : decode cX8_mend 72 = .ok (.getfield 26, 3) := by decide +kernel
theorem dX8_mend_75 : decode cX8_mend 75 = .ok (.invokevirtual 120, 3) := by decide +kernel
theorem dX8_mend_78 : decode cX8_mend 78 = .ok (.aload_n 0, 1) := by decide +kernel
theorem dX8_mend_79 : decode cX8_mend 79 = .ok (.getfield 26, 3) := by decide +kernel
theorem dX8_mend_82 : decode cX8_mend 82 = .ok (.iload_n 1, 1) := by decide +kernel
theorem dX8_mend_83 : decode cX8_mend 83 = .ok (.iconst 3, 1) := by decide +kernel
theorem dX8_mend_84 : decode cX8_mend 84 = .ok (.aload_n 0, 1) := by decide +kernel
theorem dX8_mend_85 : decode cX8_mend 85 = .ok (.getfield 58, 3) := by decide +kernel
theorem dX8_mend_88 : decode cX8_mend 88 = .ok (.getfield 212, 3) := by decide +kernel
theorem dX8_mend_91 : decode cX8_mend 91 = .ok (.invokevirtual 123, 3) := by decide +kernel
theorem dX8_mend_94 : decode cX8_mend 94 = .ok (.aload_n 0, 1) := by decide +kernel
theorem dX8_mend_95 : decode cX8_mend 95 = .ok (.getfield 26, 3) := by decide +kernel
theorem dX8_mend_98 : decode cX8_mend 98 = .ok (.iload_n 1, 1) := by decide +kernel
theorem dX8_mend_99 : decode cX8_mend 99 = .ok (.iconst 4, 1) := by decide +kernel
theorem dX8_mend_100 : decode cX8_mend 100 = .ok (.aload_n 0, 1) := by decide +kernel
theorem dX8_mend_101 : decode cX8_mend 101 = .ok (.getfield 58, 3) := by decide +kernel
theorem dX8_mend_104 : decode cX8_mend 104 = .ok (.getfield 215, 3) := by decide +kernel
theorem dX8_mend_107 : decode cX8_mend 107 = .ok (.invokevirtual 123, 3) := by decide +kernel
theorem dX8_mend_110 : decode cX8_mend 110 = .ok (.aload_n 0, 1) := by decide +kernel
theorem dX8_mend_111 : decode cX8_mend 111 = .ok (.getfield 42, 3) := by decide +kernel
theorem dX8_mend_114 : decode cX8_mend 114 = .ok (.invokevirtual 127, 3) := by decide +kernel
theorem dX8_mend_117 : decode cX8_mend 117 = .ok (.aload_n 0, 1) := by decide +kernel
theorem dX8_mend_118 : decode cX8_mend 118 = .ok (.getfield 58, 3) := by decide +kernel
theorem dX8_mend_121 : decode cX8_mend 121 = .ok (.getfield 215, 3) := by decide +kernel
theorem dX8_mend_124 : decode cX8_mend 124 = .ok (.iload_n 2, 1) := by decide +kernel
theorem dX8_mend_125 : decode cX8_mend 125 = .ok (.isub, 1) := by decide +kernel
theorem dX8_mend_126 : decode cX8_mend 126 = .ok (.invokestatic 218, 3) := by decide +kernel
theorem dX8_mend_129 : decode cX8_mend 129 = .ok (.ireturn, 1) := by decide +kernel
theorem dX8_sees_0 : decode cX8_sees 0 = .ok (.iload_n 1, 1) := by decide +kernel
theorem dX8_sees_1 : decode cX8_sees 1 = .ok (.iload_n 2, 1) := by decide +kernel
theorem dX8_sees_2 : decode cX8_sees 2 = .ok (.iload_n 3, 1) := by decide +kernel
theorem dX8_sees_3 : decode cX8_sees 3 = .ok (.invokestatic 223, 3) := by decide +kernel
theorem dX8_sees_6 : decode cX8_sees 6 = .ok (.ifCond .eq 23, 3) := by decide +kernel
theorem dX8_sees_9 : decode cX8_sees 9 = .ok (.aload_n 0, 1) := by decide +kernel
theorem dX8_sees_10 : decode cX8_sees 10 = .ok (.getfield 65, 3) := by decide +kernel
theorem dX8_sees_13 : decode cX8_sees 13 = .ok (.iload_n 1, 1) := by decide +kernel
theorem dX8_sees_14 : decode cX8_sees 14 = .ok (.iload_n 2, 1) := by decide +kernel
theorem dX8_sees_15 : decode cX8_sees 15 = .ok (.iload_n 3, 1) := by decide +kernel
theorem dX8_sees_16 : decode cX8_sees 16 = .ok (.aload_n 0, 1) := by decide +kernel
theorem dX8_sees_17 : decode cX8_sees 17 = .ok (.getfield 26, 3) := by decide +kernel
theorem dX8_sees_20 : decode cX8_sees 20 = .ok (.invokevirtual 141, 3) := by decide +kernel
theorem dX8_sees_23 : decode cX8_sees 23 = .ok (.invokevirtual 227, 3) := by decide +kernel
theorem dX8_sees_26 : decode cX8_sees 26 = .ok (.goto 4, 3) := by decide +kernel
theorem dX8_sees_29 : decode cX8_sees 29 = .ok (.iconst (-1), 1) := by decide +kernel
theorem dX8_sees_30 : decode cX8_sees 30 = .ok (.ireturn, 1) := by decide +kernel
theorem dX8_eye_0 : decode cX8_eye 0 = .ok (.iload_n 1, 1) := by decide +kernel
theorem dX8_eye_1 : decode cX8_eye 1 = .ok (.ifCond .lt 18, 3) := by decide +kernel
theorem dX8_eye_4 : decode cX8_eye 4 = .ok (.iload_n 1, 1) := by decide +kernel
theorem dX8_eye_5 : decode cX8_eye 5 = .ok (.iconst 2, 1) := by decide +kernel
theorem dX8_eye_6 : decode cX8_eye 6 = .ok (.if_icmp .ge 13, 3) := by decide +kernel
theorem dX8_eye_9 : decode cX8_eye 9 = .ok (.iload_n 2, 1) := by decide +kernel
theorem dX8_eye_10 : decode cX8_eye 10 = .ok (.iload_n 3, 1) := by decide +kernel
theorem dX8_eye_11 : decode cX8_eye 11 = .ok (.iload 4, 2) := by decide +kernel
theorem dX8_eye_13 : decode cX8_eye 13 = .ok (.invokestatic 223, 3) := by decide +kernel
theorem dX8_eye_16 : decode cX8_eye 16 = .ok (.ifCond .ne 5, 3) := by decide +kernel
theorem dX8_eye_19 : decode cX8_eye 19 = .ok (.iconst (-1), 1) := by decide +kernel
theorem dX8_eye_20 : decode cX8_eye 20 = .ok (.ireturn, 1) := by decide +kernel
theorem dX8_eye_21 : decode cX8_eye 21 = .ok (.iload 5, 2) := by decide +kernel
theorem dX8_eye_23 : decode cX8_eye 23 = .ok (.ifCond .lt 16, 3) := by decide +kernel
theorem dX8_eye_26 : decode cX8_eye 26 = .ok (.iload 5, 2) := by decide +kernel
theorem dX8_eye_28 : decode cX8_eye 28 = .ok (.iconst 1, 1) := by decide +kernel
theorem dX8_eye_29 : decode cX8_eye 29 = .ok (.iload 4, 2) := by decide +kernel
theorem dX8_eye_31 : decode cX8_eye 31 = .ok (.iload_n 3, 1) := by decide +kernel
theorem dX8_eye_32 : decode cX8_eye 32 = .ok (.isub, 1) := by decide +kernel
theorem dX8_eye_33 : decode cX8_eye 33 = .ok (.iconst 1, 1) := by decide +kernel
theorem dX8_eye_34 : decode cX8_eye 34 = .ok (.iadd, 1) := by decide +kernel
theorem dX8_eye_35 : decode cX8_eye 35 = .ok (.ishl, 1) := by decide +kernel
theorem dX8_eye_36 : decode cX8_eye 36 = .ok (.if_icmp .lt 5, 3) := by decide +kernel
theorem dX8_eye_39 : decode cX8_eye 39 = .ok (.iconst (-1), 1) := by decide +kernel
theorem dX8_eye_40 : decode cX8_eye 40 = .ok (.ireturn, 1) := by decide +kernel
theorem dX8_eye_41 : decode cX8_eye 41 = .ok (.aload_n 0, 1) := by decide +kernel
theorem dX8_eye_42 : decode cX8_eye 42 = .ok (.getfield 65, 3) := by decide +kernel
theorem dX8_eye_45 : decode cX8_eye 45 = .ok (.iload_n 1, 1) := by decide +kernel
theorem dX8_eye_46 : decode cX8_eye 46 = .ok (.iload_n 2, 1) := by decide +kernel
theorem dX8_eye_47 : decode cX8_eye 47 = .ok (.iload_n 3, 1) := by decide +kernel
theorem dX8_eye_48 : decode cX8_eye 48 = .ok (.iload 4, 2) := by decide +kernel
theorem dX8_eye_50 : decode cX8_eye 50 = .ok (.iload 5, 2) := by decide +kernel
theorem dX8_eye_52 : decode cX8_eye 52 = .ok (.invokevirtual 231, 3) := by decide +kernel
theorem dX8_eye_55 : decode cX8_eye 55 = .ok (.aload_n 0, 1) := by decide +kernel
theorem dX8_eye_56 : decode cX8_eye 56 = .ok (.getfield 65, 3) := by decide +kernel
theorem dX8_eye_59 : decode cX8_eye 59 = .ok (.invokevirtual 235, 3) := by decide +kernel
theorem dX8_eye_62 : decode cX8_eye 62 = .ok (.ireturn, 1) := by decide +kernel
theorem dX8_forget_0 : decode cX8_forget 0 = .ok (.aload_n 0, 1) := by decide +kernel
theorem dX8_forget_1 : decode cX8_forget 1 = .ok (.getfield 65, 3) := by decide +kernel
theorem dX8_forget_4 : decode cX8_forget 4 = .ok (.invokevirtual 235, 3) := by decide +kernel
theorem dX8_forget_7 : decode cX8_forget 7 = .ok (.istore_n 1, 1) := by decide +kernel
theorem dX8_forget_8 : decode cX8_forget 8 = .ok (.aload_n 0, 1) := by decide +kernel
theorem dX8_forget_9 : decode cX8_forget 9 = .ok (.getfield 65, 3) := by decide +kernel
theorem dX8_forget_12 : decode cX8_forget 12 = .ok (.invokevirtual 236, 3) := by decide +kernel
theorem dX8_forget_15 : decode cX8_forget 15 = .ok (.iload_n 1, 1) := by decide +kernel
theorem dX8_forget_16 : decode cX8_forget 16 = .ok (.ireturn, 1) := by decide +kernel
theorem dX8_explains_0 : decode cX8_explains 0 = .ok (.iload_n 1, 1) := by decide +kernel
theorem dX8_explains_1 : decode cX8_explains 1 = .ok (.lookupswitch 43 #[(0, 27), (1, 35)], 27) := by decide +kernel
theorem dX8_explains_28 : decode cX8_explains 28 = .ok (.aload_n 0, 1) := by decide +kernel
theorem dX8_explains_29 : decode cX8_explains 29 = .ok (.getfield 65, 3) := by decide +kernel
theorem dX8_explains_32 : decode cX8_explains 32 = .ok (.invokevirtual 237, 3) := by decide +kernel
theorem dX8_explains_35 : decode cX8_explains 35 = .ok (.ireturn, 1) := by decide +kernel
theorem dX8_explains_36 : decode cX8_explains 36 = .ok (.aload_n 0, 1) := by decide +kernel
theorem dX8_explains_37 : decode cX8_explains 37 = .ok (.getfield 65, 3) := by decide +kernel
theorem dX8_explains_40 : decode cX8_explains 40 = .ok (.invokevirtual 240, 3) := by decide +kernel
theorem dX8_explains_43 : decode cX8_explains 43 = .ok (.ireturn, 1) := by decide +kernel
theorem dX8_explains_44 : decode cX8_explains 44 = .ok (.iconst (-1), 1) := by decide +kernel
theorem dX8_explains_45 : decode cX8_explains 45 = .ok (.ireturn, 1) := by decide +kernel
theorem dX8_count_0 : decode cX8_count 0 = .ok (.iload_n 1, 1) := by decide +kernel
theorem dX8_count_1 : decode cX8_count 1 = .ok (.tableswitch 180 0 12 #[67, 75, 83, 92, 101, 110, 121, 129, 137, 145, 153, 161, 172], 67) := by decide +kernel
theorem dX8_count_68 : decode cX8_count 68 = .ok (.aload_n 0, 1) := by decide +kernel
theorem dX8_count_69 : decode cX8_count 69 = .ok (.getfield 26, 3) := by decide +kernel
theorem dX8_count_72 : decode cX8_count 72 = .ok (.getfield 102, 3) := by decide +kernel
theorem dX8_count_75 : decode cX8_count 75 = .ok (.ireturn, 1) := by decide +kernel
theorem dX8_count_76 : decode cX8_count 76 = .ok (.aload_n 0, 1) := by decide +kernel
theorem dX8_count_77 : decode cX8_count 77 = .ok (.getfield 26, 3) := by decide +kernel
theorem dX8_count_80 : decode cX8_count 80 = .ok (.getfield 243, 3) := by decide +kernel
theorem dX8_count_83 : decode cX8_count 83 = .ok (.ireturn, 1) := by decide +kernel
theorem dX8_count_84 : decode cX8_count 84 = .ok (.aload_n 0, 1) := by decide +kernel
theorem dX8_count_85 : decode cX8_count 85 = .ok (.getfield 26, 3) := by decide +kernel
theorem dX8_count_88 : decode cX8_count 88 = .ok (.iconst 0, 1) := by decide +kernel
theorem dX8_count_89 : decode cX8_count 89 = .ok (.invokevirtual 133, 3) := by decide +kernel
theorem dX8_count_92 : decode cX8_count 92 = .ok (.ireturn, 1) := by decide +kernel
theorem dX8_count_93 : decode cX8_count 93 = .ok (.aload_n 0, 1) := by decide +kernel
theorem dX8_count_94 : decode cX8_count 94 = .ok (.getfield 26, 3) := by decide +kernel
theorem dX8_count_97 : decode cX8_count 97 = .ok (.iconst 1, 1) := by decide +kernel
theorem dX8_count_98 : decode cX8_count 98 = .ok (.invokevirtual 133, 3) := by decide +kernel
theorem dX8_count_101 : decode cX8_count 101 = .ok (.ireturn, 1) := by decide +kernel
theorem dX8_count_102 : decode cX8_count 102 = .ok (.aload_n 0, 1) := by decide +kernel
theorem dX8_count_103 : decode cX8_count 103 = .ok (.getfield 26, 3) := by decide +kernel
theorem dX8_count_106 : decode cX8_count 106 = .ok (.iconst 2, 1) := by decide +kernel
theorem dX8_count_107 : decode cX8_count 107 = .ok (.invokevirtual 133, 3) := by decide +kernel
theorem dX8_count_110 : decode cX8_count 110 = .ok (.ireturn, 1) := by decide +kernel
theorem dX8_count_111 : decode cX8_count 111 = .ok (.aload_n 0, 1) := by decide +kernel
theorem dX8_count_112 : decode cX8_count 112 = .ok (.getfield 26, 3) := by decide +kernel
theorem dX8_count_115 : decode cX8_count 115 = .ok (.invokevirtual 189, 3) := by decide +kernel
theorem dX8_count_118 : decode cX8_count 118 = .ok (.invokestatic 195, 3) := by decide +kernel
theorem dX8_count_121 : decode cX8_count 121 = .ok (.ireturn, 1) := by decide +kernel
theorem dX8_count_122 : decode cX8_count 122 = .ok (.aload_n 0, 1) := by decide +kernel
theorem dX8_count_123 : decode cX8_count 123 = .ok (.getfield 42, 3) := by decide +kernel
theorem dX8_count_126 : decode cX8_count 126 = .ok (.invokevirtual 246, 3) := by decide +kernel
theorem dX8_count_129 : decode cX8_count 129 = .ok (.ireturn, 1) := by decide +kernel
theorem dX8_count_130 : decode cX8_count 130 = .ok (.aload_n 0, 1) := by decide +kernel
theorem dX8_count_131 : decode cX8_count 131 = .ok (.getfield 42, 3) := by decide +kernel
theorem dX8_count_134 : decode cX8_count 134 = .ok (.invokevirtual 249, 3) := by decide +kernel
theorem dX8_count_137 : decode cX8_count 137 = .ok (.ireturn, 1) := by decide +kernel
theorem dX8_count_138 : decode cX8_count 138 = .ok (.aload_n 0, 1) := by decide +kernel
theorem dX8_count_139 : decode cX8_count 139 = .ok (.getfield 42, 3) := by decide +kernel
theorem dX8_count_142 : decode cX8_count 142 = .ok (.invokevirtual 252, 3) := by decide +kernel
theorem dX8_count_145 : decode cX8_count 145 = .ok (.ireturn, 1) := by decide +kernel
theorem dX8_count_146 : decode cX8_count 146 = .ok (.aload_n 0, 1) := by decide +kernel
theorem dX8_count_147 : decode cX8_count 147 = .ok (.getfield 33, 3) := by decide +kernel
theorem dX8_count_150 : decode cX8_count 150 = .ok (.getfield 149, 3) := by decide +kernel
theorem dX8_count_153 : decode cX8_count 153 = .ok (.ireturn, 1) := by decide +kernel
theorem dX8_count_154 : decode cX8_count 154 = .ok (.aload_n 0, 1) := by decide +kernel
theorem dX8_count_155 : decode cX8_count 155 = .ok (.getfield 10, 3) := by decide +kernel
theorem dX8_count_158 : decode cX8_count 158 = .ok (.getfield 92, 3) := by decide +kernel
theorem dX8_count_161 : decode cX8_count 161 = .ok (.ireturn, 1) := by decide +kernel
theorem dX8_count_162 : decode cX8_count 162 = .ok (.aload_n 0, 1) := by decide +kernel
theorem dX8_count_163 : decode cX8_count 163 = .ok (.getfield 26, 3) := by decide +kernel
theorem dX8_count_166 : decode cX8_count 166 = .ok (.invokevirtual 141, 3) := by decide +kernel
theorem dX8_count_169 : decode cX8_count 169 = .ok (.ldc 148, 2) := by decide +kernel
theorem dX8_count_171 : decode cX8_count 171 = .ok (.iadd, 1) := by decide +kernel
theorem dX8_count_172 : decode cX8_count 172 = .ok (.ireturn, 1) := by decide +kernel
theorem dX8_count_173 : decode cX8_count 173 = .ok (.aload_n 0, 1) := by decide +kernel
theorem dX8_count_174 : decode cX8_count 174 = .ok (.getfield 42, 3) := by decide +kernel
theorem dX8_count_177 : decode cX8_count 177 = .ok (.invokevirtual 255, 3) := by decide +kernel
theorem dX8_count_180 : decode cX8_count 180 = .ok (.ireturn, 1) := by decide +kernel
theorem dX8_count_181 : decode cX8_count 181 = .ok (.iconst (-1), 1) := by decide +kernel
theorem dX8_count_182 : decode cX8_count 182 = .ok (.ireturn, 1) := by decide +kernel
theorem dX8_layText_0 : decode cX8_layText 0 = .ok (.aload_n 0, 1) := by decide +kernel
theorem dX8_layText_1 : decode cX8_layText 1 = .ok (.getfield 19, 3) := by decide +kernel
theorem dX8_layText_4 : decode cX8_layText 4 = .ok (.aload_n 0, 1) := by decide +kernel
theorem dX8_layText_5 : decode cX8_layText 5 = .ok (.getfield 10, 3) := by decide +kernel
theorem dX8_layText_8 : decode cX8_layText 8 = .ok (.invokevirtual 95, 3) := by decide +kernel
theorem dX8_layText_11 : decode cX8_layText 11 = .ok (.aload_n 0, 1) := by decide +kernel
theorem dX8_layText_12 : decode cX8_layText 12 = .ok (.getfield 19, 3) := by decide +kernel
theorem dX8_layText_15 : decode cX8_layText 15 = .ok (.getfield 99, 3) := by decide +kernel
theorem dX8_layText_18 : decode cX8_layText 18 = .ok (.bipush (-4), 2) := by decide +kernel
theorem dX8_layText_20 : decode cX8_layText 20 = .ok (.if_icmp .ne 13, 3) := by decide +kernel
theorem dX8_layText_23 : decode cX8_layText 23 = .ok (.aload_n 0, 1) := by decide +kernel
theorem dX8_layText_24 : decode cX8_layText 24 = .ok (.getfield 19, 3) := by decide +kernel
theorem dX8_layText_27 : decode cX8_layText 27 = .ok (.getfield 258, 3) := by decide +kernel
theorem dX8_layText_30 : decode cX8_layText 30 = .ok (.ifCond .ne 5, 3) := by decide +kernel
theorem dX8_layText_33 : decode cX8_layText 33 = .ok (.iconst 0, 1) := by decide +kernel
theorem dX8_layText_34 : decode cX8_layText 34 = .ok (.ireturn, 1) := by decide +kernel
theorem dX8_layText_35 : decode cX8_layText 35 = .ok (.aload_n 0, 1) := by decide +kernel
theorem dX8_layText_36 : decode cX8_layText 36 = .ok (.getfield 26, 3) := by decide +kernel
theorem dX8_layText_39 : decode cX8_layText 39 = .ok (.aload_n 0, 1) := by decide +kernel
theorem dX8_layText_40 : decode cX8_layText 40 = .ok (.getfield 19, 3) := by decide +kernel
theorem dX8_layText_43 : decode cX8_layText 43 = .ok (.invokevirtual 259, 3) := by decide +kernel
theorem dX8_layText_46 : decode cX8_layText 46 = .ok (.aload_n 0, 1) := by decide +kernel
theorem dX8_layText_47 : decode cX8_layText 47 = .ok (.getfield 33, 3) := by decide +kernel
theorem dX8_layText_50 : decode cX8_layText 50 = .ok (.invokevirtual 263, 3) := by decide +kernel
theorem dX8_layText_53 : decode cX8_layText 53 = .ok (.aload_n 0, 1) := by decide +kernel
theorem dX8_layText_54 : decode cX8_layText 54 = .ok (.getfield 65, 3) := by decide +kernel
theorem dX8_layText_57 : decode cX8_layText 57 = .ok (.invokevirtual 236, 3) := by decide +kernel
theorem dX8_layText_60 : decode cX8_layText 60 = .ok (.aload_n 0, 1) := by decide +kernel
theorem dX8_layText_61 : decode cX8_layText 61 = .ok (.getfield 42, 3) := by decide +kernel
theorem dX8_layText_64 : decode cX8_layText 64 = .ok (.invokevirtual 127, 3) := by decide +kernel
theorem dX8_layText_67 : decode cX8_layText 67 = .ok (.iconst 1, 1) := by decide +kernel
theorem dX8_layText_68 : decode cX8_layText 68 = .ok (.ireturn, 1) := by decide +kernel
theorem dX8_isWire_0 : decode cX8_isWire 0 = .ok (.iload_n 1, 1) := by decide +kernel
theorem dX8_isWire_1 : decode cX8_isWire 1 = .ok (.ifCond .lt 18, 3) := by decide +kernel
theorem dX8_isWire_4 : decode cX8_isWire 4 = .ok (.iload_n 1, 1) := by decide +kernel
theorem dX8_isWire_5 : decode cX8_isWire 5 = .ok (.aload_n 0, 1) := by decide +kernel
theorem dX8_isWire_6 : decode cX8_isWire 6 = .ok (.getfield 26, 3) := by decide +kernel
theorem dX8_isWire_9 : decode cX8_isWire 9 = .ok (.getfield 102, 3) := by decide +kernel
theorem dX8_isWire_12 : decode cX8_isWire 12 = .ok (.if_icmp .ge 7, 3) := by decide +kernel
theorem dX8_isWire_15 : decode cX8_isWire 15 = .ok (.iconst 1, 1) := by decide +kernel
theorem dX8_isWire_16 : decode cX8_isWire 16 = .ok (.goto 4, 3) := by decide +kernel
theorem dX8_isWire_19 : decode cX8_isWire 19 = .ok (.iconst 0, 1) := by decide +kernel
theorem dX8_isWire_20 : decode cX8_isWire 20 = .ok (.ireturn, 1) := by decide +kernel
theorem dX8_isRow_0 : decode cX8_isRow 0 = .ok (.iload_n 1, 1) := by decide +kernel
theorem dX8_isRow_1 : decode cX8_isRow 1 = .ok (.ifCond .lt 18, 3) := by decide +kernel
theorem dX8_isRow_4 : decode cX8_isRow 4 = .ok (.iload_n 1, 1) := by decide +kernel
theorem dX8_isRow_5 : decode cX8_isRow 5 = .ok (.aload_n 0, 1) := by decide +kernel
theorem dX8_isRow_6 : decode cX8_isRow 6 = .ok (.getfield 26, 3) := by decide +kernel
theorem dX8_isRow_9 : decode cX8_isRow 9 = .ok (.getfield 243, 3) := by decide +kernel
theorem dX8_isRow_12 : decode cX8_isRow 12 = .ok (.if_icmp .gt 7, 3) := by decide +kernel
theorem dX8_isRow_15 : decode cX8_isRow 15 = .ok (.iconst 1, 1) := by decide +kernel
theorem dX8_isRow_16 : decode cX8_isRow 16 = .ok (.goto 4, 3) := by decide +kernel
theorem dX8_isRow_19 : decode cX8_isRow 19 = .ok (.iconst 0, 1) := by decide +kernel
theorem dX8_isRow_20 : decode cX8_isRow 20 = .ok (.ireturn, 1) := by decide +kernel
theorem dX8_canBeBonded_0 : decode cX8_canBeBonded 0 = .ok (.aload_n 0, 1) := by decide +kernel
theorem dX8_canBeBonded_1 : decode cX8_canBeBonded 1 = .ok (.getfield 26, 3) := by decide +kernel
theorem dX8_canBeBonded_4 : decode cX8_canBeBonded 4 = .ok (.iload_n 1, 1) := by decide +kernel
theorem dX8_canBeBonded_5 : decode cX8_canBeBonded 5 = .ok (.invokevirtual 155, 3) := by decide +kernel
theorem dX8_canBeBonded_8 : decode cX8_canBeBonded 8 = .ok (.ifCond .ne 26, 3) := by decide +kernel
theorem dX8_canBeBonded_11 : decode cX8_canBeBonded 11 = .ok (.aload_n 0, 1) := by decide +kernel
theorem dX8_canBeBonded_12 : decode cX8_canBeBonded 12 = .ok (.getfield 42, 3) := by decide +kernel
theorem dX8_canBeBonded_15 : decode cX8_canBeBonded 15 = .ok (.iload_n 1, 1) := by decide +kernel
theorem dX8_canBeBonded_16 : decode cX8_canBeBonded 16 = .ok (.invokevirtual 183, 3) := by decide +kernel
theorem dX8_canBeBonded_19 : decode cX8_canBeBonded 19 = .ok (.aload_n 0, 1) := by decide +kernel
theorem dX8_canBeBonded_20 : decode cX8_canBeBonded 20 = .ok (.getfield 26, 3) := by decide +kernel
theorem dX8_canBeBonded_23 : decode cX8_canBeBonded 23 = .ok (.invokevirtual 189, 3) := by decide +kernel
theorem dX8_canBeBonded_26 : decode cX8_canBeBonded 26 = .ok (.iand, 1) := by decide +kernel
theorem dX8_canBeBonded_27 : decode cX8_canBeBonded 27 = .ok (.ifCond .ne 7, 3) := by decide +kernel
theorem dX8_canBeBonded_30 : decode cX8_canBeBonded 30 = .ok (.iconst 1, 1) := by decide +kernel
theorem dX8_canBeBonded_31 : decode cX8_canBeBonded 31 = .ok (.goto 4, 3) := by decide +kernel
theorem dX8_canBeBonded_34 : decode cX8_canBeBonded 34 = .ok (.iconst 0, 1) := by decide +kernel
theorem dX8_canBeBonded_35 : decode cX8_canBeBonded 35 = .ok (.ireturn, 1) := by decide +kernel
theorem dX8_isLook_0 : decode cX8_isLook 0 = .ok (.iload_n 0, 1) := by decide +kernel
theorem dX8_isLook_1 : decode cX8_isLook 1 = .ok (.ifCond .lt 35, 3) := by decide +kernel
theorem dX8_isLook_4 : decode cX8_isLook 4 = .ok (.iload_n 0, 1) := by decide +kernel
theorem dX8_isLook_5 : decode cX8_isLook 5 = .ok (.iconst 2, 1) := by decide +kernel
theorem dX8_isLook_6 : decode cX8_isLook 6 = .ok (.if_icmp .gt 30, 3) := by decide +kernel
theorem dX8_isLook_9 : decode cX8_isLook 9 = .ok (.iload_n 1, 1) := by decide +kernel
theorem dX8_isLook_10 : decode cX8_isLook 10 = .ok (.ifCond .lt 26, 3) := by decide +kernel
theorem dX8_isLook_13 : decode cX8_isLook 13 = .ok (.iload_n 1, 1) := by decide +kernel
theorem dX8_isLook_14 : decode cX8_isLook 14 = .ok (.iload_n 2, 1) := by decide +kernel
theorem dX8_isLook_15 : decode cX8_isLook 15 = .ok (.if_icmp .gt 21, 3) := by decide +kernel
theorem dX8_isLook_18 : decode cX8_isLook 18 = .ok (.iload_n 2, 1) := by decide +kernel
theorem dX8_isLook_19 : decode cX8_isLook 19 = .ok (.bipush 60, 2) := by decide +kernel
theorem dX8_isLook_21 : decode cX8_isLook 21 = .ok (.if_icmp .gt 15, 3) := by decide +kernel
theorem dX8_isLook_24 : decode cX8_isLook 24 = .ok (.iload_n 2, 1) := by decide +kernel
theorem dX8_isLook_25 : decode cX8_isLook 25 = .ok (.iload_n 1, 1) := by decide +kernel
theorem dX8_isLook_26 : decode cX8_isLook 26 = .ok (.isub, 1) := by decide +kernel
theorem dX8_isLook_27 : decode cX8_isLook 27 = .ok (.bipush 20, 2) := by decide +kernel
theorem dX8_isLook_29 : decode cX8_isLook 29 = .ok (.if_icmp .ge 7, 3) := by decide +kernel
theorem dX8_isLook_32 : decode cX8_isLook 32 = .ok (.iconst 1, 1) := by decide +kernel
theorem dX8_isLook_33 : decode cX8_isLook 33 = .ok (.goto 4, 3) := by decide +kernel
theorem dX8_isLook_36 : decode cX8_isLook 36 = .ok (.iconst 0, 1) := by decide +kernel
theorem dX8_isLook_37 : decode cX8_isLook 37 = .ok (.ireturn, 1) := by decide +kernel
end
section
-- decode rows (printed by program)
theorem dX9_init_0 : decode cX9_init 0 = .ok (.aload_n 0, 1) := by decide +kernel
theorem dX9_init_1 : decode cX9_init 1 = .ok (.invokespecial 1, 3) := by decide +kernel
theorem dX9_init_4 : decode cX9_init 4 = .ok (.aload_n 0, 1) := by decide +kernel
theorem dX9_init_5 : decode cX9_init 5 = .ok (.sipush 200, 3) := by decide +kernel
theorem dX9_init_8 : decode cX9_init 8 = .ok (.newarray .int, 2) := by decide +kernel
theorem dX9_init_10 : decode cX9_init 10 = .ok (.putfield 7, 3) := by decide +kernel
theorem dX9_init_13 : decode cX9_init 13 = .ok (.aload_n 0, 1) := by decide +kernel
theorem dX9_init_14 : decode cX9_init 14 = .ok (.bipush 45, 2) := by decide +kernel
theorem dX9_init_16 : decode cX9_init 16 = .ok (.newarray .int, 2) := by decide +kernel
theorem dX9_init_18 : decode cX9_init 18 = .ok (.putfield 13, 3) := by decide +kernel
theorem dX9_init_21 : decode cX9_init 21 = .ok (.aload_n 0, 1) := by decide +kernel
theorem dX9_init_22 : decode cX9_init 22 = .ok (.sipush 270, 3) := by decide +kernel
theorem dX9_init_25 : decode cX9_init 25 = .ok (.newarray .int, 2) := by decide +kernel
theorem dX9_init_27 : decode cX9_init 27 = .ok (.putfield 16, 3) := by decide +kernel
theorem dX9_init_30 : decode cX9_init 30 = .ok (.aload_n 0, 1) := by decide +kernel
theorem dX9_init_31 : decode cX9_init 31 = .ok (.bipush 45, 2) := by decide +kernel
theorem dX9_init_33 : decode cX9_init 33 = .ok (.newarray .int, 2) := by decide +kernel
theorem dX9_init_35 : decode cX9_init 35 = .ok (.putfield 19, 3) := by decide +kernel
theorem dX9_init_38 : decode cX9_init 38 = .ok (.aload_n 0, 1) := by decide +kernel
theorem dX9_init_39 : decode cX9_init 39 = .ok (.bipush 10, 2) := by decide +kernel
theorem dX9_init_41 : decode cX9_init 41 = .ok (.newarray .int, 2) := by decide +kernel
theorem dX9_init_43 : decode cX9_init 43 = .ok (.putfield 22, 3) := by decide +kernel
theorem dX9_init_46 : decode cX9_init 46 = .ok (.aload_n 0, 1) := by decide +kernel
theorem dX9_init_47 : decode cX9_init 47 = .ok (.bipush 25, 2) := by decide +kernel
theorem dX9_init_49 : decode cX9_init 49 = .ok (.newarray .int, 2) := by decide +kernel
theorem dX9_init_51 : decode cX9_init 51 = .ok (.dup, 1) := by decide +kernel
theorem dX9_init_52 : decode cX9_init 52 = .ok (.iconst 0, 1) := by decide +kernel
theorem dX9_init_53 : decode cX9_init 53 = .ok (.bipush 10, 2) := by decide +kernel
theorem dX9_init_55 : decode cX9_init 55 = .ok (.iastore, 1) := by decide +kernel
theorem dX9_init_56 : decode cX9_init 56 = .ok (.dup, 1) := by decide +kernel
theorem dX9_init_57 : decode cX9_init 57 = .ok (.iconst 1, 1) := by decide +kernel
theorem dX9_init_58 : decode cX9_init 58 = .ok (.iconst 0, 1) := by decide +kernel
theorem dX9_init_59 : decode cX9_init 59 = .ok (.iastore, 1) := by decide +kernel
theorem dX9_init_60 : decode cX9_init 60 = .ok (.dup, 1) := by decide +kernel
theorem dX9_init_61 : decode cX9_init 61 = .ok (.iconst 2, 1) := by decide +kernel
theorem dX9_init_62 : decode cX9_init 62 = .ok (.bipush 8, 2) := by decide +kernel
theorem dX9_init_64 : decode cX9_init 64 = .ok (.iastore, 1) := by decide +kernel
theorem dX9_init_65 : decode cX9_init 65 = .ok (.dup, 1) := by decide +kernel
theorem dX9_init_66 : decode cX9_init 66 = .ok (.iconst 3, 1) := by decide +kernel
theorem dX9_init_67 : decode cX9_init 67 = .ok (.iconst 1, 1) := by decide +kernel
theorem dX9_init_68 : decode cX9_init 68 = .ok (.iastore, 1) := by decide +kernel
theorem dX9_init_69 : decode cX9_init 69 = .ok (.dup, 1) := by decide +kernel
theorem dX9_init_70 : decode cX9_init 70 = .ok (.iconst 4, 1) := by decide +kernel
theorem dX9_init_71 : decode cX9_init 71 = .ok (.bipush 12, 2) := by decide +kernel
theorem dX9_init_73 : decode cX9_init 73 = .ok (.iastore, 1) := by decide +kernel
theorem dX9_init_74 : decode cX9_init 74 = .ok (.dup, 1) := by decide +kernel
theorem dX9_init_75 : decode cX9_init 75 = .ok (.iconst 5, 1) := by decide +kernel
theorem dX9_init_76 : decode cX9_init 76 = .ok (.bipush 14, 2) := by decide +kernel
theorem dX9_init_78 : decode cX9_init 78 = .ok (.iastore, 1) := by decide +kernel
theorem dX9_init_79 : decode cX9_init 79 = .ok (.dup, 1) := by decide +kernel
theorem dX9_init_80 : decode cX9_init 80 = .ok (.bipush 6, 2) := by decide +kernel
theorem dX9_init_82 : decode cX9_init 82 = .ok (.iconst 0, 1) := by decide +kernel
theorem dX9_init_83 : decode cX9_init 83 = .ok (.iastore, 1) := by decide +kernel
theorem dX9_init_84 : decode cX9_init 84 = .ok (.dup, 1) := by decide +kernel
theorem dX9_init_85 : decode cX9_init 85 = .ok (.bipush 7, 2) := by decide +kernel
theorem dX9_init_87 : decode cX9_init 87 = .ok (.bipush 16, 2) := by decide +kernel
theorem dX9_init_89 : decode cX9_init 89 = .ok (.iastore, 1) := by decide +kernel
theorem dX9_init_90 : decode cX9_init 90 = .ok (.dup, 1) := by decide +kernel
theorem dX9_init_91 : decode cX9_init 91 = .ok (.bipush 8, 2) := by decide +kernel
theorem dX9_init_93 : decode cX9_init 93 = .ok (.iconst 1, 1) := by decide +kernel
theorem dX9_init_94 : decode cX9_init 94 = .ok (.iastore, 1) := by decide +kernel
theorem dX9_init_95 : decode cX9_init 95 = .ok (.dup, 1) := by decide +kernel
theorem dX9_init_96 : decode cX9_init 96 = .ok (.bipush 9, 2) := by decide +kernel
theorem dX9_init_98 : decode cX9_init 98 = .ok (.bipush 12, 2) := by decide +kernel
theorem dX9_init_100 : decode cX9_init 100 = .ok (.iastore, 1) := by decide +kernel
theorem dX9_init_101 : decode cX9_init 101 = .ok (.dup, 1) := by decide +kernel
theorem dX9_init_102 : decode cX9_init 102 = .ok (.bipush 10, 2) := by decide +kernel
theorem dX9_init_104 : decode cX9_init 104 = .ok (.bipush 18, 2) := by decide +kernel
theorem dX9_init_106 : decode cX9_init 106 = .ok (.iastore, 1) := by decide +kernel
theorem dX9_init_107 : decode cX9_init 107 = .ok (.dup, 1) := by decide +kernel
theorem dX9_init_108 : decode cX9_init 108 = .ok (.bipush 11, 2) := by decide +kernel
theorem dX9_init_110 : decode cX9_init 110 = .ok (.iconst 1, 1) := by decide +kernel
theorem dX9_init_111 : decode cX9_init 111 = .ok (.iastore, 1) := by decide +kernel
theorem dX9_init_112 : decode cX9_init 112 = .ok (.dup, 1) := by decide +kernel
theorem dX9_init_113 : decode cX9_init 113 = .ok (.bipush 12, 2) := by decide +kernel
theorem dX9_init_115 : decode cX9_init 115 = .ok (.bipush 24, 2) := by decide +kernel
theorem dX9_init_117 : decode cX9_init 117 = .ok (.iastore, 1) := by decide +kernel
theorem dX9_init_118 : decode cX9_init 118 = .ok (.dup, 1) := by decide +kernel
theorem dX9_init_119 : decode cX9_init 119 = .ok (.bipush 13, 2) := by decide +kernel
theorem dX9_init_121 : decode cX9_init 121 = .ok (.iconst 2, 1) := by decide +kernel
theorem dX9_init_122 : decode cX9_init 122 = .ok (.iastore, 1) := by decide +kernel
theorem dX9_init_123 : decode cX9_init 123 = .ok (.dup, 1) := by decide +kernel
theorem dX9_init_124 : decode cX9_init 124 = .ok (.bipush 14, 2) := by decide +kernel
theorem dX9_init_126 : decode cX9_init 126 = .ok (.bipush 16, 2) := by decide +kernel
theorem dX9_init_128 : decode cX9_init 128 = .ok (.iastore, 1) := by decide +kernel
theorem dX9_init_129 : decode cX9_init 129 = .ok (.dup, 1) := by decide +kernel
theorem dX9_init_130 : decode cX9_init 130 = .ok (.bipush 15, 2) := by decide +kernel
theorem dX9_init_132 : decode cX9_init 132 = .ok (.bipush 22, 2) := by decide +kernel
theorem dX9_init_134 : decode cX9_init 134 = .ok (.iastore, 1) := by decide +kernel
theorem dX9_init_135 : decode cX9_init 135 = .ok (.dup, 1) := by decide +kernel
theorem dX9_init_136 : decode cX9_init 136 = .ok (.bipush 16, 2) := by decide +kernel
theorem dX9_init_138 : decode cX9_init 138 = .ok (.iconst 2, 1) := by decide +kernel
theorem dX9_init_139 : decode cX9_init 139 = .ok (.iastore, 1) := by decide +kernel
theorem dX9_init_140 : decode cX9_init 140 = .ok (.dup, 1) := by decide +kernel
theorem dX9_init_141 : decode cX9_init 141 = .ok (.bipush 17, 2) := by decide +kernel
theorem dX9_init_143 : decode cX9_init 143 = .ok (.bipush 20, 2) := by decide +kernel
theorem dX9_init_145 : decode cX9_init 145 = .ok (.iastore, 1) := by decide +kernel
theorem dX9_init_146 : decode cX9_init 146 = .ok (.dup, 1) := by decide +kernel
theorem dX9_init_147 : decode cX9_init 147 = .ok (.bipush 18, 2) := by decide +kernel
theorem dX9_init_149 : decode cX9_init 149 = .ok (.iconst 0, 1) := by decide +kernel
theorem dX9_init_150 : decode cX9_init 150 = .ok (.iastore, 1) := by decide +kernel
theorem dX9_init_151 : decode cX9_init 151 = .ok (.dup, 1) := by decide +kernel
theorem dX9_init_152 : decode cX9_init 152 = .ok (.bipush 19, 2) := by decide +kernel
theorem dX9_init_154 : decode cX9_init 154 = .ok (.bipush 6, 2) := by decide +kernel
theorem dX9_init_156 : decode cX9_init 156 = .ok (.iastore, 1) := by decide +kernel
theorem dX9_init_157 : decode cX9_init 157 = .ok (.dup, 1) := by decide +kernel
theorem dX9_init_158 : decode cX9_init 158 = .ok (.bipush 20, 2) := by decide +kernel
theorem dX9_init_160 : decode cX9_init 160 = .ok (.bipush 26, 2) := by decide +kernel
theorem dX9_init_162 : decode cX9_init 162 = .ok (.iastore, 1) := by decide +kernel
theorem dX9_init_163 : decode cX9_init 163 = .ok (.dup, 1) := by decide +kernel
theorem dX9_init_164 : decode cX9_init 164 = .ok (.bipush 21, 2) := by decide +kernel
theorem dX9_init_166 : decode cX9_init 166 = .ok (.iconst 0, 1) := by decide +kernel
theorem dX9_init_167 : decode cX9_init 167 = .ok (.iastore, 1) := by decide +kernel
theorem dX9_init_168 : decode cX9_init 168 = .ok (.dup, 1) := by decide +kernel
theorem dX9_init_169 : decode cX9_init 169 = .ok (.bipush 22, 2) := by decide +kernel
theorem dX9_init_171 : decode cX9_init 171 = .ok (.bipush 32, 2) := by decide +kernel
theorem dX9_init_173 : decode cX9_init 173 = .ok (.iastore, 1) := by decide +kernel
theorem dX9_init_174 : decode cX9_init 174 = .ok (.dup, 1) := by decide +kernel
theorem dX9_init_175 : decode cX9_init 175 = .ok (.bipush 23, 2) := by decide +kernel
theorem dX9_init_177 : decode cX9_init 177 = .ok (.iconst 1, 1) := by decide +kernel
theorem dX9_init_178 : decode cX9_init 178 = .ok (.iastore, 1) := by decide +kernel
theorem dX9_init_179 : decode cX9_init 179 = .ok (.dup, 1) := by decide +kernel
theorem dX9_init_180 : decode cX9_init 180 = .ok (.bipush 24, 2) := by decide +kernel
theorem dX9_init_182 : decode cX9_init 182 = .ok (.bipush 9, 2) := by decide +kernel
theorem dX9_init_184 : decode cX9_init 184 = .ok (.iastore, 1) := by decide +kernel
theorem dX9_init_185 : decode cX9_init 185 = .ok (.putfield 25, 3) := by decide +kernel
theorem dX9_init_188 : decode cX9_init 188 = .ok (.aload_n 0, 1) := by decide +kernel
theorem dX9_init_189 : decode cX9_init 189 = .ok (.bipush 8, 2) := by decide +kernel
theorem dX9_init_191 : decode cX9_init 191 = .ok (.newarray .int, 2) := by decide +kernel
theorem dX9_init_193 : decode cX9_init 193 = .ok (.putfield 28, 3) := by decide +kernel
theorem dX9_init_196 : decode cX9_init 196 = .ok (.aload_n 0, 1) := by decide +kernel
theorem dX9_init_197 : decode cX9_init 197 = .ok (.sipush 256, 3) := by decide +kernel
theorem dX9_init_200 : decode cX9_init 200 = .ok (.newarray .int, 2) := by decide +kernel
theorem dX9_init_202 : decode cX9_init 202 = .ok (.putfield 31, 3) := by decide +kernel
theorem dX9_init_205 : decode cX9_init 205 = .ok (.aload_n 0, 1) := by decide +kernel
theorem dX9_init_206 : decode cX9_init 206 = .ok (.bipush 20, 2) := by decide +kernel
theorem dX9_init_208 : decode cX9_init 208 = .ok (.putfield 34, 3) := by decide +kernel
theorem dX9_init_211 : decode cX9_init 211 = .ok (.aload_n 0, 1) := by decide +kernel
theorem dX9_init_212 : decode cX9_init 212 = .ok (.iconst 5, 1) := by decide +kernel
theorem dX9_init_213 : decode cX9_init 213 = .ok (.putfield 38, 3) := by decide +kernel
theorem dX9_init_216 : decode cX9_init 216 = .ok (.iconst 0, 1) := by decide +kernel
theorem dX9_init_217 : decode cX9_init 217 = .ok (.istore_n 1, 1) := by decide +kernel
theorem dX9_init_218 : decode cX9_init 218 = .ok (.iload_n 1, 1) := by decide +kernel
theorem dX9_init_219 : decode cX9_init 219 = .ok (.bipush 25, 2) := by decide +kernel
theorem dX9_init_221 : decode cX9_init 221 = .ok (.if_icmp .ge 21, 3) := by decide +kernel
theorem dX9_init_224 : decode cX9_init 224 = .ok (.aload_n 0, 1) := by decide +kernel
theorem dX9_init_225 : decode cX9_init 225 = .ok (.getfield 13, 3) := by decide +kernel
theorem dX9_init_228 : decode cX9_init 228 = .ok (.iload_n 1, 1) := by decide +kernel
theorem dX9_init_229 : decode cX9_init 229 = .ok (.aload_n 0, 1) := by decide +kernel
theorem dX9_init_230 : decode cX9_init 230 = .ok (.getfield 25, 3) := by decide +kernel
theorem dX9_init_233 : decode cX9_init 233 = .ok (.iload_n 1, 1) := by decide +kernel
theorem dX9_init_234 : decode cX9_init 234 = .ok (.iaload, 1) := by decide +kernel
theorem dX9_init_235 : decode cX9_init 235 = .ok (.iastore, 1) := by decide +kernel
theorem dX9_init_236 : decode cX9_init 236 = .ok (.iinc 1 1, 3) := by decide +kernel
theorem dX9_init_239 : decode cX9_init 239 = .ok (.goto (-21), 3) := by decide +kernel
theorem dX9_init_242 : decode cX9_init 242 = .ok (.aload_n 0, 1) := by decide +kernel
theorem dX9_init_243 : decode cX9_init 243 = .ok (.getfield 13, 3) := by decide +kernel
theorem dX9_init_246 : decode cX9_init 246 = .ok (.bipush 40, 2) := by decide +kernel
theorem dX9_init_248 : decode cX9_init 248 = .ok (.iconst 2, 1) := by decide +kernel
theorem dX9_init_249 : decode cX9_init 249 = .ok (.iastore, 1) := by decide +kernel
theorem dX9_init_250 : decode cX9_init 250 = .ok (.aload_n 0, 1) := by decide +kernel
theorem dX9_init_251 : decode cX9_init 251 = .ok (.getfield 13, 3) := by decide +kernel
theorem dX9_init_254 : decode cX9_init 254 = .ok (.bipush 41, 2) := by decide +kernel
theorem dX9_init_256 : decode cX9_init 256 = .ok (.bipush 6, 2) := by decide +kernel
theorem dX9_init_258 : decode cX9_init 258 = .ok (.iastore, 1) := by decide +kernel
theorem dX9_init_259 : decode cX9_init 259 = .ok (.aload_n 0, 1) := by decide +kernel
theorem dX9_init_260 : decode cX9_init 260 = .ok (.getfield 13, 3) := by decide +kernel
theorem dX9_init_263 : decode cX9_init 263 = .ok (.bipush 42, 2) := by decide +kernel
theorem dX9_init_265 : decode cX9_init 265 = .ok (.iconst 2, 1) := by decide +kernel
theorem dX9_init_266 : decode cX9_init 266 = .ok (.iastore, 1) := by decide +kernel
theorem dX9_init_267 : decode cX9_init 267 = .ok (.return_, 1) := by decide +kernel
theorem dX9_isIn_0 : decode cX9_isIn 0 = .ok (.iload_n 0, 1) := by decide +kernel
theorem dX9_isIn_1 : decode cX9_isIn 1 = .ok (.iload_n 1, 1) := by decide +kernel
theorem dX9_isIn_2 : decode cX9_isIn 2 = .ok (.if_icmp .lt 12, 3) := by decide +kernel
theorem dX9_isIn_5 : decode cX9_isIn 5 = .ok (.iload_n 0, 1) := by decide +kernel
theorem dX9_isIn_6 : decode cX9_isIn 6 = .ok (.iload_n 2, 1) := by decide +kernel
theorem dX9_isIn_7 : decode cX9_isIn 7 = .ok (.if_icmp .gt 7, 3) := by decide +kernel
theorem dX9_isIn_10 : decode cX9_isIn 10 = .ok (.iconst 1, 1) := by decide +kernel
theorem dX9_isIn_11 : decode cX9_isIn 11 = .ok (.goto 4, 3) := by decide +kernel
theorem dX9_isIn_14 : decode cX9_isIn 14 = .ok (.iconst 0, 1) := by decide +kernel
theorem dX9_isIn_15 : decode cX9_isIn 15 = .ok (.ireturn, 1) := by decide +kernel
theorem dX9_distance_0 : decode cX9_distance 0 = .ok (.iload_n 0, 1) := by decide +kernel
theorem dX9_distance_1 : decode cX9_distance 1 = .ok (.iload_n 1, 1) := by decide +kernel
theorem dX9_distance_2 : decode cX9_distance 2 = .ok (.if_icmp .ge 9, 3) := by decide +kernel
theorem dX9_distance_5 : decode cX9_distance 5 = .ok (.iload_n 1, 1) := by decide +kernel
theorem dX9_distance_6 : decode cX9_distance 6 = .ok (.iload_n 0, 1) := by decide +kernel
theorem dX9_distance_7 : decode cX9_distance 7 = .ok (.isub, 1) := by decide +kernel
theorem dX9_distance_8 : decode cX9_distance 8 = .ok (.goto 6, 3) := by decide +kernel
theorem dX9_distance_11 : decode cX9_distance 11 = .ok (.iload_n 0, 1) := by decide +kernel
theorem dX9_distance_12 : decode cX9_distance 12 = .ok (.iload_n 1, 1) := by decide +kernel
theorem dX9_distance_13 : decode cX9_distance 13 = .ok (.isub, 1) := by decide +kernel
theorem dX9_distance_14 : decode cX9_distance 14 = .ok (.ireturn, 1) := by decide +kernel
theorem dX9_letterAt_0 : decode cX9_letterAt 0 = .ok (.iload_n 1, 1) := by decide +kernel
theorem dX9_letterAt_1 : decode cX9_letterAt 1 = .ok (.aload_n 0, 1) := by decide +kernel
theorem dX9_letterAt_2 : decode cX9_letterAt 2 = .ok (.getfield 41, 3) := by decide +kernel
theorem dX9_letterAt_5 : decode cX9_letterAt 5 = .ok (.if_icmp .ge 12, 3) := by decide +kernel
theorem dX9_letterAt_8 : decode cX9_letterAt 8 = .ok (.aload_n 0, 1) := by decide +kernel
theorem dX9_letterAt_9 : decode cX9_letterAt 9 = .ok (.getfield 7, 3) := by decide +kernel
theorem dX9_letterAt_12 : decode cX9_letterAt 12 = .ok (.iload_n 1, 1) := by decide +kernel
theorem dX9_letterAt_13 : decode cX9_letterAt 13 = .ok (.iaload, 1) := by decide +kernel
theorem dX9_letterAt_14 : decode cX9_letterAt 14 = .ok (.goto 4, 3) := by decide +kernel
theorem dX9_letterAt_17 : decode cX9_letterAt 17 = .ok (.iconst 0, 1) := by decide +kernel
theorem dX9_letterAt_18 : decode cX9_letterAt 18 = .ok (.ireturn, 1) := by decide +kernel
theorem dX9_number_0 : decode cX9_number 0 = .ok (.iload_n 1, 1) := by decide +kernel
theorem dX9_number_1 : decode cX9_number 1 = .ok (.istore 4, 2) := by decide +kernel
theorem dX9_number_3 : decode cX9_number 3 = .ok (.aload_n 0, 1) := by decide +kernel
theorem dX9_number_4 : decode cX9_number 4 = .ok (.iconst 0, 1) := by decide +kernel
theorem dX9_number_5 : decode cX9_number 5 = .ok (.putfield 44, 3) := by decide +kernel
theorem dX9_number_8 : decode cX9_number 8 = .ok (.aload_n 0, 1) := by decide +kernel
theorem dX9_number_9 : decode cX9_number 9 = .ok (.iload 4, 2) := by decide +kernel
theorem dX9_number_11 : decode cX9_number 11 = .ok (.invokevirtual 47, 3) := by decide +kernel
theorem dX9_number_14 : decode cX9_number 14 = .ok (.bipush 48, 2) := by decide +kernel
theorem dX9_number_16 : decode cX9_number 16 = .ok (.if_icmp .lt 49, 3) := by decide +kernel
theorem dX9_number_19 : decode cX9_number 19 = .ok (.aload_n 0, 1) := by decide +kernel
theorem dX9_number_20 : decode cX9_number 20 = .ok (.iload 4, 2) := by decide +kernel
theorem dX9_number_22 : decode cX9_number 22 = .ok (.invokevirtual 47, 3) := by decide +kernel
theorem dX9_number_25 : decode cX9_number 25 = .ok (.bipush 57, 2) := by decide +kernel
theorem dX9_number_27 : decode cX9_number 27 = .ok (.if_icmp .gt 38, 3) := by decide +kernel
theorem dX9_number_30 : decode cX9_number 30 = .ok (.iload 4, 2) := by decide +kernel
theorem dX9_number_32 : decode cX9_number 32 = .ok (.iload_n 1, 1) := by decide +kernel
theorem dX9_number_33 : decode cX9_number 33 = .ok (.iconst 2, 1) := by decide +kernel
theorem dX9_number_34 : decode cX9_number 34 = .ok (.iadd, 1) := by decide +kernel
theorem dX9_number_35 : decode cX9_number 35 = .ok (.if_icmp .ge 30, 3) := by decide +kernel
theorem dX9_number_38 : decode cX9_number 38 = .ok (.aload_n 0, 1) := by decide +kernel
theorem dX9_number_39 : decode cX9_number 39 = .ok (.bipush 10, 2) := by decide +kernel
theorem dX9_number_41 : decode cX9_number 41 = .ok (.aload_n 0, 1) := by decide +kernel
theorem dX9_number_42 : decode cX9_number 42 = .ok (.getfield 44, 3) := by decide +kernel
theorem dX9_number_45 : decode cX9_number 45 = .ok (.imul, 1) := by decide +kernel
theorem dX9_number_46 : decode cX9_number 46 = .ok (.aload_n 0, 1) := by decide +kernel
theorem dX9_number_47 : decode cX9_number 47 = .ok (.iload 4, 2) := by decide +kernel
theorem dX9_number_49 : decode cX9_number 49 = .ok (.invokevirtual 47, 3) := by decide +kernel
theorem dX9_number_52 : decode cX9_number 52 = .ok (.iadd, 1) := by decide +kernel
theorem dX9_number_53 : decode cX9_number 53 = .ok (.bipush 48, 2) := by decide +kernel
theorem dX9_number_55 : decode cX9_number 55 = .ok (.isub, 1) := by decide +kernel
theorem dX9_number_56 : decode cX9_number 56 = .ok (.putfield 44, 3) := by decide +kernel
theorem dX9_number_59 : decode cX9_number 59 = .ok (.iinc 4 1, 3) := by decide +kernel
theorem dX9_number_62 : decode cX9_number 62 = .ok (.goto (-54), 3) := by decide +kernel
theorem dX9_number_65 : decode cX9_number 65 = .ok (.aload_n 0, 1) := by decide +kernel
theorem dX9_number_66 : decode cX9_number 66 = .ok (.iload 4, 2) := by decide +kernel
theorem dX9_number_68 : decode cX9_number 68 = .ok (.putfield 51, 3) := by decide +kernel
theorem dX9_number_71 : decode cX9_number 71 = .ok (.iload 4, 2) := by decide +kernel
theorem dX9_number_73 : decode cX9_number 73 = .ok (.iload_n 1, 1) := by decide +kernel
theorem dX9_number_74 : decode cX9_number 74 = .ok (.if_icmp .le 19, 3) := by decide +kernel
theorem dX9_number_77 : decode cX9_number 77 = .ok (.aload_n 0, 1) := by decide +kernel
theorem dX9_number_78 : decode cX9_number 78 = .ok (.getfield 44, 3) := by decide +kernel
theorem dX9_number_81 : decode cX9_number 81 = .ok (.iload_n 2, 1) := by decide +kernel
theorem dX9_number_82 : decode cX9_number 82 = .ok (.iload_n 3, 1) := by decide +kernel
theorem dX9_number_83 : decode cX9_number 83 = .ok (.invokestatic 54, 3) := by decide +kernel
theorem dX9_number_86 : decode cX9_number 86 = .ok (.ifCond .eq 7, 3) := by decide +kernel
theorem dX9_number_89 : decode cX9_number 89 = .ok (.iconst 1, 1) := by decide +kernel
theorem dX9_number_90 : decode cX9_number 90 = .ok (.goto 4, 3) := by decide +kernel
theorem dX9_number_93 : decode cX9_number 93 = .ok (.iconst 0, 1) := by decide +kernel
theorem dX9_number_94 : decode cX9_number 94 = .ok (.ireturn, 1) := by decide +kernel
theorem dX9_lowest_0 : decode cX9_lowest 0 = .ok (.iload_n 0, 1) := by decide +kernel
theorem dX9_lowest_1 : decode cX9_lowest 1 = .ok (.iconst 4, 1) := by decide +kernel
theorem dX9_lowest_2 : decode cX9_lowest 2 = .ok (.if_icmp .ne 7, 3) := by decide +kernel
theorem dX9_lowest_5 : decode cX9_lowest 5 = .ok (.iconst 1, 1) := by decide +kernel
theorem dX9_lowest_6 : decode cX9_lowest 6 = .ok (.goto 4, 3) := by decide +kernel
theorem dX9_lowest_9 : decode cX9_lowest 9 = .ok (.iconst 0, 1) := by decide +kernel
theorem dX9_lowest_10 : decode cX9_lowest 10 = .ok (.ireturn, 1) := by decide +kernel
theorem dX9_highest_0 : decode cX9_highest 0 = .ok (.iload_n 0, 1) := by decide +kernel
theorem dX9_highest_1 : decode cX9_highest 1 = .ok (.ifCond .eq 8, 3) := by decide +kernel
theorem dX9_highest_4 : decode cX9_highest 4 = .ok (.iload_n 0, 1) := by decide +kernel
theorem dX9_highest_5 : decode cX9_highest 5 = .ok (.iconst 2, 1) := by decide +kernel
theorem dX9_highest_6 : decode cX9_highest 6 = .ok (.if_icmp .ne 8, 3) := by decide +kernel
theorem dX9_highest_9 : decode cX9_highest 9 = .ok (.bipush 60, 2) := by decide +kernel
theorem dX9_highest_11 : decode cX9_highest 11 = .ok (.goto 14, 3) := by decide +kernel
theorem dX9_highest_14 : decode cX9_highest 14 = .ok (.iload_n 0, 1) := by decide +kernel
theorem dX9_highest_15 : decode cX9_highest 15 = .ok (.iconst 4, 1) := by decide +kernel
theorem dX9_highest_16 : decode cX9_highest 16 = .ok (.if_icmp .ne 8, 3) := by decide +kernel
theorem dX9_highest_19 : decode cX9_highest 19 = .ok (.bipush 40, 2) := by decide +kernel
theorem dX9_highest_21 : decode cX9_highest 21 = .ok (.goto 4, 3) := by decide +kernel
theorem dX9_highest_24 : decode cX9_highest 24 = .ok (.iconst 2, 1) := by decide +kernel
theorem dX9_highest_25 : decode cX9_highest 25 = .ok (.ireturn, 1) := by decide +kernel
theorem dX9_most_0 : decode cX9_most 0 = .ok (.iload_n 0, 1) := by decide +kernel
theorem dX9_most_1 : decode cX9_most 1 = .ok (.iconst 1, 1) := by decide +kernel
theorem dX9_most_2 : decode cX9_most 2 = .ok (.if_icmp .ne 8, 3) := by decide +kernel
theorem dX9_most_5 : decode cX9_most 5 = .ok (.bipush 40, 2) := by decide +kernel
theorem dX9_most_7 : decode cX9_most 7 = .ok (.goto 5, 3) := by decide +kernel
theorem dX9_most_10 : decode cX9_most 10 = .ok (.bipush 9, 2) := by decide +kernel
theorem dX9_most_12 : decode cX9_most 12 = .ok (.ireturn, 1) := by decide +kernel
theorem dX9_readsWire_0 : decode cX9_readsWire 0 = .ok (.aload_n 0, 1) := by decide +kernel
theorem dX9_readsWire_1 : decode cX9_readsWire 1 = .ok (.getfield 58, 3) := by decide +kernel
theorem dX9_readsWire_4 : decode cX9_readsWire 4 = .ok (.bipush 8, 2) := by decide +kernel
theorem dX9_readsWire_6 : decode cX9_readsWire 6 = .ok (.if_icmp .ne 5, 3) := by decide +kernel
theorem dX9_readsWire_9 : decode cX9_readsWire 9 = .ok (.iconst 0, 1) := by decide +kernel
theorem dX9_readsWire_10 : decode cX9_readsWire 10 = .ok (.ireturn, 1) := by decide +kernel
theorem dX9_readsWire_11 : decode cX9_readsWire 11 = .ok (.aload_n 0, 1) := by decide +kernel
theorem dX9_readsWire_12 : decode cX9_readsWire 12 = .ok (.iload_n 1, 1) := by decide +kernel
theorem dX9_readsWire_13 : decode cX9_readsWire 13 = .ok (.iconst 1, 1) := by decide +kernel
theorem dX9_readsWire_14 : decode cX9_readsWire 14 = .ok (.isub, 1) := by decide +kernel
theorem dX9_readsWire_15 : decode cX9_readsWire 15 = .ok (.putfield 51, 3) := by decide +kernel
theorem dX9_readsWire_18 : decode cX9_readsWire 18 = .ok (.iconst 0, 1) := by decide +kernel
theorem dX9_readsWire_19 : decode cX9_readsWire 19 = .ok (.istore_n 2, 1) := by decide +kernel
theorem dX9_readsWire_20 : decode cX9_readsWire 20 = .ok (.iload_n 2, 1) := by decide +kernel
theorem dX9_readsWire_21 : decode cX9_readsWire 21 = .ok (.iconst 5, 1) := by decide +kernel
theorem dX9_readsWire_22 : decode cX9_readsWire 22 = .ok (.if_icmp .ge 66, 3) := by decide +kernel
theorem dX9_readsWire_25 : decode cX9_readsWire 25 = .ok (.iload_n 2, 1) := by decide +kernel
theorem dX9_readsWire_26 : decode cX9_readsWire 26 = .ok (.ifCond .le 16, 3) := by decide +kernel
theorem dX9_readsWire_29 : decode cX9_readsWire 29 = .ok (.aload_n 0, 1) := by decide +kernel
theorem dX9_readsWire_30 : decode cX9_readsWire 30 = .ok (.aload_n 0, 1) := by decide +kernel
theorem dX9_readsWire_31 : decode cX9_readsWire 31 = .ok (.getfield 51, 3) := by decide +kernel
theorem dX9_readsWire_34 : decode cX9_readsWire 34 = .ok (.invokevirtual 47, 3) := by decide +kernel
theorem dX9_readsWire_37 : decode cX9_readsWire 37 = .ok (.bipush 44, 2) := by decide +kernel
theorem dX9_readsWire_39 : decode cX9_readsWire 39 = .ok (.if_icmp .ne 24, 3) := by decide +kernel
theorem dX9_readsWire_42 : decode cX9_readsWire 42 = .ok (.aload_n 0, 1) := by decide +kernel
theorem dX9_readsWire_43 : decode cX9_readsWire 43 = .ok (.aload_n 0, 1) := by decide +kernel
theorem dX9_readsWire_44 : decode cX9_readsWire 44 = .ok (.getfield 51, 3) := by decide +kernel
theorem dX9_readsWire_47 : decode cX9_readsWire 47 = .ok (.iconst 1, 1) := by decide +kernel
theorem dX9_readsWire_48 : decode cX9_readsWire 48 = .ok (.iadd, 1) := by decide +kernel
theorem dX9_readsWire_49 : decode cX9_readsWire 49 = .ok (.iload_n 2, 1) := by decide +kernel
theorem dX9_readsWire_50 : decode cX9_readsWire 50 = .ok (.invokestatic 61, 3) := by decide +kernel
theorem dX9_readsWire_53 : decode cX9_readsWire 53 = .ok (.iload_n 2, 1) := by decide +kernel
theorem dX9_readsWire_54 : decode cX9_readsWire 54 = .ok (.invokestatic 64, 3) := by decide +kernel
theorem dX9_readsWire_57 : decode cX9_readsWire 57 = .ok (.invokevirtual 67, 3) := by decide +kernel
theorem dX9_readsWire_60 : decode cX9_readsWire 60 = .ok (.ifCond .ne 5, 3) := by decide +kernel
theorem dX9_readsWire_63 : decode cX9_readsWire 63 = .ok (.iconst 0, 1) := by decide +kernel
theorem dX9_readsWire_64 : decode cX9_readsWire 64 = .ok (.ireturn, 1) := by decide +kernel
theorem dX9_readsWire_65 : decode cX9_readsWire 65 = .ok (.aload_n 0, 1) := by decide +kernel
theorem dX9_readsWire_66 : decode cX9_readsWire 66 = .ok (.getfield 19, 3) := by decide +kernel
theorem dX9_readsWire_69 : decode cX9_readsWire 69 = .ok (.iconst 5, 1) := by decide +kernel
theorem dX9_readsWire_70 : decode cX9_readsWire 70 = .ok (.aload_n 0, 1) := by decide +kernel
theorem dX9_readsWire_71 : decode cX9_readsWire 71 = .ok (.getfield 58, 3) := by decide +kernel
theorem dX9_readsWire_74 : decode cX9_readsWire 74 = .ok (.imul, 1) := by decide +kernel
theorem dX9_readsWire_75 : decode cX9_readsWire 75 = .ok (.iload_n 2, 1) := by decide +kernel
theorem dX9_readsWire_76 : decode cX9_readsWire 76 = .ok (.iadd, 1) := by decide +kernel
theorem dX9_readsWire_77 : decode cX9_readsWire 77 = .ok (.aload_n 0, 1) := by decide +kernel
theorem dX9_readsWire_78 : decode cX9_readsWire 78 = .ok (.getfield 44, 3) := by decide +kernel
theorem dX9_readsWire_81 : decode cX9_readsWire 81 = .ok (.iastore, 1) := by decide +kernel
theorem dX9_readsWire_82 : decode cX9_readsWire 82 = .ok (.iinc 2 1, 3) := by decide +kernel
theorem dX9_readsWire_85 : decode cX9_readsWire 85 = .ok (.goto (-65), 3) := by decide +kernel
theorem dX9_readsWire_88 : decode cX9_readsWire 88 = .ok (.aload_n 0, 1) := by decide +kernel
theorem dX9_readsWire_89 : decode cX9_readsWire 89 = .ok (.dup, 1) := by decide +kernel
theorem dX9_readsWire_90 : decode cX9_readsWire 90 = .ok (.getfield 58, 3) := by decide +kernel
theorem dX9_readsWire_93 : decode cX9_readsWire 93 = .ok (.iconst 1, 1) := by decide +kernel
theorem dX9_readsWire_94 : decode cX9_readsWire 94 = .ok (.iadd, 1) := by decide +kernel
theorem dX9_readsWire_95 : decode cX9_readsWire 95 = .ok (.putfield 58, 3) := by decide +kernel
theorem dX9_readsWire_98 : decode cX9_readsWire 98 = .ok (.iconst 1, 1) := by decide +kernel
theorem dX9_readsWire_99 : decode cX9_readsWire 99 = .ok (.ireturn, 1) := by decide +kernel
theorem dX9_readsItem_0 : decode cX9_readsItem 0 = .ok (.iload_n 2, 1) := by decide +kernel
theorem dX9_readsItem_1 : decode cX9_readsItem 1 = .ok (.iconst 1, 1) := by decide +kernel
theorem dX9_readsItem_2 : decode cX9_readsItem 2 = .ok (.if_icmp .ne 7, 3) := by decide +kernel
theorem dX9_readsItem_5 : decode cX9_readsItem 5 = .ok (.iconst 1, 1) := by decide +kernel
theorem dX9_readsItem_6 : decode cX9_readsItem 6 = .ok (.goto 4, 3) := by decide +kernel
theorem dX9_readsItem_9 : decode cX9_readsItem 9 = .ok (.iconst 0, 1) := by decide +kernel
theorem dX9_readsItem_10 : decode cX9_readsItem 10 = .ok (.iload_n 1, 1) := by decide +kernel
theorem dX9_readsItem_11 : decode cX9_readsItem 11 = .ok (.bipush 115, 2) := by decide +kernel
theorem dX9_readsItem_13 : decode cX9_readsItem 13 = .ok (.if_icmp .ne 7, 3) := by decide +kernel
theorem dX9_readsItem_16 : decode cX9_readsItem 16 = .ok (.iconst 1, 1) := by decide +kernel
theorem dX9_readsItem_17 : decode cX9_readsItem 17 = .ok (.goto 4, 3) := by decide +kernel
theorem dX9_readsItem_20 : decode cX9_readsItem 20 = .ok (.iconst 0, 1) := by decide +kernel
theorem dX9_readsItem_21 : decode cX9_readsItem 21 = .ok (.if_icmp .eq 5, 3) := by decide +kernel
theorem dX9_readsItem_24 : decode cX9_readsItem 24 = .ok (.iconst 0, 1) := by decide +kernel
theorem dX9_readsItem_25 : decode cX9_readsItem 25 = .ok (.ireturn, 1) := by decide +kernel
theorem dX9_readsItem_26 : decode cX9_readsItem 26 = .ok (.iload_n 1, 1) := by decide +kernel
theorem dX9_readsItem_27 : decode cX9_readsItem 27 = .ok (.bipush 115, 2) := by decide +kernel
theorem dX9_readsItem_29 : decode cX9_readsItem 29 = .ok (.if_icmp .ne 23, 3) := by decide +kernel
theorem dX9_readsItem_32 : decode cX9_readsItem 32 = .ok (.aload_n 0, 1) := by decide +kernel
theorem dX9_readsItem_33 : decode cX9_readsItem 33 = .ok (.iload_n 2, 1) := by decide +kernel
theorem dX9_readsItem_34 : decode cX9_readsItem 34 = .ok (.bipush 8, 2) := by decide +kernel
theorem dX9_readsItem_36 : decode cX9_readsItem 36 = .ok (.bipush 40, 2) := by decide +kernel
theorem dX9_readsItem_38 : decode cX9_readsItem 38 = .ok (.invokevirtual 67, 3) := by decide +kernel
theorem dX9_readsItem_41 : decode cX9_readsItem 41 = .ok (.istore_n 3, 1) := by decide +kernel
theorem dX9_readsItem_42 : decode cX9_readsItem 42 = .ok (.aload_n 0, 1) := by decide +kernel
theorem dX9_readsItem_43 : decode cX9_readsItem 43 = .ok (.aload_n 0, 1) := by decide +kernel
theorem dX9_readsItem_44 : decode cX9_readsItem 44 = .ok (.getfield 44, 3) := by decide +kernel
theorem dX9_readsItem_47 : decode cX9_readsItem 47 = .ok (.putfield 70, 3) := by decide +kernel
theorem dX9_readsItem_50 : decode cX9_readsItem 50 = .ok (.iload_n 3, 1) := by decide +kernel
theorem dX9_readsItem_51 : decode cX9_readsItem 51 = .ok (.ireturn, 1) := by decide +kernel
theorem dX9_readsItem_52 : decode cX9_readsItem 52 = .ok (.iload_n 1, 1) := by decide +kernel
theorem dX9_readsItem_53 : decode cX9_readsItem 53 = .ok (.bipush 119, 2) := by decide +kernel
theorem dX9_readsItem_55 : decode cX9_readsItem 55 = .ok (.if_icmp .ne 9, 3) := by decide +kernel
theorem dX9_readsItem_58 : decode cX9_readsItem 58 = .ok (.aload_n 0, 1) := by decide +kernel
theorem dX9_readsItem_59 : decode cX9_readsItem 59 = .ok (.iload_n 2, 1) := by decide +kernel
theorem dX9_readsItem_60 : decode cX9_readsItem 60 = .ok (.invokevirtual 73, 3) := by decide +kernel
theorem dX9_readsItem_63 : decode cX9_readsItem 63 = .ok (.ireturn, 1) := by decide +kernel
theorem dX9_readsItem_64 : decode cX9_readsItem 64 = .ok (.iload_n 1, 1) := by decide +kernel
theorem dX9_readsItem_65 : decode cX9_readsItem 65 = .ok (.bipush 103, 2) := by decide +kernel
theorem dX9_readsItem_67 : decode cX9_readsItem 67 = .ok (.if_icmp .ne 7, 3) := by decide +kernel
theorem dX9_readsItem_70 : decode cX9_readsItem 70 = .ok (.iconst 0, 1) := by decide +kernel
theorem dX9_readsItem_71 : decode cX9_readsItem 71 = .ok (.goto 24, 3) := by decide +kernel
theorem dX9_readsItem_74 : decode cX9_readsItem 74 = .ok (.iload_n 1, 1) := by decide +kernel
theorem dX9_readsItem_75 : decode cX9_readsItem 75 = .ok (.bipush 104, 2) := by decide +kernel
theorem dX9_readsItem_77 : decode cX9_readsItem 77 = .ok (.if_icmp .ne 7, 3) := by decide +kernel
theorem dX9_readsItem_80 : decode cX9_readsItem 80 = .ok (.iconst 1, 1) := by decide +kernel
theorem dX9_readsItem_81 : decode cX9_readsItem 81 = .ok (.goto 14, 3) := by decide +kernel
theorem dX9_readsItem_84 : decode cX9_readsItem 84 = .ok (.iload_n 1, 1) := by decide +kernel
theorem dX9_readsItem_85 : decode cX9_readsItem 85 = .ok (.bipush 116, 2) := by decide +kernel
theorem dX9_readsItem_87 : decode cX9_readsItem 87 = .ok (.if_icmp .ne 7, 3) := by decide +kernel
theorem dX9_readsItem_90 : decode cX9_readsItem 90 = .ok (.iconst 2, 1) := by decide +kernel
theorem dX9_readsItem_91 : decode cX9_readsItem 91 = .ok (.goto 4, 3) := by decide +kernel
theorem dX9_readsItem_94 : decode cX9_readsItem 94 = .ok (.iconst (-1), 1) := by decide +kernel
theorem dX9_readsItem_95 : decode cX9_readsItem 95 = .ok (.istore_n 3, 1) := by decide +kernel
theorem dX9_readsItem_96 : decode cX9_readsItem 96 = .ok (.iload_n 3, 1) := by decide +kernel
theorem dX9_readsItem_97 : decode cX9_readsItem 97 = .ok (.ifCond .lt 16, 3) := by decide +kernel
theorem dX9_readsItem_100 : decode cX9_readsItem 100 = .ok (.aload_n 0, 1) := by decide +kernel
theorem dX9_readsItem_101 : decode cX9_readsItem 101 = .ok (.iload_n 2, 1) := by decide +kernel
theorem dX9_readsItem_102 : decode cX9_readsItem 102 = .ok (.iconst 1, 1) := by decide +kernel
theorem dX9_readsItem_103 : decode cX9_readsItem 103 = .ok (.iload_n 3, 1) := by decide +kernel
theorem dX9_readsItem_104 : decode cX9_readsItem 104 = .ok (.invokestatic 77, 3) := by decide +kernel
theorem dX9_readsItem_107 : decode cX9_readsItem 107 = .ok (.invokevirtual 67, 3) := by decide +kernel
theorem dX9_readsItem_110 : decode cX9_readsItem 110 = .ok (.ifCond .ne 5, 3) := by decide +kernel
theorem dX9_readsItem_113 : decode cX9_readsItem 113 = .ok (.iconst 0, 1) := by decide +kernel
theorem dX9_readsItem_114 : decode cX9_readsItem 114 = .ok (.ireturn, 1) := by decide +kernel
theorem dX9_readsItem_115 : decode cX9_readsItem 115 = .ok (.aload_n 0, 1) := by decide +kernel
theorem dX9_readsItem_116 : decode cX9_readsItem 116 = .ok (.getfield 19, 3) := by decide +kernel
theorem dX9_readsItem_119 : decode cX9_readsItem 119 = .ok (.bipush 40, 2) := by decide +kernel
theorem dX9_readsItem_121 : decode cX9_readsItem 121 = .ok (.iload_n 3, 1) := by decide +kernel
theorem dX9_readsItem_122 : decode cX9_readsItem 122 = .ok (.iadd, 1) := by decide +kernel
theorem dX9_readsItem_123 : decode cX9_readsItem 123 = .ok (.aload_n 0, 1) := by decide +kernel
theorem dX9_readsItem_124 : decode cX9_readsItem 124 = .ok (.getfield 44, 3) := by decide +kernel
theorem dX9_readsItem_127 : decode cX9_readsItem 127 = .ok (.iastore, 1) := by decide +kernel
theorem dX9_readsItem_128 : decode cX9_readsItem 128 = .ok (.iconst 1, 1) := by decide +kernel
theorem dX9_readsItem_129 : decode cX9_readsItem 129 = .ok (.ireturn, 1) := by decide +kernel
theorem dX9_reads_0 : decode cX9_reads 0 = .ok (.aload_n 0, 1) := by decide +kernel
theorem dX9_reads_1 : decode cX9_reads 1 = .ok (.iconst 0, 1) := by decide +kernel
theorem dX9_reads_2 : decode cX9_reads 2 = .ok (.putfield 70, 3) := by decide +kernel
theorem dX9_reads_5 : decode cX9_reads 5 = .ok (.aload_n 0, 1) := by decide +kernel
theorem dX9_reads_6 : decode cX9_reads 6 = .ok (.iconst 0, 1) := by decide +kernel
theorem dX9_reads_7 : decode cX9_reads 7 = .ok (.putfield 58, 3) := by decide +kernel
theorem dX9_reads_10 : decode cX9_reads 10 = .ok (.iconst 0, 1) := by decide +kernel
theorem dX9_reads_11 : decode cX9_reads 11 = .ok (.istore_n 1, 1) := by decide +kernel
theorem dX9_reads_12 : decode cX9_reads 12 = .ok (.iload_n 1, 1) := by decide +kernel
theorem dX9_reads_13 : decode cX9_reads 13 = .ok (.bipush 45, 2) := by decide +kernel
theorem dX9_reads_15 : decode cX9_reads 15 = .ok (.if_icmp .ge 16, 3) := by decide +kernel
theorem dX9_reads_18 : decode cX9_reads 18 = .ok (.aload_n 0, 1) := by decide +kernel
theorem dX9_reads_19 : decode cX9_reads 19 = .ok (.getfield 19, 3) := by decide +kernel
theorem dX9_reads_22 : decode cX9_reads 22 = .ok (.iload_n 1, 1) := by decide +kernel
theorem dX9_reads_23 : decode cX9_reads 23 = .ok (.iconst 0, 1) := by decide +kernel
theorem dX9_reads_24 : decode cX9_reads 24 = .ok (.iastore, 1) := by decide +kernel
theorem dX9_reads_25 : decode cX9_reads 25 = .ok (.iinc 1 1, 3) := by decide +kernel
theorem dX9_reads_28 : decode cX9_reads 28 = .ok (.goto (-16), 3) := by decide +kernel
theorem dX9_reads_31 : decode cX9_reads 31 = .ok (.aload_n 0, 1) := by decide +kernel
theorem dX9_reads_32 : decode cX9_reads 32 = .ok (.getfield 19, 3) := by decide +kernel
theorem dX9_reads_35 : decode cX9_reads 35 = .ok (.bipush 40, 2) := by decide +kernel
theorem dX9_reads_37 : decode cX9_reads 37 = .ok (.iconst 2, 1) := by decide +kernel
theorem dX9_reads_38 : decode cX9_reads 38 = .ok (.iastore, 1) := by decide +kernel
theorem dX9_reads_39 : decode cX9_reads 39 = .ok (.aload_n 0, 1) := by decide +kernel
theorem dX9_reads_40 : decode cX9_reads 40 = .ok (.getfield 19, 3) := by decide +kernel
theorem dX9_reads_43 : decode cX9_reads 43 = .ok (.bipush 41, 2) := by decide +kernel
theorem dX9_reads_45 : decode cX9_reads 45 = .ok (.bipush 6, 2) := by decide +kernel
theorem dX9_reads_47 : decode cX9_reads 47 = .ok (.iastore, 1) := by decide +kernel
theorem dX9_reads_48 : decode cX9_reads 48 = .ok (.aload_n 0, 1) := by decide +kernel
theorem dX9_reads_49 : decode cX9_reads 49 = .ok (.getfield 19, 3) := by decide +kernel
theorem dX9_reads_52 : decode cX9_reads 52 = .ok (.bipush 42, 2) := by decide +kernel
theorem dX9_reads_54 : decode cX9_reads 54 = .ok (.iconst 2, 1) := by decide +kernel
theorem dX9_reads_55 : decode cX9_reads 55 = .ok (.iastore, 1) := by decide +kernel
theorem dX9_reads_56 : decode cX9_reads 56 = .ok (.iconst 0, 1) := by decide +kernel
theorem dX9_reads_57 : decode cX9_reads 57 = .ok (.istore_n 1, 1) := by decide +kernel
theorem dX9_reads_58 : decode cX9_reads 58 = .ok (.iload_n 1, 1) := by decide +kernel
theorem dX9_reads_59 : decode cX9_reads 59 = .ok (.aload_n 0, 1) := by decide +kernel
theorem dX9_reads_60 : decode cX9_reads 60 = .ok (.getfield 41, 3) := by decide +kernel
theorem dX9_reads_63 : decode cX9_reads 63 = .ok (.if_icmp .ge 44, 3) := by decide +kernel
theorem dX9_reads_66 : decode cX9_reads 66 = .ok (.aload_n 0, 1) := by decide +kernel
theorem dX9_reads_67 : decode cX9_reads 67 = .ok (.aload_n 0, 1) := by decide +kernel
theorem dX9_reads_68 : decode cX9_reads 68 = .ok (.getfield 7, 3) := by decide +kernel
theorem dX9_reads_71 : decode cX9_reads 71 = .ok (.iload_n 1, 1) := by decide +kernel
theorem dX9_reads_72 : decode cX9_reads 72 = .ok (.iaload, 1) := by decide +kernel
theorem dX9_reads_73 : decode cX9_reads 73 = .ok (.iload_n 1, 1) := by decide +kernel
theorem dX9_reads_74 : decode cX9_reads 74 = .ok (.iconst 1, 1) := by decide +kernel
theorem dX9_reads_75 : decode cX9_reads 75 = .ok (.iadd, 1) := by decide +kernel
theorem dX9_reads_76 : decode cX9_reads 76 = .ok (.invokevirtual 80, 3) := by decide +kernel
theorem dX9_reads_79 : decode cX9_reads 79 = .ok (.ifCond .eq 16, 3) := by decide +kernel
theorem dX9_reads_82 : decode cX9_reads 82 = .ok (.aload_n 0, 1) := by decide +kernel
theorem dX9_reads_83 : decode cX9_reads 83 = .ok (.aload_n 0, 1) := by decide +kernel
theorem dX9_reads_84 : decode cX9_reads 84 = .ok (.getfield 51, 3) := by decide +kernel
theorem dX9_reads_87 : decode cX9_reads 87 = .ok (.invokevirtual 47, 3) := by decide +kernel
theorem dX9_reads_90 : decode cX9_reads 90 = .ok (.bipush 59, 2) := by decide +kernel
theorem dX9_reads_92 : decode cX9_reads 92 = .ok (.if_icmp .eq 5, 3) := by decide +kernel
theorem dX9_reads_95 : decode cX9_reads 95 = .ok (.iload_n 1, 1) := by decide +kernel
theorem dX9_reads_96 : decode cX9_reads 96 = .ok (.ireturn, 1) := by decide +kernel
theorem dX9_reads_97 : decode cX9_reads 97 = .ok (.aload_n 0, 1) := by decide +kernel
theorem dX9_reads_98 : decode cX9_reads 98 = .ok (.getfield 51, 3) := by decide +kernel
theorem dX9_reads_101 : decode cX9_reads 101 = .ok (.iconst 1, 1) := by decide +kernel
theorem dX9_reads_102 : decode cX9_reads 102 = .ok (.iadd, 1) := by decide +kernel
theorem dX9_reads_103 : decode cX9_reads 103 = .ok (.istore_n 1, 1) := by decide +kernel
theorem dX9_reads_104 : decode cX9_reads 104 = .ok (.goto (-46), 3) := by decide +kernel
theorem dX9_reads_107 : decode cX9_reads 107 = .ok (.bipush (-4), 2) := by decide +kernel
theorem dX9_reads_109 : decode cX9_reads 109 = .ok (.ireturn, 1) := by decide +kernel
theorem dX9_write_0 : decode cX9_write 0 = .ok (.iload_n 1, 1) := by decide +kernel
theorem dX9_write_1 : decode cX9_write 1 = .ok (.bipush 32, 2) := by decide +kernel
theorem dX9_write_3 : decode cX9_write 3 = .ok (.if_icmp .lt 9, 3) := by decide +kernel
theorem dX9_write_6 : decode cX9_write 6 = .ok (.iload_n 1, 1) := by decide +kernel
theorem dX9_write_7 : decode cX9_write 7 = .ok (.bipush 126, 2) := by decide +kernel
theorem dX9_write_9 : decode cX9_write 9 = .ok (.if_icmp .le 5, 3) := by decide +kernel
theorem dX9_write_12 : decode cX9_write 12 = .ok (.iconst (-1), 1) := by decide +kernel
theorem dX9_write_13 : decode cX9_write 13 = .ok (.ireturn, 1) := by decide +kernel
theorem dX9_write_14 : decode cX9_write 14 = .ok (.aload_n 0, 1) := by decide +kernel
theorem dX9_write_15 : decode cX9_write 15 = .ok (.getfield 41, 3) := by decide +kernel
theorem dX9_write_18 : decode cX9_write 18 = .ok (.sipush 200, 3) := by decide +kernel
theorem dX9_write_21 : decode cX9_write 21 = .ok (.if_icmp .ne 6, 3) := by decide +kernel
theorem dX9_write_24 : decode cX9_write 24 = .ok (.bipush (-3), 2) := by decide +kernel
theorem dX9_write_26 : decode cX9_write 26 = .ok (.ireturn, 1) := by decide +kernel
theorem dX9_write_27 : decode cX9_write 27 = .ok (.aload_n 0, 1) := by decide +kernel
theorem dX9_write_28 : decode cX9_write 28 = .ok (.getfield 7, 3) := by decide +kernel
theorem dX9_write_31 : decode cX9_write 31 = .ok (.aload_n 0, 1) := by decide +kernel
theorem dX9_write_32 : decode cX9_write 32 = .ok (.getfield 41, 3) := by decide +kernel
theorem dX9_write_35 : decode cX9_write 35 = .ok (.iload_n 1, 1) := by decide +kernel
theorem dX9_write_36 : decode cX9_write 36 = .ok (.iastore, 1) := by decide +kernel
theorem dX9_write_37 : decode cX9_write 37 = .ok (.aload_n 0, 1) := by decide +kernel
theorem dX9_write_38 : decode cX9_write 38 = .ok (.dup, 1) := by decide +kernel
theorem dX9_write_39 : decode cX9_write 39 = .ok (.getfield 41, 3) := by decide +kernel
theorem dX9_write_42 : decode cX9_write 42 = .ok (.iconst 1, 1) := by decide +kernel
theorem dX9_write_43 : decode cX9_write 43 = .ok (.iadd, 1) := by decide +kernel
theorem dX9_write_44 : decode cX9_write 44 = .ok (.putfield 41, 3) := by decide +kernel
theorem dX9_write_47 : decode cX9_write 47 = .ok (.aload_n 0, 1) := by decide +kernel
theorem dX9_write_48 : decode cX9_write 48 = .ok (.getfield 41, 3) := by decide +kernel
theorem dX9_write_51 : decode cX9_write 51 = .ok (.ireturn, 1) := by decide +kernel
theorem dX9_wipe_0 : decode cX9_wipe 0 = .ok (.aload_n 0, 1) := by decide +kernel
theorem dX9_wipe_1 : decode cX9_wipe 1 = .ok (.getfield 41, 3) := by decide +kernel
theorem dX9_wipe_4 : decode cX9_wipe 4 = .ok (.istore_n 1, 1) := by decide +kernel
theorem dX9_wipe_5 : decode cX9_wipe 5 = .ok (.aload_n 0, 1) := by decide +kernel
theorem dX9_wipe_6 : decode cX9_wipe 6 = .ok (.iconst 0, 1) := by decide +kernel
theorem dX9_wipe_7 : decode cX9_wipe 7 = .ok (.putfield 41, 3) := by decide +kernel
theorem dX9_wipe_10 : decode cX9_wipe 10 = .ok (.iload_n 1, 1) := by decide +kernel
theorem dX9_wipe_11 : decode cX9_wipe 11 = .ok (.ireturn, 1) := by decide +kernel
theorem dX9_fault_0 : decode cX9_fault 0 = .ok (.aload_n 0, 1) := by decide +kernel
theorem dX9_fault_1 : decode cX9_fault 1 = .ok (.invokevirtual 84, 3) := by decide +kernel
theorem dX9_fault_4 : decode cX9_fault 4 = .ok (.ireturn, 1) := by decide +kernel
theorem dX9_lay_0 : decode cX9_lay 0 = .ok (.aload_n 0, 1) := by decide +kernel
theorem dX9_lay_1 : decode cX9_lay 1 = .ok (.invokevirtual 84, 3) := by decide +kernel
theorem dX9_lay_4 : decode cX9_lay 4 = .ok (.bipush (-4), 2) := by decide +kernel
theorem dX9_lay_6 : decode cX9_lay 6 = .ok (.if_icmp .ne 10, 3) := by decide +kernel
theorem dX9_lay_9 : decode cX9_lay 9 = .ok (.aload_n 0, 1) := by decide +kernel
theorem dX9_lay_10 : decode cX9_lay 10 = .ok (.getfield 70, 3) := by decide +kernel
theorem dX9_lay_13 : decode cX9_lay 13 = .ok (.ifCond .ne 6, 3) := by decide +kernel
theorem dX9_lay_16 : decode cX9_lay 16 = .ok (.bipush (-2), 2) := by decide +kernel
theorem dX9_lay_18 : decode cX9_lay 18 = .ok (.ireturn, 1) := by decide +kernel
theorem dX9_lay_19 : decode cX9_lay 19 = .ok (.aload_n 0, 1) := by decide +kernel
theorem dX9_lay_20 : decode cX9_lay 20 = .ok (.aload_n 0, 1) := by decide +kernel
theorem dX9_lay_21 : decode cX9_lay 21 = .ok (.getfield 70, 3) := by decide +kernel
theorem dX9_lay_24 : decode cX9_lay 24 = .ok (.putfield 34, 3) := by decide +kernel
theorem dX9_lay_27 : decode cX9_lay 27 = .ok (.aload_n 0, 1) := by decide +kernel
theorem dX9_lay_28 : decode cX9_lay 28 = .ok (.aload_n 0, 1) := by decide +kernel
theorem dX9_lay_29 : decode cX9_lay 29 = .ok (.getfield 58, 3) := by decide +kernel
theorem dX9_lay_32 : decode cX9_lay 32 = .ok (.putfield 38, 3) := by decide +kernel
theorem dX9_lay_35 : decode cX9_lay 35 = .ok (.iconst 0, 1) := by decide +kernel
theorem dX9_lay_36 : decode cX9_lay 36 = .ok (.istore_n 1, 1) := by decide +kernel
theorem dX9_lay_37 : decode cX9_lay 37 = .ok (.iload_n 1, 1) := by decide +kernel
theorem dX9_lay_38 : decode cX9_lay 38 = .ok (.bipush 45, 2) := by decide +kernel
theorem dX9_lay_40 : decode cX9_lay 40 = .ok (.if_icmp .ge 21, 3) := by decide +kernel
theorem dX9_lay_43 : decode cX9_lay 43 = .ok (.aload_n 0, 1) := by decide +kernel
theorem dX9_lay_44 : decode cX9_lay 44 = .ok (.getfield 13, 3) := by decide +kernel
theorem dX9_lay_47 : decode cX9_lay 47 = .ok (.iload_n 1, 1) := by decide +kernel
theorem dX9_lay_48 : decode cX9_lay 48 = .ok (.aload_n 0, 1) := by decide +kernel
theorem dX9_lay_49 : decode cX9_lay 49 = .ok (.getfield 19, 3) := by decide +kernel
theorem dX9_lay_52 : decode cX9_lay 52 = .ok (.iload_n 1, 1) := by decide +kernel
theorem dX9_lay_53 : decode cX9_lay 53 = .ok (.iaload, 1) := by decide +kernel
theorem dX9_lay_54 : decode cX9_lay 54 = .ok (.iastore, 1) := by decide +kernel
theorem dX9_lay_55 : decode cX9_lay 55 = .ok (.iinc 1 1, 3) := by decide +kernel
theorem dX9_lay_58 : decode cX9_lay 58 = .ok (.goto (-21), 3) := by decide +kernel
theorem dX9_lay_61 : decode cX9_lay 61 = .ok (.aload_n 0, 1) := by decide +kernel
theorem dX9_lay_62 : decode cX9_lay 62 = .ok (.iconst 0, 1) := by decide +kernel
theorem dX9_lay_63 : decode cX9_lay 63 = .ok (.putfield 88, 3) := by decide +kernel
theorem dX9_lay_66 : decode cX9_lay 66 = .ok (.aload_n 0, 1) := by decide +kernel
theorem dX9_lay_67 : decode cX9_lay 67 = .ok (.getfield 22, 3) := by decide +kernel
theorem dX9_lay_70 : decode cX9_lay 70 = .ok (.iconst 0, 1) := by decide +kernel
theorem dX9_lay_71 : decode cX9_lay 71 = .ok (.iconst 0, 1) := by decide +kernel
theorem dX9_lay_72 : decode cX9_lay 72 = .ok (.iastore, 1) := by decide +kernel
theorem dX9_lay_73 : decode cX9_lay 73 = .ok (.aload_n 0, 1) := by decide +kernel
theorem dX9_lay_74 : decode cX9_lay 74 = .ok (.getfield 22, 3) := by decide +kernel
theorem dX9_lay_77 : decode cX9_lay 77 = .ok (.iconst 5, 1) := by decide +kernel
theorem dX9_lay_78 : decode cX9_lay 78 = .ok (.iconst 0, 1) := by decide +kernel
theorem dX9_lay_79 : decode cX9_lay 79 = .ok (.iastore, 1) := by decide +kernel
theorem dX9_lay_80 : decode cX9_lay 80 = .ok (.aload_n 0, 1) := by decide +kernel
theorem dX9_lay_81 : decode cX9_lay 81 = .ok (.getfield 38, 3) := by decide +kernel
theorem dX9_lay_84 : decode cX9_lay 84 = .ok (.ireturn, 1) := by decide +kernel
theorem dX9_notes_0 : decode cX9_notes 0 = .ok (.aload_n 0, 1) := by decide +kernel
theorem dX9_notes_1 : decode cX9_notes 1 = .ok (.getfield 88, 3) := by decide +kernel
theorem dX9_notes_4 : decode cX9_notes 4 = .ok (.bipush 6, 2) := by decide +kernel
theorem dX9_notes_6 : decode cX9_notes 6 = .ok (.if_icmp .ne 43, 3) := by decide +kernel
theorem dX9_notes_9 : decode cX9_notes 9 = .ok (.iconst 0, 1) := by decide +kernel
theorem dX9_notes_10 : decode cX9_notes 10 = .ok (.istore_n 1, 1) := by decide +kernel
theorem dX9_notes_11 : decode cX9_notes 11 = .ok (.iload_n 1, 1) := by decide +kernel
theorem dX9_notes_12 : decode cX9_notes 12 = .ok (.sipush 225, 3) := by decide +kernel
theorem dX9_notes_15 : decode cX9_notes 15 = .ok (.if_icmp .ge 24, 3) := by decide +kernel
theorem dX9_notes_18 : decode cX9_notes 18 = .ok (.aload_n 0, 1) := by decide +kernel
theorem dX9_notes_19 : decode cX9_notes 19 = .ok (.getfield 16, 3) := by decide +kernel
theorem dX9_notes_22 : decode cX9_notes 22 = .ok (.iload_n 1, 1) := by decide +kernel
theorem dX9_notes_23 : decode cX9_notes 23 = .ok (.aload_n 0, 1) := by decide +kernel
theorem dX9_notes_24 : decode cX9_notes 24 = .ok (.getfield 16, 3) := by decide +kernel
theorem dX9_notes_27 : decode cX9_notes 27 = .ok (.iload_n 1, 1) := by decide +kernel
theorem dX9_notes_28 : decode cX9_notes 28 = .ok (.bipush 45, 2) := by decide +kernel
theorem dX9_notes_30 : decode cX9_notes 30 = .ok (.iadd, 1) := by decide +kernel
theorem dX9_notes_31 : decode cX9_notes 31 = .ok (.iaload, 1) := by decide +kernel
theorem dX9_notes_32 : decode cX9_notes 32 = .ok (.iastore, 1) := by decide +kernel
theorem dX9_notes_33 : decode cX9_notes 33 = .ok (.iinc 1 1, 3) := by decide +kernel
theorem dX9_notes_36 : decode cX9_notes 36 = .ok (.goto (-25), 3) := by decide +kernel
theorem dX9_notes_39 : decode cX9_notes 39 = .ok (.aload_n 0, 1) := by decide +kernel
theorem dX9_notes_40 : decode cX9_notes 40 = .ok (.dup, 1) := by decide +kernel
theorem dX9_notes_41 : decode cX9_notes 41 = .ok (.getfield 88, 3) := by decide +kernel
theorem dX9_notes_44 : decode cX9_notes 44 = .ok (.iconst 1, 1) := by decide +kernel
theorem dX9_notes_45 : decode cX9_notes 45 = .ok (.isub, 1) := by decide +kernel
theorem dX9_notes_46 : decode cX9_notes 46 = .ok (.putfield 88, 3) := by decide +kernel
theorem dX9_notes_49 : decode cX9_notes 49 = .ok (.iconst 0, 1) := by decide +kernel
theorem dX9_notes_50 : decode cX9_notes 50 = .ok (.istore_n 1, 1) := by decide +kernel
theorem dX9_notes_51 : decode cX9_notes 51 = .ok (.iload_n 1, 1) := by decide +kernel
theorem dX9_notes_52 : decode cX9_notes 52 = .ok (.bipush 45, 2) := by decide +kernel
theorem dX9_notes_54 : decode cX9_notes 54 = .ok (.if_icmp .ge 29, 3) := by decide +kernel
theorem dX9_notes_57 : decode cX9_notes 57 = .ok (.aload_n 0, 1) := by decide +kernel
theorem dX9_notes_58 : decode cX9_notes 58 = .ok (.getfield 16, 3) := by decide +kernel
theorem dX9_notes_61 : decode cX9_notes 61 = .ok (.bipush 45, 2) := by decide +kernel
theorem dX9_notes_63 : decode cX9_notes 63 = .ok (.aload_n 0, 1) := by decide +kernel
theorem dX9_notes_64 : decode cX9_notes 64 = .ok (.getfield 88, 3) := by decide +kernel
theorem dX9_notes_67 : decode cX9_notes 67 = .ok (.imul, 1) := by decide +kernel
theorem dX9_notes_68 : decode cX9_notes 68 = .ok (.iload_n 1, 1) := by decide +kernel
theorem dX9_notes_69 : decode cX9_notes 69 = .ok (.iadd, 1) := by decide +kernel
theorem dX9_notes_70 : decode cX9_notes 70 = .ok (.aload_n 0, 1) := by decide +kernel
theorem dX9_notes_71 : decode cX9_notes 71 = .ok (.getfield 13, 3) := by decide +kernel
theorem dX9_notes_74 : decode cX9_notes 74 = .ok (.iload_n 1, 1) := by decide +kernel
theorem dX9_notes_75 : decode cX9_notes 75 = .ok (.iaload, 1) := by decide +kernel
theorem dX9_notes_76 : decode cX9_notes 76 = .ok (.iastore, 1) := by decide +kernel
theorem dX9_notes_77 : decode cX9_notes 77 = .ok (.iinc 1 1, 3) := by decide +kernel
theorem dX9_notes_80 : decode cX9_notes 80 = .ok (.goto (-29), 3) := by decide +kernel
theorem dX9_notes_83 : decode cX9_notes 83 = .ok (.aload_n 0, 1) := by decide +kernel
theorem dX9_notes_84 : decode cX9_notes 84 = .ok (.dup, 1) := by decide +kernel
theorem dX9_notes_85 : decode cX9_notes 85 = .ok (.getfield 88, 3) := by decide +kernel
theorem dX9_notes_88 : decode cX9_notes 88 = .ok (.iconst 1, 1) := by decide +kernel
theorem dX9_notes_89 : decode cX9_notes 89 = .ok (.iadd, 1) := by decide +kernel
theorem dX9_notes_90 : decode cX9_notes 90 = .ok (.putfield 88, 3) := by decide +kernel
theorem dX9_notes_93 : decode cX9_notes 93 = .ok (.return_, 1) := by decide +kernel
theorem dX9_undo_0 : decode cX9_undo 0 = .ok (.aload_n 0, 1) := by decide +kernel
theorem dX9_undo_1 : decode cX9_undo 1 = .ok (.getfield 88, 3) := by decide +kernel
theorem dX9_undo_4 : decode cX9_undo 4 = .ok (.ifCond .ne 6, 3) := by decide +kernel
theorem dX9_undo_7 : decode cX9_undo 7 = .ok (.bipush (-2), 2) := by decide +kernel
theorem dX9_undo_9 : decode cX9_undo 9 = .ok (.ireturn, 1) := by decide +kernel
theorem dX9_undo_10 : decode cX9_undo 10 = .ok (.aload_n 0, 1) := by decide +kernel
theorem dX9_undo_11 : decode cX9_undo 11 = .ok (.dup, 1) := by decide +kernel
theorem dX9_undo_12 : decode cX9_undo 12 = .ok (.getfield 88, 3) := by decide +kernel
theorem dX9_undo_15 : decode cX9_undo 15 = .ok (.iconst 1, 1) := by decide +kernel
theorem dX9_undo_16 : decode cX9_undo 16 = .ok (.isub, 1) := by decide +kernel
theorem dX9_undo_17 : decode cX9_undo 17 = .ok (.putfield 88, 3) := by decide +kernel
theorem dX9_undo_20 : decode cX9_undo 20 = .ok (.iconst 0, 1) := by decide +kernel
theorem dX9_undo_21 : decode cX9_undo 21 = .ok (.istore_n 1, 1) := by decide +kernel
theorem dX9_undo_22 : decode cX9_undo 22 = .ok (.iload_n 1, 1) := by decide +kernel
theorem dX9_undo_23 : decode cX9_undo 23 = .ok (.bipush 45, 2) := by decide +kernel
theorem dX9_undo_25 : decode cX9_undo 25 = .ok (.if_icmp .ge 29, 3) := by decide +kernel
theorem dX9_undo_28 : decode cX9_undo 28 = .ok (.aload_n 0, 1) := by decide +kernel
theorem dX9_undo_29 : decode cX9_undo 29 = .ok (.getfield 13, 3) := by decide +kernel
theorem dX9_undo_32 : decode cX9_undo 32 = .ok (.iload_n 1, 1) := by decide +kernel
theorem dX9_undo_33 : decode cX9_undo 33 = .ok (.aload_n 0, 1) := by decide +kernel
theorem dX9_undo_34 : decode cX9_undo 34 = .ok (.getfield 16, 3) := by decide +kernel
theorem dX9_undo_37 : decode cX9_undo 37 = .ok (.bipush 45, 2) := by decide +kernel
theorem dX9_undo_39 : decode cX9_undo 39 = .ok (.aload_n 0, 1) := by decide +kernel
theorem dX9_undo_40 : decode cX9_undo 40 = .ok (.getfield 88, 3) := by decide +kernel
theorem dX9_undo_43 : decode cX9_undo 43 = .ok (.imul, 1) := by decide +kernel
theorem dX9_undo_44 : decode cX9_undo 44 = .ok (.iload_n 1, 1) := by decide +kernel
theorem dX9_undo_45 : decode cX9_undo 45 = .ok (.iadd, 1) := by decide +kernel
theorem dX9_undo_46 : decode cX9_undo 46 = .ok (.iaload, 1) := by decide +kernel
theorem dX9_undo_47 : decode cX9_undo 47 = .ok (.iastore, 1) := by decide +kernel
theorem dX9_undo_48 : decode cX9_undo 48 = .ok (.iinc 1 1, 3) := by decide +kernel
theorem dX9_undo_51 : decode cX9_undo 51 = .ok (.goto (-29), 3) := by decide +kernel
theorem dX9_undo_54 : decode cX9_undo 54 = .ok (.aload_n 0, 1) := by decide +kernel
theorem dX9_undo_55 : decode cX9_undo 55 = .ok (.getfield 88, 3) := by decide +kernel
theorem dX9_undo_58 : decode cX9_undo 58 = .ok (.ireturn, 1) := by decide +kernel
theorem dX9_isWire_0 : decode cX9_isWire 0 = .ok (.iload_n 1, 1) := by decide +kernel
theorem dX9_isWire_1 : decode cX9_isWire 1 = .ok (.iconst 0, 1) := by decide +kernel
theorem dX9_isWire_2 : decode cX9_isWire 2 = .ok (.aload_n 0, 1) := by decide +kernel
theorem dX9_isWire_3 : decode cX9_isWire 3 = .ok (.getfield 38, 3) := by decide +kernel
theorem dX9_isWire_6 : decode cX9_isWire 6 = .ok (.iconst 1, 1) := by decide +kernel
theorem dX9_isWire_7 : decode cX9_isWire 7 = .ok (.isub, 1) := by decide +kernel
theorem dX9_isWire_8 : decode cX9_isWire 8 = .ok (.invokestatic 54, 3) := by decide +kernel
theorem dX9_isWire_11 : decode cX9_isWire 11 = .ok (.ireturn, 1) := by decide +kernel
theorem dX9_becomes_0 : decode cX9_becomes 0 = .ok (.aload_n 0, 1) := by decide +kernel
theorem dX9_becomes_1 : decode cX9_becomes 1 = .ok (.getfield 13, 3) := by decide +kernel
theorem dX9_becomes_4 : decode cX9_becomes 4 = .ok (.iload_n 1, 1) := by decide +kernel
theorem dX9_becomes_5 : decode cX9_becomes 5 = .ok (.iaload, 1) := by decide +kernel
theorem dX9_becomes_6 : decode cX9_becomes 6 = .ok (.istore_n 3, 1) := by decide +kernel
theorem dX9_becomes_7 : decode cX9_becomes 7 = .ok (.iload_n 3, 1) := by decide +kernel
theorem dX9_becomes_8 : decode cX9_becomes 8 = .ok (.iload_n 2, 1) := by decide +kernel
theorem dX9_becomes_9 : decode cX9_becomes 9 = .ok (.if_icmp .ne 6, 3) := by decide +kernel
theorem dX9_becomes_12 : decode cX9_becomes 12 = .ok (.bipush (-2), 2) := by decide +kernel
theorem dX9_becomes_14 : decode cX9_becomes 14 = .ok (.ireturn, 1) := by decide +kernel
theorem dX9_becomes_15 : decode cX9_becomes 15 = .ok (.aload_n 0, 1) := by decide +kernel
theorem dX9_becomes_16 : decode cX9_becomes 16 = .ok (.invokevirtual 91, 3) := by decide +kernel
theorem dX9_becomes_19 : decode cX9_becomes 19 = .ok (.aload_n 0, 1) := by decide +kernel
theorem dX9_becomes_20 : decode cX9_becomes 20 = .ok (.getfield 13, 3) := by decide +kernel
theorem dX9_becomes_23 : decode cX9_becomes 23 = .ok (.iload_n 1, 1) := by decide +kernel
theorem dX9_becomes_24 : decode cX9_becomes 24 = .ok (.iload_n 2, 1) := by decide +kernel
theorem dX9_becomes_25 : decode cX9_becomes 25 = .ok (.iastore, 1) := by decide +kernel
theorem dX9_becomes_26 : decode cX9_becomes 26 = .ok (.iload_n 3, 1) := by decide +kernel
theorem dX9_becomes_27 : decode cX9_becomes 27 = .ok (.ireturn, 1) := by decide +kernel
theorem dX9_set_0 : decode cX9_set 0 = .ok (.aload_n 0, 1) := by decide +kernel
theorem dX9_set_1 : decode cX9_set 1 = .ok (.iload_n 1, 1) := by decide +kernel
theorem dX9_set_2 : decode cX9_set 2 = .ok (.invokevirtual 94, 3) := by decide +kernel
theorem dX9_set_5 : decode cX9_set 5 = .ok (.ifCond .eq 27, 3) := by decide +kernel
theorem dX9_set_8 : decode cX9_set 8 = .ok (.iload_n 2, 1) := by decide +kernel
theorem dX9_set_9 : decode cX9_set 9 = .ok (.iconst 0, 1) := by decide +kernel
theorem dX9_set_10 : decode cX9_set 10 = .ok (.iconst 4, 1) := by decide +kernel
theorem dX9_set_11 : decode cX9_set 11 = .ok (.invokestatic 54, 3) := by decide +kernel
theorem dX9_set_14 : decode cX9_set 14 = .ok (.ifCond .eq 18, 3) := by decide +kernel
theorem dX9_set_17 : decode cX9_set 17 = .ok (.iload_n 3, 1) := by decide +kernel
theorem dX9_set_18 : decode cX9_set 18 = .ok (.iload_n 2, 1) := by decide +kernel
theorem dX9_set_19 : decode cX9_set 19 = .ok (.invokestatic 61, 3) := by decide +kernel
theorem dX9_set_22 : decode cX9_set 22 = .ok (.iload_n 2, 1) := by decide +kernel
theorem dX9_set_23 : decode cX9_set 23 = .ok (.invokestatic 64, 3) := by decide +kernel
theorem dX9_set_26 : decode cX9_set 26 = .ok (.invokestatic 54, 3) := by decide +kernel
theorem dX9_set_29 : decode cX9_set 29 = .ok (.ifCond .ne 5, 3) := by decide +kernel
theorem dX9_set_32 : decode cX9_set 32 = .ok (.iconst (-1), 1) := by decide +kernel
theorem dX9_set_33 : decode cX9_set 33 = .ok (.ireturn, 1) := by decide +kernel
theorem dX9_set_34 : decode cX9_set 34 = .ok (.aload_n 0, 1) := by decide +kernel
theorem dX9_set_35 : decode cX9_set 35 = .ok (.iconst 5, 1) := by decide +kernel
theorem dX9_set_36 : decode cX9_set 36 = .ok (.iload_n 1, 1) := by decide +kernel
theorem dX9_set_37 : decode cX9_set 37 = .ok (.imul, 1) := by decide +kernel
theorem dX9_set_38 : decode cX9_set 38 = .ok (.iload_n 2, 1) := by decide +kernel
theorem dX9_set_39 : decode cX9_set 39 = .ok (.iadd, 1) := by decide +kernel
theorem dX9_set_40 : decode cX9_set 40 = .ok (.iload_n 3, 1) := by decide +kernel
theorem dX9_set_41 : decode cX9_set 41 = .ok (.invokevirtual 97, 3) := by decide +kernel
theorem dX9_set_44 : decode cX9_set 44 = .ok (.ireturn, 1) := by decide +kernel
theorem dX9_limit_0 : decode cX9_limit 0 = .ok (.iload_n 1, 1) := by decide +kernel
theorem dX9_limit_1 : decode cX9_limit 1 = .ok (.iconst 0, 1) := by decide +kernel
theorem dX9_limit_2 : decode cX9_limit 2 = .ok (.iconst 2, 1) := by decide +kernel
theorem dX9_limit_3 : decode cX9_limit 3 = .ok (.invokestatic 54, 3) := by decide +kernel
theorem dX9_limit_6 : decode cX9_limit 6 = .ok (.ifCond .eq 27, 3) := by decide +kernel
theorem dX9_limit_9 : decode cX9_limit 9 = .ok (.iload_n 2, 1) := by decide +kernel
theorem dX9_limit_10 : decode cX9_limit 10 = .ok (.iconst 1, 1) := by decide +kernel
theorem dX9_limit_11 : decode cX9_limit 11 = .ok (.iload_n 1, 1) := by decide +kernel
theorem dX9_limit_12 : decode cX9_limit 12 = .ok (.invokestatic 77, 3) := by decide +kernel
theorem dX9_limit_15 : decode cX9_limit 15 = .ok (.invokestatic 54, 3) := by decide +kernel
theorem dX9_limit_18 : decode cX9_limit 18 = .ok (.ifCond .eq 15, 3) := by decide +kernel
theorem dX9_limit_21 : decode cX9_limit 21 = .ok (.aload_n 0, 1) := by decide +kernel
theorem dX9_limit_22 : decode cX9_limit 22 = .ok (.bipush 40, 2) := by decide +kernel
theorem dX9_limit_24 : decode cX9_limit 24 = .ok (.iload_n 1, 1) := by decide +kernel
theorem dX9_limit_25 : decode cX9_limit 25 = .ok (.iadd, 1) := by decide +kernel
theorem dX9_limit_26 : decode cX9_limit 26 = .ok (.iload_n 2, 1) := by decide +kernel
theorem dX9_limit_27 : decode cX9_limit 27 = .ok (.invokevirtual 97, 3) := by decide +kernel
theorem dX9_limit_30 : decode cX9_limit 30 = .ok (.goto 4, 3) := by decide +kernel
theorem dX9_limit_33 : decode cX9_limit 33 = .ok (.iconst (-1), 1) := by decide +kernel
theorem dX9_limit_34 : decode cX9_limit 34 = .ok (.ireturn, 1) := by decide +kernel
theorem dX9_shift_0 : decode cX9_shift 0 = .ok (.iload_n 1, 1) := by decide +kernel
theorem dX9_shift_1 : decode cX9_shift 1 = .ok (.bipush (-9), 2) := by decide +kernel
theorem dX9_shift_3 : decode cX9_shift 3 = .ok (.bipush 9, 2) := by decide +kernel
theorem dX9_shift_5 : decode cX9_shift 5 = .ok (.invokestatic 54, 3) := by decide +kernel
theorem dX9_shift_8 : decode cX9_shift 8 = .ok (.ifCond .ne 5, 3) := by decide +kernel
theorem dX9_shift_11 : decode cX9_shift 11 = .ok (.iconst (-1), 1) := by decide +kernel
theorem dX9_shift_12 : decode cX9_shift 12 = .ok (.ireturn, 1) := by decide +kernel
theorem dX9_shift_13 : decode cX9_shift 13 = .ok (.aload_n 0, 1) := by decide +kernel
theorem dX9_shift_14 : decode cX9_shift 14 = .ok (.getfield 13, 3) := by decide +kernel
theorem dX9_shift_17 : decode cX9_shift 17 = .ok (.bipush 43, 2) := by decide +kernel
theorem dX9_shift_19 : decode cX9_shift 19 = .ok (.iaload, 1) := by decide +kernel
theorem dX9_shift_20 : decode cX9_shift 20 = .ok (.istore_n 2, 1) := by decide +kernel
theorem dX9_shift_21 : decode cX9_shift 21 = .ok (.iload_n 2, 1) := by decide +kernel
theorem dX9_shift_22 : decode cX9_shift 22 = .ok (.iload_n 1, 1) := by decide +kernel
theorem dX9_shift_23 : decode cX9_shift 23 = .ok (.if_icmp .ne 6, 3) := by decide +kernel
theorem dX9_shift_26 : decode cX9_shift 26 = .ok (.bipush (-2), 2) := by decide +kernel
theorem dX9_shift_28 : decode cX9_shift 28 = .ok (.ireturn, 1) := by decide +kernel
theorem dX9_shift_29 : decode cX9_shift 29 = .ok (.aload_n 0, 1) := by decide +kernel
theorem dX9_shift_30 : decode cX9_shift 30 = .ok (.invokevirtual 91, 3) := by decide +kernel
theorem dX9_shift_33 : decode cX9_shift 33 = .ok (.aload_n 0, 1) := by decide +kernel
theorem dX9_shift_34 : decode cX9_shift 34 = .ok (.getfield 13, 3) := by decide +kernel
theorem dX9_shift_37 : decode cX9_shift 37 = .ok (.bipush 43, 2) := by decide +kernel
theorem dX9_shift_39 : decode cX9_shift 39 = .ok (.iload_n 1, 1) := by decide +kernel
theorem dX9_shift_40 : decode cX9_shift 40 = .ok (.iastore, 1) := by decide +kernel
theorem dX9_shift_41 : decode cX9_shift 41 = .ok (.iload_n 2, 1) := by decide +kernel
theorem dX9_shift_42 : decode cX9_shift 42 = .ok (.ldc 101, 2) := by decide +kernel
theorem dX9_shift_44 : decode cX9_shift 44 = .ok (.iadd, 1) := by decide +kernel
theorem dX9_shift_45 : decode cX9_shift 45 = .ok (.ireturn, 1) := by decide +kernel
theorem dX9_placeOf_0 : decode cX9_placeOf 0 = .ok (.aload_n 0, 1) := by decide +kernel
theorem dX9_placeOf_1 : decode cX9_placeOf 1 = .ok (.getfield 13, 3) := by decide +kernel
theorem dX9_placeOf_4 : decode cX9_placeOf 4 = .ok (.iconst 5, 1) := by decide +kernel
theorem dX9_placeOf_5 : decode cX9_placeOf 5 = .ok (.iload_n 1, 1) := by decide +kernel
theorem dX9_placeOf_6 : decode cX9_placeOf 6 = .ok (.imul, 1) := by decide +kernel
theorem dX9_placeOf_7 : decode cX9_placeOf 7 = .ok (.iaload, 1) := by decide +kernel
theorem dX9_placeOf_8 : decode cX9_placeOf 8 = .ok (.aload_n 0, 1) := by decide +kernel
theorem dX9_placeOf_9 : decode cX9_placeOf 9 = .ok (.getfield 13, 3) := by decide +kernel
theorem dX9_placeOf_12 : decode cX9_placeOf 12 = .ok (.bipush 43, 2) := by decide +kernel
theorem dX9_placeOf_14 : decode cX9_placeOf 14 = .ok (.iaload, 1) := by decide +kernel
theorem dX9_placeOf_15 : decode cX9_placeOf 15 = .ok (.iadd, 1) := by decide +kernel
theorem dX9_placeOf_16 : decode cX9_placeOf 16 = .ok (.aload_n 0, 1) := by decide +kernel
theorem dX9_placeOf_17 : decode cX9_placeOf 17 = .ok (.getfield 34, 3) := by decide +kernel
theorem dX9_placeOf_20 : decode cX9_placeOf 20 = .ok (.iload_n 2, 1) := by decide +kernel
theorem dX9_placeOf_21 : decode cX9_placeOf 21 = .ok (.isub, 1) := by decide +kernel
theorem dX9_placeOf_22 : decode cX9_placeOf 22 = .ok (.imul, 1) := by decide +kernel
theorem dX9_placeOf_23 : decode cX9_placeOf 23 = .ok (.aload_n 0, 1) := by decide +kernel
theorem dX9_placeOf_24 : decode cX9_placeOf 24 = .ok (.getfield 13, 3) := by decide +kernel
theorem dX9_placeOf_27 : decode cX9_placeOf 27 = .ok (.iconst 5, 1) := by decide +kernel
theorem dX9_placeOf_28 : decode cX9_placeOf 28 = .ok (.iload_n 1, 1) := by decide +kernel
theorem dX9_placeOf_29 : decode cX9_placeOf 29 = .ok (.imul, 1) := by decide +kernel
theorem dX9_placeOf_30 : decode cX9_placeOf 30 = .ok (.iconst 2, 1) := by decide +kernel
theorem dX9_placeOf_31 : decode cX9_placeOf 31 = .ok (.iadd, 1) := by decide +kernel
theorem dX9_placeOf_32 : decode cX9_placeOf 32 = .ok (.iaload, 1) := by decide +kernel
theorem dX9_placeOf_33 : decode cX9_placeOf 33 = .ok (.iload_n 2, 1) := by decide +kernel
theorem dX9_placeOf_34 : decode cX9_placeOf 34 = .ok (.imul, 1) := by decide +kernel
theorem dX9_placeOf_35 : decode cX9_placeOf 35 = .ok (.iadd, 1) := by decide +kernel
theorem dX9_placeOf_36 : decode cX9_placeOf 36 = .ok (.ireturn, 1) := by decide +kernel
theorem dX9_heightOf_0 : decode cX9_heightOf 0 = .ok (.bipush 10, 2) := by decide +kernel
theorem dX9_heightOf_2 : decode cX9_heightOf 2 = .ok (.aload_n 0, 1) := by decide +kernel
theorem dX9_heightOf_3 : decode cX9_heightOf 3 = .ok (.getfield 13, 3) := by decide +kernel
theorem dX9_heightOf_6 : decode cX9_heightOf 6 = .ok (.iconst 5, 1) := by decide +kernel
theorem dX9_heightOf_7 : decode cX9_heightOf 7 = .ok (.iload_n 1, 1) := by decide +kernel
theorem dX9_heightOf_8 : decode cX9_heightOf 8 = .ok (.imul, 1) := by decide +kernel
theorem dX9_heightOf_9 : decode cX9_heightOf 9 = .ok (.iconst 1, 1) := by decide +kernel
theorem dX9_heightOf_10 : decode cX9_heightOf 10 = .ok (.iadd, 1) := by decide +kernel
theorem dX9_heightOf_11 : decode cX9_heightOf 11 = .ok (.iaload, 1) := by decide +kernel
theorem dX9_heightOf_12 : decode cX9_heightOf 12 = .ok (.imul, 1) := by decide +kernel
theorem dX9_heightOf_13 : decode cX9_heightOf 13 = .ok (.istore_n 3, 1) := by decide +kernel
theorem dX9_heightOf_14 : decode cX9_heightOf 14 = .ok (.aload_n 0, 1) := by decide +kernel
theorem dX9_heightOf_15 : decode cX9_heightOf 15 = .ok (.getfield 13, 3) := by decide +kernel
theorem dX9_heightOf_18 : decode cX9_heightOf 18 = .ok (.iconst 5, 1) := by decide +kernel
theorem dX9_heightOf_19 : decode cX9_heightOf 19 = .ok (.iload_n 1, 1) := by decide +kernel
theorem dX9_heightOf_20 : decode cX9_heightOf 20 = .ok (.imul, 1) := by decide +kernel
theorem dX9_heightOf_21 : decode cX9_heightOf 21 = .ok (.iconst 4, 1) := by decide +kernel
theorem dX9_heightOf_22 : decode cX9_heightOf 22 = .ok (.iadd, 1) := by decide +kernel
theorem dX9_heightOf_23 : decode cX9_heightOf 23 = .ok (.iaload, 1) := by decide +kernel
theorem dX9_heightOf_24 : decode cX9_heightOf 24 = .ok (.istore 4, 2) := by decide +kernel
theorem dX9_heightOf_26 : decode cX9_heightOf 26 = .ok (.iload_n 2, 1) := by decide +kernel
theorem dX9_heightOf_27 : decode cX9_heightOf 27 = .ok (.ifCond .eq 11, 3) := by decide +kernel
theorem dX9_heightOf_30 : decode cX9_heightOf 30 = .ok (.iload_n 2, 1) := by decide +kernel
theorem dX9_heightOf_31 : decode cX9_heightOf 31 = .ok (.aload_n 0, 1) := by decide +kernel
theorem dX9_heightOf_32 : decode cX9_heightOf 32 = .ok (.getfield 34, 3) := by decide +kernel
theorem dX9_heightOf_35 : decode cX9_heightOf 35 = .ok (.if_icmp .ne 13, 3) := by decide +kernel
theorem dX9_heightOf_38 : decode cX9_heightOf 38 = .ok (.iload_n 2, 1) := by decide +kernel
theorem dX9_heightOf_39 : decode cX9_heightOf 39 = .ok (.ifCond .ne 7, 3) := by decide +kernel
theorem dX9_heightOf_42 : decode cX9_heightOf 42 = .ok (.iload_n 3, 1) := by decide +kernel
theorem dX9_heightOf_43 : decode cX9_heightOf 43 = .ok (.goto 4, 3) := by decide +kernel
theorem dX9_heightOf_46 : decode cX9_heightOf 46 = .ok (.iconst 0, 1) := by decide +kernel
theorem dX9_heightOf_47 : decode cX9_heightOf 47 = .ok (.ireturn, 1) := by decide +kernel
theorem dX9_heightOf_48 : decode cX9_heightOf 48 = .ok (.aload_n 0, 1) := by decide +kernel
theorem dX9_heightOf_49 : decode cX9_heightOf 49 = .ok (.getfield 13, 3) := by decide +kernel
theorem dX9_heightOf_52 : decode cX9_heightOf 52 = .ok (.iconst 5, 1) := by decide +kernel
theorem dX9_heightOf_53 : decode cX9_heightOf 53 = .ok (.iload_n 1, 1) := by decide +kernel
theorem dX9_heightOf_54 : decode cX9_heightOf 54 = .ok (.imul, 1) := by decide +kernel
theorem dX9_heightOf_55 : decode cX9_heightOf 55 = .ok (.iconst 3, 1) := by decide +kernel
theorem dX9_heightOf_56 : decode cX9_heightOf 56 = .ok (.iadd, 1) := by decide +kernel
theorem dX9_heightOf_57 : decode cX9_heightOf 57 = .ok (.iaload, 1) := by decide +kernel
theorem dX9_heightOf_58 : decode cX9_heightOf 58 = .ok (.ifCond .ne 8, 3) := by decide +kernel
theorem dX9_heightOf_61 : decode cX9_heightOf 61 = .ok (.iload_n 3, 1) := by decide +kernel
theorem dX9_heightOf_62 : decode cX9_heightOf 62 = .ok (.iload 4, 2) := by decide +kernel
theorem dX9_heightOf_64 : decode cX9_heightOf 64 = .ok (.iadd, 1) := by decide +kernel
theorem dX9_heightOf_65 : decode cX9_heightOf 65 = .ok (.ireturn, 1) := by decide +kernel
theorem dX9_heightOf_66 : decode cX9_heightOf 66 = .ok (.aload_n 0, 1) := by decide +kernel
theorem dX9_heightOf_67 : decode cX9_heightOf 67 = .ok (.getfield 13, 3) := by decide +kernel
theorem dX9_heightOf_70 : decode cX9_heightOf 70 = .ok (.iconst 5, 1) := by decide +kernel
theorem dX9_heightOf_71 : decode cX9_heightOf 71 = .ok (.iload_n 1, 1) := by decide +kernel
theorem dX9_heightOf_72 : decode cX9_heightOf 72 = .ok (.imul, 1) := by decide +kernel
theorem dX9_heightOf_73 : decode cX9_heightOf 73 = .ok (.iconst 3, 1) := by decide +kernel
theorem dX9_heightOf_74 : decode cX9_heightOf 74 = .ok (.iadd, 1) := by decide +kernel
theorem dX9_heightOf_75 : decode cX9_heightOf 75 = .ok (.iaload, 1) := by decide +kernel
theorem dX9_heightOf_76 : decode cX9_heightOf 76 = .ok (.iconst 1, 1) := by decide +kernel
theorem dX9_heightOf_77 : decode cX9_heightOf 77 = .ok (.if_icmp .ne 41, 3) := by decide +kernel
theorem dX9_heightOf_80 : decode cX9_heightOf 80 = .ok (.iload_n 3, 1) := by decide +kernel
theorem dX9_heightOf_81 : decode cX9_heightOf 81 = .ok (.aload_n 0, 1) := by decide +kernel
theorem dX9_heightOf_82 : decode cX9_heightOf 82 = .ok (.getfield 34, 3) := by decide +kernel
theorem dX9_heightOf_85 : decode cX9_heightOf 85 = .ok (.iload_n 2, 1) := by decide +kernel
theorem dX9_heightOf_86 : decode cX9_heightOf 86 = .ok (.isub, 1) := by decide +kernel
theorem dX9_heightOf_87 : decode cX9_heightOf 87 = .ok (.imul, 1) := by decide +kernel
theorem dX9_heightOf_88 : decode cX9_heightOf 88 = .ok (.aload_n 0, 1) := by decide +kernel
theorem dX9_heightOf_89 : decode cX9_heightOf 89 = .ok (.getfield 34, 3) := by decide +kernel
theorem dX9_heightOf_92 : decode cX9_heightOf 92 = .ok (.idiv, 1) := by decide +kernel
theorem dX9_heightOf_93 : decode cX9_heightOf 93 = .ok (.iconst 4, 1) := by decide +kernel
theorem dX9_heightOf_94 : decode cX9_heightOf 94 = .ok (.iload 4, 2) := by decide +kernel
theorem dX9_heightOf_96 : decode cX9_heightOf 96 = .ok (.imul, 1) := by decide +kernel
theorem dX9_heightOf_97 : decode cX9_heightOf 97 = .ok (.iload_n 2, 1) := by decide +kernel
theorem dX9_heightOf_98 : decode cX9_heightOf 98 = .ok (.imul, 1) := by decide +kernel
theorem dX9_heightOf_99 : decode cX9_heightOf 99 = .ok (.aload_n 0, 1) := by decide +kernel
theorem dX9_heightOf_100 : decode cX9_heightOf 100 = .ok (.getfield 34, 3) := by decide +kernel
theorem dX9_heightOf_103 : decode cX9_heightOf 103 = .ok (.iload_n 2, 1) := by decide +kernel
theorem dX9_heightOf_104 : decode cX9_heightOf 104 = .ok (.isub, 1) := by decide +kernel
theorem dX9_heightOf_105 : decode cX9_heightOf 105 = .ok (.imul, 1) := by decide +kernel
theorem dX9_heightOf_106 : decode cX9_heightOf 106 = .ok (.aload_n 0, 1) := by decide +kernel
theorem dX9_heightOf_107 : decode cX9_heightOf 107 = .ok (.getfield 34, 3) := by decide +kernel
theorem dX9_heightOf_110 : decode cX9_heightOf 110 = .ok (.aload_n 0, 1) := by decide +kernel
theorem dX9_heightOf_111 : decode cX9_heightOf 111 = .ok (.getfield 34, 3) := by decide +kernel
theorem dX9_heightOf_114 : decode cX9_heightOf 114 = .ok (.imul, 1) := by decide +kernel
theorem dX9_heightOf_115 : decode cX9_heightOf 115 = .ok (.idiv, 1) := by decide +kernel
theorem dX9_heightOf_116 : decode cX9_heightOf 116 = .ok (.iadd, 1) := by decide +kernel
theorem dX9_heightOf_117 : decode cX9_heightOf 117 = .ok (.ireturn, 1) := by decide +kernel
theorem dX9_heightOf_118 : decode cX9_heightOf 118 = .ok (.aload_n 0, 1) := by decide +kernel
theorem dX9_heightOf_119 : decode cX9_heightOf 119 = .ok (.getfield 34, 3) := by decide +kernel
theorem dX9_heightOf_122 : decode cX9_heightOf 122 = .ok (.iconst 4, 1) := by decide +kernel
theorem dX9_heightOf_123 : decode cX9_heightOf 123 = .ok (.idiv, 1) := by decide +kernel
theorem dX9_heightOf_124 : decode cX9_heightOf 124 = .ok (.istore 5, 2) := by decide +kernel
theorem dX9_heightOf_126 : decode cX9_heightOf 126 = .ok (.iload_n 2, 1) := by decide +kernel
theorem dX9_heightOf_127 : decode cX9_heightOf 127 = .ok (.iload 5, 2) := by decide +kernel
theorem dX9_heightOf_129 : decode cX9_heightOf 129 = .ok (.if_icmp .ge 15, 3) := by decide +kernel
theorem dX9_heightOf_132 : decode cX9_heightOf 132 = .ok (.iload_n 3, 1) := by decide +kernel
theorem dX9_heightOf_133 : decode cX9_heightOf 133 = .ok (.iload 4, 2) := by decide +kernel
theorem dX9_heightOf_135 : decode cX9_heightOf 135 = .ok (.iload_n 2, 1) := by decide +kernel
theorem dX9_heightOf_136 : decode cX9_heightOf 136 = .ok (.imul, 1) := by decide +kernel
theorem dX9_heightOf_137 : decode cX9_heightOf 137 = .ok (.iload 5, 2) := by decide +kernel
theorem dX9_heightOf_139 : decode cX9_heightOf 139 = .ok (.idiv, 1) := by decide +kernel
theorem dX9_heightOf_140 : decode cX9_heightOf 140 = .ok (.iadd, 1) := by decide +kernel
theorem dX9_heightOf_141 : decode cX9_heightOf 141 = .ok (.goto 22, 3) := by decide +kernel
theorem dX9_heightOf_144 : decode cX9_heightOf 144 = .ok (.iload_n 3, 1) := by decide +kernel
theorem dX9_heightOf_145 : decode cX9_heightOf 145 = .ok (.iload 4, 2) := by decide +kernel
theorem dX9_heightOf_147 : decode cX9_heightOf 147 = .ok (.iadd, 1) := by decide +kernel
theorem dX9_heightOf_148 : decode cX9_heightOf 148 = .ok (.aload_n 0, 1) := by decide +kernel
theorem dX9_heightOf_149 : decode cX9_heightOf 149 = .ok (.getfield 34, 3) := by decide +kernel
theorem dX9_heightOf_152 : decode cX9_heightOf 152 = .ok (.iload_n 2, 1) := by decide +kernel
theorem dX9_heightOf_153 : decode cX9_heightOf 153 = .ok (.isub, 1) := by decide +kernel
theorem dX9_heightOf_154 : decode cX9_heightOf 154 = .ok (.imul, 1) := by decide +kernel
theorem dX9_heightOf_155 : decode cX9_heightOf 155 = .ok (.aload_n 0, 1) := by decide +kernel
theorem dX9_heightOf_156 : decode cX9_heightOf 156 = .ok (.getfield 34, 3) := by decide +kernel
theorem dX9_heightOf_159 : decode cX9_heightOf 159 = .ok (.iload 5, 2) := by decide +kernel
theorem dX9_heightOf_161 : decode cX9_heightOf 161 = .ok (.isub, 1) := by decide +kernel
theorem dX9_heightOf_162 : decode cX9_heightOf 162 = .ok (.idiv, 1) := by decide +kernel
theorem dX9_heightOf_163 : decode cX9_heightOf 163 = .ok (.ireturn, 1) := by decide +kernel
theorem dX9_longOf_0 : decode cX9_longOf 0 = .ok (.aload_n 0, 1) := by decide +kernel
theorem dX9_longOf_1 : decode cX9_longOf 1 = .ok (.getfield 34, 3) := by decide +kernel
theorem dX9_longOf_4 : decode cX9_longOf 4 = .ok (.aload_n 0, 1) := by decide +kernel
theorem dX9_longOf_5 : decode cX9_longOf 5 = .ok (.iload_n 1, 1) := by decide +kernel
theorem dX9_longOf_6 : decode cX9_longOf 6 = .ok (.iconst 0, 1) := by decide +kernel
theorem dX9_longOf_7 : decode cX9_longOf 7 = .ok (.invokevirtual 102, 3) := by decide +kernel
theorem dX9_longOf_10 : decode cX9_longOf 10 = .ok (.aload_n 0, 1) := by decide +kernel
theorem dX9_longOf_11 : decode cX9_longOf 11 = .ok (.iload_n 1, 1) := by decide +kernel
theorem dX9_longOf_12 : decode cX9_longOf 12 = .ok (.aload_n 0, 1) := by decide +kernel
theorem dX9_longOf_13 : decode cX9_longOf 13 = .ok (.getfield 34, 3) := by decide +kernel
theorem dX9_longOf_16 : decode cX9_longOf 16 = .ok (.invokevirtual 102, 3) := by decide +kernel
theorem dX9_longOf_19 : decode cX9_longOf 19 = .ok (.invokestatic 105, 3) := by decide +kernel
theorem dX9_longOf_22 : decode cX9_longOf 22 = .ok (.aload_n 0, 1) := by decide +kernel
theorem dX9_longOf_23 : decode cX9_longOf 23 = .ok (.getfield 34, 3) := by decide +kernel
theorem dX9_longOf_26 : decode cX9_longOf 26 = .ok (.idiv, 1) := by decide +kernel
theorem dX9_longOf_27 : decode cX9_longOf 27 = .ok (.iadd, 1) := by decide +kernel
theorem dX9_longOf_28 : decode cX9_longOf 28 = .ok (.istore_n 2, 1) := by decide +kernel
theorem dX9_longOf_29 : decode cX9_longOf 29 = .ok (.iconst 0, 1) := by decide +kernel
theorem dX9_longOf_30 : decode cX9_longOf 30 = .ok (.istore_n 3, 1) := by decide +kernel
theorem dX9_longOf_31 : decode cX9_longOf 31 = .ok (.iload_n 3, 1) := by decide +kernel
theorem dX9_longOf_32 : decode cX9_longOf 32 = .ok (.aload_n 0, 1) := by decide +kernel
theorem dX9_longOf_33 : decode cX9_longOf 33 = .ok (.getfield 34, 3) := by decide +kernel
theorem dX9_longOf_36 : decode cX9_longOf 36 = .ok (.if_icmp .ge 29, 3) := by decide +kernel
theorem dX9_longOf_39 : decode cX9_longOf 39 = .ok (.iload_n 2, 1) := by decide +kernel
theorem dX9_longOf_40 : decode cX9_longOf 40 = .ok (.aload_n 0, 1) := by decide +kernel
theorem dX9_longOf_41 : decode cX9_longOf 41 = .ok (.iload_n 1, 1) := by decide +kernel
theorem dX9_longOf_42 : decode cX9_longOf 42 = .ok (.iload_n 3, 1) := by decide +kernel
theorem dX9_longOf_43 : decode cX9_longOf 43 = .ok (.invokevirtual 108, 3) := by decide +kernel
theorem dX9_longOf_46 : decode cX9_longOf 46 = .ok (.aload_n 0, 1) := by decide +kernel
theorem dX9_longOf_47 : decode cX9_longOf 47 = .ok (.iload_n 1, 1) := by decide +kernel
theorem dX9_longOf_48 : decode cX9_longOf 48 = .ok (.iload_n 3, 1) := by decide +kernel
theorem dX9_longOf_49 : decode cX9_longOf 49 = .ok (.iconst 1, 1) := by decide +kernel
theorem dX9_longOf_50 : decode cX9_longOf 50 = .ok (.iadd, 1) := by decide +kernel
theorem dX9_longOf_51 : decode cX9_longOf 51 = .ok (.invokevirtual 108, 3) := by decide +kernel
theorem dX9_longOf_54 : decode cX9_longOf 54 = .ok (.invokestatic 105, 3) := by decide +kernel
theorem dX9_longOf_57 : decode cX9_longOf 57 = .ok (.iadd, 1) := by decide +kernel
theorem dX9_longOf_58 : decode cX9_longOf 58 = .ok (.istore_n 2, 1) := by decide +kernel
theorem dX9_longOf_59 : decode cX9_longOf 59 = .ok (.iinc 3 1, 3) := by decide +kernel
theorem dX9_longOf_62 : decode cX9_longOf 62 = .ok (.goto (-31), 3) := by decide +kernel
theorem dX9_longOf_65 : decode cX9_longOf 65 = .ok (.iload_n 2, 1) := by decide +kernel
theorem dX9_longOf_66 : decode cX9_longOf 66 = .ok (.ireturn, 1) := by decide +kernel
theorem dX9_topOf_0 : decode cX9_topOf 0 = .ok (.iconst 0, 1) := by decide +kernel
theorem dX9_topOf_1 : decode cX9_topOf 1 = .ok (.istore_n 2, 1) := by decide +kernel
theorem dX9_topOf_2 : decode cX9_topOf 2 = .ok (.iconst 1, 1) := by decide +kernel
theorem dX9_topOf_3 : decode cX9_topOf 3 = .ok (.istore_n 3, 1) := by decide +kernel
theorem dX9_topOf_4 : decode cX9_topOf 4 = .ok (.iload_n 3, 1) := by decide +kernel
theorem dX9_topOf_5 : decode cX9_topOf 5 = .ok (.aload_n 0, 1) := by decide +kernel
theorem dX9_topOf_6 : decode cX9_topOf 6 = .ok (.getfield 34, 3) := by decide +kernel
theorem dX9_topOf_9 : decode cX9_topOf 9 = .ok (.if_icmp .gt 30, 3) := by decide +kernel
theorem dX9_topOf_12 : decode cX9_topOf 12 = .ok (.aload_n 0, 1) := by decide +kernel
theorem dX9_topOf_13 : decode cX9_topOf 13 = .ok (.iload_n 1, 1) := by decide +kernel
theorem dX9_topOf_14 : decode cX9_topOf 14 = .ok (.iload_n 3, 1) := by decide +kernel
theorem dX9_topOf_15 : decode cX9_topOf 15 = .ok (.invokevirtual 108, 3) := by decide +kernel
theorem dX9_topOf_18 : decode cX9_topOf 18 = .ok (.aload_n 0, 1) := by decide +kernel
theorem dX9_topOf_19 : decode cX9_topOf 19 = .ok (.iload_n 1, 1) := by decide +kernel
theorem dX9_topOf_20 : decode cX9_topOf 20 = .ok (.iload_n 2, 1) := by decide +kernel
theorem dX9_topOf_21 : decode cX9_topOf 21 = .ok (.invokevirtual 108, 3) := by decide +kernel
theorem dX9_topOf_24 : decode cX9_topOf 24 = .ok (.if_icmp .le 7, 3) := by decide +kernel
theorem dX9_topOf_27 : decode cX9_topOf 27 = .ok (.iload_n 3, 1) := by decide +kernel
theorem dX9_topOf_28 : decode cX9_topOf 28 = .ok (.goto 4, 3) := by decide +kernel
theorem dX9_topOf_31 : decode cX9_topOf 31 = .ok (.iload_n 2, 1) := by decide +kernel
theorem dX9_topOf_32 : decode cX9_topOf 32 = .ok (.istore_n 2, 1) := by decide +kernel
theorem dX9_topOf_33 : decode cX9_topOf 33 = .ok (.iinc 3 1, 3) := by decide +kernel
theorem dX9_topOf_36 : decode cX9_topOf 36 = .ok (.goto (-32), 3) := by decide +kernel
theorem dX9_topOf_39 : decode cX9_topOf 39 = .ok (.iload_n 2, 1) := by decide +kernel
theorem dX9_topOf_40 : decode cX9_topOf 40 = .ok (.ireturn, 1) := by decide +kernel
theorem dX9_wire_0 : decode cX9_wire 0 = .ok (.aload_n 0, 1) := by decide +kernel
theorem dX9_wire_1 : decode cX9_wire 1 = .ok (.iload_n 1, 1) := by decide +kernel
theorem dX9_wire_2 : decode cX9_wire 2 = .ok (.invokevirtual 94, 3) := by decide +kernel
theorem dX9_wire_5 : decode cX9_wire 5 = .ok (.ifCond .eq 13, 3) := by decide +kernel
theorem dX9_wire_8 : decode cX9_wire 8 = .ok (.iload_n 2, 1) := by decide +kernel
theorem dX9_wire_9 : decode cX9_wire 9 = .ok (.iconst 0, 1) := by decide +kernel
theorem dX9_wire_10 : decode cX9_wire 10 = .ok (.bipush 8, 2) := by decide +kernel
theorem dX9_wire_12 : decode cX9_wire 12 = .ok (.invokestatic 54, 3) := by decide +kernel
theorem dX9_wire_15 : decode cX9_wire 15 = .ok (.ifCond .ne 5, 3) := by decide +kernel
theorem dX9_wire_18 : decode cX9_wire 18 = .ok (.iconst (-1), 1) := by decide +kernel
theorem dX9_wire_19 : decode cX9_wire 19 = .ok (.ireturn, 1) := by decide +kernel
theorem dX9_wire_20 : decode cX9_wire 20 = .ok (.iload_n 2, 1) := by decide +kernel
theorem dX9_wire_21 : decode cX9_wire 21 = .ok (.tableswitch 66 5 8 #[31, 43, 49, 60], 31) := by decide +kernel
theorem dX9_wire_52 : decode cX9_wire 52 = .ok (.aload_n 0, 1) := by decide +kernel
theorem dX9_wire_53 : decode cX9_wire 53 = .ok (.getfield 13, 3) := by decide +kernel
theorem dX9_wire_56 : decode cX9_wire 56 = .ok (.bipush 44, 2) := by decide +kernel
theorem dX9_wire_58 : decode cX9_wire 58 = .ok (.iaload, 1) := by decide +kernel
theorem dX9_wire_59 : decode cX9_wire 59 = .ok (.iload_n 1, 1) := by decide +kernel
theorem dX9_wire_60 : decode cX9_wire 60 = .ok (.ishr, 1) := by decide +kernel
theorem dX9_wire_61 : decode cX9_wire 61 = .ok (.iconst 1, 1) := by decide +kernel
theorem dX9_wire_62 : decode cX9_wire 62 = .ok (.iand, 1) := by decide +kernel
theorem dX9_wire_63 : decode cX9_wire 63 = .ok (.ireturn, 1) := by decide +kernel
theorem dX9_wire_64 : decode cX9_wire 64 = .ok (.aload_n 0, 1) := by decide +kernel
theorem dX9_wire_65 : decode cX9_wire 65 = .ok (.iload_n 1, 1) := by decide +kernel
theorem dX9_wire_66 : decode cX9_wire 66 = .ok (.invokevirtual 111, 3) := by decide +kernel
theorem dX9_wire_69 : decode cX9_wire 69 = .ok (.ireturn, 1) := by decide +kernel
theorem dX9_wire_70 : decode cX9_wire 70 = .ok (.aload_n 0, 1) := by decide +kernel
theorem dX9_wire_71 : decode cX9_wire 71 = .ok (.iload_n 1, 1) := by decide +kernel
theorem dX9_wire_72 : decode cX9_wire 72 = .ok (.aload_n 0, 1) := by decide +kernel
theorem dX9_wire_73 : decode cX9_wire 73 = .ok (.iload_n 1, 1) := by decide +kernel
theorem dX9_wire_74 : decode cX9_wire 74 = .ok (.invokevirtual 114, 3) := by decide +kernel
theorem dX9_wire_77 : decode cX9_wire 77 = .ok (.invokevirtual 108, 3) := by decide +kernel
theorem dX9_wire_80 : decode cX9_wire 80 = .ok (.ireturn, 1) := by decide +kernel
theorem dX9_wire_81 : decode cX9_wire 81 = .ok (.aload_n 0, 1) := by decide +kernel
theorem dX9_wire_82 : decode cX9_wire 82 = .ok (.iload_n 1, 1) := by decide +kernel
theorem dX9_wire_83 : decode cX9_wire 83 = .ok (.invokevirtual 114, 3) := by decide +kernel
theorem dX9_wire_86 : decode cX9_wire 86 = .ok (.ireturn, 1) := by decide +kernel
theorem dX9_wire_87 : decode cX9_wire 87 = .ok (.aload_n 0, 1) := by decide +kernel
theorem dX9_wire_88 : decode cX9_wire 88 = .ok (.getfield 13, 3) := by decide +kernel
theorem dX9_wire_91 : decode cX9_wire 91 = .ok (.iconst 5, 1) := by decide +kernel
theorem dX9_wire_92 : decode cX9_wire 92 = .ok (.iload_n 1, 1) := by decide +kernel
theorem dX9_wire_93 : decode cX9_wire 93 = .ok (.imul, 1) := by decide +kernel
theorem dX9_wire_94 : decode cX9_wire 94 = .ok (.iload_n 2, 1) := by decide +kernel
theorem dX9_wire_95 : decode cX9_wire 95 = .ok (.iadd, 1) := by decide +kernel
theorem dX9_wire_96 : decode cX9_wire 96 = .ok (.iaload, 1) := by decide +kernel
theorem dX9_wire_97 : decode cX9_wire 97 = .ok (.ireturn, 1) := by decide +kernel
theorem dX9_place_0 : decode cX9_place 0 = .ok (.aload_n 0, 1) := by decide +kernel
theorem dX9_place_1 : decode cX9_place 1 = .ok (.iload_n 1, 1) := by decide +kernel
theorem dX9_place_2 : decode cX9_place 2 = .ok (.invokevirtual 94, 3) := by decide +kernel
theorem dX9_place_5 : decode cX9_place 5 = .ok (.ifCond .eq 27, 3) := by decide +kernel
theorem dX9_place_8 : decode cX9_place 8 = .ok (.iload_n 2, 1) := by decide +kernel
theorem dX9_place_9 : decode cX9_place 9 = .ok (.iconst 0, 1) := by decide +kernel
theorem dX9_place_10 : decode cX9_place 10 = .ok (.aload_n 0, 1) := by decide +kernel
theorem dX9_place_11 : decode cX9_place 11 = .ok (.getfield 34, 3) := by decide +kernel
theorem dX9_place_14 : decode cX9_place 14 = .ok (.invokestatic 54, 3) := by decide +kernel
theorem dX9_place_17 : decode cX9_place 17 = .ok (.ifCond .eq 15, 3) := by decide +kernel
theorem dX9_place_20 : decode cX9_place 20 = .ok (.aload_n 0, 1) := by decide +kernel
theorem dX9_place_21 : decode cX9_place 21 = .ok (.iload_n 1, 1) := by decide +kernel
theorem dX9_place_22 : decode cX9_place 22 = .ok (.iload_n 2, 1) := by decide +kernel
theorem dX9_place_23 : decode cX9_place 23 = .ok (.invokevirtual 102, 3) := by decide +kernel
theorem dX9_place_26 : decode cX9_place 26 = .ok (.ldc 101, 2) := by decide +kernel
theorem dX9_place_28 : decode cX9_place 28 = .ok (.iadd, 1) := by decide +kernel
theorem dX9_place_29 : decode cX9_place 29 = .ok (.goto 4, 3) := by decide +kernel
theorem dX9_place_32 : decode cX9_place 32 = .ok (.iconst (-1), 1) := by decide +kernel
theorem dX9_place_33 : decode cX9_place 33 = .ok (.ireturn, 1) := by decide +kernel
theorem dX9_height_0 : decode cX9_height 0 = .ok (.aload_n 0, 1) := by decide +kernel
theorem dX9_height_1 : decode cX9_height 1 = .ok (.iload_n 1, 1) := by decide +kernel
theorem dX9_height_2 : decode cX9_height 2 = .ok (.invokevirtual 94, 3) := by decide +kernel
theorem dX9_height_5 : decode cX9_height 5 = .ok (.ifCond .eq 24, 3) := by decide +kernel
theorem dX9_height_8 : decode cX9_height 8 = .ok (.iload_n 2, 1) := by decide +kernel
theorem dX9_height_9 : decode cX9_height 9 = .ok (.iconst 0, 1) := by decide +kernel
theorem dX9_height_10 : decode cX9_height 10 = .ok (.aload_n 0, 1) := by decide +kernel
theorem dX9_height_11 : decode cX9_height 11 = .ok (.getfield 34, 3) := by decide +kernel
theorem dX9_height_14 : decode cX9_height 14 = .ok (.invokestatic 54, 3) := by decide +kernel
theorem dX9_height_17 : decode cX9_height 17 = .ok (.ifCond .eq 12, 3) := by decide +kernel
theorem dX9_height_20 : decode cX9_height 20 = .ok (.aload_n 0, 1) := by decide +kernel
theorem dX9_height_21 : decode cX9_height 21 = .ok (.iload_n 1, 1) := by decide +kernel
theorem dX9_height_22 : decode cX9_height 22 = .ok (.iload_n 2, 1) := by decide +kernel
theorem dX9_height_23 : decode cX9_height 23 = .ok (.invokevirtual 108, 3) := by decide +kernel
theorem dX9_height_26 : decode cX9_height 26 = .ok (.goto 4, 3) := by decide +kernel
theorem dX9_height_29 : decode cX9_height 29 = .ok (.iconst (-1), 1) := by decide +kernel
theorem dX9_height_30 : decode cX9_height 30 = .ok (.ireturn, 1) := by decide +kernel
theorem dX9_areNear_0 : decode cX9_areNear 0 = .ok (.aload_n 0, 1) := by decide +kernel
theorem dX9_areNear_1 : decode cX9_areNear 1 = .ok (.iload_n 1, 1) := by decide +kernel
theorem dX9_areNear_2 : decode cX9_areNear 2 = .ok (.iload_n 3, 1) := by decide +kernel
theorem dX9_areNear_3 : decode cX9_areNear 3 = .ok (.invokevirtual 102, 3) := by decide +kernel
theorem dX9_areNear_6 : decode cX9_areNear 6 = .ok (.aload_n 0, 1) := by decide +kernel
theorem dX9_areNear_7 : decode cX9_areNear 7 = .ok (.iload_n 2, 1) := by decide +kernel
theorem dX9_areNear_8 : decode cX9_areNear 8 = .ok (.iload_n 3, 1) := by decide +kernel
theorem dX9_areNear_9 : decode cX9_areNear 9 = .ok (.invokevirtual 102, 3) := by decide +kernel
theorem dX9_areNear_12 : decode cX9_areNear 12 = .ok (.invokestatic 105, 3) := by decide +kernel
theorem dX9_areNear_15 : decode cX9_areNear 15 = .ok (.aload_n 0, 1) := by decide +kernel
theorem dX9_areNear_16 : decode cX9_areNear 16 = .ok (.getfield 13, 3) := by decide +kernel
theorem dX9_areNear_19 : decode cX9_areNear 19 = .ok (.bipush 40, 2) := by decide +kernel
theorem dX9_areNear_21 : decode cX9_areNear 21 = .ok (.iaload, 1) := by decide +kernel
theorem dX9_areNear_22 : decode cX9_areNear 22 = .ok (.aload_n 0, 1) := by decide +kernel
theorem dX9_areNear_23 : decode cX9_areNear 23 = .ok (.getfield 34, 3) := by decide +kernel
theorem dX9_areNear_26 : decode cX9_areNear 26 = .ok (.imul, 1) := by decide +kernel
theorem dX9_areNear_27 : decode cX9_areNear 27 = .ok (.if_icmp .ge 32, 3) := by decide +kernel
theorem dX9_areNear_30 : decode cX9_areNear 30 = .ok (.aload_n 0, 1) := by decide +kernel
theorem dX9_areNear_31 : decode cX9_areNear 31 = .ok (.iload_n 1, 1) := by decide +kernel
theorem dX9_areNear_32 : decode cX9_areNear 32 = .ok (.iload_n 3, 1) := by decide +kernel
theorem dX9_areNear_33 : decode cX9_areNear 33 = .ok (.invokevirtual 108, 3) := by decide +kernel
theorem dX9_areNear_36 : decode cX9_areNear 36 = .ok (.aload_n 0, 1) := by decide +kernel
theorem dX9_areNear_37 : decode cX9_areNear 37 = .ok (.iload_n 2, 1) := by decide +kernel
theorem dX9_areNear_38 : decode cX9_areNear 38 = .ok (.iload_n 3, 1) := by decide +kernel
theorem dX9_areNear_39 : decode cX9_areNear 39 = .ok (.invokevirtual 108, 3) := by decide +kernel
theorem dX9_areNear_42 : decode cX9_areNear 42 = .ok (.invokestatic 105, 3) := by decide +kernel
theorem dX9_areNear_45 : decode cX9_areNear 45 = .ok (.aload_n 0, 1) := by decide +kernel
theorem dX9_areNear_46 : decode cX9_areNear 46 = .ok (.getfield 13, 3) := by decide +kernel
theorem dX9_areNear_49 : decode cX9_areNear 49 = .ok (.bipush 41, 2) := by decide +kernel
theorem dX9_areNear_51 : decode cX9_areNear 51 = .ok (.iaload, 1) := by decide +kernel
theorem dX9_areNear_52 : decode cX9_areNear 52 = .ok (.if_icmp .ge 7, 3) := by decide +kernel
theorem dX9_areNear_55 : decode cX9_areNear 55 = .ok (.iconst 1, 1) := by decide +kernel
theorem dX9_areNear_56 : decode cX9_areNear 56 = .ok (.goto 4, 3) := by decide +kernel
theorem dX9_areNear_59 : decode cX9_areNear 59 = .ok (.iconst 0, 1) := by decide +kernel
theorem dX9_areNear_60 : decode cX9_areNear 60 = .ok (.ireturn, 1) := by decide +kernel
theorem dX9_near_0 : decode cX9_near 0 = .ok (.iconst 0, 1) := by decide +kernel
theorem dX9_near_1 : decode cX9_near 1 = .ok (.istore 4, 2) := by decide +kernel
theorem dX9_near_3 : decode cX9_near 3 = .ok (.iconst 0, 1) := by decide +kernel
theorem dX9_near_4 : decode cX9_near 4 = .ok (.istore 5, 2) := by decide +kernel
theorem dX9_near_6 : decode cX9_near 6 = .ok (.iload 5, 2) := by decide +kernel
theorem dX9_near_8 : decode cX9_near 8 = .ok (.aload_n 0, 1) := by decide +kernel
theorem dX9_near_9 : decode cX9_near 9 = .ok (.getfield 34, 3) := by decide +kernel
theorem dX9_near_12 : decode cX9_near 12 = .ok (.if_icmp .gt 30, 3) := by decide +kernel
theorem dX9_near_15 : decode cX9_near 15 = .ok (.aload_n 0, 1) := by decide +kernel
theorem dX9_near_16 : decode cX9_near 16 = .ok (.iload_n 1, 1) := by decide +kernel
theorem dX9_near_17 : decode cX9_near 17 = .ok (.iload_n 2, 1) := by decide +kernel
theorem dX9_near_18 : decode cX9_near 18 = .ok (.iload 5, 2) := by decide +kernel
theorem dX9_near_20 : decode cX9_near 20 = .ok (.invokevirtual 117, 3) := by decide +kernel
theorem dX9_near_23 : decode cX9_near 23 = .ok (.ifCond .eq 13, 3) := by decide +kernel
theorem dX9_near_26 : decode cX9_near 26 = .ok (.iload_n 3, 1) := by decide +kernel
theorem dX9_near_27 : decode cX9_near 27 = .ok (.ifCond .eq 6, 3) := by decide +kernel
theorem dX9_near_30 : decode cX9_near 30 = .ok (.iload 5, 2) := by decide +kernel
theorem dX9_near_32 : decode cX9_near 32 = .ok (.ireturn, 1) := by decide +kernel
theorem dX9_near_33 : decode cX9_near 33 = .ok (.iinc 4 1, 3) := by decide +kernel
theorem dX9_near_36 : decode cX9_near 36 = .ok (.iinc 5 1, 3) := by decide +kernel
theorem dX9_near_39 : decode cX9_near 39 = .ok (.goto (-33), 3) := by decide +kernel
theorem dX9_near_42 : decode cX9_near 42 = .ok (.iload_n 3, 1) := by decide +kernel
theorem dX9_near_43 : decode cX9_near 43 = .ok (.ifCond .eq 8, 3) := by decide +kernel
theorem dX9_near_46 : decode cX9_near 46 = .ok (.bipush (-4), 2) := by decide +kernel
theorem dX9_near_48 : decode cX9_near 48 = .ok (.goto 5, 3) := by decide +kernel
theorem dX9_near_51 : decode cX9_near 51 = .ok (.iload 4, 2) := by decide +kernel
theorem dX9_near_53 : decode cX9_near 53 = .ok (.ireturn, 1) := by decide +kernel
theorem dX9_cross_0 : decode cX9_cross 0 = .ok (.aload_n 0, 1) := by decide +kernel
theorem dX9_cross_1 : decode cX9_cross 1 = .ok (.iload_n 1, 1) := by decide +kernel
theorem dX9_cross_2 : decode cX9_cross 2 = .ok (.iconst 0, 1) := by decide +kernel
theorem dX9_cross_3 : decode cX9_cross 3 = .ok (.invokevirtual 102, 3) := by decide +kernel
theorem dX9_cross_6 : decode cX9_cross 6 = .ok (.aload_n 0, 1) := by decide +kernel
theorem dX9_cross_7 : decode cX9_cross 7 = .ok (.iload_n 2, 1) := by decide +kernel
theorem dX9_cross_8 : decode cX9_cross 8 = .ok (.iconst 0, 1) := by decide +kernel
theorem dX9_cross_9 : decode cX9_cross 9 = .ok (.invokevirtual 102, 3) := by decide +kernel
theorem dX9_cross_12 : decode cX9_cross 12 = .ok (.isub, 1) := by decide +kernel
theorem dX9_cross_13 : decode cX9_cross 13 = .ok (.istore_n 3, 1) := by decide +kernel
theorem dX9_cross_14 : decode cX9_cross 14 = .ok (.aload_n 0, 1) := by decide +kernel
theorem dX9_cross_15 : decode cX9_cross 15 = .ok (.iload_n 1, 1) := by decide +kernel
theorem dX9_cross_16 : decode cX9_cross 16 = .ok (.aload_n 0, 1) := by decide +kernel
theorem dX9_cross_17 : decode cX9_cross 17 = .ok (.getfield 34, 3) := by decide +kernel
theorem dX9_cross_20 : decode cX9_cross 20 = .ok (.invokevirtual 102, 3) := by decide +kernel
theorem dX9_cross_23 : decode cX9_cross 23 = .ok (.aload_n 0, 1) := by decide +kernel
theorem dX9_cross_24 : decode cX9_cross 24 = .ok (.iload_n 2, 1) := by decide +kernel
theorem dX9_cross_25 : decode cX9_cross 25 = .ok (.aload_n 0, 1) := by decide +kernel
theorem dX9_cross_26 : decode cX9_cross 26 = .ok (.getfield 34, 3) := by decide +kernel
theorem dX9_cross_29 : decode cX9_cross 29 = .ok (.invokevirtual 102, 3) := by decide +kernel
theorem dX9_cross_32 : decode cX9_cross 32 = .ok (.isub, 1) := by decide +kernel
theorem dX9_cross_33 : decode cX9_cross 33 = .ok (.istore 4, 2) := by decide +kernel
theorem dX9_cross_35 : decode cX9_cross 35 = .ok (.iload_n 3, 1) := by decide +kernel
theorem dX9_cross_36 : decode cX9_cross 36 = .ok (.ifCond .ge 8, 3) := by decide +kernel
theorem dX9_cross_39 : decode cX9_cross 39 = .ok (.iload 4, 2) := by decide +kernel
theorem dX9_cross_41 : decode cX9_cross 41 = .ok (.ifCond .gt 12, 3) := by decide +kernel
theorem dX9_cross_44 : decode cX9_cross 44 = .ok (.iload_n 3, 1) := by decide +kernel
theorem dX9_cross_45 : decode cX9_cross 45 = .ok (.ifCond .le 12, 3) := by decide +kernel
theorem dX9_cross_48 : decode cX9_cross 48 = .ok (.iload 4, 2) := by decide +kernel
theorem dX9_cross_50 : decode cX9_cross 50 = .ok (.ifCond .ge 7, 3) := by decide +kernel
theorem dX9_cross_53 : decode cX9_cross 53 = .ok (.iconst 1, 1) := by decide +kernel
theorem dX9_cross_54 : decode cX9_cross 54 = .ok (.goto 4, 3) := by decide +kernel
theorem dX9_cross_57 : decode cX9_cross 57 = .ok (.iconst 0, 1) := by decide +kernel
theorem dX9_cross_58 : decode cX9_cross 58 = .ok (.ireturn, 1) := by decide +kernel
theorem dX9_inWayAt_0 : decode cX9_inWayAt 0 = .ok (.aload_n 0, 1) := by decide +kernel
theorem dX9_inWayAt_1 : decode cX9_inWayAt 1 = .ok (.iload_n 1, 1) := by decide +kernel
theorem dX9_inWayAt_2 : decode cX9_inWayAt 2 = .ok (.iload_n 3, 1) := by decide +kernel
theorem dX9_inWayAt_3 : decode cX9_inWayAt 3 = .ok (.invokevirtual 108, 3) := by decide +kernel
theorem dX9_inWayAt_6 : decode cX9_inWayAt 6 = .ok (.istore 4, 2) := by decide +kernel
theorem dX9_inWayAt_8 : decode cX9_inWayAt 8 = .ok (.aload_n 0, 1) := by decide +kernel
theorem dX9_inWayAt_9 : decode cX9_inWayAt 9 = .ok (.iload_n 1, 1) := by decide +kernel
theorem dX9_inWayAt_10 : decode cX9_inWayAt 10 = .ok (.iload_n 3, 1) := by decide +kernel
theorem dX9_inWayAt_11 : decode cX9_inWayAt 11 = .ok (.invokevirtual 102, 3) := by decide +kernel
theorem dX9_inWayAt_14 : decode cX9_inWayAt 14 = .ok (.istore 5, 2) := by decide +kernel
theorem dX9_inWayAt_16 : decode cX9_inWayAt 16 = .ok (.iconst 0, 1) := by decide +kernel
theorem dX9_inWayAt_17 : decode cX9_inWayAt 17 = .ok (.istore 6, 2) := by decide +kernel
theorem dX9_inWayAt_19 : decode cX9_inWayAt 19 = .ok (.iload 6, 2) := by decide +kernel
theorem dX9_inWayAt_21 : decode cX9_inWayAt 21 = .ok (.aload_n 0, 1) := by decide +kernel
theorem dX9_inWayAt_22 : decode cX9_inWayAt 22 = .ok (.getfield 34, 3) := by decide +kernel
theorem dX9_inWayAt_25 : decode cX9_inWayAt 25 = .ok (.if_icmp .gt 79, 3) := by decide +kernel
theorem dX9_inWayAt_28 : decode cX9_inWayAt 28 = .ok (.aload_n 0, 1) := by decide +kernel
theorem dX9_inWayAt_29 : decode cX9_inWayAt 29 = .ok (.iload_n 2, 1) := by decide +kernel
theorem dX9_inWayAt_30 : decode cX9_inWayAt 30 = .ok (.iload 6, 2) := by decide +kernel
theorem dX9_inWayAt_32 : decode cX9_inWayAt 32 = .ok (.invokevirtual 108, 3) := by decide +kernel
theorem dX9_inWayAt_35 : decode cX9_inWayAt 35 = .ok (.iload 4, 2) := by decide +kernel
theorem dX9_inWayAt_37 : decode cX9_inWayAt 37 = .ok (.isub, 1) := by decide +kernel
theorem dX9_inWayAt_38 : decode cX9_inWayAt 38 = .ok (.istore 7, 2) := by decide +kernel
theorem dX9_inWayAt_40 : decode cX9_inWayAt 40 = .ok (.iconst 2, 1) := by decide +kernel
theorem dX9_inWayAt_41 : decode cX9_inWayAt 41 = .ok (.aload_n 0, 1) := by decide +kernel
theorem dX9_inWayAt_42 : decode cX9_inWayAt 42 = .ok (.getfield 13, 3) := by decide +kernel
theorem dX9_inWayAt_45 : decode cX9_inWayAt 45 = .ok (.bipush 42, 2) := by decide +kernel
theorem dX9_inWayAt_47 : decode cX9_inWayAt 47 = .ok (.iaload, 1) := by decide +kernel
theorem dX9_inWayAt_48 : decode cX9_inWayAt 48 = .ok (.imul, 1) := by decide +kernel
theorem dX9_inWayAt_49 : decode cX9_inWayAt 49 = .ok (.iload 7, 2) := by decide +kernel
theorem dX9_inWayAt_51 : decode cX9_inWayAt 51 = .ok (.iadd, 1) := by decide +kernel
theorem dX9_inWayAt_52 : decode cX9_inWayAt 52 = .ok (.istore 8, 2) := by decide +kernel
theorem dX9_inWayAt_54 : decode cX9_inWayAt 54 = .ok (.iload 7, 2) := by decide +kernel
theorem dX9_inWayAt_56 : decode cX9_inWayAt 56 = .ok (.ifCond .lt 42, 3) := by decide +kernel
theorem dX9_inWayAt_59 : decode cX9_inWayAt 59 = .ok (.iconst 2, 1) := by decide +kernel
theorem dX9_inWayAt_60 : decode cX9_inWayAt 60 = .ok (.iload 6, 2) := by decide +kernel
theorem dX9_inWayAt_62 : decode cX9_inWayAt 62 = .ok (.iload_n 3, 1) := by decide +kernel
theorem dX9_inWayAt_63 : decode cX9_inWayAt 63 = .ok (.invokestatic 105, 3) := by decide +kernel
theorem dX9_inWayAt_66 : decode cX9_inWayAt 66 = .ok (.imul, 1) := by decide +kernel
theorem dX9_inWayAt_67 : decode cX9_inWayAt 67 = .ok (.iload 8, 2) := by decide +kernel
theorem dX9_inWayAt_69 : decode cX9_inWayAt 69 = .ok (.if_icmp .ge 29, 3) := by decide +kernel
theorem dX9_inWayAt_72 : decode cX9_inWayAt 72 = .ok (.iconst 2, 1) := by decide +kernel
theorem dX9_inWayAt_73 : decode cX9_inWayAt 73 = .ok (.aload_n 0, 1) := by decide +kernel
theorem dX9_inWayAt_74 : decode cX9_inWayAt 74 = .ok (.iload_n 2, 1) := by decide +kernel
theorem dX9_inWayAt_75 : decode cX9_inWayAt 75 = .ok (.iload 6, 2) := by decide +kernel
theorem dX9_inWayAt_77 : decode cX9_inWayAt 77 = .ok (.invokevirtual 102, 3) := by decide +kernel
theorem dX9_inWayAt_80 : decode cX9_inWayAt 80 = .ok (.iload 5, 2) := by decide +kernel
theorem dX9_inWayAt_82 : decode cX9_inWayAt 82 = .ok (.invokestatic 105, 3) := by decide +kernel
theorem dX9_inWayAt_85 : decode cX9_inWayAt 85 = .ok (.imul, 1) := by decide +kernel
theorem dX9_inWayAt_86 : decode cX9_inWayAt 86 = .ok (.aload_n 0, 1) := by decide +kernel
theorem dX9_inWayAt_87 : decode cX9_inWayAt 87 = .ok (.getfield 34, 3) := by decide +kernel
theorem dX9_inWayAt_90 : decode cX9_inWayAt 90 = .ok (.iload 8, 2) := by decide +kernel
theorem dX9_inWayAt_92 : decode cX9_inWayAt 92 = .ok (.imul, 1) := by decide +kernel
theorem dX9_inWayAt_93 : decode cX9_inWayAt 93 = .ok (.if_icmp .ge 5, 3) := by decide +kernel
theorem dX9_inWayAt_96 : decode cX9_inWayAt 96 = .ok (.iconst 1, 1) := by decide +kernel
theorem dX9_inWayAt_97 : decode cX9_inWayAt 97 = .ok (.ireturn, 1) := by decide +kernel
theorem dX9_inWayAt_98 : decode cX9_inWayAt 98 = .ok (.iinc 6 1, 3) := by decide +kernel
theorem dX9_inWayAt_101 : decode cX9_inWayAt 101 = .ok (.goto (-82), 3) := by decide +kernel
theorem dX9_inWayAt_104 : decode cX9_inWayAt 104 = .ok (.iconst 0, 1) := by decide +kernel
theorem dX9_inWayAt_105 : decode cX9_inWayAt 105 = .ok (.ireturn, 1) := by decide +kernel
theorem dX9_inWay_0 : decode cX9_inWay 0 = .ok (.aload_n 0, 1) := by decide +kernel
theorem dX9_inWay_1 : decode cX9_inWay 1 = .ok (.iload_n 1, 1) := by decide +kernel
theorem dX9_inWay_2 : decode cX9_inWay 2 = .ok (.iload_n 2, 1) := by decide +kernel
theorem dX9_inWay_3 : decode cX9_inWay 3 = .ok (.iconst 0, 1) := by decide +kernel
theorem dX9_inWay_4 : decode cX9_inWay 4 = .ok (.invokevirtual 120, 3) := by decide +kernel
theorem dX9_inWay_7 : decode cX9_inWay 7 = .ok (.ifCond .ne 16, 3) := by decide +kernel
theorem dX9_inWay_10 : decode cX9_inWay 10 = .ok (.aload_n 0, 1) := by decide +kernel
theorem dX9_inWay_11 : decode cX9_inWay 11 = .ok (.iload_n 1, 1) := by decide +kernel
theorem dX9_inWay_12 : decode cX9_inWay 12 = .ok (.iload_n 2, 1) := by decide +kernel
theorem dX9_inWay_13 : decode cX9_inWay 13 = .ok (.aload_n 0, 1) := by decide +kernel
theorem dX9_inWay_14 : decode cX9_inWay 14 = .ok (.getfield 34, 3) := by decide +kernel
theorem dX9_inWay_17 : decode cX9_inWay 17 = .ok (.invokevirtual 120, 3) := by decide +kernel
theorem dX9_inWay_20 : decode cX9_inWay 20 = .ok (.ifCond .eq 7, 3) := by decide +kernel
theorem dX9_inWay_23 : decode cX9_inWay 23 = .ok (.iconst 1, 1) := by decide +kernel
theorem dX9_inWay_24 : decode cX9_inWay 24 = .ok (.goto 4, 3) := by decide +kernel
theorem dX9_inWay_27 : decode cX9_inWay 27 = .ok (.iconst 0, 1) := by decide +kernel
theorem dX9_inWay_28 : decode cX9_inWay 28 = .ok (.ireturn, 1) := by decide +kernel
theorem dX9_pair_0 : decode cX9_pair 0 = .ok (.aload_n 0, 1) := by decide +kernel
theorem dX9_pair_1 : decode cX9_pair 1 = .ok (.iload_n 1, 1) := by decide +kernel
theorem dX9_pair_2 : decode cX9_pair 2 = .ok (.invokevirtual 94, 3) := by decide +kernel
theorem dX9_pair_5 : decode cX9_pair 5 = .ok (.ifCond .eq 25, 3) := by decide +kernel
theorem dX9_pair_8 : decode cX9_pair 8 = .ok (.aload_n 0, 1) := by decide +kernel
theorem dX9_pair_9 : decode cX9_pair 9 = .ok (.iload_n 2, 1) := by decide +kernel
theorem dX9_pair_10 : decode cX9_pair 10 = .ok (.invokevirtual 94, 3) := by decide +kernel
theorem dX9_pair_13 : decode cX9_pair 13 = .ok (.ifCond .eq 17, 3) := by decide +kernel
theorem dX9_pair_16 : decode cX9_pair 16 = .ok (.iload_n 1, 1) := by decide +kernel
theorem dX9_pair_17 : decode cX9_pair 17 = .ok (.iload_n 2, 1) := by decide +kernel
theorem dX9_pair_18 : decode cX9_pair 18 = .ok (.if_icmp .eq 12, 3) := by decide +kernel
theorem dX9_pair_21 : decode cX9_pair 21 = .ok (.iload_n 3, 1) := by decide +kernel
theorem dX9_pair_22 : decode cX9_pair 22 = .ok (.iconst 0, 1) := by decide +kernel
theorem dX9_pair_23 : decode cX9_pair 23 = .ok (.iconst 3, 1) := by decide +kernel
theorem dX9_pair_24 : decode cX9_pair 24 = .ok (.invokestatic 54, 3) := by decide +kernel
theorem dX9_pair_27 : decode cX9_pair 27 = .ok (.ifCond .ne 5, 3) := by decide +kernel
theorem dX9_pair_30 : decode cX9_pair 30 = .ok (.iconst (-1), 1) := by decide +kernel
theorem dX9_pair_31 : decode cX9_pair 31 = .ok (.ireturn, 1) := by decide +kernel
theorem dX9_pair_32 : decode cX9_pair 32 = .ok (.iload_n 3, 1) := by decide +kernel
theorem dX9_pair_33 : decode cX9_pair 33 = .ok (.tableswitch 58 0 2 #[27, 35, 43], 27) := by decide +kernel
theorem dX9_pair_60 : decode cX9_pair 60 = .ok (.aload_n 0, 1) := by decide +kernel
theorem dX9_pair_61 : decode cX9_pair 61 = .ok (.iload_n 1, 1) := by decide +kernel
theorem dX9_pair_62 : decode cX9_pair 62 = .ok (.iload_n 2, 1) := by decide +kernel
theorem dX9_pair_63 : decode cX9_pair 63 = .ok (.iconst 1, 1) := by decide +kernel
theorem dX9_pair_64 : decode cX9_pair 64 = .ok (.invokevirtual 123, 3) := by decide +kernel
theorem dX9_pair_67 : decode cX9_pair 67 = .ok (.ireturn, 1) := by decide +kernel
theorem dX9_pair_68 : decode cX9_pair 68 = .ok (.aload_n 0, 1) := by decide +kernel
theorem dX9_pair_69 : decode cX9_pair 69 = .ok (.iload_n 1, 1) := by decide +kernel
theorem dX9_pair_70 : decode cX9_pair 70 = .ok (.iload_n 2, 1) := by decide +kernel
theorem dX9_pair_71 : decode cX9_pair 71 = .ok (.iconst 0, 1) := by decide +kernel
theorem dX9_pair_72 : decode cX9_pair 72 = .ok (.invokevirtual 123, 3) := by decide +kernel
theorem dX9_pair_75 : decode cX9_pair 75 = .ok (.ireturn, 1) := by decide +kernel
theorem dX9_pair_76 : decode cX9_pair 76 = .ok (.aload_n 0, 1) := by decide +kernel
theorem dX9_pair_77 : decode cX9_pair 77 = .ok (.iload_n 1, 1) := by decide +kernel
theorem dX9_pair_78 : decode cX9_pair 78 = .ok (.iload_n 2, 1) := by decide +kernel
theorem dX9_pair_79 : decode cX9_pair 79 = .ok (.invokevirtual 127, 3) := by decide +kernel
theorem dX9_pair_82 : decode cX9_pair 82 = .ok (.ifCond .eq 7, 3) := by decide +kernel
theorem dX9_pair_85 : decode cX9_pair 85 = .ok (.iconst 1, 1) := by decide +kernel
theorem dX9_pair_86 : decode cX9_pair 86 = .ok (.goto 4, 3) := by decide +kernel
theorem dX9_pair_89 : decode cX9_pair 89 = .ok (.iconst 0, 1) := by decide +kernel
theorem dX9_pair_90 : decode cX9_pair 90 = .ok (.ireturn, 1) := by decide +kernel
theorem dX9_pair_91 : decode cX9_pair 91 = .ok (.aload_n 0, 1) := by decide +kernel
theorem dX9_pair_92 : decode cX9_pair 92 = .ok (.iload_n 1, 1) := by decide +kernel
theorem dX9_pair_93 : decode cX9_pair 93 = .ok (.iload_n 2, 1) := by decide +kernel
theorem dX9_pair_94 : decode cX9_pair 94 = .ok (.invokevirtual 130, 3) := by decide +kernel
theorem dX9_pair_97 : decode cX9_pair 97 = .ok (.ifCond .eq 7, 3) := by decide +kernel
theorem dX9_pair_100 : decode cX9_pair 100 = .ok (.iconst 1, 1) := by decide +kernel
theorem dX9_pair_101 : decode cX9_pair 101 = .ok (.goto 4, 3) := by decide +kernel
theorem dX9_pair_104 : decode cX9_pair 104 = .ok (.iconst 0, 1) := by decide +kernel
theorem dX9_pair_105 : decode cX9_pair 105 = .ok (.ireturn, 1) := by decide +kernel
theorem dX9_bits_0 : decode cX9_bits 0 = .ok (.iconst 0, 1) := by decide +kernel
theorem dX9_bits_1 : decode cX9_bits 1 = .ok (.istore_n 1, 1) := by decide +kernel
theorem dX9_bits_2 : decode cX9_bits 2 = .ok (.iconst 0, 1) := by decide +kernel
theorem dX9_bits_3 : decode cX9_bits 3 = .ok (.istore_n 2, 1) := by decide +kernel
theorem dX9_bits_4 : decode cX9_bits 4 = .ok (.iload_n 2, 1) := by decide +kernel
theorem dX9_bits_5 : decode cX9_bits 5 = .ok (.bipush 19, 2) := by decide +kernel
theorem dX9_bits_7 : decode cX9_bits 7 = .ok (.if_icmp .ge 17, 3) := by decide +kernel
theorem dX9_bits_10 : decode cX9_bits 10 = .ok (.iload_n 1, 1) := by decide +kernel
theorem dX9_bits_11 : decode cX9_bits 11 = .ok (.iload_n 0, 1) := by decide +kernel
theorem dX9_bits_12 : decode cX9_bits 12 = .ok (.iload_n 2, 1) := by decide +kernel
theorem dX9_bits_13 : decode cX9_bits 13 = .ok (.ishr, 1) := by decide +kernel
theorem dX9_bits_14 : decode cX9_bits 14 = .ok (.iconst 1, 1) := by decide +kernel
theorem dX9_bits_15 : decode cX9_bits 15 = .ok (.iand, 1) := by decide +kernel
theorem dX9_bits_16 : decode cX9_bits 16 = .ok (.iadd, 1) := by decide +kernel
theorem dX9_bits_17 : decode cX9_bits 17 = .ok (.istore_n 1, 1) := by decide +kernel
theorem dX9_bits_18 : decode cX9_bits 18 = .ok (.iinc 2 1, 3) := by decide +kernel
theorem dX9_bits_21 : decode cX9_bits 21 = .ok (.goto (-17), 3) := by decide +kernel
theorem dX9_bits_24 : decode cX9_bits 24 = .ok (.iload_n 1, 1) := by decide +kernel
theorem dX9_bits_25 : decode cX9_bits 25 = .ok (.ireturn, 1) := by decide +kernel
theorem dX9_isBarred_0 : decode cX9_isBarred 0 = .ok (.iconst 0, 1) := by decide +kernel
theorem dX9_isBarred_1 : decode cX9_isBarred 1 = .ok (.istore_n 3, 1) := by decide +kernel
theorem dX9_isBarred_2 : decode cX9_isBarred 2 = .ok (.iconst 0, 1) := by decide +kernel
theorem dX9_isBarred_3 : decode cX9_isBarred 3 = .ok (.istore 4, 2) := by decide +kernel
theorem dX9_isBarred_5 : decode cX9_isBarred 5 = .ok (.iload 4, 2) := by decide +kernel
theorem dX9_isBarred_7 : decode cX9_isBarred 7 = .ok (.aload_n 0, 1) := by decide +kernel
theorem dX9_isBarred_8 : decode cX9_isBarred 8 = .ok (.getfield 38, 3) := by decide +kernel
theorem dX9_isBarred_11 : decode cX9_isBarred 11 = .ok (.if_icmp .ge 45, 3) := by decide +kernel
theorem dX9_isBarred_14 : decode cX9_isBarred 14 = .ok (.iload_n 3, 1) := by decide +kernel
theorem dX9_isBarred_15 : decode cX9_isBarred 15 = .ok (.ifCond .ne 29, 3) := by decide +kernel
theorem dX9_isBarred_18 : decode cX9_isBarred 18 = .ok (.iload 4, 2) := by decide +kernel
theorem dX9_isBarred_20 : decode cX9_isBarred 20 = .ok (.iload_n 1, 1) := by decide +kernel
theorem dX9_isBarred_21 : decode cX9_isBarred 21 = .ok (.if_icmp .eq 27, 3) := by decide +kernel
theorem dX9_isBarred_24 : decode cX9_isBarred 24 = .ok (.iload_n 2, 1) := by decide +kernel
theorem dX9_isBarred_25 : decode cX9_isBarred 25 = .ok (.iload 4, 2) := by decide +kernel
theorem dX9_isBarred_27 : decode cX9_isBarred 27 = .ok (.ishr, 1) := by decide +kernel
theorem dX9_isBarred_28 : decode cX9_isBarred 28 = .ok (.iconst 1, 1) := by decide +kernel
theorem dX9_isBarred_29 : decode cX9_isBarred 29 = .ok (.iand, 1) := by decide +kernel
theorem dX9_isBarred_30 : decode cX9_isBarred 30 = .ok (.iconst 1, 1) := by decide +kernel
theorem dX9_isBarred_31 : decode cX9_isBarred 31 = .ok (.if_icmp .ne 17, 3) := by decide +kernel
theorem dX9_isBarred_34 : decode cX9_isBarred 34 = .ok (.aload_n 0, 1) := by decide +kernel
theorem dX9_isBarred_35 : decode cX9_isBarred 35 = .ok (.iload_n 1, 1) := by decide +kernel
theorem dX9_isBarred_36 : decode cX9_isBarred 36 = .ok (.iload 4, 2) := by decide +kernel
theorem dX9_isBarred_38 : decode cX9_isBarred 38 = .ok (.invokevirtual 130, 3) := by decide +kernel
theorem dX9_isBarred_41 : decode cX9_isBarred 41 = .ok (.ifCond .eq 7, 3) := by decide +kernel
theorem dX9_isBarred_44 : decode cX9_isBarred 44 = .ok (.iconst 1, 1) := by decide +kernel
theorem dX9_isBarred_45 : decode cX9_isBarred 45 = .ok (.goto 4, 3) := by decide +kernel
theorem dX9_isBarred_48 : decode cX9_isBarred 48 = .ok (.iconst 0, 1) := by decide +kernel
theorem dX9_isBarred_49 : decode cX9_isBarred 49 = .ok (.istore_n 3, 1) := by decide +kernel
theorem dX9_isBarred_50 : decode cX9_isBarred 50 = .ok (.iinc 4 1, 3) := by decide +kernel
theorem dX9_isBarred_53 : decode cX9_isBarred 53 = .ok (.goto (-48), 3) := by decide +kernel
theorem dX9_isBarred_56 : decode cX9_isBarred 56 = .ok (.iload_n 3, 1) := by decide +kernel
theorem dX9_isBarred_57 : decode cX9_isBarred 57 = .ok (.ireturn, 1) := by decide +kernel
theorem dX9_bond_0 : decode cX9_bond 0 = .ok (.aload_n 0, 1) := by decide +kernel
theorem dX9_bond_1 : decode cX9_bond 1 = .ok (.iload_n 1, 1) := by decide +kernel
theorem dX9_bond_2 : decode cX9_bond 2 = .ok (.invokevirtual 94, 3) := by decide +kernel
theorem dX9_bond_5 : decode cX9_bond 5 = .ok (.ifCond .ne 5, 3) := by decide +kernel
theorem dX9_bond_8 : decode cX9_bond 8 = .ok (.iconst (-1), 1) := by decide +kernel
theorem dX9_bond_9 : decode cX9_bond 9 = .ok (.ireturn, 1) := by decide +kernel
theorem dX9_bond_10 : decode cX9_bond 10 = .ok (.aload_n 0, 1) := by decide +kernel
theorem dX9_bond_11 : decode cX9_bond 11 = .ok (.getfield 13, 3) := by decide +kernel
theorem dX9_bond_14 : decode cX9_bond 14 = .ok (.bipush 44, 2) := by decide +kernel
theorem dX9_bond_16 : decode cX9_bond 16 = .ok (.iaload, 1) := by decide +kernel
theorem dX9_bond_17 : decode cX9_bond 17 = .ok (.iload_n 1, 1) := by decide +kernel
theorem dX9_bond_18 : decode cX9_bond 18 = .ok (.ishr, 1) := by decide +kernel
theorem dX9_bond_19 : decode cX9_bond 19 = .ok (.iconst 1, 1) := by decide +kernel
theorem dX9_bond_20 : decode cX9_bond 20 = .ok (.iand, 1) := by decide +kernel
theorem dX9_bond_21 : decode cX9_bond 21 = .ok (.iconst 1, 1) := by decide +kernel
theorem dX9_bond_22 : decode cX9_bond 22 = .ok (.if_icmp .eq 18, 3) := by decide +kernel
theorem dX9_bond_25 : decode cX9_bond 25 = .ok (.aload_n 0, 1) := by decide +kernel
theorem dX9_bond_26 : decode cX9_bond 26 = .ok (.iload_n 1, 1) := by decide +kernel
theorem dX9_bond_27 : decode cX9_bond 27 = .ok (.aload_n 0, 1) := by decide +kernel
theorem dX9_bond_28 : decode cX9_bond 28 = .ok (.getfield 13, 3) := by decide +kernel
theorem dX9_bond_31 : decode cX9_bond 31 = .ok (.bipush 44, 2) := by decide +kernel
theorem dX9_bond_33 : decode cX9_bond 33 = .ok (.iaload, 1) := by decide +kernel
theorem dX9_bond_34 : decode cX9_bond 34 = .ok (.invokevirtual 133, 3) := by decide +kernel
theorem dX9_bond_37 : decode cX9_bond 37 = .ok (.ifCond .eq 6, 3) := by decide +kernel
theorem dX9_bond_40 : decode cX9_bond 40 = .ok (.bipush (-2), 2) := by decide +kernel
theorem dX9_bond_42 : decode cX9_bond 42 = .ok (.ireturn, 1) := by decide +kernel
theorem dX9_bond_43 : decode cX9_bond 43 = .ok (.aload_n 0, 1) := by decide +kernel
theorem dX9_bond_44 : decode cX9_bond 44 = .ok (.invokevirtual 91, 3) := by decide +kernel
theorem dX9_bond_47 : decode cX9_bond 47 = .ok (.aload_n 0, 1) := by decide +kernel
theorem dX9_bond_48 : decode cX9_bond 48 = .ok (.getfield 13, 3) := by decide +kernel
theorem dX9_bond_51 : decode cX9_bond 51 = .ok (.bipush 44, 2) := by decide +kernel
theorem dX9_bond_53 : decode cX9_bond 53 = .ok (.dup2, 1) := by decide +kernel
theorem dX9_bond_54 : decode cX9_bond 54 = .ok (.iaload, 1) := by decide +kernel
theorem dX9_bond_55 : decode cX9_bond 55 = .ok (.iconst 1, 1) := by decide +kernel
theorem dX9_bond_56 : decode cX9_bond 56 = .ok (.iload_n 1, 1) := by decide +kernel
theorem dX9_bond_57 : decode cX9_bond 57 = .ok (.ishl, 1) := by decide +kernel
theorem dX9_bond_58 : decode cX9_bond 58 = .ok (.ior, 1) := by decide +kernel
theorem dX9_bond_59 : decode cX9_bond 59 = .ok (.iastore, 1) := by decide +kernel
theorem dX9_bond_60 : decode cX9_bond 60 = .ok (.aload_n 0, 1) := by decide +kernel
theorem dX9_bond_61 : decode cX9_bond 61 = .ok (.getfield 13, 3) := by decide +kernel
theorem dX9_bond_64 : decode cX9_bond 64 = .ok (.bipush 44, 2) := by decide +kernel
theorem dX9_bond_66 : decode cX9_bond 66 = .ok (.iaload, 1) := by decide +kernel
theorem dX9_bond_67 : decode cX9_bond 67 = .ok (.invokestatic 136, 3) := by decide +kernel
theorem dX9_bond_70 : decode cX9_bond 70 = .ok (.ireturn, 1) := by decide +kernel
theorem dX9_take_0 : decode cX9_take 0 = .ok (.aload_n 0, 1) := by decide +kernel
theorem dX9_take_1 : decode cX9_take 1 = .ok (.iload_n 1, 1) := by decide +kernel
theorem dX9_take_2 : decode cX9_take 2 = .ok (.invokevirtual 94, 3) := by decide +kernel
theorem dX9_take_5 : decode cX9_take 5 = .ok (.ifCond .ne 5, 3) := by decide +kernel
theorem dX9_take_8 : decode cX9_take 8 = .ok (.iconst (-1), 1) := by decide +kernel
theorem dX9_take_9 : decode cX9_take 9 = .ok (.ireturn, 1) := by decide +kernel
theorem dX9_take_10 : decode cX9_take 10 = .ok (.aload_n 0, 1) := by decide +kernel
theorem dX9_take_11 : decode cX9_take 11 = .ok (.getfield 13, 3) := by decide +kernel
theorem dX9_take_14 : decode cX9_take 14 = .ok (.bipush 44, 2) := by decide +kernel
theorem dX9_take_16 : decode cX9_take 16 = .ok (.iaload, 1) := by decide +kernel
theorem dX9_take_17 : decode cX9_take 17 = .ok (.iload_n 1, 1) := by decide +kernel
theorem dX9_take_18 : decode cX9_take 18 = .ok (.ishr, 1) := by decide +kernel
theorem dX9_take_19 : decode cX9_take 19 = .ok (.iconst 1, 1) := by decide +kernel
theorem dX9_take_20 : decode cX9_take 20 = .ok (.iand, 1) := by decide +kernel
theorem dX9_take_21 : decode cX9_take 21 = .ok (.ifCond .ne 6, 3) := by decide +kernel
theorem dX9_take_24 : decode cX9_take 24 = .ok (.bipush (-2), 2) := by decide +kernel
theorem dX9_take_26 : decode cX9_take 26 = .ok (.ireturn, 1) := by decide +kernel
theorem dX9_take_27 : decode cX9_take 27 = .ok (.aload_n 0, 1) := by decide +kernel
theorem dX9_take_28 : decode cX9_take 28 = .ok (.invokevirtual 91, 3) := by decide +kernel
theorem dX9_take_31 : decode cX9_take 31 = .ok (.aload_n 0, 1) := by decide +kernel
theorem dX9_take_32 : decode cX9_take 32 = .ok (.getfield 13, 3) := by decide +kernel
theorem dX9_take_35 : decode cX9_take 35 = .ok (.bipush 44, 2) := by decide +kernel
theorem dX9_take_37 : decode cX9_take 37 = .ok (.dup2, 1) := by decide +kernel
theorem dX9_take_38 : decode cX9_take 38 = .ok (.iaload, 1) := by decide +kernel
theorem dX9_take_39 : decode cX9_take 39 = .ok (.iconst 1, 1) := by decide +kernel
theorem dX9_take_40 : decode cX9_take 40 = .ok (.iload_n 1, 1) := by decide +kernel
theorem dX9_take_41 : decode cX9_take 41 = .ok (.ishl, 1) := by decide +kernel
theorem dX9_take_42 : decode cX9_take 42 = .ok (.isub, 1) := by decide +kernel
theorem dX9_take_43 : decode cX9_take 43 = .ok (.iastore, 1) := by decide +kernel
theorem dX9_take_44 : decode cX9_take 44 = .ok (.aload_n 0, 1) := by decide +kernel
theorem dX9_take_45 : decode cX9_take 45 = .ok (.getfield 13, 3) := by decide +kernel
theorem dX9_take_48 : decode cX9_take 48 = .ok (.bipush 44, 2) := by decide +kernel
theorem dX9_take_50 : decode cX9_take 50 = .ok (.iaload, 1) := by decide +kernel
theorem dX9_take_51 : decode cX9_take 51 = .ok (.invokestatic 136, 3) := by decide +kernel
theorem dX9_take_54 : decode cX9_take 54 = .ok (.ireturn, 1) := by decide +kernel
theorem dX9_ready_0 : decode cX9_ready 0 = .ok (.iconst 0, 1) := by decide +kernel
theorem dX9_ready_1 : decode cX9_ready 1 = .ok (.istore_n 1, 1) := by decide +kernel
theorem dX9_ready_2 : decode cX9_ready 2 = .ok (.iconst 0, 1) := by decide +kernel
theorem dX9_ready_3 : decode cX9_ready 3 = .ok (.istore_n 2, 1) := by decide +kernel
theorem dX9_ready_4 : decode cX9_ready 4 = .ok (.iload_n 2, 1) := by decide +kernel
theorem dX9_ready_5 : decode cX9_ready 5 = .ok (.aload_n 0, 1) := by decide +kernel
theorem dX9_ready_6 : decode cX9_ready 6 = .ok (.getfield 38, 3) := by decide +kernel
theorem dX9_ready_9 : decode cX9_ready 9 = .ok (.if_icmp .ge 48, 3) := by decide +kernel
theorem dX9_ready_12 : decode cX9_ready 12 = .ok (.iload_n 1, 1) := by decide +kernel
theorem dX9_ready_13 : decode cX9_ready 13 = .ok (.aload_n 0, 1) := by decide +kernel
theorem dX9_ready_14 : decode cX9_ready 14 = .ok (.getfield 13, 3) := by decide +kernel
theorem dX9_ready_17 : decode cX9_ready 17 = .ok (.bipush 44, 2) := by decide +kernel
theorem dX9_ready_19 : decode cX9_ready 19 = .ok (.iaload, 1) := by decide +kernel
theorem dX9_ready_20 : decode cX9_ready 20 = .ok (.iload_n 2, 1) := by decide +kernel
theorem dX9_ready_21 : decode cX9_ready 21 = .ok (.ishr, 1) := by decide +kernel
theorem dX9_ready_22 : decode cX9_ready 22 = .ok (.iconst 1, 1) := by decide +kernel
theorem dX9_ready_23 : decode cX9_ready 23 = .ok (.iand, 1) := by decide +kernel
theorem dX9_ready_24 : decode cX9_ready 24 = .ok (.ifCond .ne 24, 3) := by decide +kernel
theorem dX9_ready_27 : decode cX9_ready 27 = .ok (.aload_n 0, 1) := by decide +kernel
theorem dX9_ready_28 : decode cX9_ready 28 = .ok (.iload_n 2, 1) := by decide +kernel
theorem dX9_ready_29 : decode cX9_ready 29 = .ok (.aload_n 0, 1) := by decide +kernel
theorem dX9_ready_30 : decode cX9_ready 30 = .ok (.getfield 13, 3) := by decide +kernel
theorem dX9_ready_33 : decode cX9_ready 33 = .ok (.bipush 44, 2) := by decide +kernel
theorem dX9_ready_35 : decode cX9_ready 35 = .ok (.iaload, 1) := by decide +kernel
theorem dX9_ready_36 : decode cX9_ready 36 = .ok (.invokevirtual 133, 3) := by decide +kernel
theorem dX9_ready_39 : decode cX9_ready 39 = .ok (.ifCond .ne 9, 3) := by decide +kernel
theorem dX9_ready_42 : decode cX9_ready 42 = .ok (.iconst 1, 1) := by decide +kernel
theorem dX9_ready_43 : decode cX9_ready 43 = .ok (.iload_n 2, 1) := by decide +kernel
theorem dX9_ready_44 : decode cX9_ready 44 = .ok (.ishl, 1) := by decide +kernel
theorem dX9_ready_45 : decode cX9_ready 45 = .ok (.goto 4, 3) := by decide +kernel
theorem dX9_ready_48 : decode cX9_ready 48 = .ok (.iconst 0, 1) := by decide +kernel
theorem dX9_ready_49 : decode cX9_ready 49 = .ok (.ior, 1) := by decide +kernel
theorem dX9_ready_50 : decode cX9_ready 50 = .ok (.istore_n 1, 1) := by decide +kernel
theorem dX9_ready_51 : decode cX9_ready 51 = .ok (.iinc 2 1, 3) := by decide +kernel
theorem dX9_ready_54 : decode cX9_ready 54 = .ok (.goto (-50), 3) := by decide +kernel
theorem dX9_ready_57 : decode cX9_ready 57 = .ok (.iload_n 1, 1) := by decide +kernel
theorem dX9_ready_58 : decode cX9_ready 58 = .ok (.ireturn, 1) := by decide +kernel
theorem dX9_lays_0 : decode cX9_lays 0 = .ok (.iconst 0, 1) := by decide +kernel
theorem dX9_lays_1 : decode cX9_lays 1 = .ok (.istore_n 1, 1) := by decide +kernel
theorem dX9_lays_2 : decode cX9_lays 2 = .ok (.iload_n 1, 1) := by decide +kernel
theorem dX9_lays_3 : decode cX9_lays 3 = .ok (.aload_n 0, 1) := by decide +kernel
theorem dX9_lays_4 : decode cX9_lays 4 = .ok (.getfield 38, 3) := by decide +kernel
theorem dX9_lays_7 : decode cX9_lays 7 = .ok (.if_icmp .ge 62, 3) := by decide +kernel
theorem dX9_lays_10 : decode cX9_lays 10 = .ok (.aload_n 0, 1) := by decide +kernel
theorem dX9_lays_11 : decode cX9_lays 11 = .ok (.getfield 28, 3) := by decide +kernel
theorem dX9_lays_14 : decode cX9_lays 14 = .ok (.iload_n 1, 1) := by decide +kernel
theorem dX9_lays_15 : decode cX9_lays 15 = .ok (.iconst 0, 1) := by decide +kernel
theorem dX9_lays_16 : decode cX9_lays 16 = .ok (.iastore, 1) := by decide +kernel
theorem dX9_lays_17 : decode cX9_lays 17 = .ok (.iconst 0, 1) := by decide +kernel
theorem dX9_lays_18 : decode cX9_lays 18 = .ok (.istore_n 2, 1) := by decide +kernel
theorem dX9_lays_19 : decode cX9_lays 19 = .ok (.iload_n 2, 1) := by decide +kernel
theorem dX9_lays_20 : decode cX9_lays 20 = .ok (.aload_n 0, 1) := by decide +kernel
theorem dX9_lays_21 : decode cX9_lays 21 = .ok (.getfield 38, 3) := by decide +kernel
theorem dX9_lays_24 : decode cX9_lays 24 = .ok (.if_icmp .ge 39, 3) := by decide +kernel
theorem dX9_lays_27 : decode cX9_lays 27 = .ok (.aload_n 0, 1) := by decide +kernel
theorem dX9_lays_28 : decode cX9_lays 28 = .ok (.getfield 28, 3) := by decide +kernel
theorem dX9_lays_31 : decode cX9_lays 31 = .ok (.iload_n 1, 1) := by decide +kernel
theorem dX9_lays_32 : decode cX9_lays 32 = .ok (.dup2, 1) := by decide +kernel
theorem dX9_lays_33 : decode cX9_lays 33 = .ok (.iaload, 1) := by decide +kernel
theorem dX9_lays_34 : decode cX9_lays 34 = .ok (.iload_n 2, 1) := by decide +kernel
theorem dX9_lays_35 : decode cX9_lays 35 = .ok (.iload_n 1, 1) := by decide +kernel
theorem dX9_lays_36 : decode cX9_lays 36 = .ok (.if_icmp .eq 18, 3) := by decide +kernel
theorem dX9_lays_39 : decode cX9_lays 39 = .ok (.aload_n 0, 1) := by decide +kernel
theorem dX9_lays_40 : decode cX9_lays 40 = .ok (.iload_n 2, 1) := by decide +kernel
theorem dX9_lays_41 : decode cX9_lays 41 = .ok (.iload_n 1, 1) := by decide +kernel
theorem dX9_lays_42 : decode cX9_lays 42 = .ok (.invokevirtual 130, 3) := by decide +kernel
theorem dX9_lays_45 : decode cX9_lays 45 = .ok (.ifCond .eq 9, 3) := by decide +kernel
theorem dX9_lays_48 : decode cX9_lays 48 = .ok (.iconst 1, 1) := by decide +kernel
theorem dX9_lays_49 : decode cX9_lays 49 = .ok (.iload_n 2, 1) := by decide +kernel
theorem dX9_lays_50 : decode cX9_lays 50 = .ok (.ishl, 1) := by decide +kernel
theorem dX9_lays_51 : decode cX9_lays 51 = .ok (.goto 4, 3) := by decide +kernel
theorem dX9_lays_54 : decode cX9_lays 54 = .ok (.iconst 0, 1) := by decide +kernel
theorem dX9_lays_55 : decode cX9_lays 55 = .ok (.ior, 1) := by decide +kernel
theorem dX9_lays_56 : decode cX9_lays 56 = .ok (.iastore, 1) := by decide +kernel
theorem dX9_lays_57 : decode cX9_lays 57 = .ok (.iinc 2 1, 3) := by decide +kernel
theorem dX9_lays_60 : decode cX9_lays 60 = .ok (.goto (-41), 3) := by decide +kernel
theorem dX9_lays_63 : decode cX9_lays 63 = .ok (.iinc 1 1, 3) := by decide +kernel
theorem dX9_lays_66 : decode cX9_lays 66 = .ok (.goto (-64), 3) := by decide +kernel
theorem dX9_lays_69 : decode cX9_lays 69 = .ok (.return_, 1) := by decide +kernel
theorem dX9_firstOf_0 : decode cX9_firstOf 0 = .ok (.iconst 0, 1) := by decide +kernel
theorem dX9_firstOf_1 : decode cX9_firstOf 1 = .ok (.istore_n 2, 1) := by decide +kernel
theorem dX9_firstOf_2 : decode cX9_firstOf 2 = .ok (.iload_n 2, 1) := by decide +kernel
theorem dX9_firstOf_3 : decode cX9_firstOf 3 = .ok (.aload_n 0, 1) := by decide +kernel
theorem dX9_firstOf_4 : decode cX9_firstOf 4 = .ok (.getfield 38, 3) := by decide +kernel
theorem dX9_firstOf_7 : decode cX9_firstOf 7 = .ok (.if_icmp .ge 31, 3) := by decide +kernel
theorem dX9_firstOf_10 : decode cX9_firstOf 10 = .ok (.iload_n 1, 1) := by decide +kernel
theorem dX9_firstOf_11 : decode cX9_firstOf 11 = .ok (.iload_n 2, 1) := by decide +kernel
theorem dX9_firstOf_12 : decode cX9_firstOf 12 = .ok (.ishr, 1) := by decide +kernel
theorem dX9_firstOf_13 : decode cX9_firstOf 13 = .ok (.iconst 1, 1) := by decide +kernel
theorem dX9_firstOf_14 : decode cX9_firstOf 14 = .ok (.iand, 1) := by decide +kernel
theorem dX9_firstOf_15 : decode cX9_firstOf 15 = .ok (.iconst 1, 1) := by decide +kernel
theorem dX9_firstOf_16 : decode cX9_firstOf 16 = .ok (.if_icmp .ne 16, 3) := by decide +kernel
theorem dX9_firstOf_19 : decode cX9_firstOf 19 = .ok (.aload_n 0, 1) := by decide +kernel
theorem dX9_firstOf_20 : decode cX9_firstOf 20 = .ok (.getfield 28, 3) := by decide +kernel
theorem dX9_firstOf_23 : decode cX9_firstOf 23 = .ok (.iload_n 2, 1) := by decide +kernel
theorem dX9_firstOf_24 : decode cX9_firstOf 24 = .ok (.iaload, 1) := by decide +kernel
theorem dX9_firstOf_25 : decode cX9_firstOf 25 = .ok (.iload_n 1, 1) := by decide +kernel
theorem dX9_firstOf_26 : decode cX9_firstOf 26 = .ok (.iand, 1) := by decide +kernel
theorem dX9_firstOf_27 : decode cX9_firstOf 27 = .ok (.ifCond .ne 5, 3) := by decide +kernel
theorem dX9_firstOf_30 : decode cX9_firstOf 30 = .ok (.iload_n 2, 1) := by decide +kernel
theorem dX9_firstOf_31 : decode cX9_firstOf 31 = .ok (.ireturn, 1) := by decide +kernel
theorem dX9_firstOf_32 : decode cX9_firstOf 32 = .ok (.iinc 2 1, 3) := by decide +kernel
theorem dX9_firstOf_35 : decode cX9_firstOf 35 = .ok (.goto (-33), 3) := by decide +kernel
theorem dX9_firstOf_38 : decode cX9_firstOf 38 = .ok (.bipush (-4), 2) := by decide +kernel
theorem dX9_firstOf_40 : decode cX9_firstOf 40 = .ok (.ireturn, 1) := by decide +kernel
theorem dX9_left_0 : decode cX9_left 0 = .ok (.iconst 1, 1) := by decide +kernel
theorem dX9_left_1 : decode cX9_left 1 = .ok (.aload_n 0, 1) := by decide +kernel
theorem dX9_left_2 : decode cX9_left 2 = .ok (.getfield 38, 3) := by decide +kernel
theorem dX9_left_5 : decode cX9_left 5 = .ok (.ishl, 1) := by decide +kernel
theorem dX9_left_6 : decode cX9_left 6 = .ok (.iconst 1, 1) := by decide +kernel
theorem dX9_left_7 : decode cX9_left 7 = .ok (.isub, 1) := by decide +kernel
theorem dX9_left_8 : decode cX9_left 8 = .ok (.istore_n 2, 1) := by decide +kernel
theorem dX9_left_9 : decode cX9_left 9 = .ok (.iconst 0, 1) := by decide +kernel
theorem dX9_left_10 : decode cX9_left 10 = .ok (.istore_n 3, 1) := by decide +kernel
theorem dX9_left_11 : decode cX9_left 11 = .ok (.iload_n 3, 1) := by decide +kernel
theorem dX9_left_12 : decode cX9_left 12 = .ok (.iload_n 1, 1) := by decide +kernel
theorem dX9_left_13 : decode cX9_left 13 = .ok (.if_icmp .ge 32, 3) := by decide +kernel
theorem dX9_left_16 : decode cX9_left 16 = .ok (.aload_n 0, 1) := by decide +kernel
theorem dX9_left_17 : decode cX9_left 17 = .ok (.iload_n 2, 1) := by decide +kernel
theorem dX9_left_18 : decode cX9_left 18 = .ok (.invokevirtual 139, 3) := by decide +kernel
theorem dX9_left_21 : decode cX9_left 21 = .ok (.istore 4, 2) := by decide +kernel
theorem dX9_left_23 : decode cX9_left 23 = .ok (.iload_n 2, 1) := by decide +kernel
theorem dX9_left_24 : decode cX9_left 24 = .ok (.iload 4, 2) := by decide +kernel
theorem dX9_left_26 : decode cX9_left 26 = .ok (.ifCond .ge 7, 3) := by decide +kernel
theorem dX9_left_29 : decode cX9_left 29 = .ok (.iconst 0, 1) := by decide +kernel
theorem dX9_left_30 : decode cX9_left 30 = .ok (.goto 7, 3) := by decide +kernel
theorem dX9_left_33 : decode cX9_left 33 = .ok (.iconst 1, 1) := by decide +kernel
theorem dX9_left_34 : decode cX9_left 34 = .ok (.iload 4, 2) := by decide +kernel
theorem dX9_left_36 : decode cX9_left 36 = .ok (.ishl, 1) := by decide +kernel
theorem dX9_left_37 : decode cX9_left 37 = .ok (.isub, 1) := by decide +kernel
theorem dX9_left_38 : decode cX9_left 38 = .ok (.istore_n 2, 1) := by decide +kernel
theorem dX9_left_39 : decode cX9_left 39 = .ok (.iinc 3 1, 3) := by decide +kernel
theorem dX9_left_42 : decode cX9_left 42 = .ok (.goto (-31), 3) := by decide +kernel
theorem dX9_left_45 : decode cX9_left 45 = .ok (.iload_n 2, 1) := by decide +kernel
theorem dX9_left_46 : decode cX9_left 46 = .ok (.ireturn, 1) := by decide +kernel
theorem dX9_stuck_0 : decode cX9_stuck 0 = .ok (.aload_n 0, 1) := by decide +kernel
theorem dX9_stuck_1 : decode cX9_stuck 1 = .ok (.invokevirtual 142, 3) := by decide +kernel
theorem dX9_stuck_4 : decode cX9_stuck 4 = .ok (.aload_n 0, 1) := by decide +kernel
theorem dX9_stuck_5 : decode cX9_stuck 5 = .ok (.aload_n 0, 1) := by decide +kernel
theorem dX9_stuck_6 : decode cX9_stuck 6 = .ok (.getfield 38, 3) := by decide +kernel
theorem dX9_stuck_9 : decode cX9_stuck 9 = .ok (.invokevirtual 145, 3) := by decide +kernel
theorem dX9_stuck_12 : decode cX9_stuck 12 = .ok (.ireturn, 1) := by decide +kernel
theorem dX9_order_0 : decode cX9_order 0 = .ok (.iload_n 1, 1) := by decide +kernel
theorem dX9_order_1 : decode cX9_order 1 = .ok (.iconst 0, 1) := by decide +kernel
theorem dX9_order_2 : decode cX9_order 2 = .ok (.bipush 7, 2) := by decide +kernel
theorem dX9_order_4 : decode cX9_order 4 = .ok (.invokestatic 54, 3) := by decide +kernel
theorem dX9_order_7 : decode cX9_order 7 = .ok (.ifCond .ne 5, 3) := by decide +kernel
theorem dX9_order_10 : decode cX9_order 10 = .ok (.iconst (-1), 1) := by decide +kernel
theorem dX9_order_11 : decode cX9_order 11 = .ok (.ireturn, 1) := by decide +kernel
theorem dX9_order_12 : decode cX9_order 12 = .ok (.aload_n 0, 1) := by decide +kernel
theorem dX9_order_13 : decode cX9_order 13 = .ok (.invokevirtual 148, 3) := by decide +kernel
theorem dX9_order_16 : decode cX9_order 16 = .ok (.ifCond .eq 6, 3) := by decide +kernel
theorem dX9_order_19 : decode cX9_order 19 = .ok (.bipush (-2), 2) := by decide +kernel
theorem dX9_order_21 : decode cX9_order 21 = .ok (.ireturn, 1) := by decide +kernel
theorem dX9_order_22 : decode cX9_order 22 = .ok (.iload_n 1, 1) := by decide +kernel
theorem dX9_order_23 : decode cX9_order 23 = .ok (.aload_n 0, 1) := by decide +kernel
theorem dX9_order_24 : decode cX9_order 24 = .ok (.getfield 38, 3) := by decide +kernel
theorem dX9_order_27 : decode cX9_order 27 = .ok (.if_icmp .ge 15, 3) := by decide +kernel
theorem dX9_order_30 : decode cX9_order 30 = .ok (.aload_n 0, 1) := by decide +kernel
theorem dX9_order_31 : decode cX9_order 31 = .ok (.aload_n 0, 1) := by decide +kernel
theorem dX9_order_32 : decode cX9_order 32 = .ok (.iload_n 1, 1) := by decide +kernel
theorem dX9_order_33 : decode cX9_order 33 = .ok (.invokevirtual 145, 3) := by decide +kernel
theorem dX9_order_36 : decode cX9_order 36 = .ok (.invokevirtual 139, 3) := by decide +kernel
theorem dX9_order_39 : decode cX9_order 39 = .ok (.goto 5, 3) := by decide +kernel
theorem dX9_order_42 : decode cX9_order 42 = .ok (.bipush (-4), 2) := by decide +kernel
theorem dX9_order_44 : decode cX9_order 44 = .ok (.ireturn, 1) := by decide +kernel
theorem dX9_orders_0 : decode cX9_orders 0 = .ok (.aload_n 0, 1) := by decide +kernel
theorem dX9_orders_1 : decode cX9_orders 1 = .ok (.invokevirtual 142, 3) := by decide +kernel
theorem dX9_orders_4 : decode cX9_orders 4 = .ok (.iconst 1, 1) := by decide +kernel
theorem dX9_orders_5 : decode cX9_orders 5 = .ok (.aload_n 0, 1) := by decide +kernel
theorem dX9_orders_6 : decode cX9_orders 6 = .ok (.getfield 38, 3) := by decide +kernel
theorem dX9_orders_9 : decode cX9_orders 9 = .ok (.ishl, 1) := by decide +kernel
theorem dX9_orders_10 : decode cX9_orders 10 = .ok (.iconst 1, 1) := by decide +kernel
theorem dX9_orders_11 : decode cX9_orders 11 = .ok (.isub, 1) := by decide +kernel
theorem dX9_orders_12 : decode cX9_orders 12 = .ok (.istore_n 1, 1) := by decide +kernel
theorem dX9_orders_13 : decode cX9_orders 13 = .ok (.iconst 0, 1) := by decide +kernel
theorem dX9_orders_14 : decode cX9_orders 14 = .ok (.istore_n 2, 1) := by decide +kernel
theorem dX9_orders_15 : decode cX9_orders 15 = .ok (.iload_n 2, 1) := by decide +kernel
theorem dX9_orders_16 : decode cX9_orders 16 = .ok (.iload_n 1, 1) := by decide +kernel
theorem dX9_orders_17 : decode cX9_orders 17 = .ok (.if_icmp .gt 24, 3) := by decide +kernel
theorem dX9_orders_20 : decode cX9_orders 20 = .ok (.aload_n 0, 1) := by decide +kernel
theorem dX9_orders_21 : decode cX9_orders 21 = .ok (.getfield 31, 3) := by decide +kernel
theorem dX9_orders_24 : decode cX9_orders 24 = .ok (.iload_n 2, 1) := by decide +kernel
theorem dX9_orders_25 : decode cX9_orders 25 = .ok (.iload_n 2, 1) := by decide +kernel
theorem dX9_orders_26 : decode cX9_orders 26 = .ok (.ifCond .ne 7, 3) := by decide +kernel
theorem dX9_orders_29 : decode cX9_orders 29 = .ok (.iconst 1, 1) := by decide +kernel
theorem dX9_orders_30 : decode cX9_orders 30 = .ok (.goto 4, 3) := by decide +kernel
theorem dX9_orders_33 : decode cX9_orders 33 = .ok (.iconst 0, 1) := by decide +kernel
theorem dX9_orders_34 : decode cX9_orders 34 = .ok (.iastore, 1) := by decide +kernel
theorem dX9_orders_35 : decode cX9_orders 35 = .ok (.iinc 2 1, 3) := by decide +kernel
theorem dX9_orders_38 : decode cX9_orders 38 = .ok (.goto (-23), 3) := by decide +kernel
theorem dX9_orders_41 : decode cX9_orders 41 = .ok (.iconst 0, 1) := by decide +kernel
theorem dX9_orders_42 : decode cX9_orders 42 = .ok (.istore_n 2, 1) := by decide +kernel
theorem dX9_orders_43 : decode cX9_orders 43 = .ok (.iload_n 2, 1) := by decide +kernel
theorem dX9_orders_44 : decode cX9_orders 44 = .ok (.iload_n 1, 1) := by decide +kernel
theorem dX9_orders_45 : decode cX9_orders 45 = .ok (.if_icmp .ge 65, 3) := by decide +kernel
theorem dX9_orders_48 : decode cX9_orders 48 = .ok (.iconst 0, 1) := by decide +kernel
theorem dX9_orders_49 : decode cX9_orders 49 = .ok (.istore_n 3, 1) := by decide +kernel
theorem dX9_orders_50 : decode cX9_orders 50 = .ok (.iload_n 3, 1) := by decide +kernel
theorem dX9_orders_51 : decode cX9_orders 51 = .ok (.aload_n 0, 1) := by decide +kernel
theorem dX9_orders_52 : decode cX9_orders 52 = .ok (.getfield 38, 3) := by decide +kernel
theorem dX9_orders_55 : decode cX9_orders 55 = .ok (.if_icmp .ge 49, 3) := by decide +kernel
theorem dX9_orders_58 : decode cX9_orders 58 = .ok (.iload_n 2, 1) := by decide +kernel
theorem dX9_orders_59 : decode cX9_orders 59 = .ok (.iload_n 3, 1) := by decide +kernel
theorem dX9_orders_60 : decode cX9_orders 60 = .ok (.ishr, 1) := by decide +kernel
theorem dX9_orders_61 : decode cX9_orders 61 = .ok (.iconst 1, 1) := by decide +kernel
theorem dX9_orders_62 : decode cX9_orders 62 = .ok (.iand, 1) := by decide +kernel
theorem dX9_orders_63 : decode cX9_orders 63 = .ok (.ifCond .ne 35, 3) := by decide +kernel
theorem dX9_orders_66 : decode cX9_orders 66 = .ok (.aload_n 0, 1) := by decide +kernel
theorem dX9_orders_67 : decode cX9_orders 67 = .ok (.getfield 28, 3) := by decide +kernel
theorem dX9_orders_70 : decode cX9_orders 70 = .ok (.iload_n 3, 1) := by decide +kernel
theorem dX9_orders_71 : decode cX9_orders 71 = .ok (.iaload, 1) := by decide +kernel
theorem dX9_orders_72 : decode cX9_orders 72 = .ok (.iload_n 1, 1) := by decide +kernel
theorem dX9_orders_73 : decode cX9_orders 73 = .ok (.iload_n 2, 1) := by decide +kernel
theorem dX9_orders_74 : decode cX9_orders 74 = .ok (.isub, 1) := by decide +kernel
theorem dX9_orders_75 : decode cX9_orders 75 = .ok (.iand, 1) := by decide +kernel
theorem dX9_orders_76 : decode cX9_orders 76 = .ok (.ifCond .ne 22, 3) := by decide +kernel
theorem dX9_orders_79 : decode cX9_orders 79 = .ok (.aload_n 0, 1) := by decide +kernel
theorem dX9_orders_80 : decode cX9_orders 80 = .ok (.getfield 31, 3) := by decide +kernel
theorem dX9_orders_83 : decode cX9_orders 83 = .ok (.iload_n 2, 1) := by decide +kernel
theorem dX9_orders_84 : decode cX9_orders 84 = .ok (.iconst 1, 1) := by decide +kernel
theorem dX9_orders_85 : decode cX9_orders 85 = .ok (.iload_n 3, 1) := by decide +kernel
theorem dX9_orders_86 : decode cX9_orders 86 = .ok (.ishl, 1) := by decide +kernel
theorem dX9_orders_87 : decode cX9_orders 87 = .ok (.ior, 1) := by decide +kernel
theorem dX9_orders_88 : decode cX9_orders 88 = .ok (.dup2, 1) := by decide +kernel
theorem dX9_orders_89 : decode cX9_orders 89 = .ok (.iaload, 1) := by decide +kernel
theorem dX9_orders_90 : decode cX9_orders 90 = .ok (.aload_n 0, 1) := by decide +kernel
theorem dX9_orders_91 : decode cX9_orders 91 = .ok (.getfield 31, 3) := by decide +kernel
theorem dX9_orders_94 : decode cX9_orders 94 = .ok (.iload_n 2, 1) := by decide +kernel
theorem dX9_orders_95 : decode cX9_orders 95 = .ok (.iaload, 1) := by decide +kernel
theorem dX9_orders_96 : decode cX9_orders 96 = .ok (.iadd, 1) := by decide +kernel
theorem dX9_orders_97 : decode cX9_orders 97 = .ok (.iastore, 1) := by decide +kernel
theorem dX9_orders_98 : decode cX9_orders 98 = .ok (.iinc 3 1, 3) := by decide +kernel
theorem dX9_orders_101 : decode cX9_orders 101 = .ok (.goto (-51), 3) := by decide +kernel
theorem dX9_orders_104 : decode cX9_orders 104 = .ok (.iinc 2 1, 3) := by decide +kernel
theorem dX9_orders_107 : decode cX9_orders 107 = .ok (.goto (-64), 3) := by decide +kernel
theorem dX9_orders_110 : decode cX9_orders 110 = .ok (.aload_n 0, 1) := by decide +kernel
theorem dX9_orders_111 : decode cX9_orders 111 = .ok (.getfield 31, 3) := by decide +kernel
theorem dX9_orders_114 : decode cX9_orders 114 = .ok (.iload_n 1, 1) := by decide +kernel
theorem dX9_orders_115 : decode cX9_orders 115 = .ok (.iaload, 1) := by decide +kernel
theorem dX9_orders_116 : decode cX9_orders 116 = .ok (.ireturn, 1) := by decide +kernel
theorem dX9_isWell_0 : decode cX9_isWell 0 = .ok (.iconst 1, 1) := by decide +kernel
theorem dX9_isWell_1 : decode cX9_isWell 1 = .ok (.istore_n 2, 1) := by decide +kernel
theorem dX9_isWell_2 : decode cX9_isWell 2 = .ok (.iconst 0, 1) := by decide +kernel
theorem dX9_isWell_3 : decode cX9_isWell 3 = .ok (.istore_n 3, 1) := by decide +kernel
theorem dX9_isWell_4 : decode cX9_isWell 4 = .ok (.iload_n 3, 1) := by decide +kernel
theorem dX9_isWell_5 : decode cX9_isWell 5 = .ok (.aload_n 0, 1) := by decide +kernel
theorem dX9_isWell_6 : decode cX9_isWell 6 = .ok (.getfield 38, 3) := by decide +kernel
theorem dX9_isWell_9 : decode cX9_isWell 9 = .ok (.if_icmp .ge 52, 3) := by decide +kernel
theorem dX9_isWell_12 : decode cX9_isWell 12 = .ok (.iload_n 2, 1) := by decide +kernel
theorem dX9_isWell_13 : decode cX9_isWell 13 = .ok (.ifCond .eq 48, 3) := by decide +kernel
theorem dX9_isWell_16 : decode cX9_isWell 16 = .ok (.iload_n 3, 1) := by decide +kernel
theorem dX9_isWell_17 : decode cX9_isWell 17 = .ok (.iload_n 1, 1) := by decide +kernel
theorem dX9_isWell_18 : decode cX9_isWell 18 = .ok (.if_icmp .eq 31, 3) := by decide +kernel
theorem dX9_isWell_21 : decode cX9_isWell 21 = .ok (.aload_n 0, 1) := by decide +kernel
theorem dX9_isWell_22 : decode cX9_isWell 22 = .ok (.iload_n 1, 1) := by decide +kernel
theorem dX9_isWell_23 : decode cX9_isWell 23 = .ok (.iload_n 3, 1) := by decide +kernel
theorem dX9_isWell_24 : decode cX9_isWell 24 = .ok (.iconst 0, 1) := by decide +kernel
theorem dX9_isWell_25 : decode cX9_isWell 25 = .ok (.invokevirtual 123, 3) := by decide +kernel
theorem dX9_isWell_28 : decode cX9_isWell 28 = .ok (.ifCond .ne 25, 3) := by decide +kernel
theorem dX9_isWell_31 : decode cX9_isWell 31 = .ok (.aload_n 0, 1) := by decide +kernel
theorem dX9_isWell_32 : decode cX9_isWell 32 = .ok (.iload_n 1, 1) := by decide +kernel
theorem dX9_isWell_33 : decode cX9_isWell 33 = .ok (.iload_n 3, 1) := by decide +kernel
theorem dX9_isWell_34 : decode cX9_isWell 34 = .ok (.invokevirtual 130, 3) := by decide +kernel
theorem dX9_isWell_37 : decode cX9_isWell 37 = .ok (.ifCond .eq 12, 3) := by decide +kernel
theorem dX9_isWell_40 : decode cX9_isWell 40 = .ok (.aload_n 0, 1) := by decide +kernel
theorem dX9_isWell_41 : decode cX9_isWell 41 = .ok (.iload_n 3, 1) := by decide +kernel
theorem dX9_isWell_42 : decode cX9_isWell 42 = .ok (.iload_n 1, 1) := by decide +kernel
theorem dX9_isWell_43 : decode cX9_isWell 43 = .ok (.invokevirtual 130, 3) := by decide +kernel
theorem dX9_isWell_46 : decode cX9_isWell 46 = .ok (.ifCond .ne 7, 3) := by decide +kernel
theorem dX9_isWell_49 : decode cX9_isWell 49 = .ok (.iconst 1, 1) := by decide +kernel
theorem dX9_isWell_50 : decode cX9_isWell 50 = .ok (.goto 4, 3) := by decide +kernel
theorem dX9_isWell_53 : decode cX9_isWell 53 = .ok (.iconst 0, 1) := by decide +kernel
theorem dX9_isWell_54 : decode cX9_isWell 54 = .ok (.istore_n 2, 1) := by decide +kernel
theorem dX9_isWell_55 : decode cX9_isWell 55 = .ok (.iinc 3 1, 3) := by decide +kernel
theorem dX9_isWell_58 : decode cX9_isWell 58 = .ok (.goto (-54), 3) := by decide +kernel
theorem dX9_isWell_61 : decode cX9_isWell 61 = .ok (.iload_n 2, 1) := by decide +kernel
theorem dX9_isWell_62 : decode cX9_isWell 62 = .ok (.ireturn, 1) := by decide +kernel
theorem dX9_loopOf_0 : decode cX9_loopOf 0 = .ok (.aload_n 0, 1) := by decide +kernel
theorem dX9_loopOf_1 : decode cX9_loopOf 1 = .ok (.getfield 13, 3) := by decide +kernel
theorem dX9_loopOf_4 : decode cX9_loopOf 4 = .ok (.iconst 5, 1) := by decide +kernel
theorem dX9_loopOf_5 : decode cX9_loopOf 5 = .ok (.iload_n 1, 1) := by decide +kernel
theorem dX9_loopOf_6 : decode cX9_loopOf 6 = .ok (.imul, 1) := by decide +kernel
theorem dX9_loopOf_7 : decode cX9_loopOf 7 = .ok (.iconst 3, 1) := by decide +kernel
theorem dX9_loopOf_8 : decode cX9_loopOf 8 = .ok (.iadd, 1) := by decide +kernel
theorem dX9_loopOf_9 : decode cX9_loopOf 9 = .ok (.iaload, 1) := by decide +kernel
theorem dX9_loopOf_10 : decode cX9_loopOf 10 = .ok (.istore_n 2, 1) := by decide +kernel
theorem dX9_loopOf_11 : decode cX9_loopOf 11 = .ok (.aload_n 0, 1) := by decide +kernel
theorem dX9_loopOf_12 : decode cX9_loopOf 12 = .ok (.getfield 13, 3) := by decide +kernel
theorem dX9_loopOf_15 : decode cX9_loopOf 15 = .ok (.iconst 5, 1) := by decide +kernel
theorem dX9_loopOf_16 : decode cX9_loopOf 16 = .ok (.iload_n 1, 1) := by decide +kernel
theorem dX9_loopOf_17 : decode cX9_loopOf 17 = .ok (.imul, 1) := by decide +kernel
theorem dX9_loopOf_18 : decode cX9_loopOf 18 = .ok (.iconst 4, 1) := by decide +kernel
theorem dX9_loopOf_19 : decode cX9_loopOf 19 = .ok (.iadd, 1) := by decide +kernel
theorem dX9_loopOf_20 : decode cX9_loopOf 20 = .ok (.iaload, 1) := by decide +kernel
theorem dX9_loopOf_21 : decode cX9_loopOf 21 = .ok (.istore_n 3, 1) := by decide +kernel
theorem dX9_loopOf_22 : decode cX9_loopOf 22 = .ok (.bipush (-4), 2) := by decide +kernel
theorem dX9_loopOf_24 : decode cX9_loopOf 24 = .ok (.istore 4, 2) := by decide +kernel
theorem dX9_loopOf_26 : decode cX9_loopOf 26 = .ok (.iconst 0, 1) := by decide +kernel
theorem dX9_loopOf_27 : decode cX9_loopOf 27 = .ok (.istore 5, 2) := by decide +kernel
theorem dX9_loopOf_29 : decode cX9_loopOf 29 = .ok (.iload 5, 2) := by decide +kernel
theorem dX9_loopOf_31 : decode cX9_loopOf 31 = .ok (.bipush 40, 2) := by decide +kernel
theorem dX9_loopOf_33 : decode cX9_loopOf 33 = .ok (.if_icmp .ge 140, 3) := by decide +kernel
theorem dX9_loopOf_36 : decode cX9_loopOf 36 = .ok (.iload 4, 2) := by decide +kernel
theorem dX9_loopOf_38 : decode cX9_loopOf 38 = .ok (.ifCond .ge 135, 3) := by decide +kernel
theorem dX9_loopOf_41 : decode cX9_loopOf 41 = .ok (.iconst 0, 1) := by decide +kernel
theorem dX9_loopOf_42 : decode cX9_loopOf 42 = .ok (.istore 6, 2) := by decide +kernel
theorem dX9_loopOf_44 : decode cX9_loopOf 44 = .ok (.iload 6, 2) := by decide +kernel
theorem dX9_loopOf_46 : decode cX9_loopOf 46 = .ok (.iconst 4, 1) := by decide +kernel
theorem dX9_loopOf_47 : decode cX9_loopOf 47 = .ok (.if_icmp .ge 120, 3) := by decide +kernel
theorem dX9_loopOf_50 : decode cX9_loopOf 50 = .ok (.iload 4, 2) := by decide +kernel
theorem dX9_loopOf_52 : decode cX9_loopOf 52 = .ok (.ifCond .ge 115, 3) := by decide +kernel
theorem dX9_loopOf_55 : decode cX9_loopOf 55 = .ok (.aload_n 0, 1) := by decide +kernel
theorem dX9_loopOf_56 : decode cX9_loopOf 56 = .ok (.getfield 13, 3) := by decide +kernel
theorem dX9_loopOf_59 : decode cX9_loopOf 59 = .ok (.iconst 5, 1) := by decide +kernel
theorem dX9_loopOf_60 : decode cX9_loopOf 60 = .ok (.iload_n 1, 1) := by decide +kernel
theorem dX9_loopOf_61 : decode cX9_loopOf 61 = .ok (.imul, 1) := by decide +kernel
theorem dX9_loopOf_62 : decode cX9_loopOf 62 = .ok (.iconst 3, 1) := by decide +kernel
theorem dX9_loopOf_63 : decode cX9_loopOf 63 = .ok (.iadd, 1) := by decide +kernel
theorem dX9_loopOf_64 : decode cX9_loopOf 64 = .ok (.iload 6, 2) := by decide +kernel
theorem dX9_loopOf_66 : decode cX9_loopOf 66 = .ok (.ifCond .ne 7, 3) := by decide +kernel
theorem dX9_loopOf_69 : decode cX9_loopOf 69 = .ok (.iload_n 2, 1) := by decide +kernel
theorem dX9_loopOf_70 : decode cX9_loopOf 70 = .ok (.goto 7, 3) := by decide +kernel
theorem dX9_loopOf_73 : decode cX9_loopOf 73 = .ok (.iload 6, 2) := by decide +kernel
theorem dX9_loopOf_75 : decode cX9_loopOf 75 = .ok (.iconst 1, 1) := by decide +kernel
theorem dX9_loopOf_76 : decode cX9_loopOf 76 = .ok (.isub, 1) := by decide +kernel
theorem dX9_loopOf_77 : decode cX9_loopOf 77 = .ok (.iastore, 1) := by decide +kernel
theorem dX9_loopOf_78 : decode cX9_loopOf 78 = .ok (.iconst (-1), 1) := by decide +kernel
theorem dX9_loopOf_79 : decode cX9_loopOf 79 = .ok (.istore 7, 2) := by decide +kernel
theorem dX9_loopOf_81 : decode cX9_loopOf 81 = .ok (.iload 7, 2) := by decide +kernel
theorem dX9_loopOf_83 : decode cX9_loopOf 83 = .ok (.iconst 2, 1) := by decide +kernel
theorem dX9_loopOf_84 : decode cX9_loopOf 84 = .ok (.if_icmp .ge 77, 3) := by decide +kernel
theorem dX9_loopOf_87 : decode cX9_loopOf 87 = .ok (.iload 4, 2) := by decide +kernel
theorem dX9_loopOf_89 : decode cX9_loopOf 89 = .ok (.ifCond .ge 72, 3) := by decide +kernel
theorem dX9_loopOf_92 : decode cX9_loopOf 92 = .ok (.iload_n 3, 1) := by decide +kernel
theorem dX9_loopOf_93 : decode cX9_loopOf 93 = .ok (.iload 7, 2) := by decide +kernel
theorem dX9_loopOf_95 : decode cX9_loopOf 95 = .ok (.iload 5, 2) := by decide +kernel
theorem dX9_loopOf_97 : decode cX9_loopOf 97 = .ok (.imul, 1) := by decide +kernel
theorem dX9_loopOf_98 : decode cX9_loopOf 98 = .ok (.iadd, 1) := by decide +kernel
theorem dX9_loopOf_99 : decode cX9_loopOf 99 = .ok (.istore 8, 2) := by decide +kernel
theorem dX9_loopOf_101 : decode cX9_loopOf 101 = .ok (.aload_n 0, 1) := by decide +kernel
theorem dX9_loopOf_102 : decode cX9_loopOf 102 = .ok (.getfield 13, 3) := by decide +kernel
theorem dX9_loopOf_105 : decode cX9_loopOf 105 = .ok (.iconst 5, 1) := by decide +kernel
theorem dX9_loopOf_106 : decode cX9_loopOf 106 = .ok (.iload_n 1, 1) := by decide +kernel
theorem dX9_loopOf_107 : decode cX9_loopOf 107 = .ok (.imul, 1) := by decide +kernel
theorem dX9_loopOf_108 : decode cX9_loopOf 108 = .ok (.iconst 4, 1) := by decide +kernel
theorem dX9_loopOf_109 : decode cX9_loopOf 109 = .ok (.iadd, 1) := by decide +kernel
theorem dX9_loopOf_110 : decode cX9_loopOf 110 = .ok (.iload 8, 2) := by decide +kernel
theorem dX9_loopOf_112 : decode cX9_loopOf 112 = .ok (.iastore, 1) := by decide +kernel
theorem dX9_loopOf_113 : decode cX9_loopOf 113 = .ok (.iload 8, 2) := by decide +kernel
theorem dX9_loopOf_115 : decode cX9_loopOf 115 = .ok (.iconst 1, 1) := by decide +kernel
theorem dX9_loopOf_116 : decode cX9_loopOf 116 = .ok (.bipush 40, 2) := by decide +kernel
theorem dX9_loopOf_118 : decode cX9_loopOf 118 = .ok (.invokestatic 54, 3) := by decide +kernel
theorem dX9_loopOf_121 : decode cX9_loopOf 121 = .ok (.ifCond .eq 30, 3) := by decide +kernel
theorem dX9_loopOf_124 : decode cX9_loopOf 124 = .ok (.aload_n 0, 1) := by decide +kernel
theorem dX9_loopOf_125 : decode cX9_loopOf 125 = .ok (.iload_n 1, 1) := by decide +kernel
theorem dX9_loopOf_126 : decode cX9_loopOf 126 = .ok (.invokevirtual 151, 3) := by decide +kernel
theorem dX9_loopOf_129 : decode cX9_loopOf 129 = .ok (.ifCond .eq 22, 3) := by decide +kernel
theorem dX9_loopOf_132 : decode cX9_loopOf 132 = .ok (.bipush 100, 2) := by decide +kernel
theorem dX9_loopOf_134 : decode cX9_loopOf 134 = .ok (.aload_n 0, 1) := by decide +kernel
theorem dX9_loopOf_135 : decode cX9_loopOf 135 = .ok (.getfield 13, 3) := by decide +kernel
theorem dX9_loopOf_138 : decode cX9_loopOf 138 = .ok (.iconst 5, 1) := by decide +kernel
theorem dX9_loopOf_139 : decode cX9_loopOf 139 = .ok (.iload_n 1, 1) := by decide +kernel
theorem dX9_loopOf_140 : decode cX9_loopOf 140 = .ok (.imul, 1) := by decide +kernel
theorem dX9_loopOf_141 : decode cX9_loopOf 141 = .ok (.iconst 3, 1) := by decide +kernel
theorem dX9_loopOf_142 : decode cX9_loopOf 142 = .ok (.iadd, 1) := by decide +kernel
theorem dX9_loopOf_143 : decode cX9_loopOf 143 = .ok (.iaload, 1) := by decide +kernel
theorem dX9_loopOf_144 : decode cX9_loopOf 144 = .ok (.imul, 1) := by decide +kernel
theorem dX9_loopOf_145 : decode cX9_loopOf 145 = .ok (.iload 8, 2) := by decide +kernel
theorem dX9_loopOf_147 : decode cX9_loopOf 147 = .ok (.iadd, 1) := by decide +kernel
theorem dX9_loopOf_148 : decode cX9_loopOf 148 = .ok (.goto 5, 3) := by decide +kernel
theorem dX9_loopOf_151 : decode cX9_loopOf 151 = .ok (.bipush (-4), 2) := by decide +kernel
theorem dX9_loopOf_153 : decode cX9_loopOf 153 = .ok (.istore 4, 2) := by decide +kernel
theorem dX9_loopOf_155 : decode cX9_loopOf 155 = .ok (.iinc 7 2, 3) := by decide +kernel
theorem dX9_loopOf_158 : decode cX9_loopOf 158 = .ok (.goto (-77), 3) := by decide +kernel
theorem dX9_loopOf_161 : decode cX9_loopOf 161 = .ok (.iinc 6 1, 3) := by decide +kernel
theorem dX9_loopOf_164 : decode cX9_loopOf 164 = .ok (.goto (-120), 3) := by decide +kernel
theorem dX9_loopOf_167 : decode cX9_loopOf 167 = .ok (.iinc 5 1, 3) := by decide +kernel
theorem dX9_loopOf_170 : decode cX9_loopOf 170 = .ok (.goto (-141), 3) := by decide +kernel
theorem dX9_loopOf_173 : decode cX9_loopOf 173 = .ok (.aload_n 0, 1) := by decide +kernel
theorem dX9_loopOf_174 : decode cX9_loopOf 174 = .ok (.getfield 13, 3) := by decide +kernel
theorem dX9_loopOf_177 : decode cX9_loopOf 177 = .ok (.iconst 5, 1) := by decide +kernel
theorem dX9_loopOf_178 : decode cX9_loopOf 178 = .ok (.iload_n 1, 1) := by decide +kernel
theorem dX9_loopOf_179 : decode cX9_loopOf 179 = .ok (.imul, 1) := by decide +kernel
theorem dX9_loopOf_180 : decode cX9_loopOf 180 = .ok (.iconst 3, 1) := by decide +kernel
theorem dX9_loopOf_181 : decode cX9_loopOf 181 = .ok (.iadd, 1) := by decide +kernel
theorem dX9_loopOf_182 : decode cX9_loopOf 182 = .ok (.iload_n 2, 1) := by decide +kernel
theorem dX9_loopOf_183 : decode cX9_loopOf 183 = .ok (.iastore, 1) := by decide +kernel
theorem dX9_loopOf_184 : decode cX9_loopOf 184 = .ok (.aload_n 0, 1) := by decide +kernel
theorem dX9_loopOf_185 : decode cX9_loopOf 185 = .ok (.getfield 13, 3) := by decide +kernel
theorem dX9_loopOf_188 : decode cX9_loopOf 188 = .ok (.iconst 5, 1) := by decide +kernel
theorem dX9_loopOf_189 : decode cX9_loopOf 189 = .ok (.iload_n 1, 1) := by decide +kernel
theorem dX9_loopOf_190 : decode cX9_loopOf 190 = .ok (.imul, 1) := by decide +kernel
theorem dX9_loopOf_191 : decode cX9_loopOf 191 = .ok (.iconst 4, 1) := by decide +kernel
theorem dX9_loopOf_192 : decode cX9_loopOf 192 = .ok (.iadd, 1) := by decide +kernel
theorem dX9_loopOf_193 : decode cX9_loopOf 193 = .ok (.iload_n 3, 1) := by decide +kernel
theorem dX9_loopOf_194 : decode cX9_loopOf 194 = .ok (.iastore, 1) := by decide +kernel
theorem dX9_loopOf_195 : decode cX9_loopOf 195 = .ok (.iload 4, 2) := by decide +kernel
theorem dX9_loopOf_197 : decode cX9_loopOf 197 = .ok (.ireturn, 1) := by decide +kernel
theorem dX9_loop_0 : decode cX9_loop 0 = .ok (.aload_n 0, 1) := by decide +kernel
theorem dX9_loop_1 : decode cX9_loop 1 = .ok (.iload_n 1, 1) := by decide +kernel
theorem dX9_loop_2 : decode cX9_loop 2 = .ok (.invokevirtual 94, 3) := by decide +kernel
theorem dX9_loop_5 : decode cX9_loop 5 = .ok (.ifCond .eq 11, 3) := by decide +kernel
theorem dX9_loop_8 : decode cX9_loop 8 = .ok (.aload_n 0, 1) := by decide +kernel
theorem dX9_loop_9 : decode cX9_loop 9 = .ok (.iload_n 1, 1) := by decide +kernel
theorem dX9_loop_10 : decode cX9_loop 10 = .ok (.invokevirtual 154, 3) := by decide +kernel
theorem dX9_loop_13 : decode cX9_loop 13 = .ok (.goto 4, 3) := by decide +kernel
theorem dX9_loop_16 : decode cX9_loop 16 = .ok (.iconst (-1), 1) := by decide +kernel
theorem dX9_loop_17 : decode cX9_loop 17 = .ok (.ireturn, 1) := by decide +kernel
theorem dX9_mend_0 : decode cX9_mend 0 = .ok (.aload_n 0, 1) := by decide +kernel
theorem dX9_mend_1 : decode cX9_mend 1 = .ok (.iload_n 1, 1) := by decide +kernel
theorem dX9_mend_2 : decode cX9_mend 2 = .ok (.invokevirtual 94, 3) := by decide +kernel
theorem dX9_mend_5 : decode cX9_mend 5 = .ok (.ifCond .ne 5, 3) := by decide +kernel
theorem dX9_mend_8 : decode cX9_mend 8 = .ok (.iconst (-1), 1) := by decide +kernel
theorem dX9_mend_9 : decode cX9_mend 9 = .ok (.ireturn, 1) := by decide +kernel
theorem dX9_mend_10 : decode cX9_mend 10 = .ok (.aload_n 0, 1) := by decide +kernel
theorem dX9_mend_11 : decode cX9_mend 11 = .ok (.iload_n 1, 1) := by decide +kernel
theorem dX9_mend_12 : decode cX9_mend 12 = .ok (.invokevirtual 154, 3) := by decide +kernel
theorem dX9_mend_15 : decode cX9_mend 15 = .ok (.istore_n 2, 1) := by decide +kernel
theorem dX9_mend_16 : decode cX9_mend 16 = .ok (.bipush 100, 2) := by decide +kernel
theorem dX9_mend_18 : decode cX9_mend 18 = .ok (.aload_n 0, 1) := by decide +kernel
theorem dX9_mend_19 : decode cX9_mend 19 = .ok (.getfield 13, 3) := by decide +kernel
theorem dX9_mend_22 : decode cX9_mend 22 = .ok (.iconst 5, 1) := by decide +kernel
theorem dX9_mend_23 : decode cX9_mend 23 = .ok (.iload_n 1, 1) := by decide +kernel
theorem dX9_mend_24 : decode cX9_mend 24 = .ok (.imul, 1) := by decide +kernel
theorem dX9_mend_25 : decode cX9_mend 25 = .ok (.iconst 3, 1) := by decide +kernel
theorem dX9_mend_26 : decode cX9_mend 26 = .ok (.iadd, 1) := by decide +kernel
theorem dX9_mend_27 : decode cX9_mend 27 = .ok (.iaload, 1) := by decide +kernel
theorem dX9_mend_28 : decode cX9_mend 28 = .ok (.imul, 1) := by decide +kernel
theorem dX9_mend_29 : decode cX9_mend 29 = .ok (.aload_n 0, 1) := by decide +kernel
theorem dX9_mend_30 : decode cX9_mend 30 = .ok (.getfield 13, 3) := by decide +kernel
theorem dX9_mend_33 : decode cX9_mend 33 = .ok (.iconst 5, 1) := by decide +kernel
theorem dX9_mend_34 : decode cX9_mend 34 = .ok (.iload_n 1, 1) := by decide +kernel
theorem dX9_mend_35 : decode cX9_mend 35 = .ok (.imul, 1) := by decide +kernel
theorem dX9_mend_36 : decode cX9_mend 36 = .ok (.iconst 4, 1) := by decide +kernel
theorem dX9_mend_37 : decode cX9_mend 37 = .ok (.iadd, 1) := by decide +kernel
theorem dX9_mend_38 : decode cX9_mend 38 = .ok (.iaload, 1) := by decide +kernel
theorem dX9_mend_39 : decode cX9_mend 39 = .ok (.iadd, 1) := by decide +kernel
theorem dX9_mend_40 : decode cX9_mend 40 = .ok (.istore_n 3, 1) := by decide +kernel
theorem dX9_mend_41 : decode cX9_mend 41 = .ok (.iload_n 2, 1) := by decide +kernel
theorem dX9_mend_42 : decode cX9_mend 42 = .ok (.ifCond .lt 8, 3) := by decide +kernel
theorem dX9_mend_45 : decode cX9_mend 45 = .ok (.iload_n 2, 1) := by decide +kernel
theorem dX9_mend_46 : decode cX9_mend 46 = .ok (.iload_n 3, 1) := by decide +kernel
theorem dX9_mend_47 : decode cX9_mend 47 = .ok (.if_icmp .ne 15, 3) := by decide +kernel
theorem dX9_mend_50 : decode cX9_mend 50 = .ok (.iload_n 2, 1) := by decide +kernel
theorem dX9_mend_51 : decode cX9_mend 51 = .ok (.ifCond .ge 8, 3) := by decide +kernel
theorem dX9_mend_54 : decode cX9_mend 54 = .ok (.bipush (-4), 2) := by decide +kernel
theorem dX9_mend_56 : decode cX9_mend 56 = .ok (.goto 5, 3) := by decide +kernel
theorem dX9_mend_59 : decode cX9_mend 59 = .ok (.bipush (-2), 2) := by decide +kernel
theorem dX9_mend_61 : decode cX9_mend 61 = .ok (.ireturn, 1) := by decide +kernel
theorem dX9_mend_62 : decode cX9_mend 62 = .ok (.aload_n 0, 1) := by decide +kernel
theorem dX9_mend_63 : decode cX9_mend 63 = .ok (.invokevirtual 91, 3) := by decide +kernel
theorem dX9_mend_66 : decode cX9_mend 66 = .ok (.aload_n 0, 1) := by decide +kernel
theorem dX9_mend_67 : decode cX9_mend 67 = .ok (.getfield 13, 3) := by decide +kernel
theorem dX9_mend_70 : decode cX9_mend 70 = .ok (.iconst 5, 1) := by decide +kernel
theorem dX9_mend_71 : decode cX9_mend 71 = .ok (.iload_n 1, 1) := by decide +kernel
theorem dX9_mend_72 : decode cX9_mend 72 = .ok (.imul, 1) := by decide +kernel
theorem dX9_mend_73 : decode cX9_mend 73 = .ok (.iconst 3, 1) := by decide +kernel
theorem dX9_mend_74 : decode cX9_mend 74 = .ok (.iadd, 1) := by decide +kernel
theorem dX9_mend_75 : decode cX9_mend 75 = .ok (.iload_n 2, 1) := by decide +kernel
theorem dX9_mend_76 : decode cX9_mend 76 = .ok (.bipush 100, 2) := by decide +kernel
theorem dX9_mend_78 : decode cX9_mend 78 = .ok (.idiv, 1) := by decide +kernel
theorem dX9_mend_79 : decode cX9_mend 79 = .ok (.iastore, 1) := by decide +kernel
theorem dX9_mend_80 : decode cX9_mend 80 = .ok (.aload_n 0, 1) := by decide +kernel
theorem dX9_mend_81 : decode cX9_mend 81 = .ok (.getfield 13, 3) := by decide +kernel
theorem dX9_mend_84 : decode cX9_mend 84 = .ok (.iconst 5, 1) := by decide +kernel
theorem dX9_mend_85 : decode cX9_mend 85 = .ok (.iload_n 1, 1) := by decide +kernel
theorem dX9_mend_86 : decode cX9_mend 86 = .ok (.imul, 1) := by decide +kernel
theorem dX9_mend_87 : decode cX9_mend 87 = .ok (.iconst 4, 1) := by decide +kernel
theorem dX9_mend_88 : decode cX9_mend 88 = .ok (.iadd, 1) := by decide +kernel
theorem dX9_mend_89 : decode cX9_mend 89 = .ok (.iload_n 2, 1) := by decide +kernel
theorem dX9_mend_90 : decode cX9_mend 90 = .ok (.bipush 100, 2) := by decide +kernel
theorem dX9_mend_92 : decode cX9_mend 92 = .ok (.irem, 1) := by decide +kernel
theorem dX9_mend_93 : decode cX9_mend 93 = .ok (.iastore, 1) := by decide +kernel
theorem dX9_mend_94 : decode cX9_mend 94 = .ok (.iload_n 2, 1) := by decide +kernel
theorem dX9_mend_95 : decode cX9_mend 95 = .ok (.bipush 100, 2) := by decide +kernel
theorem dX9_mend_97 : decode cX9_mend 97 = .ok (.irem, 1) := by decide +kernel
theorem dX9_mend_98 : decode cX9_mend 98 = .ok (.iload_n 3, 1) := by decide +kernel
theorem dX9_mend_99 : decode cX9_mend 99 = .ok (.bipush 100, 2) := by decide +kernel
theorem dX9_mend_101 : decode cX9_mend 101 = .ok (.irem, 1) := by decide +kernel
theorem dX9_mend_102 : decode cX9_mend 102 = .ok (.invokestatic 105, 3) := by decide +kernel
theorem dX9_mend_105 : decode cX9_mend 105 = .ok (.ireturn, 1) := by decide +kernel
theorem dX9_isSight_0 : decode cX9_isSight 0 = .ok (.iload_n 0, 1) := by decide +kernel
theorem dX9_isSight_1 : decode cX9_isSight 1 = .ok (.iconst 0, 1) := by decide +kernel
theorem dX9_isSight_2 : decode cX9_isSight 2 = .ok (.iconst 2, 1) := by decide +kernel
theorem dX9_isSight_3 : decode cX9_isSight 3 = .ok (.invokestatic 54, 3) := by decide +kernel
theorem dX9_isSight_6 : decode cX9_isSight 6 = .ok (.ifCond .eq 35, 3) := by decide +kernel
theorem dX9_isSight_9 : decode cX9_isSight 9 = .ok (.iload_n 1, 1) := by decide +kernel
theorem dX9_isSight_10 : decode cX9_isSight 10 = .ok (.iconst 0, 1) := by decide +kernel
theorem dX9_isSight_11 : decode cX9_isSight 11 = .ok (.bipush 60, 2) := by decide +kernel
theorem dX9_isSight_13 : decode cX9_isSight 13 = .ok (.invokestatic 54, 3) := by decide +kernel
theorem dX9_isSight_16 : decode cX9_isSight 16 = .ok (.ifCond .eq 25, 3) := by decide +kernel
theorem dX9_isSight_19 : decode cX9_isSight 19 = .ok (.iload_n 2, 1) := by decide +kernel
theorem dX9_isSight_20 : decode cX9_isSight 20 = .ok (.iload_n 1, 1) := by decide +kernel
theorem dX9_isSight_21 : decode cX9_isSight 21 = .ok (.bipush 60, 2) := by decide +kernel
theorem dX9_isSight_23 : decode cX9_isSight 23 = .ok (.invokestatic 54, 3) := by decide +kernel
theorem dX9_isSight_26 : decode cX9_isSight 26 = .ok (.ifCond .eq 15, 3) := by decide +kernel
theorem dX9_isSight_29 : decode cX9_isSight 29 = .ok (.iload_n 2, 1) := by decide +kernel
theorem dX9_isSight_30 : decode cX9_isSight 30 = .ok (.iload_n 1, 1) := by decide +kernel
theorem dX9_isSight_31 : decode cX9_isSight 31 = .ok (.isub, 1) := by decide +kernel
theorem dX9_isSight_32 : decode cX9_isSight 32 = .ok (.bipush 20, 2) := by decide +kernel
theorem dX9_isSight_34 : decode cX9_isSight 34 = .ok (.if_icmp .ge 7, 3) := by decide +kernel
theorem dX9_isSight_37 : decode cX9_isSight 37 = .ok (.iconst 1, 1) := by decide +kernel
theorem dX9_isSight_38 : decode cX9_isSight 38 = .ok (.goto 4, 3) := by decide +kernel
theorem dX9_isSight_41 : decode cX9_isSight 41 = .ok (.iconst 0, 1) := by decide +kernel
theorem dX9_isSight_42 : decode cX9_isSight 42 = .ok (.ireturn, 1) := by decide +kernel
theorem dX9_seen_0 : decode cX9_seen 0 = .ok (.iconst 0, 1) := by decide +kernel
theorem dX9_seen_1 : decode cX9_seen 1 = .ok (.istore 5, 2) := by decide +kernel
theorem dX9_seen_3 : decode cX9_seen 3 = .ok (.iconst 0, 1) := by decide +kernel
theorem dX9_seen_4 : decode cX9_seen 4 = .ok (.istore 6, 2) := by decide +kernel
theorem dX9_seen_6 : decode cX9_seen 6 = .ok (.iconst 0, 1) := by decide +kernel
theorem dX9_seen_7 : decode cX9_seen 7 = .ok (.istore 7, 2) := by decide +kernel
theorem dX9_seen_9 : decode cX9_seen 9 = .ok (.iload 7, 2) := by decide +kernel
theorem dX9_seen_11 : decode cX9_seen 11 = .ok (.aload_n 0, 1) := by decide +kernel
theorem dX9_seen_12 : decode cX9_seen 12 = .ok (.getfield 38, 3) := by decide +kernel
theorem dX9_seen_15 : decode cX9_seen 15 = .ok (.if_icmp .ge 93, 3) := by decide +kernel
theorem dX9_seen_18 : decode cX9_seen 18 = .ok (.aload_n 0, 1) := by decide +kernel
theorem dX9_seen_19 : decode cX9_seen 19 = .ok (.getfield 13, 3) := by decide +kernel
theorem dX9_seen_22 : decode cX9_seen 22 = .ok (.iconst 5, 1) := by decide +kernel
theorem dX9_seen_23 : decode cX9_seen 23 = .ok (.iload 7, 2) := by decide +kernel
theorem dX9_seen_25 : decode cX9_seen 25 = .ok (.imul, 1) := by decide +kernel
theorem dX9_seen_26 : decode cX9_seen 26 = .ok (.iaload, 1) := by decide +kernel
theorem dX9_seen_27 : decode cX9_seen 27 = .ok (.iload 4, 2) := by decide +kernel
theorem dX9_seen_29 : decode cX9_seen 29 = .ok (.iadd, 1) := by decide +kernel
theorem dX9_seen_30 : decode cX9_seen 30 = .ok (.iload_n 2, 1) := by decide +kernel
theorem dX9_seen_31 : decode cX9_seen 31 = .ok (.isub, 1) := by decide +kernel
theorem dX9_seen_32 : decode cX9_seen 32 = .ok (.istore 8, 2) := by decide +kernel
theorem dX9_seen_34 : decode cX9_seen 34 = .ok (.iload 8, 2) := by decide +kernel
theorem dX9_seen_36 : decode cX9_seen 36 = .ok (.iconst 0, 1) := by decide +kernel
theorem dX9_seen_37 : decode cX9_seen 37 = .ok (.iload_n 3, 1) := by decide +kernel
theorem dX9_seen_38 : decode cX9_seen 38 = .ok (.iload_n 2, 1) := by decide +kernel
theorem dX9_seen_39 : decode cX9_seen 39 = .ok (.isub, 1) := by decide +kernel
theorem dX9_seen_40 : decode cX9_seen 40 = .ok (.invokestatic 54, 3) := by decide +kernel
theorem dX9_seen_43 : decode cX9_seen 43 = .ok (.ifCond .eq 59, 3) := by decide +kernel
theorem dX9_seen_46 : decode cX9_seen 46 = .ok (.iload 5, 2) := by decide +kernel
theorem dX9_seen_48 : decode cX9_seen 48 = .ok (.aload_n 0, 1) := by decide +kernel
theorem dX9_seen_49 : decode cX9_seen 49 = .ok (.getfield 13, 3) := by decide +kernel
theorem dX9_seen_52 : decode cX9_seen 52 = .ok (.iconst 5, 1) := by decide +kernel
theorem dX9_seen_53 : decode cX9_seen 53 = .ok (.iload 7, 2) := by decide +kernel
theorem dX9_seen_55 : decode cX9_seen 55 = .ok (.imul, 1) := by decide +kernel
theorem dX9_seen_56 : decode cX9_seen 56 = .ok (.iconst 1, 1) := by decide +kernel
theorem dX9_seen_57 : decode cX9_seen 57 = .ok (.iadd, 1) := by decide +kernel
theorem dX9_seen_58 : decode cX9_seen 58 = .ok (.iaload, 1) := by decide +kernel
theorem dX9_seen_59 : decode cX9_seen 59 = .ok (.iload_n 1, 1) := by decide +kernel
theorem dX9_seen_60 : decode cX9_seen 60 = .ok (.if_icmp .ne 10, 3) := by decide +kernel
theorem dX9_seen_63 : decode cX9_seen 63 = .ok (.iconst 1, 1) := by decide +kernel
theorem dX9_seen_64 : decode cX9_seen 64 = .ok (.iload 8, 2) := by decide +kernel
theorem dX9_seen_66 : decode cX9_seen 66 = .ok (.ishl, 1) := by decide +kernel
theorem dX9_seen_67 : decode cX9_seen 67 = .ok (.goto 4, 3) := by decide +kernel
theorem dX9_seen_70 : decode cX9_seen 70 = .ok (.iconst 0, 1) := by decide +kernel
theorem dX9_seen_71 : decode cX9_seen 71 = .ok (.ior, 1) := by decide +kernel
theorem dX9_seen_72 : decode cX9_seen 72 = .ok (.istore 5, 2) := by decide +kernel
theorem dX9_seen_74 : decode cX9_seen 74 = .ok (.iload 6, 2) := by decide +kernel
theorem dX9_seen_76 : decode cX9_seen 76 = .ok (.aload_n 0, 1) := by decide +kernel
theorem dX9_seen_77 : decode cX9_seen 77 = .ok (.getfield 13, 3) := by decide +kernel
theorem dX9_seen_80 : decode cX9_seen 80 = .ok (.iconst 5, 1) := by decide +kernel
theorem dX9_seen_81 : decode cX9_seen 81 = .ok (.iload 7, 2) := by decide +kernel
theorem dX9_seen_83 : decode cX9_seen 83 = .ok (.imul, 1) := by decide +kernel
theorem dX9_seen_84 : decode cX9_seen 84 = .ok (.iconst 1, 1) := by decide +kernel
theorem dX9_seen_85 : decode cX9_seen 85 = .ok (.iadd, 1) := by decide +kernel
theorem dX9_seen_86 : decode cX9_seen 86 = .ok (.iaload, 1) := by decide +kernel
theorem dX9_seen_87 : decode cX9_seen 87 = .ok (.iload_n 1, 1) := by decide +kernel
theorem dX9_seen_88 : decode cX9_seen 88 = .ok (.if_icmp .le 10, 3) := by decide +kernel
theorem dX9_seen_91 : decode cX9_seen 91 = .ok (.iconst 1, 1) := by decide +kernel
theorem dX9_seen_92 : decode cX9_seen 92 = .ok (.iload 8, 2) := by decide +kernel
theorem dX9_seen_94 : decode cX9_seen 94 = .ok (.ishl, 1) := by decide +kernel
theorem dX9_seen_95 : decode cX9_seen 95 = .ok (.goto 4, 3) := by decide +kernel
theorem dX9_seen_98 : decode cX9_seen 98 = .ok (.iconst 0, 1) := by decide +kernel
theorem dX9_seen_99 : decode cX9_seen 99 = .ok (.ior, 1) := by decide +kernel
theorem dX9_seen_100 : decode cX9_seen 100 = .ok (.istore 6, 2) := by decide +kernel
theorem dX9_seen_102 : decode cX9_seen 102 = .ok (.iinc 7 1, 3) := by decide +kernel
theorem dX9_seen_105 : decode cX9_seen 105 = .ok (.goto (-96), 3) := by decide +kernel
theorem dX9_seen_108 : decode cX9_seen 108 = .ok (.iload 5, 2) := by decide +kernel
theorem dX9_seen_110 : decode cX9_seen 110 = .ok (.iload 6, 2) := by decide +kernel
theorem dX9_seen_112 : decode cX9_seen 112 = .ok (.iconst (-1), 1) := by decide +kernel
theorem dX9_seen_113 : decode cX9_seen 113 = .ok (.ixor, 1) := by decide +kernel
theorem dX9_seen_114 : decode cX9_seen 114 = .ok (.iand, 1) := by decide +kernel
theorem dX9_seen_115 : decode cX9_seen 115 = .ok (.ireturn, 1) := by decide +kernel
theorem dX9_sees_0 : decode cX9_sees 0 = .ok (.iload_n 1, 1) := by decide +kernel
theorem dX9_sees_1 : decode cX9_sees 1 = .ok (.iload_n 2, 1) := by decide +kernel
theorem dX9_sees_2 : decode cX9_sees 2 = .ok (.iload_n 3, 1) := by decide +kernel
theorem dX9_sees_3 : decode cX9_sees 3 = .ok (.invokestatic 157, 3) := by decide +kernel
theorem dX9_sees_6 : decode cX9_sees 6 = .ok (.ifCond .eq 20, 3) := by decide +kernel
theorem dX9_sees_9 : decode cX9_sees 9 = .ok (.aload_n 0, 1) := by decide +kernel
theorem dX9_sees_10 : decode cX9_sees 10 = .ok (.iload_n 1, 1) := by decide +kernel
theorem dX9_sees_11 : decode cX9_sees 11 = .ok (.iload_n 2, 1) := by decide +kernel
theorem dX9_sees_12 : decode cX9_sees 12 = .ok (.iload_n 3, 1) := by decide +kernel
theorem dX9_sees_13 : decode cX9_sees 13 = .ok (.aload_n 0, 1) := by decide +kernel
theorem dX9_sees_14 : decode cX9_sees 14 = .ok (.getfield 13, 3) := by decide +kernel
theorem dX9_sees_17 : decode cX9_sees 17 = .ok (.bipush 43, 2) := by decide +kernel
theorem dX9_sees_19 : decode cX9_sees 19 = .ok (.iaload, 1) := by decide +kernel
theorem dX9_sees_20 : decode cX9_sees 20 = .ok (.invokevirtual 160, 3) := by decide +kernel
theorem dX9_sees_23 : decode cX9_sees 23 = .ok (.goto 4, 3) := by decide +kernel
theorem dX9_sees_26 : decode cX9_sees 26 = .ok (.iconst (-1), 1) := by decide +kernel
theorem dX9_sees_27 : decode cX9_sees 27 = .ok (.ireturn, 1) := by decide +kernel
theorem dX9_eye_0 : decode cX9_eye 0 = .ok (.iload_n 1, 1) := by decide +kernel
theorem dX9_eye_1 : decode cX9_eye 1 = .ok (.iconst 0, 1) := by decide +kernel
theorem dX9_eye_2 : decode cX9_eye 2 = .ok (.iconst 1, 1) := by decide +kernel
theorem dX9_eye_3 : decode cX9_eye 3 = .ok (.invokestatic 54, 3) := by decide +kernel
theorem dX9_eye_6 : decode cX9_eye 6 = .ok (.ifCond .eq 32, 3) := by decide +kernel
theorem dX9_eye_9 : decode cX9_eye 9 = .ok (.iload_n 2, 1) := by decide +kernel
theorem dX9_eye_10 : decode cX9_eye 10 = .ok (.iload_n 3, 1) := by decide +kernel
theorem dX9_eye_11 : decode cX9_eye 11 = .ok (.iload 4, 2) := by decide +kernel
theorem dX9_eye_13 : decode cX9_eye 13 = .ok (.invokestatic 157, 3) := by decide +kernel
theorem dX9_eye_16 : decode cX9_eye 16 = .ok (.ifCond .eq 22, 3) := by decide +kernel
theorem dX9_eye_19 : decode cX9_eye 19 = .ok (.iload 5, 2) := by decide +kernel
theorem dX9_eye_21 : decode cX9_eye 21 = .ok (.iconst 0, 1) := by decide +kernel
theorem dX9_eye_22 : decode cX9_eye 22 = .ok (.iconst 1, 1) := by decide +kernel
theorem dX9_eye_23 : decode cX9_eye 23 = .ok (.iload 4, 2) := by decide +kernel
theorem dX9_eye_25 : decode cX9_eye 25 = .ok (.iload_n 3, 1) := by decide +kernel
theorem dX9_eye_26 : decode cX9_eye 26 = .ok (.isub, 1) := by decide +kernel
theorem dX9_eye_27 : decode cX9_eye 27 = .ok (.iconst 1, 1) := by decide +kernel
theorem dX9_eye_28 : decode cX9_eye 28 = .ok (.iadd, 1) := by decide +kernel
theorem dX9_eye_29 : decode cX9_eye 29 = .ok (.ishl, 1) := by decide +kernel
theorem dX9_eye_30 : decode cX9_eye 30 = .ok (.iconst 1, 1) := by decide +kernel
theorem dX9_eye_31 : decode cX9_eye 31 = .ok (.isub, 1) := by decide +kernel
theorem dX9_eye_32 : decode cX9_eye 32 = .ok (.invokestatic 54, 3) := by decide +kernel
theorem dX9_eye_35 : decode cX9_eye 35 = .ok (.ifCond .ne 5, 3) := by decide +kernel
theorem dX9_eye_38 : decode cX9_eye 38 = .ok (.iconst (-1), 1) := by decide +kernel
theorem dX9_eye_39 : decode cX9_eye 39 = .ok (.ireturn, 1) := by decide +kernel
theorem dX9_eye_40 : decode cX9_eye 40 = .ok (.aload_n 0, 1) := by decide +kernel
theorem dX9_eye_41 : decode cX9_eye 41 = .ok (.getfield 22, 3) := by decide +kernel
theorem dX9_eye_44 : decode cX9_eye 44 = .ok (.iconst 5, 1) := by decide +kernel
theorem dX9_eye_45 : decode cX9_eye 45 = .ok (.iload_n 1, 1) := by decide +kernel
theorem dX9_eye_46 : decode cX9_eye 46 = .ok (.imul, 1) := by decide +kernel
theorem dX9_eye_47 : decode cX9_eye 47 = .ok (.iconst 1, 1) := by decide +kernel
theorem dX9_eye_48 : decode cX9_eye 48 = .ok (.iastore, 1) := by decide +kernel
theorem dX9_eye_49 : decode cX9_eye 49 = .ok (.aload_n 0, 1) := by decide +kernel
theorem dX9_eye_50 : decode cX9_eye 50 = .ok (.getfield 22, 3) := by decide +kernel
theorem dX9_eye_53 : decode cX9_eye 53 = .ok (.iconst 5, 1) := by decide +kernel
theorem dX9_eye_54 : decode cX9_eye 54 = .ok (.iload_n 1, 1) := by decide +kernel
theorem dX9_eye_55 : decode cX9_eye 55 = .ok (.imul, 1) := by decide +kernel
theorem dX9_eye_56 : decode cX9_eye 56 = .ok (.iconst 1, 1) := by decide +kernel
theorem dX9_eye_57 : decode cX9_eye 57 = .ok (.iadd, 1) := by decide +kernel
theorem dX9_eye_58 : decode cX9_eye 58 = .ok (.iload_n 2, 1) := by decide +kernel
theorem dX9_eye_59 : decode cX9_eye 59 = .ok (.iastore, 1) := by decide +kernel
theorem dX9_eye_60 : decode cX9_eye 60 = .ok (.aload_n 0, 1) := by decide +kernel
theorem dX9_eye_61 : decode cX9_eye 61 = .ok (.getfield 22, 3) := by decide +kernel
theorem dX9_eye_64 : decode cX9_eye 64 = .ok (.iconst 5, 1) := by decide +kernel
theorem dX9_eye_65 : decode cX9_eye 65 = .ok (.iload_n 1, 1) := by decide +kernel
theorem dX9_eye_66 : decode cX9_eye 66 = .ok (.imul, 1) := by decide +kernel
theorem dX9_eye_67 : decode cX9_eye 67 = .ok (.iconst 2, 1) := by decide +kernel
theorem dX9_eye_68 : decode cX9_eye 68 = .ok (.iadd, 1) := by decide +kernel
theorem dX9_eye_69 : decode cX9_eye 69 = .ok (.iload_n 3, 1) := by decide +kernel
theorem dX9_eye_70 : decode cX9_eye 70 = .ok (.iastore, 1) := by decide +kernel
theorem dX9_eye_71 : decode cX9_eye 71 = .ok (.aload_n 0, 1) := by decide +kernel
theorem dX9_eye_72 : decode cX9_eye 72 = .ok (.getfield 22, 3) := by decide +kernel
theorem dX9_eye_75 : decode cX9_eye 75 = .ok (.iconst 5, 1) := by decide +kernel
theorem dX9_eye_76 : decode cX9_eye 76 = .ok (.iload_n 1, 1) := by decide +kernel
theorem dX9_eye_77 : decode cX9_eye 77 = .ok (.imul, 1) := by decide +kernel
theorem dX9_eye_78 : decode cX9_eye 78 = .ok (.iconst 3, 1) := by decide +kernel
theorem dX9_eye_79 : decode cX9_eye 79 = .ok (.iadd, 1) := by decide +kernel
theorem dX9_eye_80 : decode cX9_eye 80 = .ok (.iload 4, 2) := by decide +kernel
theorem dX9_eye_82 : decode cX9_eye 82 = .ok (.iastore, 1) := by decide +kernel
theorem dX9_eye_83 : decode cX9_eye 83 = .ok (.aload_n 0, 1) := by decide +kernel
theorem dX9_eye_84 : decode cX9_eye 84 = .ok (.getfield 22, 3) := by decide +kernel
theorem dX9_eye_87 : decode cX9_eye 87 = .ok (.iconst 5, 1) := by decide +kernel
theorem dX9_eye_88 : decode cX9_eye 88 = .ok (.iload_n 1, 1) := by decide +kernel
theorem dX9_eye_89 : decode cX9_eye 89 = .ok (.imul, 1) := by decide +kernel
theorem dX9_eye_90 : decode cX9_eye 90 = .ok (.iconst 4, 1) := by decide +kernel
theorem dX9_eye_91 : decode cX9_eye 91 = .ok (.iadd, 1) := by decide +kernel
theorem dX9_eye_92 : decode cX9_eye 92 = .ok (.iload 5, 2) := by decide +kernel
theorem dX9_eye_94 : decode cX9_eye 94 = .ok (.iastore, 1) := by decide +kernel
theorem dX9_eye_95 : decode cX9_eye 95 = .ok (.aload_n 0, 1) := by decide +kernel
theorem dX9_eye_96 : decode cX9_eye 96 = .ok (.getfield 22, 3) := by decide +kernel
theorem dX9_eye_99 : decode cX9_eye 99 = .ok (.iconst 0, 1) := by decide +kernel
theorem dX9_eye_100 : decode cX9_eye 100 = .ok (.iaload, 1) := by decide +kernel
theorem dX9_eye_101 : decode cX9_eye 101 = .ok (.aload_n 0, 1) := by decide +kernel
theorem dX9_eye_102 : decode cX9_eye 102 = .ok (.getfield 22, 3) := by decide +kernel
theorem dX9_eye_105 : decode cX9_eye 105 = .ok (.iconst 5, 1) := by decide +kernel
theorem dX9_eye_106 : decode cX9_eye 106 = .ok (.iaload, 1) := by decide +kernel
theorem dX9_eye_107 : decode cX9_eye 107 = .ok (.iadd, 1) := by decide +kernel
theorem dX9_eye_108 : decode cX9_eye 108 = .ok (.ireturn, 1) := by decide +kernel
theorem dX9_forget_0 : decode cX9_forget 0 = .ok (.aload_n 0, 1) := by decide +kernel
theorem dX9_forget_1 : decode cX9_forget 1 = .ok (.getfield 22, 3) := by decide +kernel
theorem dX9_forget_4 : decode cX9_forget 4 = .ok (.iconst 0, 1) := by decide +kernel
theorem dX9_forget_5 : decode cX9_forget 5 = .ok (.iaload, 1) := by decide +kernel
theorem dX9_forget_6 : decode cX9_forget 6 = .ok (.aload_n 0, 1) := by decide +kernel
theorem dX9_forget_7 : decode cX9_forget 7 = .ok (.getfield 22, 3) := by decide +kernel
theorem dX9_forget_10 : decode cX9_forget 10 = .ok (.iconst 5, 1) := by decide +kernel
theorem dX9_forget_11 : decode cX9_forget 11 = .ok (.iaload, 1) := by decide +kernel
theorem dX9_forget_12 : decode cX9_forget 12 = .ok (.iadd, 1) := by decide +kernel
theorem dX9_forget_13 : decode cX9_forget 13 = .ok (.istore_n 1, 1) := by decide +kernel
theorem dX9_forget_14 : decode cX9_forget 14 = .ok (.aload_n 0, 1) := by decide +kernel
theorem dX9_forget_15 : decode cX9_forget 15 = .ok (.getfield 22, 3) := by decide +kernel
theorem dX9_forget_18 : decode cX9_forget 18 = .ok (.iconst 0, 1) := by decide +kernel
theorem dX9_forget_19 : decode cX9_forget 19 = .ok (.iconst 0, 1) := by decide +kernel
theorem dX9_forget_20 : decode cX9_forget 20 = .ok (.iastore, 1) := by decide +kernel
theorem dX9_forget_21 : decode cX9_forget 21 = .ok (.aload_n 0, 1) := by decide +kernel
theorem dX9_forget_22 : decode cX9_forget 22 = .ok (.getfield 22, 3) := by decide +kernel
theorem dX9_forget_25 : decode cX9_forget 25 = .ok (.iconst 5, 1) := by decide +kernel
theorem dX9_forget_26 : decode cX9_forget 26 = .ok (.iconst 0, 1) := by decide +kernel
theorem dX9_forget_27 : decode cX9_forget 27 = .ok (.iastore, 1) := by decide +kernel
theorem dX9_forget_28 : decode cX9_forget 28 = .ok (.iload_n 1, 1) := by decide +kernel
theorem dX9_forget_29 : decode cX9_forget 29 = .ok (.ireturn, 1) := by decide +kernel
theorem dX9_explains_0 : decode cX9_explains 0 = .ok (.iload_n 1, 1) := by decide +kernel
theorem dX9_explains_1 : decode cX9_explains 1 = .ok (.iconst 0, 1) := by decide +kernel
theorem dX9_explains_2 : decode cX9_explains 2 = .ok (.iconst 1, 1) := by decide +kernel
theorem dX9_explains_3 : decode cX9_explains 3 = .ok (.invokestatic 54, 3) := by decide +kernel
theorem dX9_explains_6 : decode cX9_explains 6 = .ok (.ifCond .ne 5, 3) := by decide +kernel
theorem dX9_explains_9 : decode cX9_explains 9 = .ok (.iconst (-1), 1) := by decide +kernel
theorem dX9_explains_10 : decode cX9_explains 10 = .ok (.ireturn, 1) := by decide +kernel
theorem dX9_explains_11 : decode cX9_explains 11 = .ok (.iconst 0, 1) := by decide +kernel
theorem dX9_explains_12 : decode cX9_explains 12 = .ok (.istore_n 2, 1) := by decide +kernel
theorem dX9_explains_13 : decode cX9_explains 13 = .ok (.bipush (-4), 2) := by decide +kernel
theorem dX9_explains_15 : decode cX9_explains 15 = .ok (.istore_n 3, 1) := by decide +kernel
theorem dX9_explains_16 : decode cX9_explains 16 = .ok (.iconst 0, 1) := by decide +kernel
theorem dX9_explains_17 : decode cX9_explains 17 = .ok (.istore 4, 2) := by decide +kernel
theorem dX9_explains_19 : decode cX9_explains 19 = .ok (.iload 4, 2) := by decide +kernel
theorem dX9_explains_21 : decode cX9_explains 21 = .ok (.bipush 10, 2) := by decide +kernel
theorem dX9_explains_23 : decode cX9_explains 23 = .ok (.if_icmp .ge 163, 3) := by decide +kernel
theorem dX9_explains_26 : decode cX9_explains 26 = .ok (.iconst (-1), 1) := by decide +kernel
theorem dX9_explains_27 : decode cX9_explains 27 = .ok (.istore 5, 2) := by decide +kernel
theorem dX9_explains_29 : decode cX9_explains 29 = .ok (.iload 5, 2) := by decide +kernel
theorem dX9_explains_31 : decode cX9_explains 31 = .ok (.iconst 2, 1) := by decide +kernel
theorem dX9_explains_32 : decode cX9_explains 32 = .ok (.if_icmp .ge 148, 3) := by decide +kernel
theorem dX9_explains_35 : decode cX9_explains 35 = .ok (.iload 5, 2) := by decide +kernel
theorem dX9_explains_37 : decode cX9_explains 37 = .ok (.iload 4, 2) := by decide +kernel
theorem dX9_explains_39 : decode cX9_explains 39 = .ok (.imul, 1) := by decide +kernel
theorem dX9_explains_40 : decode cX9_explains 40 = .ok (.istore 6, 2) := by decide +kernel
theorem dX9_explains_42 : decode cX9_explains 42 = .ok (.iload 4, 2) := by decide +kernel
theorem dX9_explains_44 : decode cX9_explains 44 = .ok (.ifCond .gt 8, 3) := by decide +kernel
theorem dX9_explains_47 : decode cX9_explains 47 = .ok (.iload 5, 2) := by decide +kernel
theorem dX9_explains_49 : decode cX9_explains 49 = .ok (.ifCond .ge 7, 3) := by decide +kernel
theorem dX9_explains_52 : decode cX9_explains 52 = .ok (.iconst 1, 1) := by decide +kernel
theorem dX9_explains_53 : decode cX9_explains 53 = .ok (.goto 4, 3) := by decide +kernel
theorem dX9_explains_56 : decode cX9_explains 56 = .ok (.iconst 0, 1) := by decide +kernel
theorem dX9_explains_57 : decode cX9_explains 57 = .ok (.istore 7, 2) := by decide +kernel
theorem dX9_explains_59 : decode cX9_explains 59 = .ok (.iconst 0, 1) := by decide +kernel
theorem dX9_explains_60 : decode cX9_explains 60 = .ok (.istore 8, 2) := by decide +kernel
theorem dX9_explains_62 : decode cX9_explains 62 = .ok (.iload 8, 2) := by decide +kernel
theorem dX9_explains_64 : decode cX9_explains 64 = .ok (.bipush 10, 2) := by decide +kernel
theorem dX9_explains_66 : decode cX9_explains 66 = .ok (.if_icmp .ge 76, 3) := by decide +kernel
theorem dX9_explains_69 : decode cX9_explains 69 = .ok (.iload 7, 2) := by decide +kernel
theorem dX9_explains_71 : decode cX9_explains 71 = .ok (.ifCond .eq 62, 3) := by decide +kernel
theorem dX9_explains_74 : decode cX9_explains 74 = .ok (.aload_n 0, 1) := by decide +kernel
theorem dX9_explains_75 : decode cX9_explains 75 = .ok (.getfield 22, 3) := by decide +kernel
theorem dX9_explains_78 : decode cX9_explains 78 = .ok (.iload 8, 2) := by decide +kernel
theorem dX9_explains_80 : decode cX9_explains 80 = .ok (.iaload, 1) := by decide +kernel
theorem dX9_explains_81 : decode cX9_explains 81 = .ok (.ifCond .eq 48, 3) := by decide +kernel
theorem dX9_explains_84 : decode cX9_explains 84 = .ok (.aload_n 0, 1) := by decide +kernel
theorem dX9_explains_85 : decode cX9_explains 85 = .ok (.aload_n 0, 1) := by decide +kernel
theorem dX9_explains_86 : decode cX9_explains 86 = .ok (.getfield 22, 3) := by decide +kernel
theorem dX9_explains_89 : decode cX9_explains 89 = .ok (.iload 8, 2) := by decide +kernel
theorem dX9_explains_91 : decode cX9_explains 91 = .ok (.iconst 1, 1) := by decide +kernel
theorem dX9_explains_92 : decode cX9_explains 92 = .ok (.iadd, 1) := by decide +kernel
theorem dX9_explains_93 : decode cX9_explains 93 = .ok (.iaload, 1) := by decide +kernel
theorem dX9_explains_94 : decode cX9_explains 94 = .ok (.aload_n 0, 1) := by decide +kernel
theorem dX9_explains_95 : decode cX9_explains 95 = .ok (.getfield 22, 3) := by decide +kernel
theorem dX9_explains_98 : decode cX9_explains 98 = .ok (.iload 8, 2) := by decide +kernel
theorem dX9_explains_100 : decode cX9_explains 100 = .ok (.iconst 2, 1) := by decide +kernel
theorem dX9_explains_101 : decode cX9_explains 101 = .ok (.iadd, 1) := by decide +kernel
theorem dX9_explains_102 : decode cX9_explains 102 = .ok (.iaload, 1) := by decide +kernel
theorem dX9_explains_103 : decode cX9_explains 103 = .ok (.aload_n 0, 1) := by decide +kernel
theorem dX9_explains_104 : decode cX9_explains 104 = .ok (.getfield 22, 3) := by decide +kernel
theorem dX9_explains_107 : decode cX9_explains 107 = .ok (.iload 8, 2) := by decide +kernel
theorem dX9_explains_109 : decode cX9_explains 109 = .ok (.iconst 3, 1) := by decide +kernel
theorem dX9_explains_110 : decode cX9_explains 110 = .ok (.iadd, 1) := by decide +kernel
theorem dX9_explains_111 : decode cX9_explains 111 = .ok (.iaload, 1) := by decide +kernel
theorem dX9_explains_112 : decode cX9_explains 112 = .ok (.iload 6, 2) := by decide +kernel
theorem dX9_explains_114 : decode cX9_explains 114 = .ok (.invokevirtual 160, 3) := by decide +kernel
theorem dX9_explains_117 : decode cX9_explains 117 = .ok (.aload_n 0, 1) := by decide +kernel
theorem dX9_explains_118 : decode cX9_explains 118 = .ok (.getfield 22, 3) := by decide +kernel
theorem dX9_explains_121 : decode cX9_explains 121 = .ok (.iload 8, 2) := by decide +kernel
theorem dX9_explains_123 : decode cX9_explains 123 = .ok (.iconst 4, 1) := by decide +kernel
theorem dX9_explains_124 : decode cX9_explains 124 = .ok (.iadd, 1) := by decide +kernel
theorem dX9_explains_125 : decode cX9_explains 125 = .ok (.iaload, 1) := by decide +kernel
theorem dX9_explains_126 : decode cX9_explains 126 = .ok (.if_icmp .ne 7, 3) := by decide +kernel
theorem dX9_explains_129 : decode cX9_explains 129 = .ok (.iconst 1, 1) := by decide +kernel
theorem dX9_explains_130 : decode cX9_explains 130 = .ok (.goto 4, 3) := by decide +kernel
theorem dX9_explains_133 : decode cX9_explains 133 = .ok (.iconst 0, 1) := by decide +kernel
theorem dX9_explains_134 : decode cX9_explains 134 = .ok (.istore 7, 2) := by decide +kernel
theorem dX9_explains_136 : decode cX9_explains 136 = .ok (.iinc 8 5, 3) := by decide +kernel
theorem dX9_explains_139 : decode cX9_explains 139 = .ok (.goto (-77), 3) := by decide +kernel
theorem dX9_explains_142 : decode cX9_explains 142 = .ok (.iload 7, 2) := by decide +kernel
theorem dX9_explains_144 : decode cX9_explains 144 = .ok (.ifCond .eq 15, 3) := by decide +kernel
theorem dX9_explains_147 : decode cX9_explains 147 = .ok (.iload_n 2, 1) := by decide +kernel
theorem dX9_explains_148 : decode cX9_explains 148 = .ok (.ifCond .ne 11, 3) := by decide +kernel
theorem dX9_explains_151 : decode cX9_explains 151 = .ok (.iload 6, 2) := by decide +kernel
theorem dX9_explains_153 : decode cX9_explains 153 = .ok (.ldc 101, 2) := by decide +kernel
theorem dX9_explains_155 : decode cX9_explains 155 = .ok (.iadd, 1) := by decide +kernel
theorem dX9_explains_156 : decode cX9_explains 156 = .ok (.goto 4, 3) := by decide +kernel
theorem dX9_explains_159 : decode cX9_explains 159 = .ok (.iload_n 3, 1) := by decide +kernel
theorem dX9_explains_160 : decode cX9_explains 160 = .ok (.istore_n 3, 1) := by decide +kernel
theorem dX9_explains_161 : decode cX9_explains 161 = .ok (.iload_n 2, 1) := by decide +kernel
theorem dX9_explains_162 : decode cX9_explains 162 = .ok (.iload 7, 2) := by decide +kernel
theorem dX9_explains_164 : decode cX9_explains 164 = .ok (.ifCond .eq 7, 3) := by decide +kernel
theorem dX9_explains_167 : decode cX9_explains 167 = .ok (.iconst 1, 1) := by decide +kernel
theorem dX9_explains_168 : decode cX9_explains 168 = .ok (.goto 4, 3) := by decide +kernel
theorem dX9_explains_171 : decode cX9_explains 171 = .ok (.iconst 0, 1) := by decide +kernel
theorem dX9_explains_172 : decode cX9_explains 172 = .ok (.iadd, 1) := by decide +kernel
theorem dX9_explains_173 : decode cX9_explains 173 = .ok (.istore_n 2, 1) := by decide +kernel
theorem dX9_explains_174 : decode cX9_explains 174 = .ok (.iinc 5 2, 3) := by decide +kernel
theorem dX9_explains_177 : decode cX9_explains 177 = .ok (.goto (-148), 3) := by decide +kernel
theorem dX9_explains_180 : decode cX9_explains 180 = .ok (.iinc 4 1, 3) := by decide +kernel
theorem dX9_explains_183 : decode cX9_explains 183 = .ok (.goto (-164), 3) := by decide +kernel
theorem dX9_explains_186 : decode cX9_explains 186 = .ok (.iload_n 1, 1) := by decide +kernel
theorem dX9_explains_187 : decode cX9_explains 187 = .ok (.ifCond .ne 7, 3) := by decide +kernel
theorem dX9_explains_190 : decode cX9_explains 190 = .ok (.iload_n 2, 1) := by decide +kernel
theorem dX9_explains_191 : decode cX9_explains 191 = .ok (.goto 4, 3) := by decide +kernel
theorem dX9_explains_194 : decode cX9_explains 194 = .ok (.iload_n 3, 1) := by decide +kernel
theorem dX9_explains_195 : decode cX9_explains 195 = .ok (.ireturn, 1) := by decide +kernel
theorem dX9_pairsThat_0 : decode cX9_pairsThat 0 = .ok (.iconst 0, 1) := by decide +kernel
theorem dX9_pairsThat_1 : decode cX9_pairsThat 1 = .ok (.istore_n 2, 1) := by decide +kernel
theorem dX9_pairsThat_2 : decode cX9_pairsThat 2 = .ok (.iconst 0, 1) := by decide +kernel
theorem dX9_pairsThat_3 : decode cX9_pairsThat 3 = .ok (.istore_n 3, 1) := by decide +kernel
theorem dX9_pairsThat_4 : decode cX9_pairsThat 4 = .ok (.iload_n 3, 1) := by decide +kernel
theorem dX9_pairsThat_5 : decode cX9_pairsThat 5 = .ok (.aload_n 0, 1) := by decide +kernel
theorem dX9_pairsThat_6 : decode cX9_pairsThat 6 = .ok (.getfield 38, 3) := by decide +kernel
theorem dX9_pairsThat_9 : decode cX9_pairsThat 9 = .ok (.if_icmp .ge 108, 3) := by decide +kernel
theorem dX9_pairsThat_12 : decode cX9_pairsThat 12 = .ok (.iconst 0, 1) := by decide +kernel
theorem dX9_pairsThat_13 : decode cX9_pairsThat 13 = .ok (.istore 4, 2) := by decide +kernel
theorem dX9_pairsThat_15 : decode cX9_pairsThat 15 = .ok (.iload 4, 2) := by decide +kernel
theorem dX9_pairsThat_17 : decode cX9_pairsThat 17 = .ok (.aload_n 0, 1) := by decide +kernel
theorem dX9_pairsThat_18 : decode cX9_pairsThat 18 = .ok (.getfield 38, 3) := by decide +kernel
theorem dX9_pairsThat_21 : decode cX9_pairsThat 21 = .ok (.if_icmp .ge 90, 3) := by decide +kernel
theorem dX9_pairsThat_24 : decode cX9_pairsThat 24 = .ok (.iload_n 3, 1) := by decide +kernel
theorem dX9_pairsThat_25 : decode cX9_pairsThat 25 = .ok (.iload 4, 2) := by decide +kernel
theorem dX9_pairsThat_27 : decode cX9_pairsThat 27 = .ok (.if_icmp .eq 78, 3) := by decide +kernel
theorem dX9_pairsThat_30 : decode cX9_pairsThat 30 = .ok (.iload_n 1, 1) := by decide +kernel
theorem dX9_pairsThat_31 : decode cX9_pairsThat 31 = .ok (.bipush 8, 2) := by decide +kernel
theorem dX9_pairsThat_33 : decode cX9_pairsThat 33 = .ok (.if_icmp .eq 9, 3) := by decide +kernel
theorem dX9_pairsThat_36 : decode cX9_pairsThat 36 = .ok (.iload_n 3, 1) := by decide +kernel
theorem dX9_pairsThat_37 : decode cX9_pairsThat 37 = .ok (.iload 4, 2) := by decide +kernel
theorem dX9_pairsThat_39 : decode cX9_pairsThat 39 = .ok (.if_icmp .ge 66, 3) := by decide +kernel
theorem dX9_pairsThat_42 : decode cX9_pairsThat 42 = .ok (.iload_n 1, 1) := by decide +kernel
theorem dX9_pairsThat_43 : decode cX9_pairsThat 43 = .ok (.bipush 6, 2) := by decide +kernel
theorem dX9_pairsThat_45 : decode cX9_pairsThat 45 = .ok (.if_icmp .ne 22, 3) := by decide +kernel
theorem dX9_pairsThat_48 : decode cX9_pairsThat 48 = .ok (.aload_n 0, 1) := by decide +kernel
theorem dX9_pairsThat_49 : decode cX9_pairsThat 49 = .ok (.iload_n 3, 1) := by decide +kernel
theorem dX9_pairsThat_50 : decode cX9_pairsThat 50 = .ok (.iload 4, 2) := by decide +kernel
theorem dX9_pairsThat_52 : decode cX9_pairsThat 52 = .ok (.iconst 0, 1) := by decide +kernel
theorem dX9_pairsThat_53 : decode cX9_pairsThat 53 = .ok (.invokevirtual 123, 3) := by decide +kernel
theorem dX9_pairsThat_56 : decode cX9_pairsThat 56 = .ok (.ifCond .le 7, 3) := by decide +kernel
theorem dX9_pairsThat_59 : decode cX9_pairsThat 59 = .ok (.iconst 1, 1) := by decide +kernel
theorem dX9_pairsThat_60 : decode cX9_pairsThat 60 = .ok (.goto 30, 3) := by decide +kernel
theorem dX9_pairsThat_63 : decode cX9_pairsThat 63 = .ok (.iconst 0, 1) := by decide +kernel
theorem dX9_pairsThat_64 : decode cX9_pairsThat 64 = .ok (.goto 26, 3) := by decide +kernel
theorem dX9_pairsThat_67 : decode cX9_pairsThat 67 = .ok (.iload_n 1, 1) := by decide +kernel
theorem dX9_pairsThat_68 : decode cX9_pairsThat 68 = .ok (.bipush 7, 2) := by decide +kernel
theorem dX9_pairsThat_70 : decode cX9_pairsThat 70 = .ok (.if_icmp .ne 13, 3) := by decide +kernel
theorem dX9_pairsThat_73 : decode cX9_pairsThat 73 = .ok (.aload_n 0, 1) := by decide +kernel
theorem dX9_pairsThat_74 : decode cX9_pairsThat 74 = .ok (.iload_n 3, 1) := by decide +kernel
theorem dX9_pairsThat_75 : decode cX9_pairsThat 75 = .ok (.iload 4, 2) := by decide +kernel
theorem dX9_pairsThat_77 : decode cX9_pairsThat 77 = .ok (.invokevirtual 127, 3) := by decide +kernel
theorem dX9_pairsThat_80 : decode cX9_pairsThat 80 = .ok (.goto 10, 3) := by decide +kernel
theorem dX9_pairsThat_83 : decode cX9_pairsThat 83 = .ok (.aload_n 0, 1) := by decide +kernel
theorem dX9_pairsThat_84 : decode cX9_pairsThat 84 = .ok (.iload_n 3, 1) := by decide +kernel
theorem dX9_pairsThat_85 : decode cX9_pairsThat 85 = .ok (.iload 4, 2) := by decide +kernel
theorem dX9_pairsThat_87 : decode cX9_pairsThat 87 = .ok (.invokevirtual 130, 3) := by decide +kernel
theorem dX9_pairsThat_90 : decode cX9_pairsThat 90 = .ok (.istore 5, 2) := by decide +kernel
theorem dX9_pairsThat_92 : decode cX9_pairsThat 92 = .ok (.iload_n 2, 1) := by decide +kernel
theorem dX9_pairsThat_93 : decode cX9_pairsThat 93 = .ok (.iload 5, 2) := by decide +kernel
theorem dX9_pairsThat_95 : decode cX9_pairsThat 95 = .ok (.ifCond .eq 7, 3) := by decide +kernel
theorem dX9_pairsThat_98 : decode cX9_pairsThat 98 = .ok (.iconst 1, 1) := by decide +kernel
theorem dX9_pairsThat_99 : decode cX9_pairsThat 99 = .ok (.goto 4, 3) := by decide +kernel
theorem dX9_pairsThat_102 : decode cX9_pairsThat 102 = .ok (.iconst 0, 1) := by decide +kernel
theorem dX9_pairsThat_103 : decode cX9_pairsThat 103 = .ok (.iadd, 1) := by decide +kernel
theorem dX9_pairsThat_104 : decode cX9_pairsThat 104 = .ok (.istore_n 2, 1) := by decide +kernel
theorem dX9_pairsThat_105 : decode cX9_pairsThat 105 = .ok (.iinc 4 1, 3) := by decide +kernel
theorem dX9_pairsThat_108 : decode cX9_pairsThat 108 = .ok (.goto (-93), 3) := by decide +kernel
theorem dX9_pairsThat_111 : decode cX9_pairsThat 111 = .ok (.iinc 3 1, 3) := by decide +kernel
theorem dX9_pairsThat_114 : decode cX9_pairsThat 114 = .ok (.goto (-110), 3) := by decide +kernel
theorem dX9_pairsThat_117 : decode cX9_pairsThat 117 = .ok (.iload_n 2, 1) := by decide +kernel
theorem dX9_pairsThat_118 : decode cX9_pairsThat 118 = .ok (.ireturn, 1) := by decide +kernel
theorem dX9_count_0 : decode cX9_count 0 = .ok (.iload_n 1, 1) := by decide +kernel
theorem dX9_count_1 : decode cX9_count 1 = .ok (.tableswitch 153 0 12 #[67, 72, 77, 77, 77, 87, 98, 98, 98, 104, 109, 114, 125], 67) := by decide +kernel
theorem dX9_count_68 : decode cX9_count 68 = .ok (.aload_n 0, 1) := by decide +kernel
theorem dX9_count_69 : decode cX9_count 69 = .ok (.getfield 38, 3) := by decide +kernel
theorem dX9_count_72 : decode cX9_count 72 = .ok (.ireturn, 1) := by decide +kernel
theorem dX9_count_73 : decode cX9_count 73 = .ok (.aload_n 0, 1) := by decide +kernel
theorem dX9_count_74 : decode cX9_count 74 = .ok (.getfield 34, 3) := by decide +kernel
theorem dX9_count_77 : decode cX9_count 77 = .ok (.ireturn, 1) := by decide +kernel
theorem dX9_count_78 : decode cX9_count 78 = .ok (.aload_n 0, 1) := by decide +kernel
theorem dX9_count_79 : decode cX9_count 79 = .ok (.getfield 13, 3) := by decide +kernel
theorem dX9_count_82 : decode cX9_count 82 = .ok (.bipush 38, 2) := by decide +kernel
theorem dX9_count_84 : decode cX9_count 84 = .ok (.iload_n 1, 1) := by decide +kernel
theorem dX9_count_85 : decode cX9_count 85 = .ok (.iadd, 1) := by decide +kernel
theorem dX9_count_86 : decode cX9_count 86 = .ok (.iaload, 1) := by decide +kernel
theorem dX9_count_87 : decode cX9_count 87 = .ok (.ireturn, 1) := by decide +kernel
theorem dX9_count_88 : decode cX9_count 88 = .ok (.aload_n 0, 1) := by decide +kernel
theorem dX9_count_89 : decode cX9_count 89 = .ok (.getfield 13, 3) := by decide +kernel
theorem dX9_count_92 : decode cX9_count 92 = .ok (.bipush 44, 2) := by decide +kernel
theorem dX9_count_94 : decode cX9_count 94 = .ok (.iaload, 1) := by decide +kernel
theorem dX9_count_95 : decode cX9_count 95 = .ok (.invokestatic 136, 3) := by decide +kernel
theorem dX9_count_98 : decode cX9_count 98 = .ok (.ireturn, 1) := by decide +kernel
theorem dX9_count_99 : decode cX9_count 99 = .ok (.aload_n 0, 1) := by decide +kernel
theorem dX9_count_100 : decode cX9_count 100 = .ok (.iload_n 1, 1) := by decide +kernel
theorem dX9_count_101 : decode cX9_count 101 = .ok (.invokevirtual 164, 3) := by decide +kernel
theorem dX9_count_104 : decode cX9_count 104 = .ok (.ireturn, 1) := by decide +kernel
theorem dX9_count_105 : decode cX9_count 105 = .ok (.aload_n 0, 1) := by decide +kernel
theorem dX9_count_106 : decode cX9_count 106 = .ok (.getfield 88, 3) := by decide +kernel
theorem dX9_count_109 : decode cX9_count 109 = .ok (.ireturn, 1) := by decide +kernel
theorem dX9_count_110 : decode cX9_count 110 = .ok (.aload_n 0, 1) := by decide +kernel
theorem dX9_count_111 : decode cX9_count 111 = .ok (.getfield 41, 3) := by decide +kernel
theorem dX9_count_114 : decode cX9_count 114 = .ok (.ireturn, 1) := by decide +kernel
theorem dX9_count_115 : decode cX9_count 115 = .ok (.aload_n 0, 1) := by decide +kernel
theorem dX9_count_116 : decode cX9_count 116 = .ok (.getfield 13, 3) := by decide +kernel
theorem dX9_count_119 : decode cX9_count 119 = .ok (.bipush 43, 2) := by decide +kernel
theorem dX9_count_121 : decode cX9_count 121 = .ok (.iaload, 1) := by decide +kernel
theorem dX9_count_122 : decode cX9_count 122 = .ok (.ldc 101, 2) := by decide +kernel
theorem dX9_count_124 : decode cX9_count 124 = .ok (.iadd, 1) := by decide +kernel
theorem dX9_count_125 : decode cX9_count 125 = .ok (.ireturn, 1) := by decide +kernel
theorem dX9_count_126 : decode cX9_count 126 = .ok (.iconst 0, 1) := by decide +kernel
theorem dX9_count_127 : decode cX9_count 127 = .ok (.istore_n 2, 1) := by decide +kernel
theorem dX9_count_128 : decode cX9_count 128 = .ok (.iconst 0, 1) := by decide +kernel
theorem dX9_count_129 : decode cX9_count 129 = .ok (.istore_n 3, 1) := by decide +kernel
theorem dX9_count_130 : decode cX9_count 130 = .ok (.iload_n 3, 1) := by decide +kernel
theorem dX9_count_131 : decode cX9_count 131 = .ok (.aload_n 0, 1) := by decide +kernel
theorem dX9_count_132 : decode cX9_count 132 = .ok (.getfield 38, 3) := by decide +kernel
theorem dX9_count_135 : decode cX9_count 135 = .ok (.if_icmp .ge 17, 3) := by decide +kernel
theorem dX9_count_138 : decode cX9_count 138 = .ok (.iload_n 2, 1) := by decide +kernel
theorem dX9_count_139 : decode cX9_count 139 = .ok (.aload_n 0, 1) := by decide +kernel
theorem dX9_count_140 : decode cX9_count 140 = .ok (.iload_n 3, 1) := by decide +kernel
theorem dX9_count_141 : decode cX9_count 141 = .ok (.invokevirtual 111, 3) := by decide +kernel
theorem dX9_count_144 : decode cX9_count 144 = .ok (.iadd, 1) := by decide +kernel
theorem dX9_count_145 : decode cX9_count 145 = .ok (.istore_n 2, 1) := by decide +kernel
theorem dX9_count_146 : decode cX9_count 146 = .ok (.iinc 3 1, 3) := by decide +kernel
theorem dX9_count_149 : decode cX9_count 149 = .ok (.goto (-19), 3) := by decide +kernel
theorem dX9_count_152 : decode cX9_count 152 = .ok (.iload_n 2, 1) := by decide +kernel
theorem dX9_count_153 : decode cX9_count 153 = .ok (.ireturn, 1) := by decide +kernel
theorem dX9_count_154 : decode cX9_count 154 = .ok (.iconst (-1), 1) := by decide +kernel
theorem dX9_count_155 : decode cX9_count 155 = .ok (.ireturn, 1) := by decide +kernel
end
section
-- a world of N cells, by a function of the place; the judgement AW; a row an instruction
/-- the words that last: all methods' contracts stand on these -/
def gw_tbl : List Cond := lw_tbl.filter goodWord
theorem gw_at {w : Cond} (i : Nat) (h : lw_tbl[i]? = some w) (hg : goodWord w = true) : w ∈ gw_tbl := List.mem_filter.mpr ⟨List.mem_of_getElem? h, hg⟩
theorem gw_in : GoodIn gw_tbl gw_tbl := fun w h => ⟨h, good_of_word (List.mem_filter.mp h).2⟩
/-- links to fields of nest mates -/
def isNest : Cond → Bool := fun w => match w with
  | .fieldLinkNest _ _ _ _ _ _ => true
  | _ => false
def nw_tbl : List Cond := lw_tbl.filter isNest
theorem nw_at {w : Cond} (i : Nat) (h : lw_tbl[i]? = some w) (hg : isNest w = true) : w ∈ nw_tbl := List.mem_filter.mpr ⟨List.mem_of_getElem? h, hg⟩
abbrev wS : Type := Nat → va_E
def wl (N : Nat) (q : Nat → Nat) (f : wS) : va_W := (List.range N).map (fun k => (q k, f k))
theorem wl_get {N : Nat} {q : Nat → Nat} {f : wS} {k : Nat} (h : k < N) : (wl N q f)[k]? = some (q k, f k) := by
  unfold wl
  rw [List.getElem?_map, List.getElem?_range h]
  rfl
theorem wl_of {N : Nat} {q : Nat → Nat} {f : wS} {k : Nat} {x : Nat × va_E} (h : (wl N q f)[k]? = some x) : k < N ∧ x = (q k, f k) := by
  by_cases hk : k < N
  · rw [wl_get hk] at h
    exact ⟨hk, (Option.some.inj h).symm⟩
  · have h0 : (wl N q f)[k]? = none := List.getElem?_eq_none (by unfold wl; rw [List.length_map, List.length_range]; omega)
    rw [h0] at h
    cases h
theorem wl_set {N : Nat} {q : Nat → Nat} {f : wS} {k : Nat} {e : va_E} : (wl N q f).set k (q k, e) = wl N q (va_up f k e) := by
  apply List.ext_getElem?
  intro i
  by_cases hi : i < N
  · rw [wl_get hi, List.getElem?_set]
    by_cases hk : k = i
    · subst hk
      rw [if_pos rfl, if_pos (by unfold wl; rw [List.length_map, List.length_range]; exact hi), va_up_self]
    · rw [if_neg hk, wl_get hi, va_up_ne _ _ (fun h => hk h.symm)]
  · rw [List.getElem?_eq_none (by rw [List.length_set]; unfold wl; rw [List.length_map, List.length_range]; omega), List.getElem?_eq_none (by unfold wl; rw [List.length_map, List.length_range]; omega)]
def wA (N : Nat) (q : Nat → Nat) (sz : Nat) : Nat → Prop := fun a => (∃ k, k < N ∧ q k = a) ∨ sz ≤ a
def wI (N : Nat) (q : Nat → Nat) : Prop := ∀ i j, i < N → j < N → q i = q j → i = j
theorem wl_D {N : Nat} {q : Nat → Nat} {f : wS} {sz : Nat} (h : wI N q) : va_D (wA N q sz) (wl N q f) := by
  refine ⟨fun i j x y hi hj hxy => ?_, fun k x hk => ?_⟩
  · obtain ⟨h1, rfl⟩ := wl_of hi
    obtain ⟨h2, rfl⟩ := wl_of hj
    exact h i j h1 h2 hxy
  · obtain ⟨h1, rfl⟩ := wl_of hk
    exact Or.inl ⟨k, h1, rfl⟩
/-- the array classes -/
def tyL (cy : Nat → ClassId) : List (ClassId × FieldType) := [(cy 0, .char), (cy 1, .int), (cy 2, .long), (cy 3, .boolean), (cy 4, .array .int)]
/-- the static rows of BondedWires -/
def zN : Nat → String := fun j => match j with
  | 0 => "LEAST_NUMBER"
  | 1 => "MOST_NUMBER"
  | 2 => "MOST_LIMIT"
  | _ => "USUAL_LIMIT"
def zL : Nat → Nat := fun j => match j with
  | 0 => 5
  | 1 => 5
  | _ => 3
def zF : Nat → Nat → Int32 := fun j i => match j with
  | 0 => if i = 4 then 1 else 0
  | 1 => if i = 0 ∨ i = 2 then 60 else if i = 4 then 40 else 2
  | 2 => if i = 1 then 40 else 9
  | _ => if i = 1 then 6 else 2
def wZ (z : Nat → Nat) (A : Nat → Prop) (U : State) (H : Heap) : Prop := ∀ j, j < 4 → va_Z "BondedWires" (zN j) "[I" (.ref (z j)) A U H ∧ va_T .int (z j) (zL j) (fun i => .int (zF j i)) A U H
theorem wZ.moved {z : Nat → Nat} {A : Nat → Prop} {u U : State} {H : Heap} (hvm : u.vm.Alike U.vm) (h : wZ z A u H) : wZ z A U H := fun j hj => ⟨va_Z.moved hvm (h j hj).1, va_T.moved hvm (h j hj).2⟩
theorem wZ.kept {z : Nat → Nat} {A : Nat → Prop} {U : State} {H H1 : Heap} (h : wZ z A U H) (hq : ∀ a : Nat, a < H.size → ¬ A a → H1[a]? = H[a]?) : wZ z A U H1 := fun j hj => ⟨(h j hj).1.kept hq, (h j hj).2.kept hq⟩
theorem wZ.narrow {z : Nat → Nat} {A B : Nat → Prop} {U : State} {H : Heap} (h : wZ z A U H) (hAB : ∀ q, B q → A q) : wZ z B U H := fun j hj => ⟨(h j hj).1.narrow hAB, (h j hj).2.narrow hAB⟩
def wE (D : va_G) (cy : Nat → ClassId) (z : Nat → Nat) (A : Nat → Prop) (U : State) (H : Heap) : Prop := va_K D vwCl (tyL cy) U ∧ wZ z A U H ∧ ∀ w ∈ nw_tbl, va_Nw w U
theorem nw_warm {s U : State} (hW : s.WarmedH U.vm) (h : ∀ w ∈ nw_tbl, va_Nw w s) : ∀ w ∈ nw_tbl, va_Nw w U := by
  intro w hw
  have h1 := h w hw
  have h2 := (List.mem_filter.mp hw).2
  cases w <;> first | exact va_Nw.warmF hW h1 | cases h2
theorem wE.go {D : va_G} {cy : Nat → ClassId} {z : Nat → Nat} {N : Nat} {q : Nat → Nat} {s U : State} {H : Heap} {locs : List Loc} (h : wE D cy z (wA N q s.heap.size) s s.heap) (hS : va_S (wA N q s.heap.size) s.heap H locs) (hU : U.heap = H) (hW : s.WarmedH U.vm) : wE D cy z (wA N q H.size) U U.heap := by
  refine ⟨va_K.moved hW.alike h.1, ?_, nw_warm hW h.2.2⟩
  rw [hU]
  exact ((h.2.1.kept hS.2.1).moved hW.alike).narrow (fun a ha => ha.elim Or.inl (fun g => Or.inr (Nat.le_trans hS.1 g)))
theorem wE.calling {D : va_G} {cy : Nat → ClassId} {z : Nat → Nat} {A : Nat → Prop} {U : State} {g : JFrame} {mk : MethodId} {a : Array Value} (h : wE D cy z A U U.heap) : wE D cy z A (U.calling g mk a) (U.calling g mk a).heap := ⟨va_K.moved (u := U) (U := U.calling g mk a) (Vm.Alike.refl U.vm) h.1, wZ.moved (u := U) (U := U.calling g mk a) (Vm.Alike.refl U.vm) h.2.1, fun w hw => va_Nw.same (u := U) (U := U.calling g mk a) (by have h2 := (List.mem_filter.mp hw).2; cases w <;> first | rfl | cases h2) rfl (h.2.2 w hw)⟩
/-- a method's end: its answer and the world behind it -/
def Qg (D : va_G) (N : Nat) (q : Nat → Nat) (post : Option Value → wS → Prop) (A : Nat → Prop) : Array Value → State → Outcome → State → Prop := fun _ st oc t => (∃ (r : Option Value) (g : wS), oc = .returned r ∧ post r g ∧ va_P D vwCl (wl N q g) t.heap) ∧ va_F A st t
def Pg (D : va_G) (cy : Nat → ClassId) (z : Nat → Nat) (N : Nat) (q : Nat → Nat) (sz : Nat) (av : List Value) (f : wS) : Array Value → State → Prop := va_Pc av (fun U => U.heap.size = sz ∧ va_P D vwCl (wl N q f) U.heap ∧ wE D cy z (wA N q sz) U U.heap)
/-- a method's contract: from the world f, with these arguments, it answers r and leaves the world g, with post r g; it makes nothing -/
def Ct (l : Launch) (y : MethodName) (bytes : ByteArray) (maxL : Nat) (ret : Option FieldType) (fr lo : Nat) (D : va_G) (cy : Nat → ClassId) (z : Nat → Nat) (N : Nat) (q : Nat → Nat) (av : List Value) (f : wS) (post : Option Value → wS → Prop) : Prop :=
  ∀ sz, Met l y (.code y bytes maxL ret :: gw_tbl) { frames := fr, cells := 0, slots := 0, locals := lo } (Pg D cy z N q sz av f) (Qg D N q post (wA N q sz)) 0 0 (wA N q sz)
/-- the value of a local -/
def lk (lv : List (Nat × Value)) (i : Nat) : Option Value := match lv with
  | [] => none
  | x :: t => cond (Nat.beq x.1 i) (some x.2) (lk t i)
theorem lk_mem : ∀ {lv : List (Nat × Value)} {i : Nat} {v : Value}, lk lv i = some v → (i, v) ∈ lv
  | [], i, v, h => by cases h
  | x :: t, i, v, h => by
    unfold lk at h
    cases hb : Nat.beq x.1 i with
    | true =>
      rw [hb] at h
      have h1 := Nat.eq_of_beq_eq_true hb
      have h2 : x.2 = v := Option.some.inj h
      rw [← h1, ← h2]
      exact List.mem_cons_self
    | false =>
      rw [hb] at h
      exact List.mem_cons_of_mem _ (lk_mem h)
theorem lk_at {ls : Array Slot} {nL : Nat} {lv : List (Nat × Value)} (h : lv_has ls nL lv) {i : Nat} {v : Value} (hl : lk lv i = some v) : ls[i]? = some (.val v) := h.2.2 (i, v) (lk_mem hl)
/-- a local set: in its place, or behind the others -/
def ls_ok (i : Nat) (x : Nat × Value) : Bool := cond (Nat.beq x.1 i) false (cond (Nat.beq (x.1 + 1) i) (match x.2 with
  | .long _ => false
  | .double _ => false
  | _ => true) true)
def lset (i : Nat) (v : Value) : List (Nat × Value) → List (Nat × Value)
  | [] => [(i, v)]
  | x :: t => cond (Nat.beq x.1 i) ((i, v) :: t.filter (ls_ok i)) (cond (ls_ok i x) (x :: lset i v t) (lset i v t))
theorem ls_ok_eq {i : Nat} {x : Nat × Value} (h : ls_ok i x = true) : (!(x.1 == i) && !(x.1 + 1 == i && x.2.category == 2)) = true := by
  obtain ⟨a, v⟩ := x
  unfold ls_ok at h
  cases h1 : Nat.beq a i with
  | true => simp [h1] at h
  | false =>
    have e1 : ¬ a = i := fun e => by rw [e, Nat.beq_refl] at h1; cases h1
    cases h2 : Nat.beq (a + 1) i with
    | false =>
      have e2 : ¬ a + 1 = i := fun e => by rw [e, Nat.beq_refl] at h2; cases h2
      simp [e1, e2]
    | true =>
      cases v <;> simp [h1, h2] at h <;> simp [e1, Value.category]
theorem lset_mem {i : Nat} {v : Value} : ∀ {lv : List (Nat × Value)} {x : Nat × Value}, x ∈ lset i v lv → x ∈ (i, v) :: lv.filter (fun q => !(q.1 == i) && !(q.1 + 1 == i && q.2.category == 2))
  | [], x, h => h
  | y :: t, x, h => by
    unfold lset at h
    cases h1 : Nat.beq y.1 i with
    | true =>
      rw [h1] at h
      rcases List.mem_cons.mp h with h | h
      · exact List.mem_cons.mpr (Or.inl h)
      · have h2 := List.mem_filter.mp h
        exact List.mem_cons_of_mem _ (List.mem_filter.mpr ⟨List.mem_cons_of_mem _ h2.1, ls_ok_eq h2.2⟩)
    | false =>
      rw [h1] at h
      cases h2 : ls_ok i y with
      | true =>
        rw [h2] at h
        rcases List.mem_cons.mp h with h | h
        · exact List.mem_cons_of_mem _ (List.mem_filter.mpr ⟨List.mem_cons.mpr (Or.inl h), by rw [h]; exact ls_ok_eq h2⟩)
        · rcases List.mem_cons.mp (lset_mem h) with h | h
          · exact List.mem_cons.mpr (Or.inl h)
          · have h3 := List.mem_filter.mp h
            exact List.mem_cons_of_mem _ (List.mem_filter.mpr ⟨List.mem_cons_of_mem _ h3.1, h3.2⟩)
      | false =>
        rw [h2] at h
        rcases List.mem_cons.mp (lset_mem h) with h | h
        · exact List.mem_cons.mpr (Or.inl h)
        · have h3 := List.mem_filter.mp h
          exact List.mem_cons_of_mem _ (List.mem_filter.mpr ⟨List.mem_cons_of_mem _ h3.1, h3.2⟩)
theorem lv_mono {ls : Array Slot} {nL : Nat} {a b : List (Nat × Value)} (h : lv_has ls nL a) (hs : ∀ x ∈ b, x ∈ a) : lv_has ls nL b := ⟨h.1, h.2.1, fun x hx => h.2.2 x (hs x hx)⟩
section FRAME
variable {p : Program} {l : Launch} {e : Env} {R : Room} {s : State} {m : MethodId} {args : Array Value} {below : List Frame} {meth : Method} {c : Code} {Q : State → Prop}
variable {cc : ByteArray} {nL : Nat} {own : String} {D : va_G} {cy : Nat → ClassId} {z : Nat → Nat} {N : Nat} {q : Nat → Nat}
variable {f : wS} {lv : List (Nat × Value)} {pc : Nat} {st : List Value}
def AW (p : Program) (l : Launch) (e : Env) (R : Room) (s : State) (m : MethodId) (args : Array Value) (below : List Frame) (meth : Method) (c : Code) (D : va_G) (N : Nat) (q : Nat → Nat) (nL : Nat) (Q : State → Prop) (f : wS) (lv : List (Nat × Value)) (pc : Nat) (st : List Value) : Prop :=
  ∀ (H : Heap) (locs : List Loc) (ls : Array Slot), va_P D vwCl (wl N q f) H → va_S (wA N q s.heap.size) s.heap H locs → lv_has ls nL lv → W p l e R s m args below meth c H locs 0 0 Q (F0 m pc ls st)
/-- what holds all along a method's walk -/
def Cx (p : Program) (s : State) (m : MethodId) (args : Array Value) (meth : Method) (c : Code) (cc : ByteArray) (nL : Nat) (own : String) (D : va_G) (cy : Nat → ClassId) (z : Nat → Nat) (N : Nat) (q : Nat → Nat) : Prop :=
  p.tables.exec = Jvm.exec ∧ c.code = cc ∧ c.maxLocals = nL ∧ s.vm.findClass own = some m.cls ∧ (∀ w ∈ gw_tbl, w.before args s = true) ∧ wE D cy z (wA N q s.heap.size) s s.heap ∧ wI N q ∧ meth.locks = false
theorem aw_iload_n (C : Cx p s m args meth c cc nL own D cy z N q) {k : Fin 4} {i : Nat} {x : Int32} (hd : decode cc pc = .ok (.iload_n k, 1)) (hi : (k : Nat) = i) (hl : lk lv i = some (.int x)) (K : AW p l e R s m args below meth c D N q nL Q f lv (pc + 1) (.int x :: st)) : AW p l e R s m args below meth c D N q nL Q f lv pc st :=
  fun H locs ls hP hS hv => lv_iload_n C.1 C.2.1 hd hi (lk_at hv hl) (K H locs ls hP hS hv)
theorem aw_aload_n (C : Cx p s m args meth c cc nL own D cy z N q) {k : Fin 4} {i : Nat} {x : Nat} (hd : decode cc pc = .ok (.aload_n k, 1)) (hi : (k : Nat) = i) (hl : lk lv i = some (.ref x)) (K : AW p l e R s m args below meth c D N q nL Q f lv (pc + 1) (.ref x :: st)) : AW p l e R s m args below meth c D N q nL Q f lv pc st :=
  fun H locs ls hP hS hv => lv_aload_n C.1 C.2.1 hd hi (lk_at hv hl) (K H locs ls hP hS hv)
theorem aw_lload_n (C : Cx p s m args meth c cc nL own D cy z N q) {k : Fin 4} {i : Nat} {x : Int64} (hd : decode cc pc = .ok (.lload_n k, 1)) (hi : (k : Nat) = i) (hl : lk lv i = some (.long x)) (K : AW p l e R s m args below meth c D N q nL Q f lv (pc + 1) (.long x :: st)) : AW p l e R s m args below meth c D N q nL Q f lv pc st :=
  fun H locs ls hP hS hv => lv_lload_n C.1 C.2.1 hd hi (lk_at hv hl) (K H locs ls hP hS hv)
theorem aw_iload (C : Cx p s m args meth c cc nL own D cy z N q) {i : Nat} {x : Int32} (hd : decode cc pc = .ok (.iload i, 2)) (hl : lk lv i = some (.int x)) (K : AW p l e R s m args below meth c D N q nL Q f lv (pc + 2) (.int x :: st)) : AW p l e R s m args below meth c D N q nL Q f lv pc st :=
  fun H locs ls hP hS hv => lv_iload C.1 C.2.1 hd (lk_at hv hl) (K H locs ls hP hS hv)
theorem aw_istore_n (C : Cx p s m args meth c cc nL own D cy z N q) {k : Fin 4} {i : Nat} {x : Int32} {lv' : List (Nat × Value)} (hd : decode cc pc = .ok (.istore_n k, 1)) (hi : (k : Nat) = i) (hn : i < nL) (hl : lset i (.int x) lv = lv') (K : AW p l e R s m args below meth c D N q nL Q f lv' (pc + 1) st) : AW p l e R s m args below meth c D N q nL Q f lv pc (.int x :: st) :=
  fun H locs ls hP hS hv => lv_istore_n C.1 C.2.1 hd hi hv hn rfl (fun ls hv => K H locs ls hP hS (lv_mono hv (fun x hx => lset_mem (by rw [hl]; exact hx))))
theorem aw_astore_n (C : Cx p s m args meth c cc nL own D cy z N q) {k : Fin 4} {i : Nat} {x : Nat} {lv' : List (Nat × Value)} (hd : decode cc pc = .ok (.astore_n k, 1)) (hi : (k : Nat) = i) (hn : i < nL) (hl : lset i (.ref x) lv = lv') (K : AW p l e R s m args below meth c D N q nL Q f lv' (pc + 1) st) : AW p l e R s m args below meth c D N q nL Q f lv pc (.ref x :: st) :=
  fun H locs ls hP hS hv => lv_astore_n C.1 C.2.1 hd hi hv hn rfl (fun ls hv => K H locs ls hP hS (lv_mono hv (fun x hx => lset_mem (by rw [hl]; exact hx))))
theorem aw_istore (C : Cx p s m args meth c cc nL own D cy z N q) {i : Nat} {x : Int32} {lv' : List (Nat × Value)} (hd : decode cc pc = .ok (.istore i, 2)) (hn : i < nL) (hl : lset i (.int x) lv = lv') (K : AW p l e R s m args below meth c D N q nL Q f lv' (pc + 2) st) : AW p l e R s m args below meth c D N q nL Q f lv pc (.int x :: st) :=
  fun H locs ls hP hS hv => lv_istore C.1 C.2.1 hd hv hn rfl (fun ls hv => K H locs ls hP hS (lv_mono hv (fun x hx => lset_mem (by rw [hl]; exact hx))))
theorem aw_iinc (C : Cx p s m args meth c cc nL own D cy z N q) {i : Nat} {n : Int} {x d : Int32} {lv' : List (Nat × Value)} (hd : decode cc pc = .ok (.iinc i n, 3)) (hx : lk lv i = some (.int x)) (hn : Int32.ofInt n = d) (hlt : i < nL) (hl : lset i (.int (x + d)) lv = lv') (K : AW p l e R s m args below meth c D N q nL Q f lv' (pc + 3) st) : AW p l e R s m args below meth c D N q nL Q f lv pc st :=
  fun H locs ls hP hS hv => by
  obtain ⟨k, hk⟩ := List.getElem?_of_mem (lk_mem hx)
  exact lv_iinc (v := x + d) C.1 C.2.1 hd hv hk (by rw [hn]) hlt rfl (fun ls hv => K H locs ls hP hS (lv_mono hv (fun x hx => lset_mem (by rw [hl]; exact hx))))
theorem aw_iconst (C : Cx p s m args meth c cc nL own D cy z N q) {n : Int} {v : Int32} (hd : decode cc pc = .ok (.iconst n, 1)) (hn : Int32.ofInt n = v) (K : AW p l e R s m args below meth c D N q nL Q f lv (pc + 1) (.int v :: st)) : AW p l e R s m args below meth c D N q nL Q f lv pc st :=
  fun H locs ls hP hS hv => lv_iconst C.1 C.2.1 hd hn (K H locs ls hP hS hv)
theorem aw_bipush (C : Cx p s m args meth c cc nL own D cy z N q) {n : Int} {v : Int32} (hd : decode cc pc = .ok (.bipush n, 2)) (hn : (Int8.ofInt n).toInt32 = v) (K : AW p l e R s m args below meth c D N q nL Q f lv (pc + 2) (.int v :: st)) : AW p l e R s m args below meth c D N q nL Q f lv pc st :=
  fun H locs ls hP hS hv => lv_bipush C.1 C.2.1 hd hn (K H locs ls hP hS hv)
theorem aw_sipush (C : Cx p s m args meth c cc nL own D cy z N q) {n : Int} {v : Int32} (hd : decode cc pc = .ok (.sipush n, 3)) (hn : (Int16.ofInt n).toInt32 = v) (K : AW p l e R s m args below meth c D N q nL Q f lv (pc + 3) (.int v :: st)) : AW p l e R s m args below meth c D N q nL Q f lv pc st :=
  fun H locs ls hP hS hv => lv_sipush C.1 C.2.1 hd hn (K H locs ls hP hS hv)
theorem aw_lconst (C : Cx p s m args meth c cc nL own D cy z N q) {n : Fin 2} {v : Int64} (hd : decode cc pc = .ok (.lconst n, 1)) (hn : Int64.ofNat (n : Nat) = v) (K : AW p l e R s m args below meth c D N q nL Q f lv (pc + 1) (.long v :: st)) : AW p l e R s m args below meth c D N q nL Q f lv pc st :=
  fun H locs ls hP hS hv => lv_lconst C.1 C.2.1 hd hn (K H locs ls hP hS hv)
theorem aw_ldc (C : Cx p s m args meth c cc nL own D cy z N q) {index : Nat} {v : Int32} (hd : decode cc pc = .ok (.ldc index, 2)) (hw : Cond.constant own index v ∈ gw_tbl) (K : AW p l e R s m args below meth c D N q nL Q f lv (pc + 2) (.int v :: st)) : AW p l e R s m args below meth c D N q nL Q f lv pc st :=
  fun H locs ls hP hS hv => lv_ldc C.1 C.2.1 C.2.2.2.1 (C.2.2.2.2.1 _ hw) hd (K H locs ls hP hS hv)
theorem aw_iadd (C : Cx p s m args meth c cc nL own D cy z N q) {x y : Int32} (hd : decode cc pc = .ok (.iadd, 1)) (K : AW p l e R s m args below meth c D N q nL Q f lv (pc + 1) (.int (x + y) :: st)) : AW p l e R s m args below meth c D N q nL Q f lv pc (.int y :: .int x :: st) :=
  fun H locs ls hP hS hv => lv_iadd C.1 C.2.1 hd (K H locs ls hP hS hv)
theorem aw_isub (C : Cx p s m args meth c cc nL own D cy z N q) {x y : Int32} (hd : decode cc pc = .ok (.isub, 1)) (K : AW p l e R s m args below meth c D N q nL Q f lv (pc + 1) (.int (x - y) :: st)) : AW p l e R s m args below meth c D N q nL Q f lv pc (.int y :: .int x :: st) :=
  fun H locs ls hP hS hv => lv_isub C.1 C.2.1 hd (K H locs ls hP hS hv)
theorem aw_imul (C : Cx p s m args meth c cc nL own D cy z N q) {x y : Int32} (hd : decode cc pc = .ok (.imul, 1)) (K : AW p l e R s m args below meth c D N q nL Q f lv (pc + 1) (.int (x * y) :: st)) : AW p l e R s m args below meth c D N q nL Q f lv pc (.int y :: .int x :: st) :=
  fun H locs ls hP hS hv => lv_imul C.1 C.2.1 hd (K H locs ls hP hS hv)
theorem aw_iand (C : Cx p s m args meth c cc nL own D cy z N q) {x y : Int32} (hd : decode cc pc = .ok (.iand, 1)) (K : AW p l e R s m args below meth c D N q nL Q f lv (pc + 1) (.int (x &&& y) :: st)) : AW p l e R s m args below meth c D N q nL Q f lv pc (.int y :: .int x :: st) :=
  fun H locs ls hP hS hv => lv_iand C.1 C.2.1 hd (K H locs ls hP hS hv)
theorem aw_ior (C : Cx p s m args meth c cc nL own D cy z N q) {x y : Int32} (hd : decode cc pc = .ok (.ior, 1)) (K : AW p l e R s m args below meth c D N q nL Q f lv (pc + 1) (.int (x ||| y) :: st)) : AW p l e R s m args below meth c D N q nL Q f lv pc (.int y :: .int x :: st) :=
  fun H locs ls hP hS hv => lv_ior C.1 C.2.1 hd (K H locs ls hP hS hv)
theorem aw_ixor (C : Cx p s m args meth c cc nL own D cy z N q) {x y : Int32} (hd : decode cc pc = .ok (.ixor, 1)) (K : AW p l e R s m args below meth c D N q nL Q f lv (pc + 1) (.int (x ^^^ y) :: st)) : AW p l e R s m args below meth c D N q nL Q f lv pc (.int y :: .int x :: st) :=
  fun H locs ls hP hS hv => lv_ixor C.1 C.2.1 hd (K H locs ls hP hS hv)
theorem aw_ishl (C : Cx p s m args meth c cc nL own D cy z N q) {x y : Int32} (hd : decode cc pc = .ok (.ishl, 1)) (K : AW p l e R s m args below meth c D N q nL Q f lv (pc + 1) (.int (x <<< (y &&& 31)) :: st)) : AW p l e R s m args below meth c D N q nL Q f lv pc (.int y :: .int x :: st) :=
  fun H locs ls hP hS hv => lv_ishl C.1 C.2.1 hd (K H locs ls hP hS hv)
theorem aw_ishr (C : Cx p s m args meth c cc nL own D cy z N q) {x y : Int32} (hd : decode cc pc = .ok (.ishr, 1)) (K : AW p l e R s m args below meth c D N q nL Q f lv (pc + 1) (.int (x >>> (y &&& 31)) :: st)) : AW p l e R s m args below meth c D N q nL Q f lv pc (.int y :: .int x :: st) :=
  fun H locs ls hP hS hv => lv_ishr C.1 C.2.1 hd (K H locs ls hP hS hv)
theorem aw_idiv (C : Cx p s m args meth c cc nL own D cy z N q) {x y : Int32} (hd : decode cc pc = .ok (.idiv, 1)) (hy : ¬ y = 0) (K : AW p l e R s m args below meth c D N q nL Q f lv (pc + 1) (.int (x / y) :: st)) : AW p l e R s m args below meth c D N q nL Q f lv pc (.int y :: .int x :: st) :=
  fun H locs ls hP hS hv => lv_idiv C.1 C.2.1 hd hy (K H locs ls hP hS hv)
theorem aw_irem (C : Cx p s m args meth c cc nL own D cy z N q) {x y : Int32} (hd : decode cc pc = .ok (.irem, 1)) (hy : ¬ y = 0) (K : AW p l e R s m args below meth c D N q nL Q f lv (pc + 1) (.int (x - x / y * y) :: st)) : AW p l e R s m args below meth c D N q nL Q f lv pc (.int y :: .int x :: st) :=
  fun H locs ls hP hS hv => lv_irem C.1 C.2.1 hd hy (K H locs ls hP hS hv)
theorem aw_ineg (C : Cx p s m args meth c cc nL own D cy z N q) {x : Int32} (hd : decode cc pc = .ok (.ineg, 1)) (K : AW p l e R s m args below meth c D N q nL Q f lv (pc + 1) (.int (0 - x) :: st)) : AW p l e R s m args below meth c D N q nL Q f lv pc (.int x :: st) :=
  fun H locs ls hP hS hv => lv_ineg C.1 C.2.1 hd (K H locs ls hP hS hv)
theorem aw_i2c (C : Cx p s m args meth c cc nL own D cy z N q) {x v : Int32} (hd : decode cc pc = .ok (.i2c, 1)) (hx : (x.toUInt32 % 65536).toInt32 = v) (K : AW p l e R s m args below meth c D N q nL Q f lv (pc + 1) (.int v :: st)) : AW p l e R s m args below meth c D N q nL Q f lv pc (.int x :: st) :=
  fun H locs ls hP hS hv => lv_i2c C.1 C.2.1 hd hx (K H locs ls hP hS hv)
theorem aw_iushr (C : Cx p s m args meth c cc nL own D cy z N q) {x y v : Int32} (hd : decode cc pc = .ok (.iushr, 1)) (hx : (x.toUInt32 >>> (y.toUInt32 &&& Int32.toUInt32 31)).toInt32 = v) (K : AW p l e R s m args below meth c D N q nL Q f lv (pc + 1) (.int v :: st)) : AW p l e R s m args below meth c D N q nL Q f lv pc (.int y :: .int x :: st) :=
  fun H locs ls hP hS hv => lv_iushr C.1 C.2.1 hd hx (K H locs ls hP hS hv)
theorem aw_dup (C : Cx p s m args meth c cc nL own D cy z N q) {v : Value} (hd : decode cc pc = .ok (.dup, 1)) (hc : v.category = 1) (K : AW p l e R s m args below meth c D N q nL Q f lv (pc + 1) (v :: v :: st)) : AW p l e R s m args below meth c D N q nL Q f lv pc (v :: st) :=
  fun H locs ls hP hS hv => lv_dup C.1 C.2.1 hd hc (K H locs ls hP hS hv)
theorem aw_dup2 (C : Cx p s m args meth c cc nL own D cy z N q) {u v : Value} (hd : decode cc pc = .ok (.dup2, 1)) (hc : u.category = 1) (hc2 : v.category = 1) (K : AW p l e R s m args below meth c D N q nL Q f lv (pc + 1) (u :: v :: u :: v :: st)) : AW p l e R s m args below meth c D N q nL Q f lv pc (u :: v :: st) :=
  fun H locs ls hP hS hv => lv_dup2_11 C.1 C.2.1 hd hc hc2 (K H locs ls hP hS hv)
theorem aw_pop (C : Cx p s m args meth c cc nL own D cy z N q) {v : Value} (hd : decode cc pc = .ok (.pop, 1)) (hc : v.category = 1) (K : AW p l e R s m args below meth c D N q nL Q f lv (pc + 1) st) : AW p l e R s m args below meth c D N q nL Q f lv pc (v :: st) :=
  fun H locs ls hP hS hv => lv_pop C.1 C.2.1 hd hc (K H locs ls hP hS hv)
theorem aw_goto (C : Cx p s m args meth c cc nL own D cy z N q) {off : Int} {tgt : Nat} (hd : decode cc pc = .ok (.goto off, 3)) (ht : (pc : Int) + off = (tgt : Int)) (K : AW p l e R s m args below meth c D N q nL Q f lv tgt st) : AW p l e R s m args below meth c D N q nL Q f lv pc st :=
  fun H locs ls hP hS hv => lv_goto C.1 C.2.1 hd ht (K H locs ls hP hS hv)
theorem aw_icmp_eq (C : Cx p s m args meth c cc nL own D cy z N q) {x y : Int32} {off : Int} {tgt : Nat} (hd : decode cc pc = .ok (.if_icmp .eq off, 3)) (ht : (pc : Int) + off = (tgt : Int)) (K1 : x = y → AW p l e R s m args below meth c D N q nL Q f lv tgt st) (K2 : ¬ (x = y) → AW p l e R s m args below meth c D N q nL Q f lv (pc + 3) st) : AW p l e R s m args below meth c D N q nL Q f lv pc (.int y :: .int x :: st) :=
  fun H locs ls hP hS hv => lv_icmp_eq C.1 C.2.1 hd ht (fun h => K1 h H locs ls hP hS hv) (fun h => K2 h H locs ls hP hS hv)
theorem aw_if_eq (C : Cx p s m args meth c cc nL own D cy z N q) {x : Int32} {off : Int} {tgt : Nat} (hd : decode cc pc = .ok (.ifCond .eq off, 3)) (ht : (pc : Int) + off = (tgt : Int)) (K1 : x = 0 → AW p l e R s m args below meth c D N q nL Q f lv tgt st) (K2 : ¬ (x = 0) → AW p l e R s m args below meth c D N q nL Q f lv (pc + 3) st) : AW p l e R s m args below meth c D N q nL Q f lv pc (.int x :: st) :=
  fun H locs ls hP hS hv => lv_if_eq C.1 C.2.1 hd ht (fun h => K1 h H locs ls hP hS hv) (fun h => K2 h H locs ls hP hS hv)
theorem aw_icmp_ne (C : Cx p s m args meth c cc nL own D cy z N q) {x y : Int32} {off : Int} {tgt : Nat} (hd : decode cc pc = .ok (.if_icmp .ne off, 3)) (ht : (pc : Int) + off = (tgt : Int)) (K1 : x ≠ y → AW p l e R s m args below meth c D N q nL Q f lv tgt st) (K2 : x = y → AW p l e R s m args below meth c D N q nL Q f lv (pc + 3) st) : AW p l e R s m args below meth c D N q nL Q f lv pc (.int y :: .int x :: st) :=
  fun H locs ls hP hS hv => lv_icmp_ne C.1 C.2.1 hd ht (fun h => K1 h H locs ls hP hS hv) (fun h => K2 h H locs ls hP hS hv)
theorem aw_if_ne (C : Cx p s m args meth c cc nL own D cy z N q) {x : Int32} {off : Int} {tgt : Nat} (hd : decode cc pc = .ok (.ifCond .ne off, 3)) (ht : (pc : Int) + off = (tgt : Int)) (K1 : x ≠ 0 → AW p l e R s m args below meth c D N q nL Q f lv tgt st) (K2 : x = 0 → AW p l e R s m args below meth c D N q nL Q f lv (pc + 3) st) : AW p l e R s m args below meth c D N q nL Q f lv pc (.int x :: st) :=
  fun H locs ls hP hS hv => lv_if_ne C.1 C.2.1 hd ht (fun h => K1 h H locs ls hP hS hv) (fun h => K2 h H locs ls hP hS hv)
theorem aw_icmp_lt (C : Cx p s m args meth c cc nL own D cy z N q) {x y : Int32} {off : Int} {tgt : Nat} (hd : decode cc pc = .ok (.if_icmp .lt off, 3)) (ht : (pc : Int) + off = (tgt : Int)) (K1 : x < y → AW p l e R s m args below meth c D N q nL Q f lv tgt st) (K2 : ¬ (x < y) → AW p l e R s m args below meth c D N q nL Q f lv (pc + 3) st) : AW p l e R s m args below meth c D N q nL Q f lv pc (.int y :: .int x :: st) :=
  fun H locs ls hP hS hv => lv_icmp_lt C.1 C.2.1 hd ht (fun h => K1 h H locs ls hP hS hv) (fun h => K2 h H locs ls hP hS hv)
theorem aw_if_lt (C : Cx p s m args meth c cc nL own D cy z N q) {x : Int32} {off : Int} {tgt : Nat} (hd : decode cc pc = .ok (.ifCond .lt off, 3)) (ht : (pc : Int) + off = (tgt : Int)) (K1 : x < 0 → AW p l e R s m args below meth c D N q nL Q f lv tgt st) (K2 : ¬ (x < 0) → AW p l e R s m args below meth c D N q nL Q f lv (pc + 3) st) : AW p l e R s m args below meth c D N q nL Q f lv pc (.int x :: st) :=
  fun H locs ls hP hS hv => lv_if_lt C.1 C.2.1 hd ht (fun h => K1 h H locs ls hP hS hv) (fun h => K2 h H locs ls hP hS hv)
theorem aw_icmp_ge (C : Cx p s m args meth c cc nL own D cy z N q) {x y : Int32} {off : Int} {tgt : Nat} (hd : decode cc pc = .ok (.if_icmp .ge off, 3)) (ht : (pc : Int) + off = (tgt : Int)) (K1 : y ≤ x → AW p l e R s m args below meth c D N q nL Q f lv tgt st) (K2 : ¬ (y ≤ x) → AW p l e R s m args below meth c D N q nL Q f lv (pc + 3) st) : AW p l e R s m args below meth c D N q nL Q f lv pc (.int y :: .int x :: st) :=
  fun H locs ls hP hS hv => lv_icmp_ge C.1 C.2.1 hd ht (fun h => K1 h H locs ls hP hS hv) (fun h => K2 h H locs ls hP hS hv)
theorem aw_if_ge (C : Cx p s m args meth c cc nL own D cy z N q) {x : Int32} {off : Int} {tgt : Nat} (hd : decode cc pc = .ok (.ifCond .ge off, 3)) (ht : (pc : Int) + off = (tgt : Int)) (K1 : 0 ≤ x → AW p l e R s m args below meth c D N q nL Q f lv tgt st) (K2 : ¬ (0 ≤ x) → AW p l e R s m args below meth c D N q nL Q f lv (pc + 3) st) : AW p l e R s m args below meth c D N q nL Q f lv pc (.int x :: st) :=
  fun H locs ls hP hS hv => lv_if_ge C.1 C.2.1 hd ht (fun h => K1 h H locs ls hP hS hv) (fun h => K2 h H locs ls hP hS hv)
theorem aw_icmp_gt (C : Cx p s m args meth c cc nL own D cy z N q) {x y : Int32} {off : Int} {tgt : Nat} (hd : decode cc pc = .ok (.if_icmp .gt off, 3)) (ht : (pc : Int) + off = (tgt : Int)) (K1 : y < x → AW p l e R s m args below meth c D N q nL Q f lv tgt st) (K2 : ¬ (y < x) → AW p l e R s m args below meth c D N q nL Q f lv (pc + 3) st) : AW p l e R s m args below meth c D N q nL Q f lv pc (.int y :: .int x :: st) :=
  fun H locs ls hP hS hv => lv_icmp_gt C.1 C.2.1 hd ht (fun h => K1 h H locs ls hP hS hv) (fun h => K2 h H locs ls hP hS hv)
theorem aw_if_gt (C : Cx p s m args meth c cc nL own D cy z N q) {x : Int32} {off : Int} {tgt : Nat} (hd : decode cc pc = .ok (.ifCond .gt off, 3)) (ht : (pc : Int) + off = (tgt : Int)) (K1 : 0 < x → AW p l e R s m args below meth c D N q nL Q f lv tgt st) (K2 : ¬ (0 < x) → AW p l e R s m args below meth c D N q nL Q f lv (pc + 3) st) : AW p l e R s m args below meth c D N q nL Q f lv pc (.int x :: st) :=
  fun H locs ls hP hS hv => lv_if_gt C.1 C.2.1 hd ht (fun h => K1 h H locs ls hP hS hv) (fun h => K2 h H locs ls hP hS hv)
theorem aw_icmp_le (C : Cx p s m args meth c cc nL own D cy z N q) {x y : Int32} {off : Int} {tgt : Nat} (hd : decode cc pc = .ok (.if_icmp .le off, 3)) (ht : (pc : Int) + off = (tgt : Int)) (K1 : x ≤ y → AW p l e R s m args below meth c D N q nL Q f lv tgt st) (K2 : ¬ (x ≤ y) → AW p l e R s m args below meth c D N q nL Q f lv (pc + 3) st) : AW p l e R s m args below meth c D N q nL Q f lv pc (.int y :: .int x :: st) :=
  fun H locs ls hP hS hv => lv_icmp_le C.1 C.2.1 hd ht (fun h => K1 h H locs ls hP hS hv) (fun h => K2 h H locs ls hP hS hv)
theorem aw_if_le (C : Cx p s m args meth c cc nL own D cy z N q) {x : Int32} {off : Int} {tgt : Nat} (hd : decode cc pc = .ok (.ifCond .le off, 3)) (ht : (pc : Int) + off = (tgt : Int)) (K1 : x ≤ 0 → AW p l e R s m args below meth c D N q nL Q f lv tgt st) (K2 : ¬ (x ≤ 0) → AW p l e R s m args below meth c D N q nL Q f lv (pc + 3) st) : AW p l e R s m args below meth c D N q nL Q f lv pc (.int x :: st) :=
  fun H locs ls hP hS hv => lv_if_le C.1 C.2.1 hd ht (fun h => K1 h H locs ls hP hS hv) (fun h => K2 h H locs ls hP hS hv)
/-- a field of an object: its class's place in the table, its slot; the link, of the own class or of a nest mate -/
def FL (own : String) (idx ci j : Nat) : Prop := ∃ (Cn : String) (T : u_T) (N0 : Nat), vwCl[ci]? = some (Cn, T, N0) ∧ j < N0 ∧ (∀ w ∈ u_ws Cn T N0, w ∈ gw_tbl) ∧ (T j).1 = Cn ∧ (Cond.fieldLink own idx Cn (T j).2.1 (T j).2.2.1 ∈ gw_tbl ∨ ∃ host, Cond.fieldLinkNest own idx Cn (T j).2.1 (T j).2.2.1 host ∈ nw_tbl)
def FP (own : String) (idx ci j : Nat) (ty : FieldType) : Prop := ∃ (Cn : String) (T : u_T) (N0 : Nat) (ty0 : Nat → FieldType), vwCl[ci]? = some (Cn, T, N0) ∧ j < N0 ∧ (∀ w ∈ u_ws Cn T N0, w ∈ gw_tbl) ∧ (T j).1 = Cn ∧ (Cond.fieldLink own idx Cn (T j).2.1 (T j).2.2.1 ∈ gw_tbl) ∧ (∀ k, k < N0 → parseFieldDescriptor (T k).2.2.1 = some (ty0 k)) ∧ (∀ a, a < N0 → ∀ b, b < N0 → a ≠ b → (T a).2.1 ≠ (T b).2.1) ∧ (T j).2.2.2 = false ∧ parseFieldDescriptor (T j).2.2.1 = some ty
theorem aw_get (C : Cx p s m args meth c cc nL own D cy z N q) {k ci j idx : Nat} {fs : List Value} {v : Value} (hd : decode cc pc = .ok (.getfield idx, 3)) (hF : FL own idx ci j) (hk : k < N) (hf : f k = .inr (ci, fs)) (hv1 : fs[j]? = some v) (K : AW p l e R s m args below meth c D N q nL Q f lv (pc + 3) (v :: st)) : AW p l e R s m args below meth c D N q nL Q f lv pc (.ref (q k) :: st) :=
  fun H locs ls hP hS hv => by
  obtain ⟨Cn, T, N0, h1, h2, h3, h4, h5⟩ := hF
  have he : (wl N q f)[k]? = some (q k, .inr (ci, fs)) := by rw [wl_get hk, hf]
  rcases h5 with h5 | ⟨host, h5⟩
  · exact va_get C.1 C.2.1 C.2.2.2.2.1 h3 C.2.2.2.1 C.2.2.2.2.2.1.1 hP k he h1 j h2 (C.2.2.2.2.1 _ h5) (fun x hx => by rw [h4] at hx; exact hx) hv1 hd (K H locs ls hP hS hv)
  · exact va_getN C.1 C.2.1 C.2.2.2.2.1 h3 C.2.2.2.1 C.2.2.2.2.2.1.1 hP k he h1 j h2 (va_Nw.use rfl (C.2.2.2.2.2.1.2.2 _ h5)) (fun x hx => by rw [h4] at hx; exact hx) hv1 hd (K H locs ls hP hS hv)
theorem aw_put (C : Cx p s m args meth c cc nL own D cy z N q) {k ci j idx : Nat} {fs : List Value} {v : Value} {ty : FieldType} {f' : wS} (hd : decode cc pc = .ok (.putfield idx, 3)) (hF : FP own idx ci j ty) (hk : k < N) (hf : f k = .inr (ci, fs)) (hn : narrow ty v = v) (hfit : fits ty v = true) (hj : j < fs.length) (hw : va_up f k (.inr (ci, fs.set j v)) = f') (K : AW p l e R s m args below meth c D N q nL Q f' lv (pc + 3) st) : AW p l e R s m args below meth c D N q nL Q f lv pc (v :: .ref (q k) :: st) :=
  fun H locs ls hP hS hv => by
  obtain ⟨Cn, T, N0, ty0, h1, h2, h3, h4, h5, h6, h7, h8, h9⟩ := hF
  have he : (wl N q f)[k]? = some (q k, .inr (ci, fs)) := by rw [wl_get hk, hf]
  refine va_put C.1 C.2.1 C.2.2.2.2.1 h3 ty0 h6 h7 C.2.2.2.1 C.2.2.2.2.2.1.1 hP (wl_D C.2.2.2.2.2.2.1) hS k he h1 j h2 (C.2.2.2.2.1 _ h5) (fun x hx => by rw [h4] at hx; exact hx) h8 h9 hn hfit hj hd (fun H1 locs1 hP1 _ hS1 => ?_)
  rw [wl_set, hw] at hP1
  exact K H1 locs1 ls hP1 hS1 hv
theorem aw_iald (C : Cx p s m args meth c cc nL own D cy z N q) {k n len : Nat} {g : Nat → Int32} {i v : Int32} (hd : decode cc pc = .ok (.iaload, 1)) (hk : k < N) (hf : f k = .inl (cy 1, len, .inl g)) (hi : i = nI n) (hn : n < len) (hL : len < 2147483648) (hg : g n = v) (K : AW p l e R s m args below meth c D N q nL Q f lv (pc + 1) (.int v :: st)) : AW p l e R s m args below meth c D N q nL Q f lv pc (.int i :: .ref (q k) :: st) :=
  fun H locs ls hP hS hv => by
  subst hi
  subst hg
  have he : (wl N q f)[k]? = some (q k, .inl (cy 1, len, .inl g)) := by rw [wl_get hk, hf]
  have h1 := K H locs ls hP hS hv
  rw [← nI_clamp (n := n) (by omega)] at h1
  exact va_iald C.1 C.2.1 C.2.2.2.2.2.1.1 hP k 1 he rfl (vp_in_nI hn (by omega)) hd h1
theorem aw_iast (C : Cx p s m args meth c cc nL own D cy z N q) {k n len : Nat} {g : Nat → Int32} {i x : Int32} {f' : wS} (hd : decode cc pc = .ok (.iastore, 1)) (hk : k < N) (hf : f k = .inl (cy 1, len, .inl g)) (hi : i = nI n) (hn : n < len) (hL : len < 2147483648) (hw : va_up f k (.inl (cy 1, len, .inl (upd g n x))) = f') (K : AW p l e R s m args below meth c D N q nL Q f' lv (pc + 1) st) : AW p l e R s m args below meth c D N q nL Q f lv pc (.int x :: .int i :: .ref (q k) :: st) :=
  fun H locs ls hP hS hv => by
  subst hi
  have he : (wl N q f)[k]? = some (q k, .inl (cy 1, len, .inl g)) := by rw [wl_get hk, hf]
  refine va_iast C.1 C.2.1 C.2.2.2.2.2.1.1 hP (wl_D C.2.2.2.2.2.2.1) hS k 1 he rfl (vp_in_nI hn (by omega)) hd (fun H1 locs1 hP1 _ hS1 => ?_)
  rw [wl_set, nI_clamp (n := n) (by omega), hw] at hP1
  exact K H1 locs1 ls hP1 hS1 hv
theorem aw_cald (C : Cx p s m args meth c cc nL own D cy z N q) {k n len : Nat} {g : Nat → Int32} {i v : Int32} (hd : decode cc pc = .ok (.caload, 1)) (hk : k < N) (hf : f k = .inl (cy 0, len, .inl g)) (hi : i = nI n) (hn : n < len) (hL : len < 2147483648) (hg : g n = v) (K : AW p l e R s m args below meth c D N q nL Q f lv (pc + 1) (.int v :: st)) : AW p l e R s m args below meth c D N q nL Q f lv pc (.int i :: .ref (q k) :: st) :=
  fun H locs ls hP hS hv => by
  subst hi
  subst hg
  have he : (wl N q f)[k]? = some (q k, .inl (cy 0, len, .inl g)) := by rw [wl_get hk, hf]
  have h1 := K H locs ls hP hS hv
  rw [← nI_clamp (n := n) (by omega)] at h1
  exact va_cald C.1 C.2.1 C.2.2.2.2.2.1.1 hP k 0 he rfl (vp_in_nI hn (by omega)) hd h1
theorem aw_cast (C : Cx p s m args meth c cc nL own D cy z N q) {k n len : Nat} {g : Nat → Int32} {i x : Int32} {f' : wS} (hd : decode cc pc = .ok (.castore, 1)) (hk : k < N) (hf : f k = .inl (cy 0, len, .inl g)) (hi : i = nI n) (hn : n < len) (hL : len < 2147483648) (hx : vp_nar .char x = x) (hw : va_up f k (.inl (cy 0, len, .inl (upd g n x))) = f') (K : AW p l e R s m args below meth c D N q nL Q f' lv (pc + 1) st) : AW p l e R s m args below meth c D N q nL Q f lv pc (.int x :: .int i :: .ref (q k) :: st) :=
  fun H locs ls hP hS hv => by
  subst hi
  have he : (wl N q f)[k]? = some (q k, .inl (cy 0, len, .inl g)) := by rw [wl_get hk, hf]
  refine va_cast C.1 C.2.1 C.2.2.2.2.2.1.1 hP (wl_D C.2.2.2.2.2.2.1) hS k 0 he rfl (vp_in_nI hn (by omega)) hd (fun H1 locs1 hP1 _ hS1 => ?_)
  rw [wl_set, nI_clamp (n := n) (by omega), hx, hw] at hP1
  exact K H1 locs1 ls hP1 hS1 hv
theorem aw_zald (C : Cx p s m args meth c cc nL own D cy z N q) {k n len : Nat} {g : Nat → Int32} {i v : Int32} (hd : decode cc pc = .ok (.baload, 1)) (hk : k < N) (hf : f k = .inl (cy 3, len, .inl g)) (hi : i = nI n) (hn : n < len) (hL : len < 2147483648) (hg : g n = v) (K : AW p l e R s m args below meth c D N q nL Q f lv (pc + 1) (.int v :: st)) : AW p l e R s m args below meth c D N q nL Q f lv pc (.int i :: .ref (q k) :: st) :=
  fun H locs ls hP hS hv => by
  subst hi
  subst hg
  have he : (wl N q f)[k]? = some (q k, .inl (cy 3, len, .inl g)) := by rw [wl_get hk, hf]
  have h1 := K H locs ls hP hS hv
  rw [← nI_clamp (n := n) (by omega)] at h1
  exact va_zald C.1 C.2.1 C.2.2.2.2.2.1.1 hP k 3 he rfl (vp_in_nI hn (by omega)) hd h1
theorem aw_zast (C : Cx p s m args meth c cc nL own D cy z N q) {k n len : Nat} {g : Nat → Int32} {i x : Int32} {f' : wS} (hd : decode cc pc = .ok (.bastore, 1)) (hk : k < N) (hf : f k = .inl (cy 3, len, .inl g)) (hi : i = nI n) (hn : n < len) (hL : len < 2147483648) (hx : vp_nar .boolean x = x) (hw : va_up f k (.inl (cy 3, len, .inl (upd g n x))) = f') (K : AW p l e R s m args below meth c D N q nL Q f' lv (pc + 1) st) : AW p l e R s m args below meth c D N q nL Q f lv pc (.int x :: .int i :: .ref (q k) :: st) :=
  fun H locs ls hP hS hv => by
  subst hi
  have he : (wl N q f)[k]? = some (q k, .inl (cy 3, len, .inl g)) := by rw [wl_get hk, hf]
  refine va_zast C.1 C.2.1 C.2.2.2.2.2.1.1 hP (wl_D C.2.2.2.2.2.2.1) hS k 3 he rfl (vp_in_nI hn (by omega)) hd (fun H1 locs1 hP1 _ hS1 => ?_)
  rw [wl_set, nI_clamp (n := n) (by omega), hx, hw] at hP1
  exact K H1 locs1 ls hP1 hS1 hv
theorem aw_lald (C : Cx p s m args meth c cc nL own D cy z N q) {k n len : Nat} {g : Nat → Int64} {i : Int32} {v : Int64} (hd : decode cc pc = .ok (.laload, 1)) (hk : k < N) (hf : f k = .inl (cy 2, len, .inr (.inl g))) (hi : i = nI n) (hn : n < len) (hL : len < 2147483648) (hg : g n = v) (K : AW p l e R s m args below meth c D N q nL Q f lv (pc + 1) (.long v :: st)) : AW p l e R s m args below meth c D N q nL Q f lv pc (.int i :: .ref (q k) :: st) :=
  fun H locs ls hP hS hv => by
  subst hi
  subst hg
  have he : (wl N q f)[k]? = some (q k, .inl (cy 2, len, .inr (.inl g))) := by rw [wl_get hk, hf]
  have h1 := K H locs ls hP hS hv
  rw [← nI_clamp (n := n) (by omega)] at h1
  exact va_lald C.1 C.2.1 C.2.2.2.2.2.1.1 hP k 2 he rfl (vp_in_nI hn (by omega)) hd h1
theorem aw_last (C : Cx p s m args meth c cc nL own D cy z N q) {k n len : Nat} {g : Nat → Int64} {i : Int32} {x : Int64} {f' : wS} (hd : decode cc pc = .ok (.lastore, 1)) (hk : k < N) (hf : f k = .inl (cy 2, len, .inr (.inl g))) (hi : i = nI n) (hn : n < len) (hL : len < 2147483648) (hw : va_up f k (.inl (cy 2, len, .inr (.inl (vp_updL g n x)))) = f') (K : AW p l e R s m args below meth c D N q nL Q f' lv (pc + 1) st) : AW p l e R s m args below meth c D N q nL Q f lv pc (.long x :: .int i :: .ref (q k) :: st) :=
  fun H locs ls hP hS hv => by
  subst hi
  have he : (wl N q f)[k]? = some (q k, .inl (cy 2, len, .inr (.inl g))) := by rw [wl_get hk, hf]
  refine va_last C.1 C.2.1 C.2.2.2.2.2.1.1 hP (wl_D C.2.2.2.2.2.2.1) hS k 2 he rfl (vp_in_nI hn (by omega)) hd (fun H1 locs1 hP1 _ hS1 => ?_)
  rw [wl_set, nI_clamp (n := n) (by omega), hw] at hP1
  exact K H1 locs1 ls hP1 hS1 hv
theorem aw_aald (C : Cx p s m args meth c cc nL own D cy z N q) {k n len b : Nat} {g : Nat → Option Nat} {i : Int32} (hd : decode cc pc = .ok (.aaload, 1)) (hk : k < N) (hf : f k = .inl (cy 4, len, .inr (.inr (.inr (.inr g))))) (hi : i = nI n) (hn : n < len) (hL : len < 2147483648) (hg : g n = some b) (K : AW p l e R s m args below meth c D N q nL Q f lv (pc + 1) (.ref b :: st)) : AW p l e R s m args below meth c D N q nL Q f lv pc (.int i :: .ref (q k) :: st) :=
  fun H locs ls hP hS hv => by
  subst hi
  have he : (wl N q f)[k]? = some (q k, .inl (cy 4, len, .inr (.inr (.inr (.inr g))))) := by rw [wl_get hk, hf]
  have hlt : (nI n).toNatClampNeg < len := by rw [nI_clamp (by omega)]; exact hn
  exact W.aald (v := .ref b) (ty := .array .int) C.1 C.2.1 (hP k _ he) ((C.2.2.2.2.2.1.1.2 4 _ rfl).1 len (fun j => va_rf (g j))) rfl (fun q => by cases q) (by show ¬ (_ ∨ (arrV _ _ _).slots.size ≤ _); rw [arrV_size]; exact vp_in_nI hn (by omega)) (by show (arrV _ _ _).slots[_]? = _; rw [arrV_read _ _ hlt, nI_clamp (by omega), hg]; rfl) rfl rfl hd (K H locs ls hP hS hv)
theorem aw_gets (C : Cx p s m args meth c cc nL own D cy z N q) {j idx : Nat} {host : String} (hd : decode cc pc = .ok (.getstatic idx, 3)) (hj : j < 4) (hl : Cond.fieldLink own idx "BondedWires" (zN j) "[I" ∈ gw_tbl ∨ Cond.fieldLinkNest own idx "BondedWires" (zN j) "[I" host ∈ nw_tbl) (K : AW p l e R s m args below meth c D N q nL Q f lv (pc + 3) (.ref (z j) :: st)) : AW p l e R s m args below meth c D N q nL Q f lv pc st :=
  fun H locs ls hP hS hv => by
  rcases hl with hl | hl
  · exact va_gets C.1 C.2.1 (C.2.2.2.2.2.1.2.1 j hj).1 hS C.2.2.2.1 (C.2.2.2.2.1 _ hl) (fun x hx => hx) hd (K H locs ls hP hS hv)
  · exact va_getsN C.1 C.2.1 (C.2.2.2.2.2.1.2.1 j hj).1 hS C.2.2.2.1 (va_Nw.use rfl (C.2.2.2.2.2.1.2.2 _ hl)) (fun x hx => hx) hd (K H locs ls hP hS hv)
theorem aw_ziald (C : Cx p s m args meth c cc nL own D cy z N q) {j n : Nat} {i : Int32} (hd : decode cc pc = .ok (.iaload, 1)) (hj : j < 4) (hi : i = nI n) (hn : n < zL j) (hL : n < 2147483648) (K : AW p l e R s m args below meth c D N q nL Q f lv (pc + 1) (.int (zF j n) :: st)) : AW p l e R s m args below meth c D N q nL Q f lv pc (.int i :: .ref (z j) :: st) :=
  fun H locs ls hP hS hv => by
  subst hi
  have hb : zL j < 2 ^ 31 := by unfold zL; split <;> decide
  exact va_ti (v := .int (zF j n)) C.1 C.2.1 (C.2.2.2.2.2.1.2.1 j hj).2 hS (vp_in_nI hn hb) (by rw [nI_clamp (by omega)]) hd (K H locs ls hP hS hv)
/-- the static facts of a call of an instance method (y of the class C), of a static one -/
def CV (own : String) (idx : Nat) (C : String) (y : MethodName) (bytes : ByteArray) (maxL : Nat) (ret : Option FieldType) (n : Nat) : Prop := (Cond.methodLink own idx y ∈ gw_tbl ∧ Cond.instanceMethod y ∈ gw_tbl ∧ Cond.selects C y y ∈ gw_tbl ∧ Cond.initialized C ∈ gw_tbl ∧ Cond.code y bytes maxL ret ∈ gw_tbl) ∧ y.cls = C ∧ y.cls ≠ "java/lang/invoke/MethodHandle" ∧ y.cls ≠ "java/lang/invoke/VarHandle" ∧ (parseMethodDescriptor y.desc).map (fun d => d.parameters.length) = some n
def CS (own : String) (idx : Nat) (y : MethodName) (bytes : ByteArray) (maxL : Nat) (ret : Option FieldType) (n : Nat) : Prop := (Cond.methodLink own idx y ∈ gw_tbl ∧ Cond.static y ∈ gw_tbl ∧ Cond.initialized y.cls ∈ gw_tbl ∧ Cond.code y bytes maxL ret ∈ gw_tbl) ∧ y.cls ≠ "java/lang/invoke/MethodHandle" ∧ y.cls ≠ "java/lang/invoke/VarHandle" ∧ (parseMethodDescriptor y.desc).map (fun d => d.parameters.length) = some n
theorem gw_code {y : MethodName} {bytes : ByteArray} {maxL : Nat} {ret : Option FieldType} (h : Cond.code y bytes maxL ret ∈ gw_tbl) : GoodIn gw_tbl (.code y bytes maxL ret :: gw_tbl) := fun w hw => (List.mem_cons.mp hw).elim (fun e => e ▸ gw_in _ h) (gw_in w)
theorem Pg_blind {cy : Nat → ClassId} {z : Nat → Nat} {sz : Nat} {av : List Value} {f : wS} : FrameBlind (Pg D cy z N q sz av f) := fun a U g mk h => by
  obtain ⟨q0, q1, qP, qE⟩ := h
  exact ⟨q0, q1, qP, qE.calling⟩
theorem aw_back {a : Array Value} {pc : Nat} {st0 rest : List Value} {post : Option Value → wS → Prop} {H : Heap} {locs : List Loc} {ls : Array Slot} (hr : va_Run p l e R s m args below meth c H locs 0 0 0 0 (F0 m pc ls st0) rest (Qg D N q post (wA N q H.size) a) (wA N q H.size)) (hS : va_S (wA N q s.heap.size) s.heap H locs) (hv : lv_has ls nL lv)
    (K : ∀ (r : Option Value) (g : wS), post r g → AW p l e R s m args below meth c D N q nL Q g lv (pc + 3) (r.toList ++ rest)) : W p l e R s m args below meth c H locs 0 0 Q (F0 m pc ls st0) := by
  intro T hT X
  obtain ⟨v, st₀, t, T', L, h0, X', hL, e1, e2, ⟨⟨r, g, hv1, hp, hb⟩, hz, hk⟩, st⟩ := hr T hT X
  cases hv1
  rw [h0] at hz hk
  have hsub : ∀ a, wA N q H.size a → wA N q s.heap.size a := fun a ha => ha.elim Or.inl (fun g => Or.inr (Nat.le_trans hS.1 g))
  obtain ⟨t2, a1, b1⟩ := K v g hp t.heap (locs ++ L) ls hb ⟨Nat.le_trans hS.1 hz, fun x h1 h2 => by rw [hk x (Nat.lt_of_lt_of_le h1 hS.1) (fun y => h2 (hsub x y))]; exact hS.2.1 x h1 h2, fun x hx => by
      rcases List.mem_append.mp hx with h | h
      · exact hS.2.2 x h
      · exact hsub _ (hL x h)⟩ hv T' e1 X'
  exact ⟨t2, st t2 a1, b1⟩
theorem aw_callV (C : Cx p s m args meth c cc nL own D cy z N q) {C0 : String} {idx n fr lo maxL k ci : Nat} {y : MethodName} {bytes : ByteArray} {ret : Option FieldType} {As As0 rest fs : List Value} {q0 : vw_C} {post : Option Value → wS → Prop} (hd : decode cc pc = .ok (.invokevirtual idx, 3)) (hc : CV own idx C0 y bytes maxL ret n) (hM : Ct l y bytes maxL ret fr lo D cy z N q (.ref (q k) :: As) f post) (hs : st = As0 ++ (.ref (q k) :: rest)) (hA : As.reverse = As0) (hn : As.length = n) (hR : fr + 1 ≤ R.frames ∧ 8 + (maxL + 11) + lo ≤ R.locals) (hw : (rest.map fun v => v.category).sum ≤ 8) (hk : k < N) (hf : f k = .inr (ci, fs)) (hq : vwCl[ci]? = some q0) (hq1 : q0.1 = C0) (K : ∀ (r : Option Value) (g : wS), post r g → AW p l e R s m args below meth c D N q nL Q g lv (pc + 3) (r.toList ++ rest)) : AW p l e R s m args below meth c D N q nL Q f lv pc st :=
  fun H locs ls hP hS hv => by
  subst hA
  subst hs
  subst hq1
  obtain ⟨⟨c1, c2, c3, c4, c5⟩, c6, c7, c8, c9⟩ := hc
  have he : (wl N q f)[k]? = some (q k, .inr (ci, fs)) := by rw [wl_get hk, hf]
  have ht := C.2.2.2.2.1
  have hini : (Cond.initialized y.cls).before args s = true := by rw [c6]; exact ht _ c4
  refine aw_back (va_runV (Ts := gw_tbl) (cc := cc) (nL := nL) (own := own) (n := n) (bytes := bytes) (maxL := maxL) (ret := ret) (rm := { frames := fr, cells := 0, slots := 0, locals := lo }) (As := As) (rest := rest) (g := F0 m pc ls (As.reverse ++ (.ref (q k) :: rest))) ⟨C.1, C.2.1, C.2.2.1, C.2.2.2.1, ht⟩ (hM H.size) ⟨callB_of n ht (gw_code c5) rfl rfl rfl hini (ht _ c1) ⟨c7, c8, c9⟩ hR, ht _ c2, ht _ c3⟩ ⟨Pg_blind, va_recv C.2.2.2.2.2.1.1 hP hq he, fun U hU hW => ⟨rfl, by rw [hU], by rw [hU]; exact hP, C.2.2.2.2.2.1.go hS hU hW⟩⟩ rfl hn hv.1 rfl (lv_room hw) hd ⟨Nat.zero_le _, Nat.zero_le _⟩) hS hv K
theorem aw_callS (C : Cx p s m args meth c cc nL own D cy z N q) {idx n fr lo maxL : Nat} {y : MethodName} {bytes : ByteArray} {ret : Option FieldType} {As As0 rest : List Value} {post : Option Value → wS → Prop} (hd : decode cc pc = .ok (.invokestatic idx, 3)) (hc : CS own idx y bytes maxL ret n) (hM : Ct l y bytes maxL ret fr lo D cy z N q As f post) (hs : st = As0 ++ rest) (hA : As.reverse = As0) (hn : As.length = n) (hR : fr + 1 ≤ R.frames ∧ 8 + (maxL + 11) + lo ≤ R.locals) (hw : (rest.map fun v => v.category).sum ≤ 8) (K : ∀ (r : Option Value) (g : wS), post r g → AW p l e R s m args below meth c D N q nL Q g lv (pc + 3) (r.toList ++ rest)) : AW p l e R s m args below meth c D N q nL Q f lv pc st :=
  fun H locs ls hP hS hv => by
  subst hA
  subst hs
  obtain ⟨⟨c1, c2, c4, c5⟩, c7, c8, c9⟩ := hc
  have ht := C.2.2.2.2.1
  refine aw_back (va_runS (Ts := gw_tbl) (cc := cc) (nL := nL) (own := own) (n := n) (bytes := bytes) (maxL := maxL) (ret := ret) (rm := { frames := fr, cells := 0, slots := 0, locals := lo }) (As := As) (rest := rest) (g := F0 m pc ls (As.reverse ++ rest)) ⟨C.1, C.2.1, C.2.2.1, C.2.2.2.1, ht⟩ (hM H.size) ⟨callB_of n ht (gw_code c5) rfl rfl rfl (ht _ c4) (ht _ c1) ⟨c7, c8, c9⟩ hR, ht _ c2⟩ ⟨Pg_blind, fun U hU hW => ⟨rfl, by rw [hU], by rw [hU]; exact hP, C.2.2.2.2.2.1.go hS hU hW⟩⟩ rfl hn hv.1 rfl (lv_room hw) hd ⟨Nat.zero_le _, Nat.zero_le _⟩) hS hv K
theorem aw_iret (C : Cx p s m args meth c cc nL own D cy z N q) {post : Option Value → wS → Prop} {x : Int32} (hr : meth.sig.returnType = some .int) (hd : decode cc pc = .ok (.ireturn, 1)) (hp : post (some (.int x)) f) : AW p l e R s m args below meth c D N q nL (MQ below (Qg D N q post (wA N q s.heap.size)) args s 0 0 (wA N q s.heap.size)) f lv pc [.int x] :=
  fun H locs ls hP hS hv => W.iret C.1 C.2.1 hr (fun t ht hW => ⟨⟨_, f, rfl, hp, by rw [ht]; exact hP⟩, hS.F ht⟩) hS.2.2 hd C.2.2.2.2.2.2.2
theorem aw_zret (C : Cx p s m args meth c cc nL own D cy z N q) {post : Option Value → wS → Prop} {x : Int32} {ty : FieldType} (hr : meth.sig.returnType = some ty) (hd : decode cc pc = .ok (.ireturn, 1)) (hn : narrow ty (.int x) = .int x) (hp : post (some (.int x)) f) : AW p l e R s m args below meth c D N q nL (MQ below (Qg D N q post (wA N q s.heap.size)) args s 0 0 (wA N q s.heap.size)) f lv pc [.int x] :=
  fun H locs ls hP hS hv => W.zret C.1 C.2.1 hr hn (fun t ht hW => ⟨⟨_, f, rfl, hp, by rw [ht]; exact hP⟩, hS.F ht⟩) hS.2.2 hd C.2.2.2.2.2.2.2
theorem aw_vret (C : Cx p s m args meth c cc nL own D cy z N q) {post : Option Value → wS → Prop} (hr : meth.sig.returnType = none) (hd : decode cc pc = .ok (.return_, 1)) (hp : post none f) : AW p l e R s m args below meth c D N q nL (MQ below (Qg D N q post (wA N q s.heap.size)) args s 0 0 (wA N q s.heap.size)) f lv pc [] :=
  fun H locs ls hP hS hv => W.vret C.1 C.2.1 hr (fun t ht hW => ⟨⟨_, f, rfl, hp, by rw [ht]; exact hP⟩, hS.F ht⟩) hS.2.2 hd C.2.2.2.2.2.2.2
/-- a method's contract out of its walk -/
theorem Ct.of {y : MethodName} {bytes : ByteArray} {maxL fr lo : Nat} {ret : Option FieldType} {av : List Value} {post : Option Value → wS → Prop} (hy : plainName y.cls = true) (hcls : y.cls = own) (hI : wI N q) (hlen : (lg_sl av).length ≤ maxL)
    (body : ∀ (p : Program) (e : Env) (s : State) (m : MethodId) (args : Array Value) (below : List Frame) (meth : Method) (c : Code), Cx p s m args meth c bytes maxL own D cy z N q → meth.sig.returnType = ret → AW p l e { frames := fr, cells := 0, slots := 0, locals := lo } s m args below meth c D N q maxL (MQ below (Qg D N q post (wA N q s.heap.size)) args s 0 0 (wA N q s.heap.size)) f (lv_args 0 av) 0 []) : Ct l y bytes maxL ret fr lo D cy z N q av f post := by
  intro sz
  refine Met.ofW (cc := bytes) (maxL := maxL) (ret := ret) hy rfl ?_
  intro p e s m args below meth c s₁ B hml hv
  obtain ⟨rfl, hsz, hP, hE⟩ := hv
  subst hsz
  have hts := atoms_spec (ws := .code y bytes maxL ret :: gw_tbl) B.pre
  have hown : s.vm.findClass own = some m.cls := by rw [← hcls]; exact findClass_of_methodNamed B.named
  have hl := lv_entry av (n := maxL) hlen
  rw [lg_entry_eq]
  exact body p e s m _ below meth c ⟨B.exec, B.bytes, hml, hown, fun w hw => hts w (List.mem_cons_of_mem _ hw), hE, hI, B.notSynchronized⟩ B.returns s.heap [] _ hP va_S.rf hl
/-- weaker locals -/
theorem aw_lv {lv' : List (Nat × Value)} (h : ∀ x ∈ lv', x ∈ lv) (K : AW p l e R s m args below meth c D N q nL Q f lv' pc st) : AW p l e R s m args below meth c D N q nL Q f lv pc st := fun H locs ls hP hS hv => K H locs ls hP hS (lv_mono hv h)
end FRAME
end
section
-- static facts: fields by their links, calls by theirs (places in the tables)
theorem uw_X0 : ∀ w ∈ u_ws RX0 TX0 3, w ∈ gw_tbl := by decide +kernel
theorem uw_X1 : ∀ w ∈ u_ws RX1 TX1 6, w ∈ gw_tbl := by decide +kernel
theorem uw_X2 : ∀ w ∈ u_ws RX2 TX2 7, w ∈ gw_tbl := by decide +kernel
theorem uw_X3 : ∀ w ∈ u_ws RX3 TX3 3, w ∈ gw_tbl := by decide +kernel
theorem uw_X4 : ∀ w ∈ u_ws RX4 TX4 4, w ∈ gw_tbl := by decide +kernel
theorem uw_X5 : ∀ w ∈ u_ws RX5 TX5 6, w ∈ gw_tbl := by decide +kernel
theorem uw_X6 : ∀ w ∈ u_ws RX6 TX6 2, w ∈ gw_tbl := by decide +kernel
theorem uw_X7 : ∀ w ∈ u_ws RX7 TX7 6, w ∈ gw_tbl := by decide +kernel
theorem uw_X8 : ∀ w ∈ u_ws RX8 TX8 8, w ∈ gw_tbl := by decide +kernel
theorem uw_X9 : ∀ w ∈ u_ws RX9 TX9 16, w ∈ gw_tbl := by decide +kernel
theorem fl_X8_10 : FL RX8 10 8 0 := ⟨RX8, TX8, 8, rfl, by decide, uw_X8, rfl, Or.inl (gw_at 409 (by decide +kernel) rfl)⟩
theorem fl_X8_19 : FL RX8 19 8 1 := ⟨RX8, TX8, 8, rfl, by decide, uw_X8, rfl, Or.inl (gw_at 410 (by decide +kernel) rfl)⟩
theorem fl_X8_26 : FL RX8 26 8 2 := ⟨RX8, TX8, 8, rfl, by decide, uw_X8, rfl, Or.inl (gw_at 411 (by decide +kernel) rfl)⟩
theorem fl_X8_33 : FL RX8 33 8 3 := ⟨RX8, TX8, 8, rfl, by decide, uw_X8, rfl, Or.inl (gw_at 412 (by decide +kernel) rfl)⟩
theorem fl_X8_42 : FL RX8 42 8 4 := ⟨RX8, TX8, 8, rfl, by decide, uw_X8, rfl, Or.inl (gw_at 413 (by decide +kernel) rfl)⟩
theorem fl_X8_51 : FL RX8 51 8 5 := ⟨RX8, TX8, 8, rfl, by decide, uw_X8, rfl, Or.inl (gw_at 414 (by decide +kernel) rfl)⟩
theorem fl_X8_58 : FL RX8 58 8 6 := ⟨RX8, TX8, 8, rfl, by decide, uw_X8, rfl, Or.inl (gw_at 415 (by decide +kernel) rfl)⟩
theorem fl_X8_65 : FL RX8 65 8 7 := ⟨RX8, TX8, 8, rfl, by decide, uw_X8, rfl, Or.inl (gw_at 416 (by decide +kernel) rfl)⟩
theorem fl_X8_92 : FL RX8 92 6 1 := ⟨RX6, TX6, 2, rfl, by decide, uw_X6, rfl, Or.inr ⟨"BondedWires", nw_at 80 (by decide +kernel) rfl⟩⟩
theorem fl_X8_99 : FL RX8 99 1 4 := ⟨RX1, TX1, 6, rfl, by decide, uw_X1, rfl, Or.inr ⟨"BondedWires", nw_at 104 (by decide +kernel) rfl⟩⟩
theorem fl_X8_102 : FL RX8 102 0 2 := ⟨RX0, TX0, 3, rfl, by decide, uw_X0, rfl, Or.inr ⟨"BondedWires", nw_at 136 (by decide +kernel) rfl⟩⟩
theorem fl_X8_149 : FL RX8 149 3 2 := ⟨RX3, TX3, 3, rfl, by decide, uw_X3, rfl, Or.inr ⟨"BondedWires", nw_at 156 (by decide +kernel) rfl⟩⟩
theorem fl_X8_212 : FL RX8 212 2 5 := ⟨RX2, TX2, 7, rfl, by decide, uw_X2, rfl, Or.inr ⟨"BondedWires", nw_at 221 (by decide +kernel) rfl⟩⟩
theorem fl_X8_215 : FL RX8 215 2 6 := ⟨RX2, TX2, 7, rfl, by decide, uw_X2, rfl, Or.inr ⟨"BondedWires", nw_at 223 (by decide +kernel) rfl⟩⟩
theorem fl_X8_243 : FL RX8 243 0 1 := ⟨RX0, TX0, 3, rfl, by decide, uw_X0, rfl, Or.inr ⟨"BondedWires", nw_at 131 (by decide +kernel) rfl⟩⟩
theorem fl_X8_258 : FL RX8 258 1 2 := ⟨RX1, TX1, 6, rfl, by decide, uw_X1, rfl, Or.inr ⟨"BondedWires", nw_at 100 (by decide +kernel) rfl⟩⟩
theorem fl_X0_11 : FL RX0 11 0 0 := ⟨RX0, TX0, 3, rfl, by decide, uw_X0, rfl, Or.inl (gw_at 126 (by decide +kernel) rfl)⟩
theorem fl_X0_15 : FL RX0 15 1 2 := ⟨RX1, TX1, 6, rfl, by decide, uw_X1, rfl, Or.inr ⟨"BondedWires", nw_at 99 (by decide +kernel) rfl⟩⟩
theorem fl_X0_21 : FL RX0 21 0 1 := ⟨RX0, TX0, 3, rfl, by decide, uw_X0, rfl, Or.inl (gw_at 128 (by decide +kernel) rfl)⟩
theorem fp_X0_21 : FP RX0 21 0 1 .int := ⟨RX0, TX0, 3, tyX0, rfl, by decide, uw_X0, rfl, gw_at 128 (by decide +kernel) rfl, tyX0_ok, nmX0, rfl, by decide +kernel⟩
theorem fl_X0_22 : FL RX0 22 1 3 := ⟨RX1, TX1, 6, rfl, by decide, uw_X1, rfl, Or.inr ⟨"BondedWires", nw_at 102 (by decide +kernel) rfl⟩⟩
theorem fl_X0_25 : FL RX0 25 0 2 := ⟨RX0, TX0, 3, rfl, by decide, uw_X0, rfl, Or.inl (gw_at 133 (by decide +kernel) rfl)⟩
theorem fp_X0_25 : FP RX0 25 0 2 .int := ⟨RX0, TX0, 3, tyX0, rfl, by decide, uw_X0, rfl, gw_at 133 (by decide +kernel) rfl, tyX0_ok, nmX0, rfl, by decide +kernel⟩
theorem fl_X0_26 : FL RX0 26 1 0 := ⟨RX1, TX1, 6, rfl, by decide, uw_X1, rfl, Or.inr ⟨"BondedWires", nw_at 95 (by decide +kernel) rfl⟩⟩
theorem fl_X0_35 : FL RX0 35 1 1 := ⟨RX1, TX1, 6, rfl, by decide, uw_X1, rfl, Or.inr ⟨"BondedWires", nw_at 97 (by decide +kernel) rfl⟩⟩
theorem fl_X1_9 : FL RX1 9 1 0 := ⟨RX1, TX1, 6, rfl, by decide, uw_X1, rfl, Or.inl (gw_at 94 (by decide +kernel) rfl)⟩
theorem fl_X1_15 : FL RX1 15 1 1 := ⟨RX1, TX1, 6, rfl, by decide, uw_X1, rfl, Or.inl (gw_at 96 (by decide +kernel) rfl)⟩
theorem fl_X1_18 : FL RX1 18 1 2 := ⟨RX1, TX1, 6, rfl, by decide, uw_X1, rfl, Or.inl (gw_at 98 (by decide +kernel) rfl)⟩
theorem fp_X1_18 : FP RX1 18 1 2 .int := ⟨RX1, TX1, 6, tyX1, rfl, by decide, uw_X1, rfl, gw_at 98 (by decide +kernel) rfl, tyX1_ok, nmX1, rfl, by decide +kernel⟩
theorem fl_X1_22 : FL RX1 22 1 3 := ⟨RX1, TX1, 6, rfl, by decide, uw_X1, rfl, Or.inl (gw_at 101 (by decide +kernel) rfl)⟩
theorem fp_X1_22 : FP RX1 22 1 3 .int := ⟨RX1, TX1, 6, tyX1, rfl, by decide, uw_X1, rfl, gw_at 101 (by decide +kernel) rfl, tyX1_ok, nmX1, rfl, by decide +kernel⟩
theorem fl_X1_25 : FL RX1 25 1 5 := ⟨RX1, TX1, 6, rfl, by decide, uw_X1, rfl, Or.inl (gw_at 105 (by decide +kernel) rfl)⟩
theorem fp_X1_25 : FP RX1 25 1 5 .int := ⟨RX1, TX1, 6, tyX1, rfl, by decide, uw_X1, rfl, gw_at 105 (by decide +kernel) rfl, tyX1_ok, nmX1, rfl, by decide +kernel⟩
theorem fl_X1_28 : FL RX1 28 1 4 := ⟨RX1, TX1, 6, rfl, by decide, uw_X1, rfl, Or.inl (gw_at 103 (by decide +kernel) rfl)⟩
theorem fp_X1_28 : FP RX1 28 1 4 .int := ⟨RX1, TX1, 6, tyX1, rfl, by decide, uw_X1, rfl, gw_at 103 (by decide +kernel) rfl, tyX1_ok, nmX1, rfl, by decide +kernel⟩
theorem fl_X1_40 : FL RX1 40 6 1 := ⟨RX6, TX6, 2, rfl, by decide, uw_X6, rfl, Or.inr ⟨"BondedWires", nw_at 81 (by decide +kernel) rfl⟩⟩
theorem fl_X2_9 : FL RX2 9 2 2 := ⟨RX2, TX2, 7, rfl, by decide, uw_X2, rfl, Or.inl (gw_at 217 (by decide +kernel) rfl)⟩
theorem fl_X2_15 : FL RX2 15 2 3 := ⟨RX2, TX2, 7, rfl, by decide, uw_X2, rfl, Or.inl (gw_at 218 (by decide +kernel) rfl)⟩
theorem fl_X2_19 : FL RX2 19 2 0 := ⟨RX2, TX2, 7, rfl, by decide, uw_X2, rfl, Or.inl (gw_at 215 (by decide +kernel) rfl)⟩
theorem fl_X2_23 : FL RX2 23 2 1 := ⟨RX2, TX2, 7, rfl, by decide, uw_X2, rfl, Or.inl (gw_at 216 (by decide +kernel) rfl)⟩
theorem fl_X2_37 : FL RX2 37 2 4 := ⟨RX2, TX2, 7, rfl, by decide, uw_X2, rfl, Or.inl (gw_at 219 (by decide +kernel) rfl)⟩
theorem fp_X2_37 : FP RX2 37 2 4 .int := ⟨RX2, TX2, 7, tyX2, rfl, by decide, uw_X2, rfl, gw_at 219 (by decide +kernel) rfl, tyX2_ok, nmX2, rfl, by decide +kernel⟩
theorem fl_X2_54 : FL RX2 54 0 2 := ⟨RX0, TX0, 3, rfl, by decide, uw_X0, rfl, Or.inr ⟨"BondedWires", nw_at 135 (by decide +kernel) rfl⟩⟩
theorem fl_X2_57 : FL RX2 57 0 1 := ⟨RX0, TX0, 3, rfl, by decide, uw_X0, rfl, Or.inr ⟨"BondedWires", nw_at 129 (by decide +kernel) rfl⟩⟩
theorem fl_X2_75 : FL RX2 75 2 5 := ⟨RX2, TX2, 7, rfl, by decide, uw_X2, rfl, Or.inl (gw_at 220 (by decide +kernel) rfl)⟩
theorem fp_X2_75 : FP RX2 75 2 5 .int := ⟨RX2, TX2, 7, tyX2, rfl, by decide, uw_X2, rfl, gw_at 220 (by decide +kernel) rfl, tyX2_ok, nmX2, rfl, by decide +kernel⟩
theorem fl_X2_78 : FL RX2 78 2 6 := ⟨RX2, TX2, 7, rfl, by decide, uw_X2, rfl, Or.inl (gw_at 222 (by decide +kernel) rfl)⟩
theorem fp_X2_78 : FP RX2 78 2 6 .int := ⟨RX2, TX2, 7, tyX2, rfl, by decide, uw_X2, rfl, gw_at 222 (by decide +kernel) rfl, tyX2_ok, nmX2, rfl, by decide +kernel⟩
theorem fl_X3_13 : FL RX3 13 3 0 := ⟨RX3, TX3, 3, rfl, by decide, uw_X3, rfl, Or.inl (gw_at 153 (by decide +kernel) rfl)⟩
theorem fl_X3_18 : FL RX3 18 3 2 := ⟨RX3, TX3, 3, rfl, by decide, uw_X3, rfl, Or.inl (gw_at 155 (by decide +kernel) rfl)⟩
theorem fp_X3_18 : FP RX3 18 3 2 .int := ⟨RX3, TX3, 3, tyX3, rfl, by decide, uw_X3, rfl, gw_at 155 (by decide +kernel) rfl, tyX3_ok, nmX3, rfl, by decide +kernel⟩
theorem fl_X3_22 : FL RX3 22 0 0 := ⟨RX0, TX0, 3, rfl, by decide, uw_X0, rfl, Or.inr ⟨"BondedWires", nw_at 127 (by decide +kernel) rfl⟩⟩
theorem fl_X3_26 : FL RX3 26 3 1 := ⟨RX3, TX3, 3, rfl, by decide, uw_X3, rfl, Or.inl (gw_at 154 (by decide +kernel) rfl)⟩
theorem fp_X3_26 : FP RX3 26 3 1 .int := ⟨RX3, TX3, 3, tyX3, rfl, by decide, uw_X3, rfl, gw_at 154 (by decide +kernel) rfl, tyX3_ok, nmX3, rfl, by decide +kernel⟩
theorem fl_X4_9 : FL RX4 9 4 2 := ⟨RX4, TX4, 4, rfl, by decide, uw_X4, rfl, Or.inl (gw_at 198 (by decide +kernel) rfl)⟩
theorem fl_X4_15 : FL RX4 15 4 3 := ⟨RX4, TX4, 4, rfl, by decide, uw_X4, rfl, Or.inl (gw_at 199 (by decide +kernel) rfl)⟩
theorem fl_X4_18 : FL RX4 18 4 0 := ⟨RX4, TX4, 4, rfl, by decide, uw_X4, rfl, Or.inl (gw_at 196 (by decide +kernel) rfl)⟩
theorem fl_X4_22 : FL RX4 22 4 1 := ⟨RX4, TX4, 4, rfl, by decide, uw_X4, rfl, Or.inl (gw_at 197 (by decide +kernel) rfl)⟩
theorem fl_X4_32 : FL RX4 32 0 2 := ⟨RX0, TX0, 3, rfl, by decide, uw_X0, rfl, Or.inr ⟨"BondedWires", nw_at 134 (by decide +kernel) rfl⟩⟩
theorem fl_X5_9 : FL RX5 9 5 1 := ⟨RX5, TX5, 6, rfl, by decide, uw_X5, rfl, Or.inl (gw_at 247 (by decide +kernel) rfl)⟩
theorem fl_X5_15 : FL RX5 15 5 2 := ⟨RX5, TX5, 6, rfl, by decide, uw_X5, rfl, Or.inl (gw_at 248 (by decide +kernel) rfl)⟩
theorem fl_X5_19 : FL RX5 19 5 3 := ⟨RX5, TX5, 6, rfl, by decide, uw_X5, rfl, Or.inl (gw_at 249 (by decide +kernel) rfl)⟩
theorem fl_X5_22 : FL RX5 22 5 4 := ⟨RX5, TX5, 6, rfl, by decide, uw_X5, rfl, Or.inl (gw_at 250 (by decide +kernel) rfl)⟩
theorem fl_X5_25 : FL RX5 25 5 5 := ⟨RX5, TX5, 6, rfl, by decide, uw_X5, rfl, Or.inl (gw_at 251 (by decide +kernel) rfl)⟩
theorem fl_X5_28 : FL RX5 28 5 0 := ⟨RX5, TX5, 6, rfl, by decide, uw_X5, rfl, Or.inl (gw_at 246 (by decide +kernel) rfl)⟩
theorem fl_X5_32 : FL RX5 32 0 2 := ⟨RX0, TX0, 3, rfl, by decide, uw_X0, rfl, Or.inr ⟨"BondedWires", nw_at 137 (by decide +kernel) rfl⟩⟩
theorem fl_X6_9 : FL RX6 9 6 0 := ⟨RX6, TX6, 2, rfl, by decide, uw_X6, rfl, Or.inl (gw_at 78 (by decide +kernel) rfl)⟩
theorem fl_X6_15 : FL RX6 15 6 1 := ⟨RX6, TX6, 2, rfl, by decide, uw_X6, rfl, Or.inl (gw_at 79 (by decide +kernel) rfl)⟩
theorem fp_X6_15 : FP RX6 15 6 1 .int := ⟨RX6, TX6, 2, tyX6, rfl, by decide, uw_X6, rfl, gw_at 79 (by decide +kernel) rfl, tyX6_ok, nmX6, rfl, by decide +kernel⟩
theorem fl_X7_11 : FL RX7 11 7 1 := ⟨RX7, TX7, 6, rfl, by decide, uw_X7, rfl, Or.inl (gw_at 172 (by decide +kernel) rfl)⟩
theorem fl_X7_16 : FL RX7 16 7 2 := ⟨RX7, TX7, 6, rfl, by decide, uw_X7, rfl, Or.inl (gw_at 173 (by decide +kernel) rfl)⟩
theorem fl_X7_19 : FL RX7 19 7 3 := ⟨RX7, TX7, 6, rfl, by decide, uw_X7, rfl, Or.inl (gw_at 174 (by decide +kernel) rfl)⟩
theorem fl_X7_23 : FL RX7 23 7 4 := ⟨RX7, TX7, 6, rfl, by decide, uw_X7, rfl, Or.inl (gw_at 175 (by decide +kernel) rfl)⟩
theorem fl_X7_26 : FL RX7 26 7 0 := ⟨RX7, TX7, 6, rfl, by decide, uw_X7, rfl, Or.inl (gw_at 171 (by decide +kernel) rfl)⟩
theorem fl_X7_30 : FL RX7 30 0 2 := ⟨RX0, TX0, 3, rfl, by decide, uw_X0, rfl, Or.inr ⟨"BondedWires", nw_at 132 (by decide +kernel) rfl⟩⟩
theorem fl_X7_48 : FL RX7 48 7 5 := ⟨RX7, TX7, 6, rfl, by decide, uw_X7, rfl, Or.inl (gw_at 176 (by decide +kernel) rfl)⟩
theorem fp_X7_48 : FP RX7 48 7 5 .boolean := ⟨RX7, TX7, 6, tyX7, rfl, by decide, uw_X7, rfl, gw_at 176 (by decide +kernel) rfl, tyX7_ok, nmX7, rfl, by decide +kernel⟩
theorem fl_X7_56 : FL RX7 56 0 1 := ⟨RX0, TX0, 3, rfl, by decide, uw_X0, rfl, Or.inr ⟨"BondedWires", nw_at 130 (by decide +kernel) rfl⟩⟩
theorem fl_X9_7 : FL RX9 7 9 1 := ⟨RX9, TX9, 16, rfl, by decide, uw_X9, rfl, Or.inl (gw_at 773 (by decide +kernel) rfl)⟩
theorem fl_X9_13 : FL RX9 13 9 4 := ⟨RX9, TX9, 16, rfl, by decide, uw_X9, rfl, Or.inl (gw_at 776 (by decide +kernel) rfl)⟩
theorem fl_X9_16 : FL RX9 16 9 5 := ⟨RX9, TX9, 16, rfl, by decide, uw_X9, rfl, Or.inl (gw_at 777 (by decide +kernel) rfl)⟩
theorem fl_X9_19 : FL RX9 19 9 9 := ⟨RX9, TX9, 16, rfl, by decide, uw_X9, rfl, Or.inl (gw_at 781 (by decide +kernel) rfl)⟩
theorem fl_X9_22 : FL RX9 22 9 12 := ⟨RX9, TX9, 16, rfl, by decide, uw_X9, rfl, Or.inl (gw_at 784 (by decide +kernel) rfl)⟩
theorem fl_X9_25 : FL RX9 25 9 13 := ⟨RX9, TX9, 16, rfl, by decide, uw_X9, rfl, Or.inl (gw_at 785 (by decide +kernel) rfl)⟩
theorem fl_X9_28 : FL RX9 28 9 14 := ⟨RX9, TX9, 16, rfl, by decide, uw_X9, rfl, Or.inl (gw_at 786 (by decide +kernel) rfl)⟩
theorem fl_X9_31 : FL RX9 31 9 15 := ⟨RX9, TX9, 16, rfl, by decide, uw_X9, rfl, Or.inl (gw_at 787 (by decide +kernel) rfl)⟩
theorem fl_X9_34 : FL RX9 34 9 2 := ⟨RX9, TX9, 16, rfl, by decide, uw_X9, rfl, Or.inl (gw_at 774 (by decide +kernel) rfl)⟩
theorem fp_X9_34 : FP RX9 34 9 2 .int := ⟨RX9, TX9, 16, tyX9, rfl, by decide, uw_X9, rfl, gw_at 774 (by decide +kernel) rfl, tyX9_ok, nmX9, rfl, by decide +kernel⟩
theorem fl_X9_38 : FL RX9 38 9 3 := ⟨RX9, TX9, 16, rfl, by decide, uw_X9, rfl, Or.inl (gw_at 775 (by decide +kernel) rfl)⟩
theorem fp_X9_38 : FP RX9 38 9 3 .int := ⟨RX9, TX9, 16, tyX9, rfl, by decide, uw_X9, rfl, gw_at 775 (by decide +kernel) rfl, tyX9_ok, nmX9, rfl, by decide +kernel⟩
theorem fl_X9_41 : FL RX9 41 9 0 := ⟨RX9, TX9, 16, rfl, by decide, uw_X9, rfl, Or.inl (gw_at 772 (by decide +kernel) rfl)⟩
theorem fp_X9_41 : FP RX9 41 9 0 .int := ⟨RX9, TX9, 16, tyX9, rfl, by decide, uw_X9, rfl, gw_at 772 (by decide +kernel) rfl, tyX9_ok, nmX9, rfl, by decide +kernel⟩
theorem fl_X9_44 : FL RX9 44 9 10 := ⟨RX9, TX9, 16, rfl, by decide, uw_X9, rfl, Or.inl (gw_at 782 (by decide +kernel) rfl)⟩
theorem fp_X9_44 : FP RX9 44 9 10 .int := ⟨RX9, TX9, 16, tyX9, rfl, by decide, uw_X9, rfl, gw_at 782 (by decide +kernel) rfl, tyX9_ok, nmX9, rfl, by decide +kernel⟩
theorem fl_X9_51 : FL RX9 51 9 11 := ⟨RX9, TX9, 16, rfl, by decide, uw_X9, rfl, Or.inl (gw_at 783 (by decide +kernel) rfl)⟩
theorem fp_X9_51 : FP RX9 51 9 11 .int := ⟨RX9, TX9, 16, tyX9, rfl, by decide, uw_X9, rfl, gw_at 783 (by decide +kernel) rfl, tyX9_ok, nmX9, rfl, by decide +kernel⟩
theorem fl_X9_58 : FL RX9 58 9 8 := ⟨RX9, TX9, 16, rfl, by decide, uw_X9, rfl, Or.inl (gw_at 780 (by decide +kernel) rfl)⟩
theorem fp_X9_58 : FP RX9 58 9 8 .int := ⟨RX9, TX9, 16, tyX9, rfl, by decide, uw_X9, rfl, gw_at 780 (by decide +kernel) rfl, tyX9_ok, nmX9, rfl, by decide +kernel⟩
theorem fl_X9_70 : FL RX9 70 9 7 := ⟨RX9, TX9, 16, rfl, by decide, uw_X9, rfl, Or.inl (gw_at 779 (by decide +kernel) rfl)⟩
theorem fp_X9_70 : FP RX9 70 9 7 .int := ⟨RX9, TX9, 16, tyX9, rfl, by decide, uw_X9, rfl, gw_at 779 (by decide +kernel) rfl, tyX9_ok, nmX9, rfl, by decide +kernel⟩
theorem fl_X9_88 : FL RX9 88 9 6 := ⟨RX9, TX9, 16, rfl, by decide, uw_X9, rfl, Or.inl (gw_at 778 (by decide +kernel) rfl)⟩
theorem fp_X9_88 : FP RX9 88 9 6 .int := ⟨RX9, TX9, 16, tyX9, rfl, by decide, uw_X9, rfl, gw_at 778 (by decide +kernel) rfl, tyX9_ok, nmX9, rfl, by decide +kernel⟩
theorem cv_X8_71 : CV RX8 71 RJ0 yJ0_length_8abf5 cJ0_length_8abf5 1 (some .int) 0 := ⟨⟨gw_at 267 (by decide +kernel) rfl, gw_at 268 (by decide +kernel) rfl, gw_at 269 (by decide +kernel) rfl, gw_at 56 (by decide +kernel) rfl, gw_at 270 (by decide +kernel) rfl⟩, rfl, by decide +kernel, by decide +kernel, by decide +kernel⟩
theorem cv_X8_77 : CV RX8 77 RJ0 yJ0_charAt_5068e cJ0_charAt_5068e 2 (some .char) 1 := ⟨⟨gw_at 277 (by decide +kernel) rfl, gw_at 278 (by decide +kernel) rfl, gw_at 279 (by decide +kernel) rfl, gw_at 56 (by decide +kernel) rfl, gw_at 280 (by decide +kernel) rfl⟩, rfl, by decide +kernel, by decide +kernel, by decide +kernel⟩
theorem cv_X8_81 : CV RX8 81 RX6 yX6_append cX6_append 2 (some .boolean) 1 := ⟨⟨gw_at 315 (by decide +kernel) rfl, gw_at 316 (by decide +kernel) rfl, gw_at 317 (by decide +kernel) rfl, gw_at 48 (by decide +kernel) rfl, gw_at 318 (by decide +kernel) rfl⟩, rfl, by decide +kernel, by decide +kernel, by decide +kernel⟩
theorem cv_X8_85 : CV RX8 85 RX8 yX8_layText cX8_layText 1 (some .boolean) 0 := ⟨⟨gw_at 319 (by decide +kernel) rfl, gw_at 321 (by decide +kernel) rfl, gw_at 0 (by decide +kernel) rfl, gw_at 47 (by decide +kernel) rfl, gw_at 322 (by decide +kernel) rfl⟩, rfl, by decide +kernel, by decide +kernel, by decide +kernel⟩
theorem cv_X8_89 : CV RX8 89 RX6 yX6_clear cX6_clear 1 none 0 := ⟨⟨gw_at 405 (by decide +kernel) rfl, gw_at 406 (by decide +kernel) rfl, gw_at 407 (by decide +kernel) rfl, gw_at 48 (by decide +kernel) rfl, gw_at 408 (by decide +kernel) rfl⟩, rfl, by decide +kernel, by decide +kernel, by decide +kernel⟩
theorem cv_X8_95 : CV RX8 95 RX1 yX1_read cX1_read 4 none 1 := ⟨⟨gw_at 323 (by decide +kernel) rfl, gw_at 324 (by decide +kernel) rfl, gw_at 325 (by decide +kernel) rfl, gw_at 49 (by decide +kernel) rfl, gw_at 326 (by decide +kernel) rfl⟩, rfl, by decide +kernel, by decide +kernel, by decide +kernel⟩
theorem cv_X8_105 : CV RX8 105 RX8 yX8_isWire cX8_isWire 2 (some .boolean) 1 := ⟨⟨gw_at 455 (by decide +kernel) rfl, gw_at 457 (by decide +kernel) rfl, gw_at 8 (by decide +kernel) rfl, gw_at 47 (by decide +kernel) rfl, gw_at 458 (by decide +kernel) rfl⟩, rfl, by decide +kernel, by decide +kernel, by decide +kernel⟩
theorem cv_X8_116 : CV RX8 116 RX0 yX0_numberOf cX0_numberOf 3 (some .int) 2 := ⟨⟨gw_at 461 (by decide +kernel) rfl, gw_at 387 (by decide +kernel) rfl, gw_at 388 (by decide +kernel) rfl, gw_at 50 (by decide +kernel) rfl, gw_at 389 (by decide +kernel) rfl⟩, rfl, by decide +kernel, by decide +kernel, by decide +kernel⟩
theorem cv_X8_120 : CV RX8 120 RX3 yX3_keep cX3_keep 2 none 1 := ⟨⟨gw_at 462 (by decide +kernel) rfl, gw_at 463 (by decide +kernel) rfl, gw_at 464 (by decide +kernel) rfl, gw_at 51 (by decide +kernel) rfl, gw_at 465 (by decide +kernel) rfl⟩, rfl, by decide +kernel, by decide +kernel, by decide +kernel⟩
theorem cv_X8_123 : CV RX8 123 RX0 yX0_tellNumber cX0_tellNumber 4 none 3 := ⟨⟨gw_at 470 (by decide +kernel) rfl, gw_at 471 (by decide +kernel) rfl, gw_at 472 (by decide +kernel) rfl, gw_at 50 (by decide +kernel) rfl, gw_at 473 (by decide +kernel) rfl⟩, rfl, by decide +kernel, by decide +kernel, by decide +kernel⟩
theorem cv_X8_127 : CV RX8 127 RX7 yX7_refresh cX7_refresh 2 none 0 := ⟨⟨gw_at 378 (by decide +kernel) rfl, gw_at 379 (by decide +kernel) rfl, gw_at 380 (by decide +kernel) rfl, gw_at 52 (by decide +kernel) rfl, gw_at 381 (by decide +kernel) rfl⟩, rfl, by decide +kernel, by decide +kernel, by decide +kernel⟩
theorem cv_X8_133 : CV RX8 133 RX0 yX0_limitOf cX0_limitOf 2 (some .int) 1 := ⟨⟨gw_at 479 (by decide +kernel) rfl, gw_at 480 (by decide +kernel) rfl, gw_at 481 (by decide +kernel) rfl, gw_at 50 (by decide +kernel) rfl, gw_at 482 (by decide +kernel) rfl⟩, rfl, by decide +kernel, by decide +kernel, by decide +kernel⟩
theorem cv_X8_137 : CV RX8 137 RX0 yX0_tellLimit cX0_tellLimit 3 none 2 := ⟨⟨gw_at 483 (by decide +kernel) rfl, gw_at 484 (by decide +kernel) rfl, gw_at 485 (by decide +kernel) rfl, gw_at 50 (by decide +kernel) rfl, gw_at 486 (by decide +kernel) rfl⟩, rfl, by decide +kernel, by decide +kernel, by decide +kernel⟩
theorem cv_X8_141 : CV RX8 141 RX0 yX0_shiftNow cX0_shiftNow 1 (some .int) 0 := ⟨⟨gw_at 491 (by decide +kernel) rfl, gw_at 391 (by decide +kernel) rfl, gw_at 392 (by decide +kernel) rfl, gw_at 50 (by decide +kernel) rfl, gw_at 393 (by decide +kernel) rfl⟩, rfl, by decide +kernel, by decide +kernel, by decide +kernel⟩
theorem cv_X8_144 : CV RX8 144 RX0 yX0_tellShift cX0_tellShift 2 none 1 := ⟨⟨gw_at 492 (by decide +kernel) rfl, gw_at 493 (by decide +kernel) rfl, gw_at 494 (by decide +kernel) rfl, gw_at 50 (by decide +kernel) rfl, gw_at 495 (by decide +kernel) rfl⟩, rfl, by decide +kernel, by decide +kernel, by decide +kernel⟩
theorem cv_X8_152 : CV RX8 152 RX3 yX3_giveBack cX3_giveBack 2 none 1 := ⟨⟨gw_at 501 (by decide +kernel) rfl, gw_at 502 (by decide +kernel) rfl, gw_at 503 (by decide +kernel) rfl, gw_at 51 (by decide +kernel) rfl, gw_at 504 (by decide +kernel) rfl⟩, rfl, by decide +kernel, by decide +kernel, by decide +kernel⟩
theorem cv_X8_155 : CV RX8 155 RX0 yX0_isBonded cX0_isBonded 2 (some .boolean) 1 := ⟨⟨gw_at 509 (by decide +kernel) rfl, gw_at 510 (by decide +kernel) rfl, gw_at 511 (by decide +kernel) rfl, gw_at 50 (by decide +kernel) rfl, gw_at 512 (by decide +kernel) rfl⟩, rfl, by decide +kernel, by decide +kernel, by decide +kernel⟩
theorem cv_X8_158 : CV RX8 158 RX7 yX7_longOf cX7_longOf 6 (some .int) 1 := ⟨⟨gw_at 517 (by decide +kernel) rfl, gw_at 518 (by decide +kernel) rfl, gw_at 519 (by decide +kernel) rfl, gw_at 52 (by decide +kernel) rfl, gw_at 520 (by decide +kernel) rfl⟩, rfl, by decide +kernel, by decide +kernel, by decide +kernel⟩
theorem cv_X8_161 : CV RX8 161 RX7 yX7_topRow cX7_topRow 4 (some .int) 1 := ⟨⟨gw_at 524 (by decide +kernel) rfl, gw_at 525 (by decide +kernel) rfl, gw_at 526 (by decide +kernel) rfl, gw_at 52 (by decide +kernel) rfl, gw_at 527 (by decide +kernel) rfl⟩, rfl, by decide +kernel, by decide +kernel, by decide +kernel⟩
theorem cv_X8_164 : CV RX8 164 RX7 yX7_heightOf cX7_heightOf 3 (some .int) 2 := ⟨⟨gw_at 528 (by decide +kernel) rfl, gw_at 529 (by decide +kernel) rfl, gw_at 530 (by decide +kernel) rfl, gw_at 52 (by decide +kernel) rfl, gw_at 531 (by decide +kernel) rfl⟩, rfl, by decide +kernel, by decide +kernel, by decide +kernel⟩
theorem cv_X8_167 : CV RX8 167 RX8 yX8_isRow cX8_isRow 2 (some .boolean) 1 := ⟨⟨gw_at 536 (by decide +kernel) rfl, gw_at 538 (by decide +kernel) rfl, gw_at 9 (by decide +kernel) rfl, gw_at 47 (by decide +kernel) rfl, gw_at 539 (by decide +kernel) rfl⟩, rfl, by decide +kernel, by decide +kernel, by decide +kernel⟩
theorem cv_X8_170 : CV RX8 170 RX7 yX7_placeOf cX7_placeOf 3 (some .int) 2 := ⟨⟨gw_at 540 (by decide +kernel) rfl, gw_at 541 (by decide +kernel) rfl, gw_at 542 (by decide +kernel) rfl, gw_at 52 (by decide +kernel) rfl, gw_at 543 (by decide +kernel) rfl⟩, rfl, by decide +kernel, by decide +kernel, by decide +kernel⟩
theorem cv_X8_173 : CV RX8 173 RX7 yX7_firstNear cX7_firstNear 4 (some .int) 2 := ⟨⟨gw_at 552 (by decide +kernel) rfl, gw_at 553 (by decide +kernel) rfl, gw_at 554 (by decide +kernel) rfl, gw_at 52 (by decide +kernel) rfl, gw_at 555 (by decide +kernel) rfl⟩, rfl, by decide +kernel, by decide +kernel, by decide +kernel⟩
theorem cv_X8_176 : CV RX8 176 RX7 yX7_nearRows cX7_nearRows 5 (some .int) 2 := ⟨⟨gw_at 565 (by decide +kernel) rfl, gw_at 566 (by decide +kernel) rfl, gw_at 567 (by decide +kernel) rfl, gw_at 52 (by decide +kernel) rfl, gw_at 568 (by decide +kernel) rfl⟩, rfl, by decide +kernel, by decide +kernel, by decide +kernel⟩
theorem cv_X8_179 : CV RX8 179 RX7 yX7_cross cX7_cross 5 (some .boolean) 2 := ⟨⟨gw_at 569 (by decide +kernel) rfl, gw_at 570 (by decide +kernel) rfl, gw_at 571 (by decide +kernel) rfl, gw_at 52 (by decide +kernel) rfl, gw_at 572 (by decide +kernel) rfl⟩, rfl, by decide +kernel, by decide +kernel, by decide +kernel⟩
theorem cv_X8_183 : CV RX8 183 RX7 yX7_blockersOf cX7_blockersOf 2 (some .int) 1 := ⟨⟨gw_at 576 (by decide +kernel) rfl, gw_at 577 (by decide +kernel) rfl, gw_at 578 (by decide +kernel) rfl, gw_at 52 (by decide +kernel) rfl, gw_at 579 (by decide +kernel) rfl⟩, rfl, by decide +kernel, by decide +kernel, by decide +kernel⟩
theorem cv_X8_186 : CV RX8 186 RX8 yX8_canBeBonded cX8_canBeBonded 2 (some .boolean) 1 := ⟨⟨gw_at 596 (by decide +kernel) rfl, gw_at 598 (by decide +kernel) rfl, gw_at 13 (by decide +kernel) rfl, gw_at 47 (by decide +kernel) rfl, gw_at 599 (by decide +kernel) rfl⟩, rfl, by decide +kernel, by decide +kernel, by decide +kernel⟩
theorem cv_X8_189 : CV RX8 189 RX0 yX0_bonded cX0_bonded 1 (some .int) 0 := ⟨⟨gw_at 600 (by decide +kernel) rfl, gw_at 514 (by decide +kernel) rfl, gw_at 515 (by decide +kernel) rfl, gw_at 50 (by decide +kernel) rfl, gw_at 516 (by decide +kernel) rfl⟩, rfl, by decide +kernel, by decide +kernel, by decide +kernel⟩
theorem cv_X8_192 : CV RX8 192 RX0 yX0_tellBonded cX0_tellBonded 2 none 1 := ⟨⟨gw_at 601 (by decide +kernel) rfl, gw_at 602 (by decide +kernel) rfl, gw_at 603 (by decide +kernel) rfl, gw_at 50 (by decide +kernel) rfl, gw_at 604 (by decide +kernel) rfl⟩, rfl, by decide +kernel, by decide +kernel, by decide +kernel⟩
theorem cs_X8_195 : CS RX8 195 yJ6_bitCount_0f7a4 cJ6_bitCount_0f7a4 1 (some .int) 1 := ⟨⟨gw_at 605 (by decide +kernel) rfl, gw_at 606 (by decide +kernel) rfl, gw_at 63 (by decide +kernel) rfl, gw_at 607 (by decide +kernel) rfl⟩, by decide +kernel, by decide +kernel, by decide +kernel⟩
theorem cv_X8_200 : CV RX8 200 RX4 yX4_arrange cX4_arrange 5 (some .int) 0 := ⟨⟨gw_at 623 (by decide +kernel) rfl, gw_at 624 (by decide +kernel) rfl, gw_at 625 (by decide +kernel) rfl, gw_at 53 (by decide +kernel) rfl, gw_at 626 (by decide +kernel) rfl⟩, rfl, by decide +kernel, by decide +kernel, by decide +kernel⟩
theorem cv_X8_203 : CV RX8 203 RX4 yX4_wireAt cX4_wireAt 2 (some .int) 1 := ⟨⟨gw_at 635 (by decide +kernel) rfl, gw_at 636 (by decide +kernel) rfl, gw_at 637 (by decide +kernel) rfl, gw_at 53 (by decide +kernel) rfl, gw_at 638 (by decide +kernel) rfl⟩, rfl, by decide +kernel, by decide +kernel, by decide +kernel⟩
theorem cv_X8_206 : CV RX8 206 RX4 yX4_howMany cX4_howMany 4 (some .int) 0 := ⟨⟨gw_at 643 (by decide +kernel) rfl, gw_at 644 (by decide +kernel) rfl, gw_at 645 (by decide +kernel) rfl, gw_at 53 (by decide +kernel) rfl, gw_at 646 (by decide +kernel) rfl⟩, rfl, by decide +kernel, by decide +kernel, by decide +kernel⟩
theorem cv_X8_209 : CV RX8 209 RX2 yX2_find cX2_find 7 (some .boolean) 1 := ⟨⟨gw_at 659 (by decide +kernel) rfl, gw_at 660 (by decide +kernel) rfl, gw_at 661 (by decide +kernel) rfl, gw_at 54 (by decide +kernel) rfl, gw_at 662 (by decide +kernel) rfl⟩, rfl, by decide +kernel, by decide +kernel, by decide +kernel⟩
theorem cs_X8_218 : CS RX8 218 yJ9_abs_0f7a4 cJ9_abs_0f7a4 1 (some .int) 1 := ⟨⟨gw_at 694 (by decide +kernel) rfl, gw_at 522 (by decide +kernel) rfl, gw_at 62 (by decide +kernel) rfl, gw_at 523 (by decide +kernel) rfl⟩, by decide +kernel, by decide +kernel, by decide +kernel⟩
theorem cs_X8_223 : CS RX8 223 yX8_isLook cX8_isLook 3 (some .boolean) 3 := ⟨⟨gw_at 699 (by decide +kernel) rfl, gw_at 700 (by decide +kernel) rfl, gw_at 47 (by decide +kernel) rfl, gw_at 701 (by decide +kernel) rfl⟩, by decide +kernel, by decide +kernel, by decide +kernel⟩
theorem cv_X8_227 : CV RX8 227 RX5 yX5_seen cX5_seen 10 (some .int) 4 := ⟨⟨gw_at 702 (by decide +kernel) rfl, gw_at 703 (by decide +kernel) rfl, gw_at 704 (by decide +kernel) rfl, gw_at 55 (by decide +kernel) rfl, gw_at 705 (by decide +kernel) rfl⟩, rfl, by decide +kernel, by decide +kernel, by decide +kernel⟩
theorem cv_X8_231 : CV RX8 231 RX5 yX5_tell cX5_tell 6 none 5 := ⟨⟨gw_at 711 (by decide +kernel) rfl, gw_at 712 (by decide +kernel) rfl, gw_at 713 (by decide +kernel) rfl, gw_at 55 (by decide +kernel) rfl, gw_at 714 (by decide +kernel) rfl⟩, rfl, by decide +kernel, by decide +kernel, by decide +kernel⟩
theorem cv_X8_235 : CV RX8 235 RX5 yX5_howMany cX5_howMany 3 (some .int) 0 := ⟨⟨gw_at 715 (by decide +kernel) rfl, gw_at 716 (by decide +kernel) rfl, gw_at 717 (by decide +kernel) rfl, gw_at 55 (by decide +kernel) rfl, gw_at 718 (by decide +kernel) rfl⟩, rfl, by decide +kernel, by decide +kernel, by decide +kernel⟩
theorem cv_X8_236 : CV RX8 236 RX5 yX5_clear cX5_clear 2 none 0 := ⟨⟨gw_at 374 (by decide +kernel) rfl, gw_at 375 (by decide +kernel) rfl, gw_at 376 (by decide +kernel) rfl, gw_at 55 (by decide +kernel) rfl, gw_at 377 (by decide +kernel) rfl⟩, rfl, by decide +kernel, by decide +kernel, by decide +kernel⟩
theorem cv_X8_237 : CV RX8 237 RX5 yX5_shiftsThatExplain cX5_shiftsThatExplain 3 (some .int) 0 := ⟨⟨gw_at 727 (by decide +kernel) rfl, gw_at 728 (by decide +kernel) rfl, gw_at 729 (by decide +kernel) rfl, gw_at 55 (by decide +kernel) rfl, gw_at 730 (by decide +kernel) rfl⟩, rfl, by decide +kernel, by decide +kernel, by decide +kernel⟩
theorem cv_X8_240 : CV RX8 240 RX5 yX5_nearestShift cX5_nearestShift 2 (some .int) 0 := ⟨⟨gw_at 736 (by decide +kernel) rfl, gw_at 737 (by decide +kernel) rfl, gw_at 738 (by decide +kernel) rfl, gw_at 55 (by decide +kernel) rfl, gw_at 739 (by decide +kernel) rfl⟩, rfl, by decide +kernel, by decide +kernel, by decide +kernel⟩
theorem cv_X8_246 : CV RX8 246 RX7 yX7_nearPairs cX7_nearPairs 4 (some .int) 0 := ⟨⟨gw_at 745 (by decide +kernel) rfl, gw_at 746 (by decide +kernel) rfl, gw_at 747 (by decide +kernel) rfl, gw_at 52 (by decide +kernel) rfl, gw_at 748 (by decide +kernel) rfl⟩, rfl, by decide +kernel, by decide +kernel, by decide +kernel⟩
theorem cv_X8_249 : CV RX8 249 RX7 yX7_crossPairs cX7_crossPairs 4 (some .int) 0 := ⟨⟨gw_at 750 (by decide +kernel) rfl, gw_at 751 (by decide +kernel) rfl, gw_at 752 (by decide +kernel) rfl, gw_at 52 (by decide +kernel) rfl, gw_at 753 (by decide +kernel) rfl⟩, rfl, by decide +kernel, by decide +kernel, by decide +kernel⟩
theorem cv_X8_252 : CV RX8 252 RX7 yX7_blockedPairs cX7_blockedPairs 3 (some .int) 0 := ⟨⟨gw_at 755 (by decide +kernel) rfl, gw_at 756 (by decide +kernel) rfl, gw_at 757 (by decide +kernel) rfl, gw_at 52 (by decide +kernel) rfl, gw_at 758 (by decide +kernel) rfl⟩, rfl, by decide +kernel, by decide +kernel, by decide +kernel⟩
theorem cv_X8_255 : CV RX8 255 RX7 yX7_longOfAll cX7_longOfAll 3 (some .int) 0 := ⟨⟨gw_at 761 (by decide +kernel) rfl, gw_at 762 (by decide +kernel) rfl, gw_at 763 (by decide +kernel) rfl, gw_at 52 (by decide +kernel) rfl, gw_at 764 (by decide +kernel) rfl⟩, rfl, by decide +kernel, by decide +kernel, by decide +kernel⟩
theorem cv_X8_259 : CV RX8 259 RX0 yX0_layFrom cX0_layFrom 2 none 1 := ⟨⟨gw_at 365 (by decide +kernel) rfl, gw_at 366 (by decide +kernel) rfl, gw_at 367 (by decide +kernel) rfl, gw_at 50 (by decide +kernel) rfl, gw_at 368 (by decide +kernel) rfl⟩, rfl, by decide +kernel, by decide +kernel, by decide +kernel⟩
theorem cv_X8_263 : CV RX8 263 RX3 yX3_clear cX3_clear 1 none 0 := ⟨⟨gw_at 370 (by decide +kernel) rfl, gw_at 371 (by decide +kernel) rfl, gw_at 372 (by decide +kernel) rfl, gw_at 51 (by decide +kernel) rfl, gw_at 373 (by decide +kernel) rfl⟩, rfl, by decide +kernel, by decide +kernel, by decide +kernel⟩
theorem cv_X0_38 : CV RX0 38 RX0 yX0_bonded cX0_bonded 1 (some .int) 0 := ⟨⟨gw_at 513 (by decide +kernel) rfl, gw_at 514 (by decide +kernel) rfl, gw_at 515 (by decide +kernel) rfl, gw_at 50 (by decide +kernel) rfl, gw_at 516 (by decide +kernel) rfl⟩, rfl, by decide +kernel, by decide +kernel, by decide +kernel⟩
theorem cv_X1_45 : CV RX1 45 RX1 yX1_readItem cX1_readItem 3 (some .boolean) 1 := ⟨⟨gw_at 332 (by decide +kernel) rfl, gw_at 334 (by decide +kernel) rfl, gw_at 1 (by decide +kernel) rfl, gw_at 49 (by decide +kernel) rfl, gw_at 335 (by decide +kernel) rfl⟩, rfl, by decide +kernel, by decide +kernel, by decide +kernel⟩
theorem cv_X1_49 : CV RX1 49 RX6 yX6_letterAt cX6_letterAt 2 (some .char) 1 := ⟨⟨gw_at 336 (by decide +kernel) rfl, gw_at 337 (by decide +kernel) rfl, gw_at 338 (by decide +kernel) rfl, gw_at 48 (by decide +kernel) rfl, gw_at 339 (by decide +kernel) rfl⟩, rfl, by decide +kernel, by decide +kernel, by decide +kernel⟩
theorem cv_X1_53 : CV RX1 53 RX1 yX1_readSpan cX1_readSpan 3 (some .boolean) 1 := ⟨⟨gw_at 340 (by decide +kernel) rfl, gw_at 342 (by decide +kernel) rfl, gw_at 2 (by decide +kernel) rfl, gw_at 49 (by decide +kernel) rfl, gw_at 343 (by decide +kernel) rfl⟩, rfl, by decide +kernel, by decide +kernel, by decide +kernel⟩
theorem cv_X1_56 : CV RX1 56 RX1 yX1_readLimit cX1_readLimit 4 (some .boolean) 2 := ⟨⟨gw_at 351 (by decide +kernel) rfl, gw_at 353 (by decide +kernel) rfl, gw_at 4 (by decide +kernel) rfl, gw_at 49 (by decide +kernel) rfl, gw_at 354 (by decide +kernel) rfl⟩, rfl, by decide +kernel, by decide +kernel, by decide +kernel⟩
theorem cv_X1_60 : CV RX1 60 RX1 yX1_readWire cX1_readWire 4 (some .boolean) 1 := ⟨⟨gw_at 357 (by decide +kernel) rfl, gw_at 359 (by decide +kernel) rfl, gw_at 5 (by decide +kernel) rfl, gw_at 49 (by decide +kernel) rfl, gw_at 360 (by decide +kernel) rfl⟩, rfl, by decide +kernel, by decide +kernel, by decide +kernel⟩
theorem cv_X1_63 : CV RX1 63 RX1 yX1_readNumber cX1_readNumber 5 (some .int) 2 := ⟨⟨gw_at 344 (by decide +kernel) rfl, gw_at 346 (by decide +kernel) rfl, gw_at 3 (by decide +kernel) rfl, gw_at 49 (by decide +kernel) rfl, gw_at 347 (by decide +kernel) rfl⟩, rfl, by decide +kernel, by decide +kernel, by decide +kernel⟩
theorem cs_X1_76 : CS RX1 76 yX1_figure cX1_figure 1 (some .int) 1 := ⟨⟨gw_at 348 (by decide +kernel) rfl, gw_at 349 (by decide +kernel) rfl, gw_at 49 (by decide +kernel) rfl, gw_at 350 (by decide +kernel) rfl⟩, by decide +kernel, by decide +kernel, by decide +kernel⟩
theorem cv_X2_27 : CV RX2 27 RX2 yX2_findCloseRows cX2_findCloseRows 6 none 1 := ⟨⟨gw_at 663 (by decide +kernel) rfl, gw_at 665 (by decide +kernel) rfl, gw_at 16 (by decide +kernel) rfl, gw_at 54 (by decide +kernel) rfl, gw_at 666 (by decide +kernel) rfl⟩, rfl, by decide +kernel, by decide +kernel, by decide +kernel⟩
theorem cv_X2_31 : CV RX2 31 RX7 yX7_blockersOf cX7_blockersOf 2 (some .int) 1 := ⟨⟨gw_at 668 (by decide +kernel) rfl, gw_at 577 (by decide +kernel) rfl, gw_at 578 (by decide +kernel) rfl, gw_at 52 (by decide +kernel) rfl, gw_at 579 (by decide +kernel) rfl⟩, rfl, by decide +kernel, by decide +kernel, by decide +kernel⟩
theorem cv_X2_41 : CV RX2 41 RX0 yX0_numberOf cX0_numberOf 3 (some .int) 2 := ⟨⟨gw_at 669 (by decide +kernel) rfl, gw_at 387 (by decide +kernel) rfl, gw_at 388 (by decide +kernel) rfl, gw_at 50 (by decide +kernel) rfl, gw_at 389 (by decide +kernel) rfl⟩, rfl, by decide +kernel, by decide +kernel, by decide +kernel⟩
theorem cs_X2_47 : CS RX2 47 yX2_shapeAtTurn cX2_shapeAtTurn 2 (some .int) 2 := ⟨⟨gw_at 670 (by decide +kernel) rfl, gw_at 671 (by decide +kernel) rfl, gw_at 54 (by decide +kernel) rfl, gw_at 672 (by decide +kernel) rfl⟩, by decide +kernel, by decide +kernel, by decide +kernel⟩
theorem cv_X2_50 : CV RX2 50 RX2 yX2_mends cX2_mends 5 (some .boolean) 3 := ⟨⟨gw_at 673 (by decide +kernel) rfl, gw_at 675 (by decide +kernel) rfl, gw_at 17 (by decide +kernel) rfl, gw_at 54 (by decide +kernel) rfl, gw_at 676 (by decide +kernel) rfl⟩, rfl, by decide +kernel, by decide +kernel, by decide +kernel⟩
theorem cv_X2_60 : CV RX2 60 RX7 yX7_closeAt cX7_closeAt 4 (some .boolean) 3 := ⟨⟨gw_at 667 (by decide +kernel) rfl, gw_at 561 (by decide +kernel) rfl, gw_at 562 (by decide +kernel) rfl, gw_at 52 (by decide +kernel) rfl, gw_at 563 (by decide +kernel) rfl⟩, rfl, by decide +kernel, by decide +kernel, by decide +kernel⟩
theorem cv_X2_63 : CV RX2 63 RX7 yX7_fillHeights cX7_fillHeights 7 none 4 := ⟨⟨gw_at 677 (by decide +kernel) rfl, gw_at 395 (by decide +kernel) rfl, gw_at 396 (by decide +kernel) rfl, gw_at 52 (by decide +kernel) rfl, gw_at 397 (by decide +kernel) rfl⟩, rfl, by decide +kernel, by decide +kernel, by decide +kernel⟩
theorem cv_X2_67 : CV RX2 67 RX2 yX2_isNear cX2_isNear 5 (some .boolean) 1 := ⟨⟨gw_at 678 (by decide +kernel) rfl, gw_at 680 (by decide +kernel) rfl, gw_at 18 (by decide +kernel) rfl, gw_at 54 (by decide +kernel) rfl, gw_at 681 (by decide +kernel) rfl⟩, rfl, by decide +kernel, by decide +kernel, by decide +kernel⟩
theorem cv_X2_71 : CV RX2 71 RX2 yX2_isMutual cX2_isMutual 3 (some .boolean) 2 := ⟨⟨gw_at 685 (by decide +kernel) rfl, gw_at 687 (by decide +kernel) rfl, gw_at 19 (by decide +kernel) rfl, gw_at 54 (by decide +kernel) rfl, gw_at 688 (by decide +kernel) rfl⟩, rfl, by decide +kernel, by decide +kernel, by decide +kernel⟩
theorem cv_X2_81 : CV RX2 81 RX7 yX7_heightOf cX7_heightOf 3 (some .int) 2 := ⟨⟨gw_at 682 (by decide +kernel) rfl, gw_at 529 (by decide +kernel) rfl, gw_at 530 (by decide +kernel) rfl, gw_at 52 (by decide +kernel) rfl, gw_at 531 (by decide +kernel) rfl⟩, rfl, by decide +kernel, by decide +kernel, by decide +kernel⟩
theorem cs_X2_84 : CS RX2 84 yJ9_abs_0f7a4 cJ9_abs_0f7a4 1 (some .int) 1 := ⟨⟨gw_at 683 (by decide +kernel) rfl, gw_at 522 (by decide +kernel) rfl, gw_at 62 (by decide +kernel) rfl, gw_at 523 (by decide +kernel) rfl⟩, by decide +kernel, by decide +kernel, by decide +kernel⟩
theorem cv_X2_89 : CV RX2 89 RX0 yX0_limitOf cX0_limitOf 2 (some .int) 1 := ⟨⟨gw_at 684 (by decide +kernel) rfl, gw_at 480 (by decide +kernel) rfl, gw_at 481 (by decide +kernel) rfl, gw_at 50 (by decide +kernel) rfl, gw_at 482 (by decide +kernel) rfl⟩, rfl, by decide +kernel, by decide +kernel, by decide +kernel⟩
theorem cv_X2_92 : CV RX2 92 RX7 yX7_isInTheWay cX7_isInTheWay 4 (some .boolean) 3 := ⟨⟨gw_at 689 (by decide +kernel) rfl, gw_at 585 (by decide +kernel) rfl, gw_at 586 (by decide +kernel) rfl, gw_at 52 (by decide +kernel) rfl, gw_at 587 (by decide +kernel) rfl⟩, rfl, by decide +kernel, by decide +kernel, by decide +kernel⟩
theorem cs_X3_35 : CS RX3 35 yJ9_min_7cf53 cJ9_min_7cf53 2 (some .int) 2 := ⟨⟨gw_at 467 (by decide +kernel) rfl, gw_at 468 (by decide +kernel) rfl, gw_at 62 (by decide +kernel) rfl, gw_at 469 (by decide +kernel) rfl⟩, by decide +kernel, by decide +kernel, by decide +kernel⟩
theorem cv_X4_26 : CV RX4 26 RX7 yX7_blockedByEach cX7_blockedByEach 1 (some (.array .int)) 0 := ⟨⟨gw_at 627 (by decide +kernel) rfl, gw_at 628 (by decide +kernel) rfl, gw_at 629 (by decide +kernel) rfl, gw_at 52 (by decide +kernel) rfl, gw_at 630 (by decide +kernel) rfl⟩, rfl, by decide +kernel, by decide +kernel, by decide +kernel⟩
theorem cv_X4_38 : CV RX4 38 RX4 yX4_lowestFree cX4_lowestFree 4 (some .int) 2 := ⟨⟨gw_at 631 (by decide +kernel) rfl, gw_at 633 (by decide +kernel) rfl, gw_at 14 (by decide +kernel) rfl, gw_at 53 (by decide +kernel) rfl, gw_at 634 (by decide +kernel) rfl⟩, rfl, by decide +kernel, by decide +kernel, by decide +kernel⟩
theorem cv_X4_42 : CV RX4 42 RX4 yX4_waysOf cX4_waysOf 5 (some .int) 2 := ⟨⟨gw_at 647 (by decide +kernel) rfl, gw_at 649 (by decide +kernel) rfl, gw_at 15 (by decide +kernel) rfl, gw_at 53 (by decide +kernel) rfl, gw_at 650 (by decide +kernel) rfl⟩, rfl, by decide +kernel, by decide +kernel, by decide +kernel⟩
theorem cv_X5_38 : CV RX5 38 RX0 yX0_numberOf cX0_numberOf 3 (some .int) 2 := ⟨⟨gw_at 706 (by decide +kernel) rfl, gw_at 387 (by decide +kernel) rfl, gw_at 388 (by decide +kernel) rfl, gw_at 50 (by decide +kernel) rfl, gw_at 389 (by decide +kernel) rfl⟩, rfl, by decide +kernel, by decide +kernel, by decide +kernel⟩
theorem cv_X5_42 : CV RX5 42 RX5 yX5_isExplainedBy cX5_isExplainedBy 3 (some .boolean) 1 := ⟨⟨gw_at 731 (by decide +kernel) rfl, gw_at 733 (by decide +kernel) rfl, gw_at 20 (by decide +kernel) rfl, gw_at 55 (by decide +kernel) rfl, gw_at 734 (by decide +kernel) rfl⟩, rfl, by decide +kernel, by decide +kernel, by decide +kernel⟩
theorem cv_X5_47 : CV RX5 47 RX5 yX5_seen cX5_seen 10 (some .int) 4 := ⟨⟨gw_at 735 (by decide +kernel) rfl, gw_at 703 (by decide +kernel) rfl, gw_at 704 (by decide +kernel) rfl, gw_at 55 (by decide +kernel) rfl, gw_at 705 (by decide +kernel) rfl⟩, rfl, by decide +kernel, by decide +kernel, by decide +kernel⟩
theorem cv_X7_36 : CV RX7 36 RX7 yX7_fillPlaces cX7_fillPlaces 5 none 1 := ⟨⟨gw_at 382 (by decide +kernel) rfl, gw_at 384 (by decide +kernel) rfl, gw_at 6 (by decide +kernel) rfl, gw_at 52 (by decide +kernel) rfl, gw_at 385 (by decide +kernel) rfl⟩, rfl, by decide +kernel, by decide +kernel, by decide +kernel⟩
theorem cv_X7_40 : CV RX7 40 RX0 yX0_numberOf cX0_numberOf 3 (some .int) 2 := ⟨⟨gw_at 386 (by decide +kernel) rfl, gw_at 387 (by decide +kernel) rfl, gw_at 388 (by decide +kernel) rfl, gw_at 50 (by decide +kernel) rfl, gw_at 389 (by decide +kernel) rfl⟩, rfl, by decide +kernel, by decide +kernel, by decide +kernel⟩
theorem cv_X7_44 : CV RX7 44 RX7 yX7_fillHeights cX7_fillHeights 7 none 4 := ⟨⟨gw_at 394 (by decide +kernel) rfl, gw_at 395 (by decide +kernel) rfl, gw_at 396 (by decide +kernel) rfl, gw_at 52 (by decide +kernel) rfl, gw_at 397 (by decide +kernel) rfl⟩, rfl, by decide +kernel, by decide +kernel, by decide +kernel⟩
theorem cv_X7_52 : CV RX7 52 RX0 yX0_shiftNow cX0_shiftNow 1 (some .int) 0 := ⟨⟨gw_at 390 (by decide +kernel) rfl, gw_at 391 (by decide +kernel) rfl, gw_at 392 (by decide +kernel) rfl, gw_at 50 (by decide +kernel) rfl, gw_at 393 (by decide +kernel) rfl⟩, rfl, by decide +kernel, by decide +kernel, by decide +kernel⟩
theorem cv_X7_59 : CV RX7 59 RX7 yX7_heightBetween cX7_heightBetween 7 (some .int) 4 := ⟨⟨gw_at 398 (by decide +kernel) rfl, gw_at 400 (by decide +kernel) rfl, gw_at 7 (by decide +kernel) rfl, gw_at 52 (by decide +kernel) rfl, gw_at 401 (by decide +kernel) rfl⟩, rfl, by decide +kernel, by decide +kernel, by decide +kernel⟩
theorem cs_X7_63 : CS RX7 63 yX7_cut cX7_cut 2 (some .int) 2 := ⟨⟨gw_at 402 (by decide +kernel) rfl, gw_at 403 (by decide +kernel) rfl, gw_at 52 (by decide +kernel) rfl, gw_at 404 (by decide +kernel) rfl⟩, by decide +kernel, by decide +kernel, by decide +kernel⟩
theorem cs_X7_66 : CS RX7 66 yJ9_abs_0f7a4 cJ9_abs_0f7a4 1 (some .int) 1 := ⟨⟨gw_at 521 (by decide +kernel) rfl, gw_at 522 (by decide +kernel) rfl, gw_at 62 (by decide +kernel) rfl, gw_at 523 (by decide +kernel) rfl⟩, by decide +kernel, by decide +kernel, by decide +kernel⟩
theorem cv_X7_72 : CV RX7 72 RX7 yX7_longOf cX7_longOf 6 (some .int) 1 := ⟨⟨gw_at 765 (by decide +kernel) rfl, gw_at 518 (by decide +kernel) rfl, gw_at 519 (by decide +kernel) rfl, gw_at 52 (by decide +kernel) rfl, gw_at 520 (by decide +kernel) rfl⟩, rfl, by decide +kernel, by decide +kernel, by decide +kernel⟩
theorem cv_X7_75 : CV RX7 75 RX0 yX0_limitOf cX0_limitOf 2 (some .int) 1 := ⟨⟨gw_at 564 (by decide +kernel) rfl, gw_at 480 (by decide +kernel) rfl, gw_at 481 (by decide +kernel) rfl, gw_at 50 (by decide +kernel) rfl, gw_at 482 (by decide +kernel) rfl⟩, rfl, by decide +kernel, by decide +kernel, by decide +kernel⟩
theorem cv_X7_78 : CV RX7 78 RX7 yX7_closeAt cX7_closeAt 4 (some .boolean) 3 := ⟨⟨gw_at 560 (by decide +kernel) rfl, gw_at 561 (by decide +kernel) rfl, gw_at 562 (by decide +kernel) rfl, gw_at 52 (by decide +kernel) rfl, gw_at 563 (by decide +kernel) rfl⟩, rfl, by decide +kernel, by decide +kernel, by decide +kernel⟩
theorem cv_X7_82 : CV RX7 82 RX7 yX7_nearAt cX7_nearAt 4 (some .boolean) 3 := ⟨⟨gw_at 556 (by decide +kernel) rfl, gw_at 558 (by decide +kernel) rfl, gw_at 10 (by decide +kernel) rfl, gw_at 52 (by decide +kernel) rfl, gw_at 559 (by decide +kernel) rfl⟩, rfl, by decide +kernel, by decide +kernel, by decide +kernel⟩
theorem cs_X7_85 : CS RX7 85 yJ6_compare_7cf53 cJ6_compare_7cf53 2 (some .int) 2 := ⟨⟨gw_at 573 (by decide +kernel) rfl, gw_at 574 (by decide +kernel) rfl, gw_at 63 (by decide +kernel) rfl, gw_at 575 (by decide +kernel) rfl⟩, by decide +kernel, by decide +kernel, by decide +kernel⟩
theorem cv_X7_90 : CV RX7 90 RX7 yX7_firstNear cX7_firstNear 4 (some .int) 2 := ⟨⟨gw_at 749 (by decide +kernel) rfl, gw_at 553 (by decide +kernel) rfl, gw_at 554 (by decide +kernel) rfl, gw_at 52 (by decide +kernel) rfl, gw_at 555 (by decide +kernel) rfl⟩, rfl, by decide +kernel, by decide +kernel, by decide +kernel⟩
theorem cv_X7_93 : CV RX7 93 RX7 yX7_cross cX7_cross 5 (some .boolean) 2 := ⟨⟨gw_at 754 (by decide +kernel) rfl, gw_at 570 (by decide +kernel) rfl, gw_at 571 (by decide +kernel) rfl, gw_at 52 (by decide +kernel) rfl, gw_at 572 (by decide +kernel) rfl⟩, rfl, by decide +kernel, by decide +kernel, by decide +kernel⟩
theorem cv_X7_97 : CV RX7 97 RX7 yX7_blockersOf cX7_blockersOf 2 (some .int) 1 := ⟨⟨gw_at 759 (by decide +kernel) rfl, gw_at 577 (by decide +kernel) rfl, gw_at 578 (by decide +kernel) rfl, gw_at 52 (by decide +kernel) rfl, gw_at 579 (by decide +kernel) rfl⟩, rfl, by decide +kernel, by decide +kernel, by decide +kernel⟩
theorem cs_X7_100 : CS RX7 100 yJ6_bitCount_0f7a4 cJ6_bitCount_0f7a4 1 (some .int) 1 := ⟨⟨gw_at 760 (by decide +kernel) rfl, gw_at 606 (by decide +kernel) rfl, gw_at 63 (by decide +kernel) rfl, gw_at 607 (by decide +kernel) rfl⟩, by decide +kernel, by decide +kernel, by decide +kernel⟩
theorem cv_X7_103 : CV RX7 103 RX7 yX7_findBlockers cX7_findBlockers 3 none 0 := ⟨⟨gw_at 580 (by decide +kernel) rfl, gw_at 582 (by decide +kernel) rfl, gw_at 11 (by decide +kernel) rfl, gw_at 52 (by decide +kernel) rfl, gw_at 583 (by decide +kernel) rfl⟩, rfl, by decide +kernel, by decide +kernel, by decide +kernel⟩
theorem cv_X7_106 : CV RX7 106 RX7 yX7_isInTheWay cX7_isInTheWay 4 (some .boolean) 3 := ⟨⟨gw_at 584 (by decide +kernel) rfl, gw_at 585 (by decide +kernel) rfl, gw_at 586 (by decide +kernel) rfl, gw_at 52 (by decide +kernel) rfl, gw_at 587 (by decide +kernel) rfl⟩, rfl, by decide +kernel, by decide +kernel, by decide +kernel⟩
theorem cv_X7_110 : CV RX7 110 RX7 yX7_isOverEnd cX7_isOverEnd 12 (some .boolean) 4 := ⟨⟨gw_at 588 (by decide +kernel) rfl, gw_at 590 (by decide +kernel) rfl, gw_at 12 (by decide +kernel) rfl, gw_at 52 (by decide +kernel) rfl, gw_at 591 (by decide +kernel) rfl⟩, rfl, by decide +kernel, by decide +kernel, by decide +kernel⟩
theorem cv_L_13 : CV RL 13 RX8 yX8_write cX8_write 2 (some .int) 1 := ⟨⟨gw_at 435 (by decide +kernel) rfl, gw_at 436 (by decide +kernel) rfl, gw_at 437 (by decide +kernel) rfl, gw_at 47 (by decide +kernel) rfl, gw_at 438 (by decide +kernel) rfl⟩, rfl, by decide +kernel, by decide +kernel, by decide +kernel⟩
theorem cv_L_17 : CV RL 17 RX9 yX9_write cX9_write 2 (some .int) 1 := ⟨⟨gw_at 821 (by decide +kernel) rfl, gw_at 822 (by decide +kernel) rfl, gw_at 823 (by decide +kernel) rfl, gw_at 61 (by decide +kernel) rfl, gw_at 824 (by decide +kernel) rfl⟩, rfl, by decide +kernel, by decide +kernel, by decide +kernel⟩
theorem cv_L_18 : CV RL 18 RX8 yX8_wipe cX8_wipe 2 (some .int) 0 := ⟨⟨gw_at 439 (by decide +kernel) rfl, gw_at 440 (by decide +kernel) rfl, gw_at 441 (by decide +kernel) rfl, gw_at 47 (by decide +kernel) rfl, gw_at 442 (by decide +kernel) rfl⟩, rfl, by decide +kernel, by decide +kernel, by decide +kernel⟩
theorem cv_L_22 : CV RL 22 RX9 yX9_wipe cX9_wipe 2 (some .int) 0 := ⟨⟨gw_at 825 (by decide +kernel) rfl, gw_at 826 (by decide +kernel) rfl, gw_at 827 (by decide +kernel) rfl, gw_at 61 (by decide +kernel) rfl, gw_at 828 (by decide +kernel) rfl⟩, rfl, by decide +kernel, by decide +kernel, by decide +kernel⟩
theorem cv_L_23 : CV RL 23 RX8 yX8_fault cX8_fault 1 (some .int) 0 := ⟨⟨gw_at 443 (by decide +kernel) rfl, gw_at 444 (by decide +kernel) rfl, gw_at 445 (by decide +kernel) rfl, gw_at 47 (by decide +kernel) rfl, gw_at 446 (by decide +kernel) rfl⟩, rfl, by decide +kernel, by decide +kernel, by decide +kernel⟩
theorem cv_L_26 : CV RL 26 RX9 yX9_fault cX9_fault 1 (some .int) 0 := ⟨⟨gw_at 829 (by decide +kernel) rfl, gw_at 830 (by decide +kernel) rfl, gw_at 831 (by decide +kernel) rfl, gw_at 61 (by decide +kernel) rfl, gw_at 832 (by decide +kernel) rfl⟩, rfl, by decide +kernel, by decide +kernel, by decide +kernel⟩
theorem cv_L_27 : CV RL 27 RX8 yX8_lay cX8_lay 1 (some .int) 0 := ⟨⟨gw_at 447 (by decide +kernel) rfl, gw_at 448 (by decide +kernel) rfl, gw_at 449 (by decide +kernel) rfl, gw_at 47 (by decide +kernel) rfl, gw_at 450 (by decide +kernel) rfl⟩, rfl, by decide +kernel, by decide +kernel, by decide +kernel⟩
theorem cv_L_30 : CV RL 30 RX9 yX9_lay cX9_lay 2 (some .int) 0 := ⟨⟨gw_at 865 (by decide +kernel) rfl, gw_at 866 (by decide +kernel) rfl, gw_at 867 (by decide +kernel) rfl, gw_at 61 (by decide +kernel) rfl, gw_at 868 (by decide +kernel) rfl⟩, rfl, by decide +kernel, by decide +kernel, by decide +kernel⟩
theorem cv_L_31 : CV RL 31 RX8 yX8_set cX8_set 5 (some .int) 3 := ⟨⟨gw_at 451 (by decide +kernel) rfl, gw_at 452 (by decide +kernel) rfl, gw_at 453 (by decide +kernel) rfl, gw_at 47 (by decide +kernel) rfl, gw_at 454 (by decide +kernel) rfl⟩, rfl, by decide +kernel, by decide +kernel, by decide +kernel⟩
theorem cv_L_35 : CV RL 35 RX9 yX9_set cX9_set 4 (some .int) 3 := ⟨⟨gw_at 873 (by decide +kernel) rfl, gw_at 874 (by decide +kernel) rfl, gw_at 875 (by decide +kernel) rfl, gw_at 61 (by decide +kernel) rfl, gw_at 876 (by decide +kernel) rfl⟩, rfl, by decide +kernel, by decide +kernel, by decide +kernel⟩
theorem cv_L_36 : CV RL 36 RX8 yX8_limit cX8_limit 4 (some .int) 2 := ⟨⟨gw_at 474 (by decide +kernel) rfl, gw_at 475 (by decide +kernel) rfl, gw_at 476 (by decide +kernel) rfl, gw_at 47 (by decide +kernel) rfl, gw_at 477 (by decide +kernel) rfl⟩, rfl, by decide +kernel, by decide +kernel, by decide +kernel⟩
theorem cv_L_40 : CV RL 40 RX9 yX9_limit cX9_limit 3 (some .int) 2 := ⟨⟨gw_at 889 (by decide +kernel) rfl, gw_at 890 (by decide +kernel) rfl, gw_at 891 (by decide +kernel) rfl, gw_at 61 (by decide +kernel) rfl, gw_at 892 (by decide +kernel) rfl⟩, rfl, by decide +kernel, by decide +kernel, by decide +kernel⟩
theorem cv_L_41 : CV RL 41 RX8 yX8_shift cX8_shift 3 (some .int) 1 := ⟨⟨gw_at 487 (by decide +kernel) rfl, gw_at 488 (by decide +kernel) rfl, gw_at 489 (by decide +kernel) rfl, gw_at 47 (by decide +kernel) rfl, gw_at 490 (by decide +kernel) rfl⟩, rfl, by decide +kernel, by decide +kernel, by decide +kernel⟩
theorem cv_L_44 : CV RL 44 RX9 yX9_shift cX9_shift 3 (some .int) 1 := ⟨⟨gw_at 893 (by decide +kernel) rfl, gw_at 894 (by decide +kernel) rfl, gw_at 895 (by decide +kernel) rfl, gw_at 61 (by decide +kernel) rfl, gw_at 896 (by decide +kernel) rfl⟩, rfl, by decide +kernel, by decide +kernel, by decide +kernel⟩
theorem cv_L_45 : CV RL 45 RX8 yX8_undo cX8_undo 1 (some .int) 0 := ⟨⟨gw_at 497 (by decide +kernel) rfl, gw_at 498 (by decide +kernel) rfl, gw_at 499 (by decide +kernel) rfl, gw_at 47 (by decide +kernel) rfl, gw_at 500 (by decide +kernel) rfl⟩, rfl, by decide +kernel, by decide +kernel, by decide +kernel⟩
theorem cv_L_48 : CV RL 48 RX9 yX9_undo cX9_undo 2 (some .int) 0 := ⟨⟨gw_at 869 (by decide +kernel) rfl, gw_at 870 (by decide +kernel) rfl, gw_at 871 (by decide +kernel) rfl, gw_at 61 (by decide +kernel) rfl, gw_at 872 (by decide +kernel) rfl⟩, rfl, by decide +kernel, by decide +kernel, by decide +kernel⟩
theorem cv_L_49 : CV RL 49 RX8 yX8_wire cX8_wire 3 (some .int) 2 := ⟨⟨gw_at 505 (by decide +kernel) rfl, gw_at 506 (by decide +kernel) rfl, gw_at 507 (by decide +kernel) rfl, gw_at 47 (by decide +kernel) rfl, gw_at 508 (by decide +kernel) rfl⟩, rfl, by decide +kernel, by decide +kernel, by decide +kernel⟩
theorem cv_L_52 : CV RL 52 RX9 yX9_wire cX9_wire 3 (some .int) 2 := ⟨⟨gw_at 898 (by decide +kernel) rfl, gw_at 899 (by decide +kernel) rfl, gw_at 900 (by decide +kernel) rfl, gw_at 61 (by decide +kernel) rfl, gw_at 901 (by decide +kernel) rfl⟩, rfl, by decide +kernel, by decide +kernel, by decide +kernel⟩
theorem cv_L_53 : CV RL 53 RX8 yX8_place cX8_place 3 (some .int) 2 := ⟨⟨gw_at 532 (by decide +kernel) rfl, gw_at 533 (by decide +kernel) rfl, gw_at 534 (by decide +kernel) rfl, gw_at 47 (by decide +kernel) rfl, gw_at 535 (by decide +kernel) rfl⟩, rfl, by decide +kernel, by decide +kernel, by decide +kernel⟩
theorem cv_L_56 : CV RL 56 RX9 yX9_place cX9_place 3 (some .int) 2 := ⟨⟨gw_at 921 (by decide +kernel) rfl, gw_at 922 (by decide +kernel) rfl, gw_at 923 (by decide +kernel) rfl, gw_at 61 (by decide +kernel) rfl, gw_at 924 (by decide +kernel) rfl⟩, rfl, by decide +kernel, by decide +kernel, by decide +kernel⟩
theorem cv_L_57 : CV RL 57 RX8 yX8_height cX8_height 3 (some .int) 2 := ⟨⟨gw_at 544 (by decide +kernel) rfl, gw_at 545 (by decide +kernel) rfl, gw_at 546 (by decide +kernel) rfl, gw_at 47 (by decide +kernel) rfl, gw_at 547 (by decide +kernel) rfl⟩, rfl, by decide +kernel, by decide +kernel, by decide +kernel⟩
theorem cv_L_60 : CV RL 60 RX9 yX9_height cX9_height 3 (some .int) 2 := ⟨⟨gw_at 925 (by decide +kernel) rfl, gw_at 926 (by decide +kernel) rfl, gw_at 927 (by decide +kernel) rfl, gw_at 61 (by decide +kernel) rfl, gw_at 928 (by decide +kernel) rfl⟩, rfl, by decide +kernel, by decide +kernel, by decide +kernel⟩
theorem cv_L_61 : CV RL 61 RX8 yX8_pair cX8_pair 4 (some .int) 3 := ⟨⟨gw_at 548 (by decide +kernel) rfl, gw_at 549 (by decide +kernel) rfl, gw_at 550 (by decide +kernel) rfl, gw_at 47 (by decide +kernel) rfl, gw_at 551 (by decide +kernel) rfl⟩, rfl, by decide +kernel, by decide +kernel, by decide +kernel⟩
theorem cv_L_64 : CV RL 64 RX9 yX9_pair cX9_pair 4 (some .int) 3 := ⟨⟨gw_at 929 (by decide +kernel) rfl, gw_at 930 (by decide +kernel) rfl, gw_at 931 (by decide +kernel) rfl, gw_at 61 (by decide +kernel) rfl, gw_at 932 (by decide +kernel) rfl⟩, rfl, by decide +kernel, by decide +kernel, by decide +kernel⟩
theorem cv_L_65 : CV RL 65 RX8 yX8_bond cX8_bond 2 (some .int) 1 := ⟨⟨gw_at 592 (by decide +kernel) rfl, gw_at 593 (by decide +kernel) rfl, gw_at 594 (by decide +kernel) rfl, gw_at 47 (by decide +kernel) rfl, gw_at 595 (by decide +kernel) rfl⟩, rfl, by decide +kernel, by decide +kernel, by decide +kernel⟩
theorem cv_L_68 : CV RL 68 RX9 yX9_bond cX9_bond 2 (some .int) 1 := ⟨⟨gw_at 953 (by decide +kernel) rfl, gw_at 954 (by decide +kernel) rfl, gw_at 955 (by decide +kernel) rfl, gw_at 61 (by decide +kernel) rfl, gw_at 956 (by decide +kernel) rfl⟩, rfl, by decide +kernel, by decide +kernel, by decide +kernel⟩
theorem cv_L_69 : CV RL 69 RX8 yX8_take cX8_take 2 (some .int) 1 := ⟨⟨gw_at 611 (by decide +kernel) rfl, gw_at 612 (by decide +kernel) rfl, gw_at 613 (by decide +kernel) rfl, gw_at 47 (by decide +kernel) rfl, gw_at 614 (by decide +kernel) rfl⟩, rfl, by decide +kernel, by decide +kernel, by decide +kernel⟩
theorem cv_L_72 : CV RL 72 RX9 yX9_take cX9_take 2 (some .int) 1 := ⟨⟨gw_at 964 (by decide +kernel) rfl, gw_at 965 (by decide +kernel) rfl, gw_at 966 (by decide +kernel) rfl, gw_at 61 (by decide +kernel) rfl, gw_at 967 (by decide +kernel) rfl⟩, rfl, by decide +kernel, by decide +kernel, by decide +kernel⟩
theorem cv_L_73 : CV RL 73 RX8 yX8_ready cX8_ready 3 (some .int) 0 := ⟨⟨gw_at 615 (by decide +kernel) rfl, gw_at 616 (by decide +kernel) rfl, gw_at 617 (by decide +kernel) rfl, gw_at 47 (by decide +kernel) rfl, gw_at 618 (by decide +kernel) rfl⟩, rfl, by decide +kernel, by decide +kernel, by decide +kernel⟩
theorem cv_L_76 : CV RL 76 RX9 yX9_ready cX9_ready 3 (some .int) 0 := ⟨⟨gw_at 968 (by decide +kernel) rfl, gw_at 969 (by decide +kernel) rfl, gw_at 970 (by decide +kernel) rfl, gw_at 61 (by decide +kernel) rfl, gw_at 971 (by decide +kernel) rfl⟩, rfl, by decide +kernel, by decide +kernel, by decide +kernel⟩
theorem cv_L_77 : CV RL 77 RX8 yX8_order cX8_order 2 (some .int) 1 := ⟨⟨gw_at 619 (by decide +kernel) rfl, gw_at 620 (by decide +kernel) rfl, gw_at 621 (by decide +kernel) rfl, gw_at 47 (by decide +kernel) rfl, gw_at 622 (by decide +kernel) rfl⟩, rfl, by decide +kernel, by decide +kernel, by decide +kernel⟩
theorem cv_L_80 : CV RL 80 RX9 yX9_order cX9_order 2 (some .int) 1 := ⟨⟨gw_at 988 (by decide +kernel) rfl, gw_at 989 (by decide +kernel) rfl, gw_at 990 (by decide +kernel) rfl, gw_at 61 (by decide +kernel) rfl, gw_at 991 (by decide +kernel) rfl⟩, rfl, by decide +kernel, by decide +kernel, by decide +kernel⟩
theorem cv_L_81 : CV RL 81 RX8 yX8_orders cX8_orders 1 (some .int) 0 := ⟨⟨gw_at 639 (by decide +kernel) rfl, gw_at 640 (by decide +kernel) rfl, gw_at 641 (by decide +kernel) rfl, gw_at 47 (by decide +kernel) rfl, gw_at 642 (by decide +kernel) rfl⟩, rfl, by decide +kernel, by decide +kernel, by decide +kernel⟩
theorem cv_L_84 : CV RL 84 RX9 yX9_orders cX9_orders 4 (some .int) 0 := ⟨⟨gw_at 993 (by decide +kernel) rfl, gw_at 994 (by decide +kernel) rfl, gw_at 995 (by decide +kernel) rfl, gw_at 61 (by decide +kernel) rfl, gw_at 996 (by decide +kernel) rfl⟩, rfl, by decide +kernel, by decide +kernel, by decide +kernel⟩
theorem cv_L_85 : CV RL 85 RX8 yX8_stuck cX8_stuck 1 (some .int) 0 := ⟨⟨gw_at 651 (by decide +kernel) rfl, gw_at 652 (by decide +kernel) rfl, gw_at 653 (by decide +kernel) rfl, gw_at 47 (by decide +kernel) rfl, gw_at 654 (by decide +kernel) rfl⟩, rfl, by decide +kernel, by decide +kernel, by decide +kernel⟩
theorem cv_L_88 : CV RL 88 RX9 yX9_stuck cX9_stuck 1 (some .int) 0 := ⟨⟨gw_at 972 (by decide +kernel) rfl, gw_at 973 (by decide +kernel) rfl, gw_at 974 (by decide +kernel) rfl, gw_at 61 (by decide +kernel) rfl, gw_at 975 (by decide +kernel) rfl⟩, rfl, by decide +kernel, by decide +kernel, by decide +kernel⟩
theorem cv_L_89 : CV RL 89 RX8 yX8_loop cX8_loop 2 (some .int) 1 := ⟨⟨gw_at 655 (by decide +kernel) rfl, gw_at 656 (by decide +kernel) rfl, gw_at 657 (by decide +kernel) rfl, gw_at 47 (by decide +kernel) rfl, gw_at 658 (by decide +kernel) rfl⟩, rfl, by decide +kernel, by decide +kernel, by decide +kernel⟩
theorem cv_L_92 : CV RL 92 RX9 yX9_loop cX9_loop 2 (some .int) 1 := ⟨⟨gw_at 997 (by decide +kernel) rfl, gw_at 998 (by decide +kernel) rfl, gw_at 999 (by decide +kernel) rfl, gw_at 61 (by decide +kernel) rfl, gw_at 1000 (by decide +kernel) rfl⟩, rfl, by decide +kernel, by decide +kernel, by decide +kernel⟩
theorem cv_L_93 : CV RL 93 RX8 yX8_mend cX8_mend 3 (some .int) 1 := ⟨⟨gw_at 690 (by decide +kernel) rfl, gw_at 691 (by decide +kernel) rfl, gw_at 692 (by decide +kernel) rfl, gw_at 47 (by decide +kernel) rfl, gw_at 693 (by decide +kernel) rfl⟩, rfl, by decide +kernel, by decide +kernel, by decide +kernel⟩
theorem cv_L_96 : CV RL 96 RX9 yX9_mend cX9_mend 4 (some .int) 1 := ⟨⟨gw_at 1009 (by decide +kernel) rfl, gw_at 1010 (by decide +kernel) rfl, gw_at 1011 (by decide +kernel) rfl, gw_at 61 (by decide +kernel) rfl, gw_at 1012 (by decide +kernel) rfl⟩, rfl, by decide +kernel, by decide +kernel, by decide +kernel⟩
theorem cv_L_97 : CV RL 97 RX8 yX8_sees cX8_sees 4 (some .int) 3 := ⟨⟨gw_at 695 (by decide +kernel) rfl, gw_at 696 (by decide +kernel) rfl, gw_at 697 (by decide +kernel) rfl, gw_at 47 (by decide +kernel) rfl, gw_at 698 (by decide +kernel) rfl⟩, rfl, by decide +kernel, by decide +kernel, by decide +kernel⟩
theorem cv_L_100 : CV RL 100 RX9 yX9_sees cX9_sees 4 (some .int) 3 := ⟨⟨gw_at 1013 (by decide +kernel) rfl, gw_at 1014 (by decide +kernel) rfl, gw_at 1015 (by decide +kernel) rfl, gw_at 61 (by decide +kernel) rfl, gw_at 1016 (by decide +kernel) rfl⟩, rfl, by decide +kernel, by decide +kernel, by decide +kernel⟩
theorem cv_L_101 : CV RL 101 RX8 yX8_eye cX8_eye 6 (some .int) 5 := ⟨⟨gw_at 707 (by decide +kernel) rfl, gw_at 708 (by decide +kernel) rfl, gw_at 709 (by decide +kernel) rfl, gw_at 47 (by decide +kernel) rfl, gw_at 710 (by decide +kernel) rfl⟩, rfl, by decide +kernel, by decide +kernel, by decide +kernel⟩
theorem cv_L_105 : CV RL 105 RX9 yX9_eye cX9_eye 6 (some .int) 5 := ⟨⟨gw_at 1024 (by decide +kernel) rfl, gw_at 1025 (by decide +kernel) rfl, gw_at 1026 (by decide +kernel) rfl, gw_at 61 (by decide +kernel) rfl, gw_at 1027 (by decide +kernel) rfl⟩, rfl, by decide +kernel, by decide +kernel, by decide +kernel⟩
theorem cv_L_106 : CV RL 106 RX8 yX8_forget cX8_forget 2 (some .int) 0 := ⟨⟨gw_at 719 (by decide +kernel) rfl, gw_at 720 (by decide +kernel) rfl, gw_at 721 (by decide +kernel) rfl, gw_at 47 (by decide +kernel) rfl, gw_at 722 (by decide +kernel) rfl⟩, rfl, by decide +kernel, by decide +kernel, by decide +kernel⟩
theorem cv_L_109 : CV RL 109 RX9 yX9_forget cX9_forget 2 (some .int) 0 := ⟨⟨gw_at 1028 (by decide +kernel) rfl, gw_at 1029 (by decide +kernel) rfl, gw_at 1030 (by decide +kernel) rfl, gw_at 61 (by decide +kernel) rfl, gw_at 1031 (by decide +kernel) rfl⟩, rfl, by decide +kernel, by decide +kernel, by decide +kernel⟩
theorem cv_L_110 : CV RL 110 RX8 yX8_explains cX8_explains 2 (some .int) 1 := ⟨⟨gw_at 723 (by decide +kernel) rfl, gw_at 724 (by decide +kernel) rfl, gw_at 725 (by decide +kernel) rfl, gw_at 47 (by decide +kernel) rfl, gw_at 726 (by decide +kernel) rfl⟩, rfl, by decide +kernel, by decide +kernel, by decide +kernel⟩
theorem cv_L_113 : CV RL 113 RX9 yX9_explains cX9_explains 9 (some .int) 1 := ⟨⟨gw_at 1032 (by decide +kernel) rfl, gw_at 1033 (by decide +kernel) rfl, gw_at 1034 (by decide +kernel) rfl, gw_at 61 (by decide +kernel) rfl, gw_at 1035 (by decide +kernel) rfl⟩, rfl, by decide +kernel, by decide +kernel, by decide +kernel⟩
theorem cv_L_114 : CV RL 114 RX8 yX8_count cX8_count 2 (some .int) 1 := ⟨⟨gw_at 741 (by decide +kernel) rfl, gw_at 742 (by decide +kernel) rfl, gw_at 743 (by decide +kernel) rfl, gw_at 47 (by decide +kernel) rfl, gw_at 744 (by decide +kernel) rfl⟩, rfl, by decide +kernel, by decide +kernel, by decide +kernel⟩
theorem cv_L_117 : CV RL 117 RX9 yX9_count cX9_count 4 (some .int) 1 := ⟨⟨gw_at 1036 (by decide +kernel) rfl, gw_at 1037 (by decide +kernel) rfl, gw_at 1038 (by decide +kernel) rfl, gw_at 61 (by decide +kernel) rfl, gw_at 1039 (by decide +kernel) rfl⟩, rfl, by decide +kernel, by decide +kernel, by decide +kernel⟩
theorem cv_X9_47 : CV RX9 47 RX9 yX9_letterAt cX9_letterAt 2 (some .int) 1 := ⟨⟨gw_at 845 (by decide +kernel) rfl, gw_at 847 (by decide +kernel) rfl, gw_at 24 (by decide +kernel) rfl, gw_at 61 (by decide +kernel) rfl, gw_at 848 (by decide +kernel) rfl⟩, rfl, by decide +kernel, by decide +kernel, by decide +kernel⟩
theorem cs_X9_54 : CS RX9 54 yX9_isIn cX9_isIn 3 (some .boolean) 3 := ⟨⟨gw_at 849 (by decide +kernel) rfl, gw_at 850 (by decide +kernel) rfl, gw_at 61 (by decide +kernel) rfl, gw_at 851 (by decide +kernel) rfl⟩, by decide +kernel, by decide +kernel, by decide +kernel⟩
theorem cs_X9_61 : CS RX9 61 yX9_lowest cX9_lowest 1 (some .int) 1 := ⟨⟨gw_at 856 (by decide +kernel) rfl, gw_at 857 (by decide +kernel) rfl, gw_at 61 (by decide +kernel) rfl, gw_at 858 (by decide +kernel) rfl⟩, by decide +kernel, by decide +kernel, by decide +kernel⟩
theorem cs_X9_64 : CS RX9 64 yX9_highest cX9_highest 1 (some .int) 1 := ⟨⟨gw_at 859 (by decide +kernel) rfl, gw_at 860 (by decide +kernel) rfl, gw_at 61 (by decide +kernel) rfl, gw_at 861 (by decide +kernel) rfl⟩, by decide +kernel, by decide +kernel, by decide +kernel⟩
theorem cv_X9_67 : CV RX9 67 RX9 yX9_number cX9_number 5 (some .boolean) 3 := ⟨⟨gw_at 841 (by decide +kernel) rfl, gw_at 843 (by decide +kernel) rfl, gw_at 23 (by decide +kernel) rfl, gw_at 61 (by decide +kernel) rfl, gw_at 844 (by decide +kernel) rfl⟩, rfl, by decide +kernel, by decide +kernel, by decide +kernel⟩
theorem cv_X9_73 : CV RX9 73 RX9 yX9_readsWire cX9_readsWire 3 (some .boolean) 1 := ⟨⟨gw_at 852 (by decide +kernel) rfl, gw_at 854 (by decide +kernel) rfl, gw_at 25 (by decide +kernel) rfl, gw_at 61 (by decide +kernel) rfl, gw_at 855 (by decide +kernel) rfl⟩, rfl, by decide +kernel, by decide +kernel, by decide +kernel⟩
theorem cs_X9_77 : CS RX9 77 yX9_most cX9_most 1 (some .int) 1 := ⟨⟨gw_at 862 (by decide +kernel) rfl, gw_at 863 (by decide +kernel) rfl, gw_at 61 (by decide +kernel) rfl, gw_at 864 (by decide +kernel) rfl⟩, by decide +kernel, by decide +kernel, by decide +kernel⟩
theorem cv_X9_80 : CV RX9 80 RX9 yX9_readsItem cX9_readsItem 4 (some .boolean) 2 := ⟨⟨gw_at 837 (by decide +kernel) rfl, gw_at 839 (by decide +kernel) rfl, gw_at 22 (by decide +kernel) rfl, gw_at 61 (by decide +kernel) rfl, gw_at 840 (by decide +kernel) rfl⟩, rfl, by decide +kernel, by decide +kernel, by decide +kernel⟩
theorem cv_X9_84 : CV RX9 84 RX9 yX9_reads cX9_reads 2 (some .int) 0 := ⟨⟨gw_at 833 (by decide +kernel) rfl, gw_at 835 (by decide +kernel) rfl, gw_at 21 (by decide +kernel) rfl, gw_at 61 (by decide +kernel) rfl, gw_at 836 (by decide +kernel) rfl⟩, rfl, by decide +kernel, by decide +kernel, by decide +kernel⟩
theorem cv_X9_91 : CV RX9 91 RX9 yX9_notes cX9_notes 2 none 0 := ⟨⟨gw_at 885 (by decide +kernel) rfl, gw_at 887 (by decide +kernel) rfl, gw_at 28 (by decide +kernel) rfl, gw_at 61 (by decide +kernel) rfl, gw_at 888 (by decide +kernel) rfl⟩, rfl, by decide +kernel, by decide +kernel, by decide +kernel⟩
theorem cv_X9_94 : CV RX9 94 RX9 yX9_isWire cX9_isWire 2 (some .boolean) 1 := ⟨⟨gw_at 877 (by decide +kernel) rfl, gw_at 879 (by decide +kernel) rfl, gw_at 26 (by decide +kernel) rfl, gw_at 61 (by decide +kernel) rfl, gw_at 880 (by decide +kernel) rfl⟩, rfl, by decide +kernel, by decide +kernel, by decide +kernel⟩
theorem cv_X9_97 : CV RX9 97 RX9 yX9_becomes cX9_becomes 4 (some .int) 2 := ⟨⟨gw_at 881 (by decide +kernel) rfl, gw_at 883 (by decide +kernel) rfl, gw_at 27 (by decide +kernel) rfl, gw_at 61 (by decide +kernel) rfl, gw_at 884 (by decide +kernel) rfl⟩, rfl, by decide +kernel, by decide +kernel, by decide +kernel⟩
theorem cv_X9_102 : CV RX9 102 RX9 yX9_placeOf cX9_placeOf 3 (some .int) 2 := ⟨⟨gw_at 906 (by decide +kernel) rfl, gw_at 908 (by decide +kernel) rfl, gw_at 30 (by decide +kernel) rfl, gw_at 61 (by decide +kernel) rfl, gw_at 909 (by decide +kernel) rfl⟩, rfl, by decide +kernel, by decide +kernel, by decide +kernel⟩
theorem cs_X9_105 : CS RX9 105 yX9_distance cX9_distance 2 (some .int) 2 := ⟨⟨gw_at 910 (by decide +kernel) rfl, gw_at 911 (by decide +kernel) rfl, gw_at 61 (by decide +kernel) rfl, gw_at 912 (by decide +kernel) rfl⟩, by decide +kernel, by decide +kernel, by decide +kernel⟩
theorem cv_X9_108 : CV RX9 108 RX9 yX9_heightOf cX9_heightOf 6 (some .int) 2 := ⟨⟨gw_at 913 (by decide +kernel) rfl, gw_at 915 (by decide +kernel) rfl, gw_at 31 (by decide +kernel) rfl, gw_at 61 (by decide +kernel) rfl, gw_at 916 (by decide +kernel) rfl⟩, rfl, by decide +kernel, by decide +kernel, by decide +kernel⟩
theorem cv_X9_111 : CV RX9 111 RX9 yX9_longOf cX9_longOf 4 (some .int) 1 := ⟨⟨gw_at 902 (by decide +kernel) rfl, gw_at 904 (by decide +kernel) rfl, gw_at 29 (by decide +kernel) rfl, gw_at 61 (by decide +kernel) rfl, gw_at 905 (by decide +kernel) rfl⟩, rfl, by decide +kernel, by decide +kernel, by decide +kernel⟩
theorem cv_X9_114 : CV RX9 114 RX9 yX9_topOf cX9_topOf 4 (some .int) 1 := ⟨⟨gw_at 917 (by decide +kernel) rfl, gw_at 919 (by decide +kernel) rfl, gw_at 32 (by decide +kernel) rfl, gw_at 61 (by decide +kernel) rfl, gw_at 920 (by decide +kernel) rfl⟩, rfl, by decide +kernel, by decide +kernel, by decide +kernel⟩
theorem cv_X9_117 : CV RX9 117 RX9 yX9_areNear cX9_areNear 4 (some .boolean) 3 := ⟨⟨gw_at 937 (by decide +kernel) rfl, gw_at 939 (by decide +kernel) rfl, gw_at 34 (by decide +kernel) rfl, gw_at 61 (by decide +kernel) rfl, gw_at 940 (by decide +kernel) rfl⟩, rfl, by decide +kernel, by decide +kernel, by decide +kernel⟩
theorem cv_X9_120 : CV RX9 120 RX9 yX9_inWayAt cX9_inWayAt 9 (some .boolean) 3 := ⟨⟨gw_at 949 (by decide +kernel) rfl, gw_at 951 (by decide +kernel) rfl, gw_at 37 (by decide +kernel) rfl, gw_at 61 (by decide +kernel) rfl, gw_at 952 (by decide +kernel) rfl⟩, rfl, by decide +kernel, by decide +kernel, by decide +kernel⟩
theorem cv_X9_123 : CV RX9 123 RX9 yX9_near cX9_near 6 (some .int) 3 := ⟨⟨gw_at 933 (by decide +kernel) rfl, gw_at 935 (by decide +kernel) rfl, gw_at 33 (by decide +kernel) rfl, gw_at 61 (by decide +kernel) rfl, gw_at 936 (by decide +kernel) rfl⟩, rfl, by decide +kernel, by decide +kernel, by decide +kernel⟩
theorem cv_X9_127 : CV RX9 127 RX9 yX9_cross cX9_cross 5 (some .boolean) 2 := ⟨⟨gw_at 941 (by decide +kernel) rfl, gw_at 943 (by decide +kernel) rfl, gw_at 35 (by decide +kernel) rfl, gw_at 61 (by decide +kernel) rfl, gw_at 944 (by decide +kernel) rfl⟩, rfl, by decide +kernel, by decide +kernel, by decide +kernel⟩
theorem cv_X9_130 : CV RX9 130 RX9 yX9_inWay cX9_inWay 3 (some .boolean) 2 := ⟨⟨gw_at 945 (by decide +kernel) rfl, gw_at 947 (by decide +kernel) rfl, gw_at 36 (by decide +kernel) rfl, gw_at 61 (by decide +kernel) rfl, gw_at 948 (by decide +kernel) rfl⟩, rfl, by decide +kernel, by decide +kernel, by decide +kernel⟩
theorem cv_X9_133 : CV RX9 133 RX9 yX9_isBarred cX9_isBarred 5 (some .boolean) 2 := ⟨⟨gw_at 957 (by decide +kernel) rfl, gw_at 959 (by decide +kernel) rfl, gw_at 38 (by decide +kernel) rfl, gw_at 61 (by decide +kernel) rfl, gw_at 960 (by decide +kernel) rfl⟩, rfl, by decide +kernel, by decide +kernel, by decide +kernel⟩
theorem cs_X9_136 : CS RX9 136 yX9_bits cX9_bits 3 (some .int) 1 := ⟨⟨gw_at 961 (by decide +kernel) rfl, gw_at 962 (by decide +kernel) rfl, gw_at 61 (by decide +kernel) rfl, gw_at 963 (by decide +kernel) rfl⟩, by decide +kernel, by decide +kernel, by decide +kernel⟩
theorem cv_X9_139 : CV RX9 139 RX9 yX9_firstOf cX9_firstOf 3 (some .int) 1 := ⟨⟨gw_at 984 (by decide +kernel) rfl, gw_at 986 (by decide +kernel) rfl, gw_at 41 (by decide +kernel) rfl, gw_at 61 (by decide +kernel) rfl, gw_at 987 (by decide +kernel) rfl⟩, rfl, by decide +kernel, by decide +kernel, by decide +kernel⟩
theorem cv_X9_142 : CV RX9 142 RX9 yX9_lays cX9_lays 3 none 0 := ⟨⟨gw_at 976 (by decide +kernel) rfl, gw_at 978 (by decide +kernel) rfl, gw_at 39 (by decide +kernel) rfl, gw_at 61 (by decide +kernel) rfl, gw_at 979 (by decide +kernel) rfl⟩, rfl, by decide +kernel, by decide +kernel, by decide +kernel⟩
theorem cv_X9_145 : CV RX9 145 RX9 yX9_left cX9_left 5 (some .int) 1 := ⟨⟨gw_at 980 (by decide +kernel) rfl, gw_at 982 (by decide +kernel) rfl, gw_at 40 (by decide +kernel) rfl, gw_at 61 (by decide +kernel) rfl, gw_at 983 (by decide +kernel) rfl⟩, rfl, by decide +kernel, by decide +kernel, by decide +kernel⟩
theorem cv_X9_148 : CV RX9 148 RX9 yX9_stuck cX9_stuck 1 (some .int) 0 := ⟨⟨gw_at 992 (by decide +kernel) rfl, gw_at 973 (by decide +kernel) rfl, gw_at 974 (by decide +kernel) rfl, gw_at 61 (by decide +kernel) rfl, gw_at 975 (by decide +kernel) rfl⟩, rfl, by decide +kernel, by decide +kernel, by decide +kernel⟩
theorem cv_X9_151 : CV RX9 151 RX9 yX9_isWell cX9_isWell 4 (some .boolean) 1 := ⟨⟨gw_at 1005 (by decide +kernel) rfl, gw_at 1007 (by decide +kernel) rfl, gw_at 43 (by decide +kernel) rfl, gw_at 61 (by decide +kernel) rfl, gw_at 1008 (by decide +kernel) rfl⟩, rfl, by decide +kernel, by decide +kernel, by decide +kernel⟩
theorem cv_X9_154 : CV RX9 154 RX9 yX9_loopOf cX9_loopOf 9 (some .int) 1 := ⟨⟨gw_at 1001 (by decide +kernel) rfl, gw_at 1003 (by decide +kernel) rfl, gw_at 42 (by decide +kernel) rfl, gw_at 61 (by decide +kernel) rfl, gw_at 1004 (by decide +kernel) rfl⟩, rfl, by decide +kernel, by decide +kernel, by decide +kernel⟩
theorem cs_X9_157 : CS RX9 157 yX9_isSight cX9_isSight 3 (some .boolean) 3 := ⟨⟨gw_at 1017 (by decide +kernel) rfl, gw_at 1018 (by decide +kernel) rfl, gw_at 61 (by decide +kernel) rfl, gw_at 1019 (by decide +kernel) rfl⟩, by decide +kernel, by decide +kernel, by decide +kernel⟩
theorem cv_X9_160 : CV RX9 160 RX9 yX9_seen cX9_seen 9 (some .int) 4 := ⟨⟨gw_at 1020 (by decide +kernel) rfl, gw_at 1022 (by decide +kernel) rfl, gw_at 44 (by decide +kernel) rfl, gw_at 61 (by decide +kernel) rfl, gw_at 1023 (by decide +kernel) rfl⟩, rfl, by decide +kernel, by decide +kernel, by decide +kernel⟩
theorem cv_X9_164 : CV RX9 164 RX9 yX9_pairsThat cX9_pairsThat 6 (some .int) 1 := ⟨⟨gw_at 1040 (by decide +kernel) rfl, gw_at 1042 (by decide +kernel) rfl, gw_at 45 (by decide +kernel) rfl, gw_at 61 (by decide +kernel) rfl, gw_at 1043 (by decide +kernel) rfl⟩, rfl, by decide +kernel, by decide +kernel, by decide +kernel⟩
theorem cv_J0_335 : CV RJ0 335 RJ0 yJ0_coder_7d493 cJ0_coder_7d493 1 (some .byte) 0 := ⟨⟨gw_at 271 (by decide +kernel) rfl, gw_at 272 (by decide +kernel) rfl, gw_at 273 (by decide +kernel) rfl, gw_at 56 (by decide +kernel) rfl, gw_at 274 (by decide +kernel) rfl⟩, rfl, by decide +kernel, by decide +kernel, by decide +kernel⟩
theorem cv_J0_492 : CV RJ0 492 RJ0 yJ0_isLatin1_aae02 cJ0_isLatin1_aae02 1 (some .boolean) 0 := ⟨⟨gw_at 281 (by decide +kernel) rfl, gw_at 282 (by decide +kernel) rfl, gw_at 283 (by decide +kernel) rfl, gw_at 56 (by decide +kernel) rfl, gw_at 284 (by decide +kernel) rfl⟩, rfl, by decide +kernel, by decide +kernel, by decide +kernel⟩
theorem cs_J0_495 : CS RJ0 495 yJ1_charAt_3b067 cJ1_charAt_3b067 2 (some .char) 2 := ⟨⟨gw_at 285 (by decide +kernel) rfl, gw_at 286 (by decide +kernel) rfl, gw_at 57 (by decide +kernel) rfl, gw_at 287 (by decide +kernel) rfl⟩, by decide +kernel, by decide +kernel, by decide +kernel⟩
theorem cs_J0_498 : CS RJ0 498 yJ2_charAt_3b067 cJ2_charAt_3b067 2 (some .char) 2 := ⟨⟨gw_at 296 (by decide +kernel) rfl, gw_at 297 (by decide +kernel) rfl, gw_at 59 (by decide +kernel) rfl, gw_at 298 (by decide +kernel) rfl⟩, by decide +kernel, by decide +kernel, by decide +kernel⟩
theorem cs_J0_1059 : CS RJ0 1059 yJ3_checkIndex_8e157 cJ3_checkIndex_8e157 3 (some .int) 3 := ⟨⟨gw_at 293 (by decide +kernel) rfl, gw_at 294 (by decide +kernel) rfl, gw_at 58 (by decide +kernel) rfl, gw_at 295 (by decide +kernel) rfl⟩, by decide +kernel, by decide +kernel, by decide +kernel⟩
theorem cs_J1_9 : CS RJ1 9 yJ0_checkIndex_df160 cJ0_checkIndex_df160 2 none 2 := ⟨⟨gw_at 288 (by decide +kernel) rfl, gw_at 289 (by decide +kernel) rfl, gw_at 56 (by decide +kernel) rfl, gw_at 290 (by decide +kernel) rfl⟩, by decide +kernel, by decide +kernel, by decide +kernel⟩
theorem cs_J2_48 : CS RJ2 48 yJ2_length_9d52b cJ2_length_9d52b 1 (some .int) 1 := ⟨⟨gw_at 302 (by decide +kernel) rfl, gw_at 303 (by decide +kernel) rfl, gw_at 59 (by decide +kernel) rfl, gw_at 304 (by decide +kernel) rfl⟩, by decide +kernel, by decide +kernel, by decide +kernel⟩
theorem cs_J2_67 : CS RJ2 67 yJ2_checkIndex_2214a cJ2_checkIndex_2214a 2 none 2 := ⟨⟨gw_at 299 (by decide +kernel) rfl, gw_at 300 (by decide +kernel) rfl, gw_at 59 (by decide +kernel) rfl, gw_at 301 (by decide +kernel) rfl⟩, by decide +kernel, by decide +kernel, by decide +kernel⟩
theorem cs_J2_71 : CS RJ2 71 yJ2_getChar_3b067 cJ2_getChar_3b067 2 (some .char) 2 := ⟨⟨gw_at 306 (by decide +kernel) rfl, gw_at 307 (by decide +kernel) rfl, gw_at 59 (by decide +kernel) rfl, gw_at 308 (by decide +kernel) rfl⟩, by decide +kernel, by decide +kernel, by decide +kernel⟩
theorem cs_J2_414 : CS RJ2 414 yJ0_checkIndex_df160 cJ0_checkIndex_df160 2 none 2 := ⟨⟨gw_at 305 (by decide +kernel) rfl, gw_at 289 (by decide +kernel) rfl, gw_at 56 (by decide +kernel) rfl, gw_at 290 (by decide +kernel) rfl⟩, by decide +kernel, by decide +kernel, by decide +kernel⟩
theorem kc_X8_148 : Cond.constant RX8 148 (100000) ∈ gw_tbl := gw_at 496 (by decide +kernel) rfl
theorem kc_X5_46 : Cond.constant RX5 46 (100000) ∈ gw_tbl := gw_at 740 (by decide +kernel) rfl
theorem kc_X9_101 : Cond.constant RX9 101 (100000) ∈ gw_tbl := gw_at 897 (by decide +kernel) rfl
theorem kc_J6_265 : Cond.constant RJ6 265 (1431655765) ∈ gw_tbl := gw_at 608 (by decide +kernel) rfl
theorem kc_J6_266 : Cond.constant RJ6 266 (858993459) ∈ gw_tbl := gw_at 609 (by decide +kernel) rfl
theorem kc_J6_267 : Cond.constant RJ6 267 (252645135) ∈ gw_tbl := gw_at 610 (by decide +kernel) rfl
end
section
-- rows over numbers, bools, constants; calls by their number of arguments
def bi (b : Bool) : Int32 := if b then 1 else 0
theorem bi_t {b : Bool} (h : b = true) : nI 1 = bi b := by subst h; rfl
theorem bi_f {b : Bool} (h : b = false) : nI 0 = bi b := by subst h; rfl
theorem bi_g {b : Bool} (h : ¬ b = true) : nI 0 = bi b := bi_f (by cases b; rfl; exact absurd rfl h)
theorem bi_0 {b : Bool} : bi b = 0 ↔ b = false := by cases b <;> decide
theorem bi_nar {b : Bool} : narrow .boolean (.int (bi b)) = .int (bi b) := by cases b <;> rfl
/-- an answer x and the world g0; no answer and the world g0; some answer and world with P -/
def PI (x : Int32) (g0 : wS) : Option Value → wS → Prop := fun r g => r = some (.int x) ∧ g = g0
def PV (g0 : wS) : Option Value → wS → Prop := fun r g => r = none ∧ g = g0
def PX (P : Int32 → wS → Prop) : Option Value → wS → Prop := fun r g => ∃ x, r = some (.int x) ∧ P x g
def PY (P : wS → Prop) : Option Value → wS → Prop := fun r g => r = none ∧ P g
def PR (b : Nat) (P : wS → Prop) : Option Value → wS → Prop := fun r g => r = some (.ref b) ∧ P g
theorem PI.mk {x y : Int32} {f g : wS} (h : y = x) (hg : f = g) : PI x g (some (.int y)) f := ⟨by rw [h], hg⟩
theorem ki_0 : Int32.ofInt 0 = nI 0 := rfl
theorem ki_1 : Int32.ofInt 1 = nI 1 := rfl
theorem ki_2 : Int32.ofInt 2 = nI 2 := rfl
theorem ki_3 : Int32.ofInt 3 = nI 3 := rfl
theorem ki_4 : Int32.ofInt 4 = nI 4 := rfl
theorem ki_5 : Int32.ofInt 5 = nI 5 := rfl
theorem ki_m1 : Int32.ofInt (-1) = -1 := rfl
theorem kb_m9 : (Int8.ofInt (-9)).toInt32 = (-9) := by decide
theorem kb_m4 : (Int8.ofInt (-4)).toInt32 = (-4) := by decide
theorem kb_m3 : (Int8.ofInt (-3)).toInt32 = (-3) := by decide
theorem kb_m2 : (Int8.ofInt (-2)).toInt32 = (-2) := by decide
theorem kb_6 : (Int8.ofInt (6)).toInt32 = nI 6 := by decide
theorem kb_7 : (Int8.ofInt (7)).toInt32 = nI 7 := by decide
theorem kb_8 : (Int8.ofInt (8)).toInt32 = nI 8 := by decide
theorem kb_9 : (Int8.ofInt (9)).toInt32 = nI 9 := by decide
theorem kb_10 : (Int8.ofInt (10)).toInt32 = nI 10 := by decide
theorem kb_11 : (Int8.ofInt (11)).toInt32 = nI 11 := by decide
theorem kb_12 : (Int8.ofInt (12)).toInt32 = nI 12 := by decide
theorem kb_13 : (Int8.ofInt (13)).toInt32 = nI 13 := by decide
theorem kb_14 : (Int8.ofInt (14)).toInt32 = nI 14 := by decide
theorem kb_15 : (Int8.ofInt (15)).toInt32 = nI 15 := by decide
theorem kb_16 : (Int8.ofInt (16)).toInt32 = nI 16 := by decide
theorem kb_17 : (Int8.ofInt (17)).toInt32 = nI 17 := by decide
theorem kb_18 : (Int8.ofInt (18)).toInt32 = nI 18 := by decide
theorem kb_19 : (Int8.ofInt (19)).toInt32 = nI 19 := by decide
theorem kb_20 : (Int8.ofInt (20)).toInt32 = nI 20 := by decide
theorem kb_21 : (Int8.ofInt (21)).toInt32 = nI 21 := by decide
theorem kb_22 : (Int8.ofInt (22)).toInt32 = nI 22 := by decide
theorem kb_23 : (Int8.ofInt (23)).toInt32 = nI 23 := by decide
theorem kb_24 : (Int8.ofInt (24)).toInt32 = nI 24 := by decide
theorem kb_25 : (Int8.ofInt (25)).toInt32 = nI 25 := by decide
theorem kb_26 : (Int8.ofInt (26)).toInt32 = nI 26 := by decide
theorem kb_31 : (Int8.ofInt (31)).toInt32 = nI 31 := by decide
theorem kb_32 : (Int8.ofInt (32)).toInt32 = nI 32 := by decide
theorem kb_38 : (Int8.ofInt (38)).toInt32 = nI 38 := by decide
theorem kb_40 : (Int8.ofInt (40)).toInt32 = nI 40 := by decide
theorem kb_41 : (Int8.ofInt (41)).toInt32 = nI 41 := by decide
theorem kb_42 : (Int8.ofInt (42)).toInt32 = nI 42 := by decide
theorem kb_43 : (Int8.ofInt (43)).toInt32 = nI 43 := by decide
theorem kb_44 : (Int8.ofInt (44)).toInt32 = nI 44 := by decide
theorem kb_45 : (Int8.ofInt (45)).toInt32 = nI 45 := by decide
theorem kb_48 : (Int8.ofInt (48)).toInt32 = nI 48 := by decide
theorem kb_57 : (Int8.ofInt (57)).toInt32 = nI 57 := by decide
theorem kb_59 : (Int8.ofInt (59)).toInt32 = nI 59 := by decide
theorem kb_60 : (Int8.ofInt (60)).toInt32 = nI 60 := by decide
theorem kb_63 : (Int8.ofInt (63)).toInt32 = nI 63 := by decide
theorem kb_100 : (Int8.ofInt (100)).toInt32 = nI 100 := by decide
theorem kb_103 : (Int8.ofInt (103)).toInt32 = nI 103 := by decide
theorem kb_104 : (Int8.ofInt (104)).toInt32 = nI 104 := by decide
theorem kb_115 : (Int8.ofInt (115)).toInt32 = nI 115 := by decide
theorem kb_116 : (Int8.ofInt (116)).toInt32 = nI 116 := by decide
theorem kb_119 : (Int8.ofInt (119)).toInt32 = nI 119 := by decide
theorem kb_126 : (Int8.ofInt (126)).toInt32 = nI 126 := by decide
theorem ks_200 : (Int16.ofInt (200)).toInt32 = nI 200 := by decide
theorem ks_225 : (Int16.ofInt (225)).toInt32 = nI 225 := by decide
theorem ks_255 : (Int16.ofInt (255)).toInt32 = nI 255 := by decide
theorem ks_256 : (Int16.ofInt (256)).toInt32 = nI 256 := by decide
theorem ks_270 : (Int16.ofInt (270)).toInt32 = nI 270 := by decide
theorem ki_6 : Int32.ofInt (6) = nI 6 := rfl
section ROWSN
variable {p : Program} {l : Launch} {e : Env} {R : Room} {s : State} {m : MethodId} {args : Array Value} {below : List Frame} {meth : Method} {c : Code} {Q : State → Prop}
variable {cc : ByteArray} {nL : Nat} {own : String} {D : va_G} {cy : Nat → ClassId} {z : Nat → Nat} {N : Nat} {q : Nat → Nat}
variable {f : wS} {lv : List (Nat × Value)} {pc : Nat} {st : List Value}
theorem aw_iadd_n (C : Cx p s m args meth c cc nL own D cy z N q) {a b : Nat} (hd : decode cc pc = .ok (.iadd, 1)) (K : AW p l e R s m args below meth c D N q nL Q f lv (pc + 1) (.int (nI (a + b)) :: st)) : AW p l e R s m args below meth c D N q nL Q f lv pc (.int (nI b) :: .int (nI a) :: st) := aw_iadd C hd (by rw [nI_add]; exact K)
theorem aw_imul_n (C : Cx p s m args meth c cc nL own D cy z N q) {a b : Nat} (hd : decode cc pc = .ok (.imul, 1)) (K : AW p l e R s m args below meth c D N q nL Q f lv (pc + 1) (.int (nI (a * b)) :: st)) : AW p l e R s m args below meth c D N q nL Q f lv pc (.int (nI b) :: .int (nI a) :: st) := aw_imul C hd (by rw [pk_mul]; exact K)
theorem aw_isub_n (C : Cx p s m args meth c cc nL own D cy z N q) {a b : Nat} (hd : decode cc pc = .ok (.isub, 1)) (h : b ≤ a) (K : AW p l e R s m args below meth c D N q nL Q f lv (pc + 1) (.int (nI (a - b)) :: st)) : AW p l e R s m args below meth c D N q nL Q f lv pc (.int (nI b) :: .int (nI a) :: st) := aw_isub C hd (by rw [pk_sub h]; exact K)
theorem aw_idiv_n (C : Cx p s m args meth c cc nL own D cy z N q) {a b : Nat} (hd : decode cc pc = .ok (.idiv, 1)) (ha : a < 2147483648) (hb : b < 2147483648) (h0 : 0 < b) (K : AW p l e R s m args below meth c D N q nL Q f lv (pc + 1) (.int (nI (a / b)) :: st)) : AW p l e R s m args below meth c D N q nL Q f lv pc (.int (nI b) :: .int (nI a) :: st) := aw_idiv C hd (nI_ne0 h0 hb) (by rw [pk_div ha h0 hb]; exact K)
theorem aw_irem_n (C : Cx p s m args meth c cc nL own D cy z N q) {a b : Nat} (hd : decode cc pc = .ok (.irem, 1)) (ha : a < 2147483648) (hb : b < 2147483648) (h0 : 0 < b) (K : AW p l e R s m args below meth c D N q nL Q f lv (pc + 1) (.int (nI (a % b)) :: st)) : AW p l e R s m args below meth c D N q nL Q f lv pc (.int (nI b) :: .int (nI a) :: st) := aw_irem C hd (nI_ne0 h0 hb) (by rw [pk_rem ha h0 hb]; exact K)
theorem aw_iinc_n (C : Cx p s m args meth c cc nL own D cy z N q) {i a d : Nat} {n : Int} {lv' : List (Nat × Value)} (hd : decode cc pc = .ok (.iinc i n, 3)) (hx : lk lv i = some (.int (nI a))) (hn : Int32.ofInt n = nI d) (hlt : i < nL) (hl : lset i (.int (nI (a + d))) lv = lv') (K : AW p l e R s m args below meth c D N q nL Q f lv' (pc + 3) st) : AW p l e R s m args below meth c D N q nL Q f lv pc st := aw_iinc C hd hx hn hlt (by rw [nI_add]; exact hl) K
theorem aw_icmp_eq_n (C : Cx p s m args meth c cc nL own D cy z N q) {a b : Nat} {off : Int} {tgt : Nat} (hd : decode cc pc = .ok (.if_icmp .eq off, 3)) (ht : (pc : Int) + off = (tgt : Int)) (ha : a < 2147483648) (hb : b < 2147483648) (K1 : a = b → AW p l e R s m args below meth c D N q nL Q f lv tgt st) (K2 : a ≠ b → AW p l e R s m args below meth c D N q nL Q f lv (pc + 3) st) : AW p l e R s m args below meth c D N q nL Q f lv pc (.int (nI b) :: .int (nI a) :: st) := aw_icmp_eq C hd ht (fun h => K1 ((nI_eq ha hb).mp h)) (fun h => K2 (fun e => h ((nI_eq ha hb).mpr e)))
theorem aw_icmp_ne_n (C : Cx p s m args meth c cc nL own D cy z N q) {a b : Nat} {off : Int} {tgt : Nat} (hd : decode cc pc = .ok (.if_icmp .ne off, 3)) (ht : (pc : Int) + off = (tgt : Int)) (ha : a < 2147483648) (hb : b < 2147483648) (K1 : a ≠ b → AW p l e R s m args below meth c D N q nL Q f lv tgt st) (K2 : a = b → AW p l e R s m args below meth c D N q nL Q f lv (pc + 3) st) : AW p l e R s m args below meth c D N q nL Q f lv pc (.int (nI b) :: .int (nI a) :: st) := aw_icmp_ne C hd ht (fun h => K1 (fun e => h ((nI_eq ha hb).mpr e))) (fun h => K2 ((nI_eq ha hb).mp h))
theorem aw_icmp_lt_n (C : Cx p s m args meth c cc nL own D cy z N q) {a b : Nat} {off : Int} {tgt : Nat} (hd : decode cc pc = .ok (.if_icmp .lt off, 3)) (ht : (pc : Int) + off = (tgt : Int)) (ha : a < 2147483648) (hb : b < 2147483648) (K1 : a < b → AW p l e R s m args below meth c D N q nL Q f lv tgt st) (K2 : b ≤ a → AW p l e R s m args below meth c D N q nL Q f lv (pc + 3) st) : AW p l e R s m args below meth c D N q nL Q f lv pc (.int (nI b) :: .int (nI a) :: st) := aw_icmp_lt C hd ht (fun h => K1 ((nI_ltI ha hb).mp h)) (fun h => K2 (Nat.le_of_not_lt (fun e => h ((nI_ltI ha hb).mpr e))))
theorem aw_icmp_ge_n (C : Cx p s m args meth c cc nL own D cy z N q) {a b : Nat} {off : Int} {tgt : Nat} (hd : decode cc pc = .ok (.if_icmp .ge off, 3)) (ht : (pc : Int) + off = (tgt : Int)) (ha : a < 2147483648) (hb : b < 2147483648) (K1 : b ≤ a → AW p l e R s m args below meth c D N q nL Q f lv tgt st) (K2 : a < b → AW p l e R s m args below meth c D N q nL Q f lv (pc + 3) st) : AW p l e R s m args below meth c D N q nL Q f lv pc (.int (nI b) :: .int (nI a) :: st) := aw_icmp_ge C hd ht (fun h => K1 ((nI_leI hb ha).mp h)) (fun h => K2 (Nat.lt_of_not_le (fun e => h ((nI_leI hb ha).mpr e))))
theorem aw_icmp_gt_n (C : Cx p s m args meth c cc nL own D cy z N q) {a b : Nat} {off : Int} {tgt : Nat} (hd : decode cc pc = .ok (.if_icmp .gt off, 3)) (ht : (pc : Int) + off = (tgt : Int)) (ha : a < 2147483648) (hb : b < 2147483648) (K1 : b < a → AW p l e R s m args below meth c D N q nL Q f lv tgt st) (K2 : a ≤ b → AW p l e R s m args below meth c D N q nL Q f lv (pc + 3) st) : AW p l e R s m args below meth c D N q nL Q f lv pc (.int (nI b) :: .int (nI a) :: st) := aw_icmp_gt C hd ht (fun h => K1 ((nI_ltI hb ha).mp h)) (fun h => K2 (Nat.le_of_not_lt (fun e => h ((nI_ltI hb ha).mpr e))))
theorem aw_icmp_le_n (C : Cx p s m args meth c cc nL own D cy z N q) {a b : Nat} {off : Int} {tgt : Nat} (hd : decode cc pc = .ok (.if_icmp .le off, 3)) (ht : (pc : Int) + off = (tgt : Int)) (ha : a < 2147483648) (hb : b < 2147483648) (K1 : a ≤ b → AW p l e R s m args below meth c D N q nL Q f lv tgt st) (K2 : b < a → AW p l e R s m args below meth c D N q nL Q f lv (pc + 3) st) : AW p l e R s m args below meth c D N q nL Q f lv pc (.int (nI b) :: .int (nI a) :: st) := aw_icmp_le C hd ht (fun h => K1 ((nI_leI ha hb).mp h)) (fun h => K2 (Nat.lt_of_not_le (fun e => h ((nI_leI ha hb).mpr e))))
theorem aw_if_eq_n (C : Cx p s m args meth c cc nL own D cy z N q) {a : Nat} {off : Int} {tgt : Nat} (hd : decode cc pc = .ok (.ifCond .eq off, 3)) (ht : (pc : Int) + off = (tgt : Int)) (ha : a < 2147483648) (K1 : a = 0 → AW p l e R s m args below meth c D N q nL Q f lv tgt st) (K2 : 0 < a → AW p l e R s m args below meth c D N q nL Q f lv (pc + 3) st) : AW p l e R s m args below meth c D N q nL Q f lv pc (.int (nI a) :: st) := aw_if_eq C hd ht (fun h => K1 ((nI_eq ha (by omega)).mp (h.trans nI_0.symm))) (fun h => K2 (by rcases Nat.eq_zero_or_pos a with e | e; exact absurd (by rw [e]; exact nI_0) h; exact e))
theorem aw_if_ne_n (C : Cx p s m args meth c cc nL own D cy z N q) {a : Nat} {off : Int} {tgt : Nat} (hd : decode cc pc = .ok (.ifCond .ne off, 3)) (ht : (pc : Int) + off = (tgt : Int)) (ha : a < 2147483648) (K1 : 0 < a → AW p l e R s m args below meth c D N q nL Q f lv tgt st) (K2 : a = 0 → AW p l e R s m args below meth c D N q nL Q f lv (pc + 3) st) : AW p l e R s m args below meth c D N q nL Q f lv pc (.int (nI a) :: st) := aw_if_ne C hd ht (fun h => K1 (by rcases Nat.eq_zero_or_pos a with e | e; exact absurd (by rw [e]; exact nI_0) h; exact e)) (fun h => K2 ((nI_eq ha (by omega)).mp (h.trans nI_0.symm)))
theorem aw_if_gt_n (C : Cx p s m args meth c cc nL own D cy z N q) {a : Nat} {off : Int} {tgt : Nat} (hd : decode cc pc = .ok (.ifCond .gt off, 3)) (ht : (pc : Int) + off = (tgt : Int)) (ha : a < 2147483648) (K1 : 0 < a → AW p l e R s m args below meth c D N q nL Q f lv tgt st) (K2 : a = 0 → AW p l e R s m args below meth c D N q nL Q f lv (pc + 3) st) : AW p l e R s m args below meth c D N q nL Q f lv pc (.int (nI a) :: st) := aw_if_gt C hd ht (fun h => K1 ((nI_ltI (by omega) ha).mp (by rw [nI_0]; exact h))) (fun h => K2 (by rcases Nat.eq_zero_or_pos a with e | e; exact e; exact absurd (by have := nI_lt e ha; rwa [nI_0] at this) h))
theorem aw_if_le_n (C : Cx p s m args meth c cc nL own D cy z N q) {a : Nat} {off : Int} {tgt : Nat} (hd : decode cc pc = .ok (.ifCond .le off, 3)) (ht : (pc : Int) + off = (tgt : Int)) (ha : a < 2147483648) (K1 : a = 0 → AW p l e R s m args below meth c D N q nL Q f lv tgt st) (K2 : 0 < a → AW p l e R s m args below meth c D N q nL Q f lv (pc + 3) st) : AW p l e R s m args below meth c D N q nL Q f lv pc (.int (nI a) :: st) := aw_if_le C hd ht (fun h => K1 (by have := (nI_leI (a := a) (b := 0) ha (by omega)).mp (by rw [nI_0]; exact h); omega)) (fun h => K2 (by rcases Nat.eq_zero_or_pos a with e | e; exact absurd (by rw [e, nI_0]; exact Int32.le_refl 0) h; exact e))
theorem aw_if_lt_n (C : Cx p s m args meth c cc nL own D cy z N q) {a : Nat} {off : Int} {tgt : Nat} (hd : decode cc pc = .ok (.ifCond .lt off, 3)) (ht : (pc : Int) + off = (tgt : Int)) (ha : a < 2147483648) (K2 : AW p l e R s m args below meth c D N q nL Q f lv (pc + 3) st) : AW p l e R s m args below meth c D N q nL Q f lv pc (.int (nI a) :: st) := aw_if_lt C hd ht (fun h => absurd h (nI_pos ha)) (fun _ => K2)
theorem aw_if_ge_n (C : Cx p s m args meth c cc nL own D cy z N q) {a : Nat} {off : Int} {tgt : Nat} (hd : decode cc pc = .ok (.ifCond .ge off, 3)) (ht : (pc : Int) + off = (tgt : Int)) (ha : a < 2147483648) (K1 : AW p l e R s m args below meth c D N q nL Q f lv tgt st) : AW p l e R s m args below meth c D N q nL Q f lv pc (.int (nI a) :: st) := aw_if_ge C hd ht (fun _ => K1) (fun h => absurd (nI_pos' ha) h)
theorem aw_if_eq_b (C : Cx p s m args meth c cc nL own D cy z N q) {b : Bool} {off : Int} {tgt : Nat} (hd : decode cc pc = .ok (.ifCond .eq off, 3)) (ht : (pc : Int) + off = (tgt : Int)) (K1 : b = false → AW p l e R s m args below meth c D N q nL Q f lv tgt st) (K2 : b = true → AW p l e R s m args below meth c D N q nL Q f lv (pc + 3) st) : AW p l e R s m args below meth c D N q nL Q f lv pc (.int (bi b) :: st) := aw_if_eq C hd ht (fun h => K1 (by cases b; rfl; exact absurd h (by decide))) (fun h => K2 (by cases b; exact absurd rfl h; rfl))
theorem aw_if_ne_b (C : Cx p s m args meth c cc nL own D cy z N q) {b : Bool} {off : Int} {tgt : Nat} (hd : decode cc pc = .ok (.ifCond .ne off, 3)) (ht : (pc : Int) + off = (tgt : Int)) (K1 : b = true → AW p l e R s m args below meth c D N q nL Q f lv tgt st) (K2 : b = false → AW p l e R s m args below meth c D N q nL Q f lv (pc + 3) st) : AW p l e R s m args below meth c D N q nL Q f lv pc (.int (bi b) :: st) := aw_if_ne C hd ht (fun h => K1 (by cases b; exact absurd rfl h; rfl)) (fun h => K2 (by cases b; rfl; exact absurd h (by decide)))
theorem aw_S0i (C : Cx p s m args meth c cc nL own D cy z N q) {idx fr lo maxL : Nat} {y : MethodName} {bytes : ByteArray} {ret : Option FieldType} {rest : List Value} {x : Int32} {g0 : wS} (hd : decode cc pc = .ok (.invokestatic idx, 3)) (hc : CS own idx y bytes maxL ret 0) (hM : Ct l y bytes maxL ret fr lo D cy z N q [] f (PI x g0)) (hR : fr + 1 ≤ R.frames ∧ 8 + (maxL + 11) + lo ≤ R.locals) (hw : (rest.map fun v => v.category).sum ≤ 8) (K : AW p l e R s m args below meth c D N q nL Q g0 lv (pc + 3) (.int x :: rest)) : AW p l e R s m args below meth c D N q nL Q f lv pc (rest) := aw_callS (As := []) (As0 := []) (rest := rest) C hd hc hM rfl rfl rfl hR hw (fun r g hp => by obtain ⟨rfl, rfl⟩ := hp; exact K)
theorem aw_V0i (C : Cx p s m args meth c cc nL own D cy z N q) {C0 : String} {idx fr lo maxL k ci : Nat} {y : MethodName} {bytes : ByteArray} {ret : Option FieldType} {rest fs : List Value} {q0 : vw_C} {x : Int32} {g0 : wS} (hd : decode cc pc = .ok (.invokevirtual idx, 3)) (hc : CV own idx C0 y bytes maxL ret 0) (hk : k < N) (hf : f k = .inr (ci, fs)) (hq : vwCl[ci]? = some q0) (hq1 : q0.1 = C0) (hM : Ct l y bytes maxL ret fr lo D cy z N q (.ref (q k) :: []) f (PI x g0)) (hR : fr + 1 ≤ R.frames ∧ 8 + (maxL + 11) + lo ≤ R.locals) (hw : (rest.map fun v => v.category).sum ≤ 8) (K : AW p l e R s m args below meth c D N q nL Q g0 lv (pc + 3) (.int x :: rest)) : AW p l e R s m args below meth c D N q nL Q f lv pc (.ref (q k) :: rest) := aw_callV (As := []) (As0 := []) (rest := rest) C hd hc hM rfl rfl rfl hR hw hk hf hq hq1 (fun r g hp => by obtain ⟨rfl, rfl⟩ := hp; exact K)
theorem aw_S0v (C : Cx p s m args meth c cc nL own D cy z N q) {idx fr lo maxL : Nat} {y : MethodName} {bytes : ByteArray} {ret : Option FieldType} {rest : List Value} {g0 : wS} (hd : decode cc pc = .ok (.invokestatic idx, 3)) (hc : CS own idx y bytes maxL ret 0) (hM : Ct l y bytes maxL ret fr lo D cy z N q [] f (PV g0)) (hR : fr + 1 ≤ R.frames ∧ 8 + (maxL + 11) + lo ≤ R.locals) (hw : (rest.map fun v => v.category).sum ≤ 8) (K : AW p l e R s m args below meth c D N q nL Q g0 lv (pc + 3) rest) : AW p l e R s m args below meth c D N q nL Q f lv pc (rest) := aw_callS (As := []) (As0 := []) (rest := rest) C hd hc hM rfl rfl rfl hR hw (fun r g hp => by obtain ⟨rfl, rfl⟩ := hp; exact K)
theorem aw_V0v (C : Cx p s m args meth c cc nL own D cy z N q) {C0 : String} {idx fr lo maxL k ci : Nat} {y : MethodName} {bytes : ByteArray} {ret : Option FieldType} {rest fs : List Value} {q0 : vw_C} {g0 : wS} (hd : decode cc pc = .ok (.invokevirtual idx, 3)) (hc : CV own idx C0 y bytes maxL ret 0) (hk : k < N) (hf : f k = .inr (ci, fs)) (hq : vwCl[ci]? = some q0) (hq1 : q0.1 = C0) (hM : Ct l y bytes maxL ret fr lo D cy z N q (.ref (q k) :: []) f (PV g0)) (hR : fr + 1 ≤ R.frames ∧ 8 + (maxL + 11) + lo ≤ R.locals) (hw : (rest.map fun v => v.category).sum ≤ 8) (K : AW p l e R s m args below meth c D N q nL Q g0 lv (pc + 3) rest) : AW p l e R s m args below meth c D N q nL Q f lv pc (.ref (q k) :: rest) := aw_callV (As := []) (As0 := []) (rest := rest) C hd hc hM rfl rfl rfl hR hw hk hf hq hq1 (fun r g hp => by obtain ⟨rfl, rfl⟩ := hp; exact K)
theorem aw_S0x (C : Cx p s m args meth c cc nL own D cy z N q) {idx fr lo maxL : Nat} {y : MethodName} {bytes : ByteArray} {ret : Option FieldType} {rest : List Value} {P : Int32 → wS → Prop} (hd : decode cc pc = .ok (.invokestatic idx, 3)) (hc : CS own idx y bytes maxL ret 0) (hM : Ct l y bytes maxL ret fr lo D cy z N q [] f (PX P)) (hR : fr + 1 ≤ R.frames ∧ 8 + (maxL + 11) + lo ≤ R.locals) (hw : (rest.map fun v => v.category).sum ≤ 8) (K : ∀ (x : Int32) (g : wS), P x g → AW p l e R s m args below meth c D N q nL Q g lv (pc + 3) (.int x :: rest)) : AW p l e R s m args below meth c D N q nL Q f lv pc (rest) := aw_callS (As := []) (As0 := []) (rest := rest) C hd hc hM rfl rfl rfl hR hw (fun r g hp => by obtain ⟨x, rfl, hp⟩ := hp; exact K x g hp)
theorem aw_V0x (C : Cx p s m args meth c cc nL own D cy z N q) {C0 : String} {idx fr lo maxL k ci : Nat} {y : MethodName} {bytes : ByteArray} {ret : Option FieldType} {rest fs : List Value} {q0 : vw_C} {P : Int32 → wS → Prop} (hd : decode cc pc = .ok (.invokevirtual idx, 3)) (hc : CV own idx C0 y bytes maxL ret 0) (hk : k < N) (hf : f k = .inr (ci, fs)) (hq : vwCl[ci]? = some q0) (hq1 : q0.1 = C0) (hM : Ct l y bytes maxL ret fr lo D cy z N q (.ref (q k) :: []) f (PX P)) (hR : fr + 1 ≤ R.frames ∧ 8 + (maxL + 11) + lo ≤ R.locals) (hw : (rest.map fun v => v.category).sum ≤ 8) (K : ∀ (x : Int32) (g : wS), P x g → AW p l e R s m args below meth c D N q nL Q g lv (pc + 3) (.int x :: rest)) : AW p l e R s m args below meth c D N q nL Q f lv pc (.ref (q k) :: rest) := aw_callV (As := []) (As0 := []) (rest := rest) C hd hc hM rfl rfl rfl hR hw hk hf hq hq1 (fun r g hp => by obtain ⟨x, rfl, hp⟩ := hp; exact K x g hp)
theorem aw_S0y (C : Cx p s m args meth c cc nL own D cy z N q) {idx fr lo maxL : Nat} {y : MethodName} {bytes : ByteArray} {ret : Option FieldType} {rest : List Value} {P : wS → Prop} (hd : decode cc pc = .ok (.invokestatic idx, 3)) (hc : CS own idx y bytes maxL ret 0) (hM : Ct l y bytes maxL ret fr lo D cy z N q [] f (PY P)) (hR : fr + 1 ≤ R.frames ∧ 8 + (maxL + 11) + lo ≤ R.locals) (hw : (rest.map fun v => v.category).sum ≤ 8) (K : ∀ (g : wS), P g → AW p l e R s m args below meth c D N q nL Q g lv (pc + 3) rest) : AW p l e R s m args below meth c D N q nL Q f lv pc (rest) := aw_callS (As := []) (As0 := []) (rest := rest) C hd hc hM rfl rfl rfl hR hw (fun r g hp => by obtain ⟨rfl, hp⟩ := hp; exact K g hp)
theorem aw_V0y (C : Cx p s m args meth c cc nL own D cy z N q) {C0 : String} {idx fr lo maxL k ci : Nat} {y : MethodName} {bytes : ByteArray} {ret : Option FieldType} {rest fs : List Value} {q0 : vw_C} {P : wS → Prop} (hd : decode cc pc = .ok (.invokevirtual idx, 3)) (hc : CV own idx C0 y bytes maxL ret 0) (hk : k < N) (hf : f k = .inr (ci, fs)) (hq : vwCl[ci]? = some q0) (hq1 : q0.1 = C0) (hM : Ct l y bytes maxL ret fr lo D cy z N q (.ref (q k) :: []) f (PY P)) (hR : fr + 1 ≤ R.frames ∧ 8 + (maxL + 11) + lo ≤ R.locals) (hw : (rest.map fun v => v.category).sum ≤ 8) (K : ∀ (g : wS), P g → AW p l e R s m args below meth c D N q nL Q g lv (pc + 3) rest) : AW p l e R s m args below meth c D N q nL Q f lv pc (.ref (q k) :: rest) := aw_callV (As := []) (As0 := []) (rest := rest) C hd hc hM rfl rfl rfl hR hw hk hf hq hq1 (fun r g hp => by obtain ⟨rfl, hp⟩ := hp; exact K g hp)
theorem aw_S0r (C : Cx p s m args meth c cc nL own D cy z N q) {idx fr lo maxL : Nat} {y : MethodName} {bytes : ByteArray} {ret : Option FieldType} {rest : List Value} {b : Nat} {P : wS → Prop} (hd : decode cc pc = .ok (.invokestatic idx, 3)) (hc : CS own idx y bytes maxL ret 0) (hM : Ct l y bytes maxL ret fr lo D cy z N q [] f (PR b P)) (hR : fr + 1 ≤ R.frames ∧ 8 + (maxL + 11) + lo ≤ R.locals) (hw : (rest.map fun v => v.category).sum ≤ 8) (K : ∀ (g : wS), P g → AW p l e R s m args below meth c D N q nL Q g lv (pc + 3) (.ref b :: rest)) : AW p l e R s m args below meth c D N q nL Q f lv pc (rest) := aw_callS (As := []) (As0 := []) (rest := rest) C hd hc hM rfl rfl rfl hR hw (fun r g hp => by obtain ⟨rfl, hp⟩ := hp; exact K g hp)
theorem aw_V0r (C : Cx p s m args meth c cc nL own D cy z N q) {C0 : String} {idx fr lo maxL k ci : Nat} {y : MethodName} {bytes : ByteArray} {ret : Option FieldType} {rest fs : List Value} {q0 : vw_C} {b : Nat} {P : wS → Prop} (hd : decode cc pc = .ok (.invokevirtual idx, 3)) (hc : CV own idx C0 y bytes maxL ret 0) (hk : k < N) (hf : f k = .inr (ci, fs)) (hq : vwCl[ci]? = some q0) (hq1 : q0.1 = C0) (hM : Ct l y bytes maxL ret fr lo D cy z N q (.ref (q k) :: []) f (PR b P)) (hR : fr + 1 ≤ R.frames ∧ 8 + (maxL + 11) + lo ≤ R.locals) (hw : (rest.map fun v => v.category).sum ≤ 8) (K : ∀ (g : wS), P g → AW p l e R s m args below meth c D N q nL Q g lv (pc + 3) (.ref b :: rest)) : AW p l e R s m args below meth c D N q nL Q f lv pc (.ref (q k) :: rest) := aw_callV (As := []) (As0 := []) (rest := rest) C hd hc hM rfl rfl rfl hR hw hk hf hq hq1 (fun r g hp => by obtain ⟨rfl, hp⟩ := hp; exact K g hp)
theorem aw_S1i (C : Cx p s m args meth c cc nL own D cy z N q) {a1 : Value} {idx fr lo maxL : Nat} {y : MethodName} {bytes : ByteArray} {ret : Option FieldType} {rest : List Value} {x : Int32} {g0 : wS} (hd : decode cc pc = .ok (.invokestatic idx, 3)) (hc : CS own idx y bytes maxL ret 1) (hM : Ct l y bytes maxL ret fr lo D cy z N q [a1] f (PI x g0)) (hR : fr + 1 ≤ R.frames ∧ 8 + (maxL + 11) + lo ≤ R.locals) (hw : (rest.map fun v => v.category).sum ≤ 8) (K : AW p l e R s m args below meth c D N q nL Q g0 lv (pc + 3) (.int x :: rest)) : AW p l e R s m args below meth c D N q nL Q f lv pc (a1 :: rest) := aw_callS (As := [a1]) (As0 := [a1]) (rest := rest) C hd hc hM rfl rfl rfl hR hw (fun r g hp => by obtain ⟨rfl, rfl⟩ := hp; exact K)
theorem aw_V1i (C : Cx p s m args meth c cc nL own D cy z N q) {a1 : Value} {C0 : String} {idx fr lo maxL k ci : Nat} {y : MethodName} {bytes : ByteArray} {ret : Option FieldType} {rest fs : List Value} {q0 : vw_C} {x : Int32} {g0 : wS} (hd : decode cc pc = .ok (.invokevirtual idx, 3)) (hc : CV own idx C0 y bytes maxL ret 1) (hk : k < N) (hf : f k = .inr (ci, fs)) (hq : vwCl[ci]? = some q0) (hq1 : q0.1 = C0) (hM : Ct l y bytes maxL ret fr lo D cy z N q (.ref (q k) :: [a1]) f (PI x g0)) (hR : fr + 1 ≤ R.frames ∧ 8 + (maxL + 11) + lo ≤ R.locals) (hw : (rest.map fun v => v.category).sum ≤ 8) (K : AW p l e R s m args below meth c D N q nL Q g0 lv (pc + 3) (.int x :: rest)) : AW p l e R s m args below meth c D N q nL Q f lv pc (a1 :: .ref (q k) :: rest) := aw_callV (As := [a1]) (As0 := [a1]) (rest := rest) C hd hc hM rfl rfl rfl hR hw hk hf hq hq1 (fun r g hp => by obtain ⟨rfl, rfl⟩ := hp; exact K)
theorem aw_S1v (C : Cx p s m args meth c cc nL own D cy z N q) {a1 : Value} {idx fr lo maxL : Nat} {y : MethodName} {bytes : ByteArray} {ret : Option FieldType} {rest : List Value} {g0 : wS} (hd : decode cc pc = .ok (.invokestatic idx, 3)) (hc : CS own idx y bytes maxL ret 1) (hM : Ct l y bytes maxL ret fr lo D cy z N q [a1] f (PV g0)) (hR : fr + 1 ≤ R.frames ∧ 8 + (maxL + 11) + lo ≤ R.locals) (hw : (rest.map fun v => v.category).sum ≤ 8) (K : AW p l e R s m args below meth c D N q nL Q g0 lv (pc + 3) rest) : AW p l e R s m args below meth c D N q nL Q f lv pc (a1 :: rest) := aw_callS (As := [a1]) (As0 := [a1]) (rest := rest) C hd hc hM rfl rfl rfl hR hw (fun r g hp => by obtain ⟨rfl, rfl⟩ := hp; exact K)
theorem aw_V1v (C : Cx p s m args meth c cc nL own D cy z N q) {a1 : Value} {C0 : String} {idx fr lo maxL k ci : Nat} {y : MethodName} {bytes : ByteArray} {ret : Option FieldType} {rest fs : List Value} {q0 : vw_C} {g0 : wS} (hd : decode cc pc = .ok (.invokevirtual idx, 3)) (hc : CV own idx C0 y bytes maxL ret 1) (hk : k < N) (hf : f k = .inr (ci, fs)) (hq : vwCl[ci]? = some q0) (hq1 : q0.1 = C0) (hM : Ct l y bytes maxL ret fr lo D cy z N q (.ref (q k) :: [a1]) f (PV g0)) (hR : fr + 1 ≤ R.frames ∧ 8 + (maxL + 11) + lo ≤ R.locals) (hw : (rest.map fun v => v.category).sum ≤ 8) (K : AW p l e R s m args below meth c D N q nL Q g0 lv (pc + 3) rest) : AW p l e R s m args below meth c D N q nL Q f lv pc (a1 :: .ref (q k) :: rest) := aw_callV (As := [a1]) (As0 := [a1]) (rest := rest) C hd hc hM rfl rfl rfl hR hw hk hf hq hq1 (fun r g hp => by obtain ⟨rfl, rfl⟩ := hp; exact K)
theorem aw_S1x (C : Cx p s m args meth c cc nL own D cy z N q) {a1 : Value} {idx fr lo maxL : Nat} {y : MethodName} {bytes : ByteArray} {ret : Option FieldType} {rest : List Value} {P : Int32 → wS → Prop} (hd : decode cc pc = .ok (.invokestatic idx, 3)) (hc : CS own idx y bytes maxL ret 1) (hM : Ct l y bytes maxL ret fr lo D cy z N q [a1] f (PX P)) (hR : fr + 1 ≤ R.frames ∧ 8 + (maxL + 11) + lo ≤ R.locals) (hw : (rest.map fun v => v.category).sum ≤ 8) (K : ∀ (x : Int32) (g : wS), P x g → AW p l e R s m args below meth c D N q nL Q g lv (pc + 3) (.int x :: rest)) : AW p l e R s m args below meth c D N q nL Q f lv pc (a1 :: rest) := aw_callS (As := [a1]) (As0 := [a1]) (rest := rest) C hd hc hM rfl rfl rfl hR hw (fun r g hp => by obtain ⟨x, rfl, hp⟩ := hp; exact K x g hp)
theorem aw_V1x (C : Cx p s m args meth c cc nL own D cy z N q) {a1 : Value} {C0 : String} {idx fr lo maxL k ci : Nat} {y : MethodName} {bytes : ByteArray} {ret : Option FieldType} {rest fs : List Value} {q0 : vw_C} {P : Int32 → wS → Prop} (hd : decode cc pc = .ok (.invokevirtual idx, 3)) (hc : CV own idx C0 y bytes maxL ret 1) (hk : k < N) (hf : f k = .inr (ci, fs)) (hq : vwCl[ci]? = some q0) (hq1 : q0.1 = C0) (hM : Ct l y bytes maxL ret fr lo D cy z N q (.ref (q k) :: [a1]) f (PX P)) (hR : fr + 1 ≤ R.frames ∧ 8 + (maxL + 11) + lo ≤ R.locals) (hw : (rest.map fun v => v.category).sum ≤ 8) (K : ∀ (x : Int32) (g : wS), P x g → AW p l e R s m args below meth c D N q nL Q g lv (pc + 3) (.int x :: rest)) : AW p l e R s m args below meth c D N q nL Q f lv pc (a1 :: .ref (q k) :: rest) := aw_callV (As := [a1]) (As0 := [a1]) (rest := rest) C hd hc hM rfl rfl rfl hR hw hk hf hq hq1 (fun r g hp => by obtain ⟨x, rfl, hp⟩ := hp; exact K x g hp)
theorem aw_S1y (C : Cx p s m args meth c cc nL own D cy z N q) {a1 : Value} {idx fr lo maxL : Nat} {y : MethodName} {bytes : ByteArray} {ret : Option FieldType} {rest : List Value} {P : wS → Prop} (hd : decode cc pc = .ok (.invokestatic idx, 3)) (hc : CS own idx y bytes maxL ret 1) (hM : Ct l y bytes maxL ret fr lo D cy z N q [a1] f (PY P)) (hR : fr + 1 ≤ R.frames ∧ 8 + (maxL + 11) + lo ≤ R.locals) (hw : (rest.map fun v => v.category).sum ≤ 8) (K : ∀ (g : wS), P g → AW p l e R s m args below meth c D N q nL Q g lv (pc + 3) rest) : AW p l e R s m args below meth c D N q nL Q f lv pc (a1 :: rest) := aw_callS (As := [a1]) (As0 := [a1]) (rest := rest) C hd hc hM rfl rfl rfl hR hw (fun r g hp => by obtain ⟨rfl, hp⟩ := hp; exact K g hp)
theorem aw_V1y (C : Cx p s m args meth c cc nL own D cy z N q) {a1 : Value} {C0 : String} {idx fr lo maxL k ci : Nat} {y : MethodName} {bytes : ByteArray} {ret : Option FieldType} {rest fs : List Value} {q0 : vw_C} {P : wS → Prop} (hd : decode cc pc = .ok (.invokevirtual idx, 3)) (hc : CV own idx C0 y bytes maxL ret 1) (hk : k < N) (hf : f k = .inr (ci, fs)) (hq : vwCl[ci]? = some q0) (hq1 : q0.1 = C0) (hM : Ct l y bytes maxL ret fr lo D cy z N q (.ref (q k) :: [a1]) f (PY P)) (hR : fr + 1 ≤ R.frames ∧ 8 + (maxL + 11) + lo ≤ R.locals) (hw : (rest.map fun v => v.category).sum ≤ 8) (K : ∀ (g : wS), P g → AW p l e R s m args below meth c D N q nL Q g lv (pc + 3) rest) : AW p l e R s m args below meth c D N q nL Q f lv pc (a1 :: .ref (q k) :: rest) := aw_callV (As := [a1]) (As0 := [a1]) (rest := rest) C hd hc hM rfl rfl rfl hR hw hk hf hq hq1 (fun r g hp => by obtain ⟨rfl, hp⟩ := hp; exact K g hp)
theorem aw_S1r (C : Cx p s m args meth c cc nL own D cy z N q) {a1 : Value} {idx fr lo maxL : Nat} {y : MethodName} {bytes : ByteArray} {ret : Option FieldType} {rest : List Value} {b : Nat} {P : wS → Prop} (hd : decode cc pc = .ok (.invokestatic idx, 3)) (hc : CS own idx y bytes maxL ret 1) (hM : Ct l y bytes maxL ret fr lo D cy z N q [a1] f (PR b P)) (hR : fr + 1 ≤ R.frames ∧ 8 + (maxL + 11) + lo ≤ R.locals) (hw : (rest.map fun v => v.category).sum ≤ 8) (K : ∀ (g : wS), P g → AW p l e R s m args below meth c D N q nL Q g lv (pc + 3) (.ref b :: rest)) : AW p l e R s m args below meth c D N q nL Q f lv pc (a1 :: rest) := aw_callS (As := [a1]) (As0 := [a1]) (rest := rest) C hd hc hM rfl rfl rfl hR hw (fun r g hp => by obtain ⟨rfl, hp⟩ := hp; exact K g hp)
theorem aw_V1r (C : Cx p s m args meth c cc nL own D cy z N q) {a1 : Value} {C0 : String} {idx fr lo maxL k ci : Nat} {y : MethodName} {bytes : ByteArray} {ret : Option FieldType} {rest fs : List Value} {q0 : vw_C} {b : Nat} {P : wS → Prop} (hd : decode cc pc = .ok (.invokevirtual idx, 3)) (hc : CV own idx C0 y bytes maxL ret 1) (hk : k < N) (hf : f k = .inr (ci, fs)) (hq : vwCl[ci]? = some q0) (hq1 : q0.1 = C0) (hM : Ct l y bytes maxL ret fr lo D cy z N q (.ref (q k) :: [a1]) f (PR b P)) (hR : fr + 1 ≤ R.frames ∧ 8 + (maxL + 11) + lo ≤ R.locals) (hw : (rest.map fun v => v.category).sum ≤ 8) (K : ∀ (g : wS), P g → AW p l e R s m args below meth c D N q nL Q g lv (pc + 3) (.ref b :: rest)) : AW p l e R s m args below meth c D N q nL Q f lv pc (a1 :: .ref (q k) :: rest) := aw_callV (As := [a1]) (As0 := [a1]) (rest := rest) C hd hc hM rfl rfl rfl hR hw hk hf hq hq1 (fun r g hp => by obtain ⟨rfl, hp⟩ := hp; exact K g hp)
theorem aw_S2i (C : Cx p s m args meth c cc nL own D cy z N q) {a1 a2 : Value} {idx fr lo maxL : Nat} {y : MethodName} {bytes : ByteArray} {ret : Option FieldType} {rest : List Value} {x : Int32} {g0 : wS} (hd : decode cc pc = .ok (.invokestatic idx, 3)) (hc : CS own idx y bytes maxL ret 2) (hM : Ct l y bytes maxL ret fr lo D cy z N q [a1, a2] f (PI x g0)) (hR : fr + 1 ≤ R.frames ∧ 8 + (maxL + 11) + lo ≤ R.locals) (hw : (rest.map fun v => v.category).sum ≤ 8) (K : AW p l e R s m args below meth c D N q nL Q g0 lv (pc + 3) (.int x :: rest)) : AW p l e R s m args below meth c D N q nL Q f lv pc (a2 :: a1 :: rest) := aw_callS (As := [a1, a2]) (As0 := [a2, a1]) (rest := rest) C hd hc hM rfl rfl rfl hR hw (fun r g hp => by obtain ⟨rfl, rfl⟩ := hp; exact K)
theorem aw_V2i (C : Cx p s m args meth c cc nL own D cy z N q) {a1 a2 : Value} {C0 : String} {idx fr lo maxL k ci : Nat} {y : MethodName} {bytes : ByteArray} {ret : Option FieldType} {rest fs : List Value} {q0 : vw_C} {x : Int32} {g0 : wS} (hd : decode cc pc = .ok (.invokevirtual idx, 3)) (hc : CV own idx C0 y bytes maxL ret 2) (hk : k < N) (hf : f k = .inr (ci, fs)) (hq : vwCl[ci]? = some q0) (hq1 : q0.1 = C0) (hM : Ct l y bytes maxL ret fr lo D cy z N q (.ref (q k) :: [a1, a2]) f (PI x g0)) (hR : fr + 1 ≤ R.frames ∧ 8 + (maxL + 11) + lo ≤ R.locals) (hw : (rest.map fun v => v.category).sum ≤ 8) (K : AW p l e R s m args below meth c D N q nL Q g0 lv (pc + 3) (.int x :: rest)) : AW p l e R s m args below meth c D N q nL Q f lv pc (a2 :: a1 :: .ref (q k) :: rest) := aw_callV (As := [a1, a2]) (As0 := [a2, a1]) (rest := rest) C hd hc hM rfl rfl rfl hR hw hk hf hq hq1 (fun r g hp => by obtain ⟨rfl, rfl⟩ := hp; exact K)
theorem aw_S2v (C : Cx p s m args meth c cc nL own D cy z N q) {a1 a2 : Value} {idx fr lo maxL : Nat} {y : MethodName} {bytes : ByteArray} {ret : Option FieldType} {rest : List Value} {g0 : wS} (hd : decode cc pc = .ok (.invokestatic idx, 3)) (hc : CS own idx y bytes maxL ret 2) (hM : Ct l y bytes maxL ret fr lo D cy z N q [a1, a2] f (PV g0)) (hR : fr + 1 ≤ R.frames ∧ 8 + (maxL + 11) + lo ≤ R.locals) (hw : (rest.map fun v => v.category).sum ≤ 8) (K : AW p l e R s m args below meth c D N q nL Q g0 lv (pc + 3) rest) : AW p l e R s m args below meth c D N q nL Q f lv pc (a2 :: a1 :: rest) := aw_callS (As := [a1, a2]) (As0 := [a2, a1]) (rest := rest) C hd hc hM rfl rfl rfl hR hw (fun r g hp => by obtain ⟨rfl, rfl⟩ := hp; exact K)
theorem aw_V2v (C : Cx p s m args meth c cc nL own D cy z N q) {a1 a2 : Value} {C0 : String} {idx fr lo maxL k ci : Nat} {y : MethodName} {bytes : ByteArray} {ret : Option FieldType} {rest fs : List Value} {q0 : vw_C} {g0 : wS} (hd : decode cc pc = .ok (.invokevirtual idx, 3)) (hc : CV own idx C0 y bytes maxL ret 2) (hk : k < N) (hf : f k = .inr (ci, fs)) (hq : vwCl[ci]? = some q0) (hq1 : q0.1 = C0) (hM : Ct l y bytes maxL ret fr lo D cy z N q (.ref (q k) :: [a1, a2]) f (PV g0)) (hR : fr + 1 ≤ R.frames ∧ 8 + (maxL + 11) + lo ≤ R.locals) (hw : (rest.map fun v => v.category).sum ≤ 8) (K : AW p l e R s m args below meth c D N q nL Q g0 lv (pc + 3) rest) : AW p l e R s m args below meth c D N q nL Q f lv pc (a2 :: a1 :: .ref (q k) :: rest) := aw_callV (As := [a1, a2]) (As0 := [a2, a1]) (rest := rest) C hd hc hM rfl rfl rfl hR hw hk hf hq hq1 (fun r g hp => by obtain ⟨rfl, rfl⟩ := hp; exact K)
theorem aw_S2x (C : Cx p s m args meth c cc nL own D cy z N q) {a1 a2 : Value} {idx fr lo maxL : Nat} {y : MethodName} {bytes : ByteArray} {ret : Option FieldType} {rest : List Value} {P : Int32 → wS → Prop} (hd : decode cc pc = .ok (.invokestatic idx, 3)) (hc : CS own idx y bytes maxL ret 2) (hM : Ct l y bytes maxL ret fr lo D cy z N q [a1, a2] f (PX P)) (hR : fr + 1 ≤ R.frames ∧ 8 + (maxL + 11) + lo ≤ R.locals) (hw : (rest.map fun v => v.category).sum ≤ 8) (K : ∀ (x : Int32) (g : wS), P x g → AW p l e R s m args below meth c D N q nL Q g lv (pc + 3) (.int x :: rest)) : AW p l e R s m args below meth c D N q nL Q f lv pc (a2 :: a1 :: rest) := aw_callS (As := [a1, a2]) (As0 := [a2, a1]) (rest := rest) C hd hc hM rfl rfl rfl hR hw (fun r g hp => by obtain ⟨x, rfl, hp⟩ := hp; exact K x g hp)
theorem aw_V2x (C : Cx p s m args meth c cc nL own D cy z N q) {a1 a2 : Value} {C0 : String} {idx fr lo maxL k ci : Nat} {y : MethodName} {bytes : ByteArray} {ret : Option FieldType} {rest fs : List Value} {q0 : vw_C} {P : Int32 → wS → Prop} (hd : decode cc pc = .ok (.invokevirtual idx, 3)) (hc : CV own idx C0 y bytes maxL ret 2) (hk : k < N) (hf : f k = .inr (ci, fs)) (hq : vwCl[ci]? = some q0) (hq1 : q0.1 = C0) (hM : Ct l y bytes maxL ret fr lo D cy z N q (.ref (q k) :: [a1, a2]) f (PX P)) (hR : fr + 1 ≤ R.frames ∧ 8 + (maxL + 11) + lo ≤ R.locals) (hw : (rest.map fun v => v.category).sum ≤ 8) (K : ∀ (x : Int32) (g : wS), P x g → AW p l e R s m args below meth c D N q nL Q g lv (pc + 3) (.int x :: rest)) : AW p l e R s m args below meth c D N q nL Q f lv pc (a2 :: a1 :: .ref (q k) :: rest) := aw_callV (As := [a1, a2]) (As0 := [a2, a1]) (rest := rest) C hd hc hM rfl rfl rfl hR hw hk hf hq hq1 (fun r g hp => by obtain ⟨x, rfl, hp⟩ := hp; exact K x g hp)
theorem aw_S2y (C : Cx p s m args meth c cc nL own D cy z N q) {a1 a2 : Value} {idx fr lo maxL : Nat} {y : MethodName} {bytes : ByteArray} {ret : Option FieldType} {rest : List Value} {P : wS → Prop} (hd : decode cc pc = .ok (.invokestatic idx, 3)) (hc : CS own idx y bytes maxL ret 2) (hM : Ct l y bytes maxL ret fr lo D cy z N q [a1, a2] f (PY P)) (hR : fr + 1 ≤ R.frames ∧ 8 + (maxL + 11) + lo ≤ R.locals) (hw : (rest.map fun v => v.category).sum ≤ 8) (K : ∀ (g : wS), P g → AW p l e R s m args below meth c D N q nL Q g lv (pc + 3) rest) : AW p l e R s m args below meth c D N q nL Q f lv pc (a2 :: a1 :: rest) := aw_callS (As := [a1, a2]) (As0 := [a2, a1]) (rest := rest) C hd hc hM rfl rfl rfl hR hw (fun r g hp => by obtain ⟨rfl, hp⟩ := hp; exact K g hp)
theorem aw_V2y (C : Cx p s m args meth c cc nL own D cy z N q) {a1 a2 : Value} {C0 : String} {idx fr lo maxL k ci : Nat} {y : MethodName} {bytes : ByteArray} {ret : Option FieldType} {rest fs : List Value} {q0 : vw_C} {P : wS → Prop} (hd : decode cc pc = .ok (.invokevirtual idx, 3)) (hc : CV own idx C0 y bytes maxL ret 2) (hk : k < N) (hf : f k = .inr (ci, fs)) (hq : vwCl[ci]? = some q0) (hq1 : q0.1 = C0) (hM : Ct l y bytes maxL ret fr lo D cy z N q (.ref (q k) :: [a1, a2]) f (PY P)) (hR : fr + 1 ≤ R.frames ∧ 8 + (maxL + 11) + lo ≤ R.locals) (hw : (rest.map fun v => v.category).sum ≤ 8) (K : ∀ (g : wS), P g → AW p l e R s m args below meth c D N q nL Q g lv (pc + 3) rest) : AW p l e R s m args below meth c D N q nL Q f lv pc (a2 :: a1 :: .ref (q k) :: rest) := aw_callV (As := [a1, a2]) (As0 := [a2, a1]) (rest := rest) C hd hc hM rfl rfl rfl hR hw hk hf hq hq1 (fun r g hp => by obtain ⟨rfl, hp⟩ := hp; exact K g hp)
theorem aw_S2r (C : Cx p s m args meth c cc nL own D cy z N q) {a1 a2 : Value} {idx fr lo maxL : Nat} {y : MethodName} {bytes : ByteArray} {ret : Option FieldType} {rest : List Value} {b : Nat} {P : wS → Prop} (hd : decode cc pc = .ok (.invokestatic idx, 3)) (hc : CS own idx y bytes maxL ret 2) (hM : Ct l y bytes maxL ret fr lo D cy z N q [a1, a2] f (PR b P)) (hR : fr + 1 ≤ R.frames ∧ 8 + (maxL + 11) + lo ≤ R.locals) (hw : (rest.map fun v => v.category).sum ≤ 8) (K : ∀ (g : wS), P g → AW p l e R s m args below meth c D N q nL Q g lv (pc + 3) (.ref b :: rest)) : AW p l e R s m args below meth c D N q nL Q f lv pc (a2 :: a1 :: rest) := aw_callS (As := [a1, a2]) (As0 := [a2, a1]) (rest := rest) C hd hc hM rfl rfl rfl hR hw (fun r g hp => by obtain ⟨rfl, hp⟩ := hp; exact K g hp)
theorem aw_V2r (C : Cx p s m args meth c cc nL own D cy z N q) {a1 a2 : Value} {C0 : String} {idx fr lo maxL k ci : Nat} {y : MethodName} {bytes : ByteArray} {ret : Option FieldType} {rest fs : List Value} {q0 : vw_C} {b : Nat} {P : wS → Prop} (hd : decode cc pc = .ok (.invokevirtual idx, 3)) (hc : CV own idx C0 y bytes maxL ret 2) (hk : k < N) (hf : f k = .inr (ci, fs)) (hq : vwCl[ci]? = some q0) (hq1 : q0.1 = C0) (hM : Ct l y bytes maxL ret fr lo D cy z N q (.ref (q k) :: [a1, a2]) f (PR b P)) (hR : fr + 1 ≤ R.frames ∧ 8 + (maxL + 11) + lo ≤ R.locals) (hw : (rest.map fun v => v.category).sum ≤ 8) (K : ∀ (g : wS), P g → AW p l e R s m args below meth c D N q nL Q g lv (pc + 3) (.ref b :: rest)) : AW p l e R s m args below meth c D N q nL Q f lv pc (a2 :: a1 :: .ref (q k) :: rest) := aw_callV (As := [a1, a2]) (As0 := [a2, a1]) (rest := rest) C hd hc hM rfl rfl rfl hR hw hk hf hq hq1 (fun r g hp => by obtain ⟨rfl, hp⟩ := hp; exact K g hp)
theorem aw_S3i (C : Cx p s m args meth c cc nL own D cy z N q) {a1 a2 a3 : Value} {idx fr lo maxL : Nat} {y : MethodName} {bytes : ByteArray} {ret : Option FieldType} {rest : List Value} {x : Int32} {g0 : wS} (hd : decode cc pc = .ok (.invokestatic idx, 3)) (hc : CS own idx y bytes maxL ret 3) (hM : Ct l y bytes maxL ret fr lo D cy z N q [a1, a2, a3] f (PI x g0)) (hR : fr + 1 ≤ R.frames ∧ 8 + (maxL + 11) + lo ≤ R.locals) (hw : (rest.map fun v => v.category).sum ≤ 8) (K : AW p l e R s m args below meth c D N q nL Q g0 lv (pc + 3) (.int x :: rest)) : AW p l e R s m args below meth c D N q nL Q f lv pc (a3 :: a2 :: a1 :: rest) := aw_callS (As := [a1, a2, a3]) (As0 := [a3, a2, a1]) (rest := rest) C hd hc hM rfl rfl rfl hR hw (fun r g hp => by obtain ⟨rfl, rfl⟩ := hp; exact K)
theorem aw_V3i (C : Cx p s m args meth c cc nL own D cy z N q) {a1 a2 a3 : Value} {C0 : String} {idx fr lo maxL k ci : Nat} {y : MethodName} {bytes : ByteArray} {ret : Option FieldType} {rest fs : List Value} {q0 : vw_C} {x : Int32} {g0 : wS} (hd : decode cc pc = .ok (.invokevirtual idx, 3)) (hc : CV own idx C0 y bytes maxL ret 3) (hk : k < N) (hf : f k = .inr (ci, fs)) (hq : vwCl[ci]? = some q0) (hq1 : q0.1 = C0) (hM : Ct l y bytes maxL ret fr lo D cy z N q (.ref (q k) :: [a1, a2, a3]) f (PI x g0)) (hR : fr + 1 ≤ R.frames ∧ 8 + (maxL + 11) + lo ≤ R.locals) (hw : (rest.map fun v => v.category).sum ≤ 8) (K : AW p l e R s m args below meth c D N q nL Q g0 lv (pc + 3) (.int x :: rest)) : AW p l e R s m args below meth c D N q nL Q f lv pc (a3 :: a2 :: a1 :: .ref (q k) :: rest) := aw_callV (As := [a1, a2, a3]) (As0 := [a3, a2, a1]) (rest := rest) C hd hc hM rfl rfl rfl hR hw hk hf hq hq1 (fun r g hp => by obtain ⟨rfl, rfl⟩ := hp; exact K)
theorem aw_S3v (C : Cx p s m args meth c cc nL own D cy z N q) {a1 a2 a3 : Value} {idx fr lo maxL : Nat} {y : MethodName} {bytes : ByteArray} {ret : Option FieldType} {rest : List Value} {g0 : wS} (hd : decode cc pc = .ok (.invokestatic idx, 3)) (hc : CS own idx y bytes maxL ret 3) (hM : Ct l y bytes maxL ret fr lo D cy z N q [a1, a2, a3] f (PV g0)) (hR : fr + 1 ≤ R.frames ∧ 8 + (maxL + 11) + lo ≤ R.locals) (hw : (rest.map fun v => v.category).sum ≤ 8) (K : AW p l e R s m args below meth c D N q nL Q g0 lv (pc + 3) rest) : AW p l e R s m args below meth c D N q nL Q f lv pc (a3 :: a2 :: a1 :: rest) := aw_callS (As := [a1, a2, a3]) (As0 := [a3, a2, a1]) (rest := rest) C hd hc hM rfl rfl rfl hR hw (fun r g hp => by obtain ⟨rfl, rfl⟩ := hp; exact K)
theorem aw_V3v (C : Cx p s m args meth c cc nL own D cy z N q) {a1 a2 a3 : Value} {C0 : String} {idx fr lo maxL k ci : Nat} {y : MethodName} {bytes : ByteArray} {ret : Option FieldType} {rest fs : List Value} {q0 : vw_C} {g0 : wS} (hd : decode cc pc = .ok (.invokevirtual idx, 3)) (hc : CV own idx C0 y bytes maxL ret 3) (hk : k < N) (hf : f k = .inr (ci, fs)) (hq : vwCl[ci]? = some q0) (hq1 : q0.1 = C0) (hM : Ct l y bytes maxL ret fr lo D cy z N q (.ref (q k) :: [a1, a2, a3]) f (PV g0)) (hR : fr + 1 ≤ R.frames ∧ 8 + (maxL + 11) + lo ≤ R.locals) (hw : (rest.map fun v => v.category).sum ≤ 8) (K : AW p l e R s m args below meth c D N q nL Q g0 lv (pc + 3) rest) : AW p l e R s m args below meth c D N q nL Q f lv pc (a3 :: a2 :: a1 :: .ref (q k) :: rest) := aw_callV (As := [a1, a2, a3]) (As0 := [a3, a2, a1]) (rest := rest) C hd hc hM rfl rfl rfl hR hw hk hf hq hq1 (fun r g hp => by obtain ⟨rfl, rfl⟩ := hp; exact K)
theorem aw_S3x (C : Cx p s m args meth c cc nL own D cy z N q) {a1 a2 a3 : Value} {idx fr lo maxL : Nat} {y : MethodName} {bytes : ByteArray} {ret : Option FieldType} {rest : List Value} {P : Int32 → wS → Prop} (hd : decode cc pc = .ok (.invokestatic idx, 3)) (hc : CS own idx y bytes maxL ret 3) (hM : Ct l y bytes maxL ret fr lo D cy z N q [a1, a2, a3] f (PX P)) (hR : fr + 1 ≤ R.frames ∧ 8 + (maxL + 11) + lo ≤ R.locals) (hw : (rest.map fun v => v.category).sum ≤ 8) (K : ∀ (x : Int32) (g : wS), P x g → AW p l e R s m args below meth c D N q nL Q g lv (pc + 3) (.int x :: rest)) : AW p l e R s m args below meth c D N q nL Q f lv pc (a3 :: a2 :: a1 :: rest) := aw_callS (As := [a1, a2, a3]) (As0 := [a3, a2, a1]) (rest := rest) C hd hc hM rfl rfl rfl hR hw (fun r g hp => by obtain ⟨x, rfl, hp⟩ := hp; exact K x g hp)
theorem aw_V3x (C : Cx p s m args meth c cc nL own D cy z N q) {a1 a2 a3 : Value} {C0 : String} {idx fr lo maxL k ci : Nat} {y : MethodName} {bytes : ByteArray} {ret : Option FieldType} {rest fs : List Value} {q0 : vw_C} {P : Int32 → wS → Prop} (hd : decode cc pc = .ok (.invokevirtual idx, 3)) (hc : CV own idx C0 y bytes maxL ret 3) (hk : k < N) (hf : f k = .inr (ci, fs)) (hq : vwCl[ci]? = some q0) (hq1 : q0.1 = C0) (hM : Ct l y bytes maxL ret fr lo D cy z N q (.ref (q k) :: [a1, a2, a3]) f (PX P)) (hR : fr + 1 ≤ R.frames ∧ 8 + (maxL + 11) + lo ≤ R.locals) (hw : (rest.map fun v => v.category).sum ≤ 8) (K : ∀ (x : Int32) (g : wS), P x g → AW p l e R s m args below meth c D N q nL Q g lv (pc + 3) (.int x :: rest)) : AW p l e R s m args below meth c D N q nL Q f lv pc (a3 :: a2 :: a1 :: .ref (q k) :: rest) := aw_callV (As := [a1, a2, a3]) (As0 := [a3, a2, a1]) (rest := rest) C hd hc hM rfl rfl rfl hR hw hk hf hq hq1 (fun r g hp => by obtain ⟨x, rfl, hp⟩ := hp; exact K x g hp)
theorem aw_S3y (C : Cx p s m args meth c cc nL own D cy z N q) {a1 a2 a3 : Value} {idx fr lo maxL : Nat} {y : MethodName} {bytes : ByteArray} {ret : Option FieldType} {rest : List Value} {P : wS → Prop} (hd : decode cc pc = .ok (.invokestatic idx, 3)) (hc : CS own idx y bytes maxL ret 3) (hM : Ct l y bytes maxL ret fr lo D cy z N q [a1, a2, a3] f (PY P)) (hR : fr + 1 ≤ R.frames ∧ 8 + (maxL + 11) + lo ≤ R.locals) (hw : (rest.map fun v => v.category).sum ≤ 8) (K : ∀ (g : wS), P g → AW p l e R s m args below meth c D N q nL Q g lv (pc + 3) rest) : AW p l e R s m args below meth c D N q nL Q f lv pc (a3 :: a2 :: a1 :: rest) := aw_callS (As := [a1, a2, a3]) (As0 := [a3, a2, a1]) (rest := rest) C hd hc hM rfl rfl rfl hR hw (fun r g hp => by obtain ⟨rfl, hp⟩ := hp; exact K g hp)
theorem aw_V3y (C : Cx p s m args meth c cc nL own D cy z N q) {a1 a2 a3 : Value} {C0 : String} {idx fr lo maxL k ci : Nat} {y : MethodName} {bytes : ByteArray} {ret : Option FieldType} {rest fs : List Value} {q0 : vw_C} {P : wS → Prop} (hd : decode cc pc = .ok (.invokevirtual idx, 3)) (hc : CV own idx C0 y bytes maxL ret 3) (hk : k < N) (hf : f k = .inr (ci, fs)) (hq : vwCl[ci]? = some q0) (hq1 : q0.1 = C0) (hM : Ct l y bytes maxL ret fr lo D cy z N q (.ref (q k) :: [a1, a2, a3]) f (PY P)) (hR : fr + 1 ≤ R.frames ∧ 8 + (maxL + 11) + lo ≤ R.locals) (hw : (rest.map fun v => v.category).sum ≤ 8) (K : ∀ (g : wS), P g → AW p l e R s m args below meth c D N q nL Q g lv (pc + 3) rest) : AW p l e R s m args below meth c D N q nL Q f lv pc (a3 :: a2 :: a1 :: .ref (q k) :: rest) := aw_callV (As := [a1, a2, a3]) (As0 := [a3, a2, a1]) (rest := rest) C hd hc hM rfl rfl rfl hR hw hk hf hq hq1 (fun r g hp => by obtain ⟨rfl, hp⟩ := hp; exact K g hp)
theorem aw_S3r (C : Cx p s m args meth c cc nL own D cy z N q) {a1 a2 a3 : Value} {idx fr lo maxL : Nat} {y : MethodName} {bytes : ByteArray} {ret : Option FieldType} {rest : List Value} {b : Nat} {P : wS → Prop} (hd : decode cc pc = .ok (.invokestatic idx, 3)) (hc : CS own idx y bytes maxL ret 3) (hM : Ct l y bytes maxL ret fr lo D cy z N q [a1, a2, a3] f (PR b P)) (hR : fr + 1 ≤ R.frames ∧ 8 + (maxL + 11) + lo ≤ R.locals) (hw : (rest.map fun v => v.category).sum ≤ 8) (K : ∀ (g : wS), P g → AW p l e R s m args below meth c D N q nL Q g lv (pc + 3) (.ref b :: rest)) : AW p l e R s m args below meth c D N q nL Q f lv pc (a3 :: a2 :: a1 :: rest) := aw_callS (As := [a1, a2, a3]) (As0 := [a3, a2, a1]) (rest := rest) C hd hc hM rfl rfl rfl hR hw (fun r g hp => by obtain ⟨rfl, hp⟩ := hp; exact K g hp)
theorem aw_V3r (C : Cx p s m args meth c cc nL own D cy z N q) {a1 a2 a3 : Value} {C0 : String} {idx fr lo maxL k ci : Nat} {y : MethodName} {bytes : ByteArray} {ret : Option FieldType} {rest fs : List Value} {q0 : vw_C} {b : Nat} {P : wS → Prop} (hd : decode cc pc = .ok (.invokevirtual idx, 3)) (hc : CV own idx C0 y bytes maxL ret 3) (hk : k < N) (hf : f k = .inr (ci, fs)) (hq : vwCl[ci]? = some q0) (hq1 : q0.1 = C0) (hM : Ct l y bytes maxL ret fr lo D cy z N q (.ref (q k) :: [a1, a2, a3]) f (PR b P)) (hR : fr + 1 ≤ R.frames ∧ 8 + (maxL + 11) + lo ≤ R.locals) (hw : (rest.map fun v => v.category).sum ≤ 8) (K : ∀ (g : wS), P g → AW p l e R s m args below meth c D N q nL Q g lv (pc + 3) (.ref b :: rest)) : AW p l e R s m args below meth c D N q nL Q f lv pc (a3 :: a2 :: a1 :: .ref (q k) :: rest) := aw_callV (As := [a1, a2, a3]) (As0 := [a3, a2, a1]) (rest := rest) C hd hc hM rfl rfl rfl hR hw hk hf hq hq1 (fun r g hp => by obtain ⟨rfl, hp⟩ := hp; exact K g hp)
theorem aw_S4i (C : Cx p s m args meth c cc nL own D cy z N q) {a1 a2 a3 a4 : Value} {idx fr lo maxL : Nat} {y : MethodName} {bytes : ByteArray} {ret : Option FieldType} {rest : List Value} {x : Int32} {g0 : wS} (hd : decode cc pc = .ok (.invokestatic idx, 3)) (hc : CS own idx y bytes maxL ret 4) (hM : Ct l y bytes maxL ret fr lo D cy z N q [a1, a2, a3, a4] f (PI x g0)) (hR : fr + 1 ≤ R.frames ∧ 8 + (maxL + 11) + lo ≤ R.locals) (hw : (rest.map fun v => v.category).sum ≤ 8) (K : AW p l e R s m args below meth c D N q nL Q g0 lv (pc + 3) (.int x :: rest)) : AW p l e R s m args below meth c D N q nL Q f lv pc (a4 :: a3 :: a2 :: a1 :: rest) := aw_callS (As := [a1, a2, a3, a4]) (As0 := [a4, a3, a2, a1]) (rest := rest) C hd hc hM rfl rfl rfl hR hw (fun r g hp => by obtain ⟨rfl, rfl⟩ := hp; exact K)
theorem aw_V4i (C : Cx p s m args meth c cc nL own D cy z N q) {a1 a2 a3 a4 : Value} {C0 : String} {idx fr lo maxL k ci : Nat} {y : MethodName} {bytes : ByteArray} {ret : Option FieldType} {rest fs : List Value} {q0 : vw_C} {x : Int32} {g0 : wS} (hd : decode cc pc = .ok (.invokevirtual idx, 3)) (hc : CV own idx C0 y bytes maxL ret 4) (hk : k < N) (hf : f k = .inr (ci, fs)) (hq : vwCl[ci]? = some q0) (hq1 : q0.1 = C0) (hM : Ct l y bytes maxL ret fr lo D cy z N q (.ref (q k) :: [a1, a2, a3, a4]) f (PI x g0)) (hR : fr + 1 ≤ R.frames ∧ 8 + (maxL + 11) + lo ≤ R.locals) (hw : (rest.map fun v => v.category).sum ≤ 8) (K : AW p l e R s m args below meth c D N q nL Q g0 lv (pc + 3) (.int x :: rest)) : AW p l e R s m args below meth c D N q nL Q f lv pc (a4 :: a3 :: a2 :: a1 :: .ref (q k) :: rest) := aw_callV (As := [a1, a2, a3, a4]) (As0 := [a4, a3, a2, a1]) (rest := rest) C hd hc hM rfl rfl rfl hR hw hk hf hq hq1 (fun r g hp => by obtain ⟨rfl, rfl⟩ := hp; exact K)
theorem aw_S4v (C : Cx p s m args meth c cc nL own D cy z N q) {a1 a2 a3 a4 : Value} {idx fr lo maxL : Nat} {y : MethodName} {bytes : ByteArray} {ret : Option FieldType} {rest : List Value} {g0 : wS} (hd : decode cc pc = .ok (.invokestatic idx, 3)) (hc : CS own idx y bytes maxL ret 4) (hM : Ct l y bytes maxL ret fr lo D cy z N q [a1, a2, a3, a4] f (PV g0)) (hR : fr + 1 ≤ R.frames ∧ 8 + (maxL + 11) + lo ≤ R.locals) (hw : (rest.map fun v => v.category).sum ≤ 8) (K : AW p l e R s m args below meth c D N q nL Q g0 lv (pc + 3) rest) : AW p l e R s m args below meth c D N q nL Q f lv pc (a4 :: a3 :: a2 :: a1 :: rest) := aw_callS (As := [a1, a2, a3, a4]) (As0 := [a4, a3, a2, a1]) (rest := rest) C hd hc hM rfl rfl rfl hR hw (fun r g hp => by obtain ⟨rfl, rfl⟩ := hp; exact K)
theorem aw_V4v (C : Cx p s m args meth c cc nL own D cy z N q) {a1 a2 a3 a4 : Value} {C0 : String} {idx fr lo maxL k ci : Nat} {y : MethodName} {bytes : ByteArray} {ret : Option FieldType} {rest fs : List Value} {q0 : vw_C} {g0 : wS} (hd : decode cc pc = .ok (.invokevirtual idx, 3)) (hc : CV own idx C0 y bytes maxL ret 4) (hk : k < N) (hf : f k = .inr (ci, fs)) (hq : vwCl[ci]? = some q0) (hq1 : q0.1 = C0) (hM : Ct l y bytes maxL ret fr lo D cy z N q (.ref (q k) :: [a1, a2, a3, a4]) f (PV g0)) (hR : fr + 1 ≤ R.frames ∧ 8 + (maxL + 11) + lo ≤ R.locals) (hw : (rest.map fun v => v.category).sum ≤ 8) (K : AW p l e R s m args below meth c D N q nL Q g0 lv (pc + 3) rest) : AW p l e R s m args below meth c D N q nL Q f lv pc (a4 :: a3 :: a2 :: a1 :: .ref (q k) :: rest) := aw_callV (As := [a1, a2, a3, a4]) (As0 := [a4, a3, a2, a1]) (rest := rest) C hd hc hM rfl rfl rfl hR hw hk hf hq hq1 (fun r g hp => by obtain ⟨rfl, rfl⟩ := hp; exact K)
theorem aw_S4x (C : Cx p s m args meth c cc nL own D cy z N q) {a1 a2 a3 a4 : Value} {idx fr lo maxL : Nat} {y : MethodName} {bytes : ByteArray} {ret : Option FieldType} {rest : List Value} {P : Int32 → wS → Prop} (hd : decode cc pc = .ok (.invokestatic idx, 3)) (hc : CS own idx y bytes maxL ret 4) (hM : Ct l y bytes maxL ret fr lo D cy z N q [a1, a2, a3, a4] f (PX P)) (hR : fr + 1 ≤ R.frames ∧ 8 + (maxL + 11) + lo ≤ R.locals) (hw : (rest.map fun v => v.category).sum ≤ 8) (K : ∀ (x : Int32) (g : wS), P x g → AW p l e R s m args below meth c D N q nL Q g lv (pc + 3) (.int x :: rest)) : AW p l e R s m args below meth c D N q nL Q f lv pc (a4 :: a3 :: a2 :: a1 :: rest) := aw_callS (As := [a1, a2, a3, a4]) (As0 := [a4, a3, a2, a1]) (rest := rest) C hd hc hM rfl rfl rfl hR hw (fun r g hp => by obtain ⟨x, rfl, hp⟩ := hp; exact K x g hp)
theorem aw_V4x (C : Cx p s m args meth c cc nL own D cy z N q) {a1 a2 a3 a4 : Value} {C0 : String} {idx fr lo maxL k ci : Nat} {y : MethodName} {bytes : ByteArray} {ret : Option FieldType} {rest fs : List Value} {q0 : vw_C} {P : Int32 → wS → Prop} (hd : decode cc pc = .ok (.invokevirtual idx, 3)) (hc : CV own idx C0 y bytes maxL ret 4) (hk : k < N) (hf : f k = .inr (ci, fs)) (hq : vwCl[ci]? = some q0) (hq1 : q0.1 = C0) (hM : Ct l y bytes maxL ret fr lo D cy z N q (.ref (q k) :: [a1, a2, a3, a4]) f (PX P)) (hR : fr + 1 ≤ R.frames ∧ 8 + (maxL + 11) + lo ≤ R.locals) (hw : (rest.map fun v => v.category).sum ≤ 8) (K : ∀ (x : Int32) (g : wS), P x g → AW p l e R s m args below meth c D N q nL Q g lv (pc + 3) (.int x :: rest)) : AW p l e R s m args below meth c D N q nL Q f lv pc (a4 :: a3 :: a2 :: a1 :: .ref (q k) :: rest) := aw_callV (As := [a1, a2, a3, a4]) (As0 := [a4, a3, a2, a1]) (rest := rest) C hd hc hM rfl rfl rfl hR hw hk hf hq hq1 (fun r g hp => by obtain ⟨x, rfl, hp⟩ := hp; exact K x g hp)
theorem aw_S4y (C : Cx p s m args meth c cc nL own D cy z N q) {a1 a2 a3 a4 : Value} {idx fr lo maxL : Nat} {y : MethodName} {bytes : ByteArray} {ret : Option FieldType} {rest : List Value} {P : wS → Prop} (hd : decode cc pc = .ok (.invokestatic idx, 3)) (hc : CS own idx y bytes maxL ret 4) (hM : Ct l y bytes maxL ret fr lo D cy z N q [a1, a2, a3, a4] f (PY P)) (hR : fr + 1 ≤ R.frames ∧ 8 + (maxL + 11) + lo ≤ R.locals) (hw : (rest.map fun v => v.category).sum ≤ 8) (K : ∀ (g : wS), P g → AW p l e R s m args below meth c D N q nL Q g lv (pc + 3) rest) : AW p l e R s m args below meth c D N q nL Q f lv pc (a4 :: a3 :: a2 :: a1 :: rest) := aw_callS (As := [a1, a2, a3, a4]) (As0 := [a4, a3, a2, a1]) (rest := rest) C hd hc hM rfl rfl rfl hR hw (fun r g hp => by obtain ⟨rfl, hp⟩ := hp; exact K g hp)
theorem aw_V4y (C : Cx p s m args meth c cc nL own D cy z N q) {a1 a2 a3 a4 : Value} {C0 : String} {idx fr lo maxL k ci : Nat} {y : MethodName} {bytes : ByteArray} {ret : Option FieldType} {rest fs : List Value} {q0 : vw_C} {P : wS → Prop} (hd : decode cc pc = .ok (.invokevirtual idx, 3)) (hc : CV own idx C0 y bytes maxL ret 4) (hk : k < N) (hf : f k = .inr (ci, fs)) (hq : vwCl[ci]? = some q0) (hq1 : q0.1 = C0) (hM : Ct l y bytes maxL ret fr lo D cy z N q (.ref (q k) :: [a1, a2, a3, a4]) f (PY P)) (hR : fr + 1 ≤ R.frames ∧ 8 + (maxL + 11) + lo ≤ R.locals) (hw : (rest.map fun v => v.category).sum ≤ 8) (K : ∀ (g : wS), P g → AW p l e R s m args below meth c D N q nL Q g lv (pc + 3) rest) : AW p l e R s m args below meth c D N q nL Q f lv pc (a4 :: a3 :: a2 :: a1 :: .ref (q k) :: rest) := aw_callV (As := [a1, a2, a3, a4]) (As0 := [a4, a3, a2, a1]) (rest := rest) C hd hc hM rfl rfl rfl hR hw hk hf hq hq1 (fun r g hp => by obtain ⟨rfl, hp⟩ := hp; exact K g hp)
theorem aw_S4r (C : Cx p s m args meth c cc nL own D cy z N q) {a1 a2 a3 a4 : Value} {idx fr lo maxL : Nat} {y : MethodName} {bytes : ByteArray} {ret : Option FieldType} {rest : List Value} {b : Nat} {P : wS → Prop} (hd : decode cc pc = .ok (.invokestatic idx, 3)) (hc : CS own idx y bytes maxL ret 4) (hM : Ct l y bytes maxL ret fr lo D cy z N q [a1, a2, a3, a4] f (PR b P)) (hR : fr + 1 ≤ R.frames ∧ 8 + (maxL + 11) + lo ≤ R.locals) (hw : (rest.map fun v => v.category).sum ≤ 8) (K : ∀ (g : wS), P g → AW p l e R s m args below meth c D N q nL Q g lv (pc + 3) (.ref b :: rest)) : AW p l e R s m args below meth c D N q nL Q f lv pc (a4 :: a3 :: a2 :: a1 :: rest) := aw_callS (As := [a1, a2, a3, a4]) (As0 := [a4, a3, a2, a1]) (rest := rest) C hd hc hM rfl rfl rfl hR hw (fun r g hp => by obtain ⟨rfl, hp⟩ := hp; exact K g hp)
theorem aw_V4r (C : Cx p s m args meth c cc nL own D cy z N q) {a1 a2 a3 a4 : Value} {C0 : String} {idx fr lo maxL k ci : Nat} {y : MethodName} {bytes : ByteArray} {ret : Option FieldType} {rest fs : List Value} {q0 : vw_C} {b : Nat} {P : wS → Prop} (hd : decode cc pc = .ok (.invokevirtual idx, 3)) (hc : CV own idx C0 y bytes maxL ret 4) (hk : k < N) (hf : f k = .inr (ci, fs)) (hq : vwCl[ci]? = some q0) (hq1 : q0.1 = C0) (hM : Ct l y bytes maxL ret fr lo D cy z N q (.ref (q k) :: [a1, a2, a3, a4]) f (PR b P)) (hR : fr + 1 ≤ R.frames ∧ 8 + (maxL + 11) + lo ≤ R.locals) (hw : (rest.map fun v => v.category).sum ≤ 8) (K : ∀ (g : wS), P g → AW p l e R s m args below meth c D N q nL Q g lv (pc + 3) (.ref b :: rest)) : AW p l e R s m args below meth c D N q nL Q f lv pc (a4 :: a3 :: a2 :: a1 :: .ref (q k) :: rest) := aw_callV (As := [a1, a2, a3, a4]) (As0 := [a4, a3, a2, a1]) (rest := rest) C hd hc hM rfl rfl rfl hR hw hk hf hq hq1 (fun r g hp => by obtain ⟨rfl, hp⟩ := hp; exact K g hp)
theorem aw_S5i (C : Cx p s m args meth c cc nL own D cy z N q) {a1 a2 a3 a4 a5 : Value} {idx fr lo maxL : Nat} {y : MethodName} {bytes : ByteArray} {ret : Option FieldType} {rest : List Value} {x : Int32} {g0 : wS} (hd : decode cc pc = .ok (.invokestatic idx, 3)) (hc : CS own idx y bytes maxL ret 5) (hM : Ct l y bytes maxL ret fr lo D cy z N q [a1, a2, a3, a4, a5] f (PI x g0)) (hR : fr + 1 ≤ R.frames ∧ 8 + (maxL + 11) + lo ≤ R.locals) (hw : (rest.map fun v => v.category).sum ≤ 8) (K : AW p l e R s m args below meth c D N q nL Q g0 lv (pc + 3) (.int x :: rest)) : AW p l e R s m args below meth c D N q nL Q f lv pc (a5 :: a4 :: a3 :: a2 :: a1 :: rest) := aw_callS (As := [a1, a2, a3, a4, a5]) (As0 := [a5, a4, a3, a2, a1]) (rest := rest) C hd hc hM rfl rfl rfl hR hw (fun r g hp => by obtain ⟨rfl, rfl⟩ := hp; exact K)
theorem aw_V5i (C : Cx p s m args meth c cc nL own D cy z N q) {a1 a2 a3 a4 a5 : Value} {C0 : String} {idx fr lo maxL k ci : Nat} {y : MethodName} {bytes : ByteArray} {ret : Option FieldType} {rest fs : List Value} {q0 : vw_C} {x : Int32} {g0 : wS} (hd : decode cc pc = .ok (.invokevirtual idx, 3)) (hc : CV own idx C0 y bytes maxL ret 5) (hk : k < N) (hf : f k = .inr (ci, fs)) (hq : vwCl[ci]? = some q0) (hq1 : q0.1 = C0) (hM : Ct l y bytes maxL ret fr lo D cy z N q (.ref (q k) :: [a1, a2, a3, a4, a5]) f (PI x g0)) (hR : fr + 1 ≤ R.frames ∧ 8 + (maxL + 11) + lo ≤ R.locals) (hw : (rest.map fun v => v.category).sum ≤ 8) (K : AW p l e R s m args below meth c D N q nL Q g0 lv (pc + 3) (.int x :: rest)) : AW p l e R s m args below meth c D N q nL Q f lv pc (a5 :: a4 :: a3 :: a2 :: a1 :: .ref (q k) :: rest) := aw_callV (As := [a1, a2, a3, a4, a5]) (As0 := [a5, a4, a3, a2, a1]) (rest := rest) C hd hc hM rfl rfl rfl hR hw hk hf hq hq1 (fun r g hp => by obtain ⟨rfl, rfl⟩ := hp; exact K)
theorem aw_S5v (C : Cx p s m args meth c cc nL own D cy z N q) {a1 a2 a3 a4 a5 : Value} {idx fr lo maxL : Nat} {y : MethodName} {bytes : ByteArray} {ret : Option FieldType} {rest : List Value} {g0 : wS} (hd : decode cc pc = .ok (.invokestatic idx, 3)) (hc : CS own idx y bytes maxL ret 5) (hM : Ct l y bytes maxL ret fr lo D cy z N q [a1, a2, a3, a4, a5] f (PV g0)) (hR : fr + 1 ≤ R.frames ∧ 8 + (maxL + 11) + lo ≤ R.locals) (hw : (rest.map fun v => v.category).sum ≤ 8) (K : AW p l e R s m args below meth c D N q nL Q g0 lv (pc + 3) rest) : AW p l e R s m args below meth c D N q nL Q f lv pc (a5 :: a4 :: a3 :: a2 :: a1 :: rest) := aw_callS (As := [a1, a2, a3, a4, a5]) (As0 := [a5, a4, a3, a2, a1]) (rest := rest) C hd hc hM rfl rfl rfl hR hw (fun r g hp => by obtain ⟨rfl, rfl⟩ := hp; exact K)
theorem aw_V5v (C : Cx p s m args meth c cc nL own D cy z N q) {a1 a2 a3 a4 a5 : Value} {C0 : String} {idx fr lo maxL k ci : Nat} {y : MethodName} {bytes : ByteArray} {ret : Option FieldType} {rest fs : List Value} {q0 : vw_C} {g0 : wS} (hd : decode cc pc = .ok (.invokevirtual idx, 3)) (hc : CV own idx C0 y bytes maxL ret 5) (hk : k < N) (hf : f k = .inr (ci, fs)) (hq : vwCl[ci]? = some q0) (hq1 : q0.1 = C0) (hM : Ct l y bytes maxL ret fr lo D cy z N q (.ref (q k) :: [a1, a2, a3, a4, a5]) f (PV g0)) (hR : fr + 1 ≤ R.frames ∧ 8 + (maxL + 11) + lo ≤ R.locals) (hw : (rest.map fun v => v.category).sum ≤ 8) (K : AW p l e R s m args below meth c D N q nL Q g0 lv (pc + 3) rest) : AW p l e R s m args below meth c D N q nL Q f lv pc (a5 :: a4 :: a3 :: a2 :: a1 :: .ref (q k) :: rest) := aw_callV (As := [a1, a2, a3, a4, a5]) (As0 := [a5, a4, a3, a2, a1]) (rest := rest) C hd hc hM rfl rfl rfl hR hw hk hf hq hq1 (fun r g hp => by obtain ⟨rfl, rfl⟩ := hp; exact K)
theorem aw_S5x (C : Cx p s m args meth c cc nL own D cy z N q) {a1 a2 a3 a4 a5 : Value} {idx fr lo maxL : Nat} {y : MethodName} {bytes : ByteArray} {ret : Option FieldType} {rest : List Value} {P : Int32 → wS → Prop} (hd : decode cc pc = .ok (.invokestatic idx, 3)) (hc : CS own idx y bytes maxL ret 5) (hM : Ct l y bytes maxL ret fr lo D cy z N q [a1, a2, a3, a4, a5] f (PX P)) (hR : fr + 1 ≤ R.frames ∧ 8 + (maxL + 11) + lo ≤ R.locals) (hw : (rest.map fun v => v.category).sum ≤ 8) (K : ∀ (x : Int32) (g : wS), P x g → AW p l e R s m args below meth c D N q nL Q g lv (pc + 3) (.int x :: rest)) : AW p l e R s m args below meth c D N q nL Q f lv pc (a5 :: a4 :: a3 :: a2 :: a1 :: rest) := aw_callS (As := [a1, a2, a3, a4, a5]) (As0 := [a5, a4, a3, a2, a1]) (rest := rest) C hd hc hM rfl rfl rfl hR hw (fun r g hp => by obtain ⟨x, rfl, hp⟩ := hp; exact K x g hp)
theorem aw_V5x (C : Cx p s m args meth c cc nL own D cy z N q) {a1 a2 a3 a4 a5 : Value} {C0 : String} {idx fr lo maxL k ci : Nat} {y : MethodName} {bytes : ByteArray} {ret : Option FieldType} {rest fs : List Value} {q0 : vw_C} {P : Int32 → wS → Prop} (hd : decode cc pc = .ok (.invokevirtual idx, 3)) (hc : CV own idx C0 y bytes maxL ret 5) (hk : k < N) (hf : f k = .inr (ci, fs)) (hq : vwCl[ci]? = some q0) (hq1 : q0.1 = C0) (hM : Ct l y bytes maxL ret fr lo D cy z N q (.ref (q k) :: [a1, a2, a3, a4, a5]) f (PX P)) (hR : fr + 1 ≤ R.frames ∧ 8 + (maxL + 11) + lo ≤ R.locals) (hw : (rest.map fun v => v.category).sum ≤ 8) (K : ∀ (x : Int32) (g : wS), P x g → AW p l e R s m args below meth c D N q nL Q g lv (pc + 3) (.int x :: rest)) : AW p l e R s m args below meth c D N q nL Q f lv pc (a5 :: a4 :: a3 :: a2 :: a1 :: .ref (q k) :: rest) := aw_callV (As := [a1, a2, a3, a4, a5]) (As0 := [a5, a4, a3, a2, a1]) (rest := rest) C hd hc hM rfl rfl rfl hR hw hk hf hq hq1 (fun r g hp => by obtain ⟨x, rfl, hp⟩ := hp; exact K x g hp)
theorem aw_S5y (C : Cx p s m args meth c cc nL own D cy z N q) {a1 a2 a3 a4 a5 : Value} {idx fr lo maxL : Nat} {y : MethodName} {bytes : ByteArray} {ret : Option FieldType} {rest : List Value} {P : wS → Prop} (hd : decode cc pc = .ok (.invokestatic idx, 3)) (hc : CS own idx y bytes maxL ret 5) (hM : Ct l y bytes maxL ret fr lo D cy z N q [a1, a2, a3, a4, a5] f (PY P)) (hR : fr + 1 ≤ R.frames ∧ 8 + (maxL + 11) + lo ≤ R.locals) (hw : (rest.map fun v => v.category).sum ≤ 8) (K : ∀ (g : wS), P g → AW p l e R s m args below meth c D N q nL Q g lv (pc + 3) rest) : AW p l e R s m args below meth c D N q nL Q f lv pc (a5 :: a4 :: a3 :: a2 :: a1 :: rest) := aw_callS (As := [a1, a2, a3, a4, a5]) (As0 := [a5, a4, a3, a2, a1]) (rest := rest) C hd hc hM rfl rfl rfl hR hw (fun r g hp => by obtain ⟨rfl, hp⟩ := hp; exact K g hp)
theorem aw_V5y (C : Cx p s m args meth c cc nL own D cy z N q) {a1 a2 a3 a4 a5 : Value} {C0 : String} {idx fr lo maxL k ci : Nat} {y : MethodName} {bytes : ByteArray} {ret : Option FieldType} {rest fs : List Value} {q0 : vw_C} {P : wS → Prop} (hd : decode cc pc = .ok (.invokevirtual idx, 3)) (hc : CV own idx C0 y bytes maxL ret 5) (hk : k < N) (hf : f k = .inr (ci, fs)) (hq : vwCl[ci]? = some q0) (hq1 : q0.1 = C0) (hM : Ct l y bytes maxL ret fr lo D cy z N q (.ref (q k) :: [a1, a2, a3, a4, a5]) f (PY P)) (hR : fr + 1 ≤ R.frames ∧ 8 + (maxL + 11) + lo ≤ R.locals) (hw : (rest.map fun v => v.category).sum ≤ 8) (K : ∀ (g : wS), P g → AW p l e R s m args below meth c D N q nL Q g lv (pc + 3) rest) : AW p l e R s m args below meth c D N q nL Q f lv pc (a5 :: a4 :: a3 :: a2 :: a1 :: .ref (q k) :: rest) := aw_callV (As := [a1, a2, a3, a4, a5]) (As0 := [a5, a4, a3, a2, a1]) (rest := rest) C hd hc hM rfl rfl rfl hR hw hk hf hq hq1 (fun r g hp => by obtain ⟨rfl, hp⟩ := hp; exact K g hp)
theorem aw_S5r (C : Cx p s m args meth c cc nL own D cy z N q) {a1 a2 a3 a4 a5 : Value} {idx fr lo maxL : Nat} {y : MethodName} {bytes : ByteArray} {ret : Option FieldType} {rest : List Value} {b : Nat} {P : wS → Prop} (hd : decode cc pc = .ok (.invokestatic idx, 3)) (hc : CS own idx y bytes maxL ret 5) (hM : Ct l y bytes maxL ret fr lo D cy z N q [a1, a2, a3, a4, a5] f (PR b P)) (hR : fr + 1 ≤ R.frames ∧ 8 + (maxL + 11) + lo ≤ R.locals) (hw : (rest.map fun v => v.category).sum ≤ 8) (K : ∀ (g : wS), P g → AW p l e R s m args below meth c D N q nL Q g lv (pc + 3) (.ref b :: rest)) : AW p l e R s m args below meth c D N q nL Q f lv pc (a5 :: a4 :: a3 :: a2 :: a1 :: rest) := aw_callS (As := [a1, a2, a3, a4, a5]) (As0 := [a5, a4, a3, a2, a1]) (rest := rest) C hd hc hM rfl rfl rfl hR hw (fun r g hp => by obtain ⟨rfl, hp⟩ := hp; exact K g hp)
theorem aw_V5r (C : Cx p s m args meth c cc nL own D cy z N q) {a1 a2 a3 a4 a5 : Value} {C0 : String} {idx fr lo maxL k ci : Nat} {y : MethodName} {bytes : ByteArray} {ret : Option FieldType} {rest fs : List Value} {q0 : vw_C} {b : Nat} {P : wS → Prop} (hd : decode cc pc = .ok (.invokevirtual idx, 3)) (hc : CV own idx C0 y bytes maxL ret 5) (hk : k < N) (hf : f k = .inr (ci, fs)) (hq : vwCl[ci]? = some q0) (hq1 : q0.1 = C0) (hM : Ct l y bytes maxL ret fr lo D cy z N q (.ref (q k) :: [a1, a2, a3, a4, a5]) f (PR b P)) (hR : fr + 1 ≤ R.frames ∧ 8 + (maxL + 11) + lo ≤ R.locals) (hw : (rest.map fun v => v.category).sum ≤ 8) (K : ∀ (g : wS), P g → AW p l e R s m args below meth c D N q nL Q g lv (pc + 3) (.ref b :: rest)) : AW p l e R s m args below meth c D N q nL Q f lv pc (a5 :: a4 :: a3 :: a2 :: a1 :: .ref (q k) :: rest) := aw_callV (As := [a1, a2, a3, a4, a5]) (As0 := [a5, a4, a3, a2, a1]) (rest := rest) C hd hc hM rfl rfl rfl hR hw hk hf hq hq1 (fun r g hp => by obtain ⟨rfl, hp⟩ := hp; exact K g hp)
theorem aw_take (n : Nat) {lv' : List (Nat × Value)} (h : lv.take n = lv') (K : AW p l e R s m args below meth c D N q nL Q f lv' pc st) : AW p l e R s m args below meth c D N q nL Q f lv pc st := aw_lv (fun x hx => List.mem_of_mem_take (by rw [h]; exact hx)) K
theorem aw_lq {lv' : List (Nat × Value)} (h : lv = lv') (K : AW p l e R s m args below meth c D N q nL Q f lv' pc st) : AW p l e R s m args below meth c D N q nL Q f lv pc st := h ▸ K
theorem aw_tin (C : Cx p s m args meth c cc nL own D cy z N q) {dflt lo hi : Int} {offs : Array Int} {len : Nat} {x : Int32} {off v : Int} {tgt : Nat} (hd : decode cc pc = .ok (.tableswitch dflt lo hi offs, len)) (hx : x.toInt = v) (h1 : ¬ v < lo) (h2 : ¬ hi < v) (ho : offs[(v - lo).toNat]? = some off) (ht : (pc : Int) + off = (tgt : Int)) (K : AW p l e R s m args below meth c D N q nL Q f lv tgt st) : AW p l e R s m args below meth c D N q nL Q f lv pc (.int x :: st) := fun H locs ls hP hS hv => lv_tableIn C.1 C.2.1 hd (by rw [hx]; exact h1) (by rw [hx]; exact h2) (by rw [hx]; exact ho) ht (K H locs ls hP hS hv)
theorem aw_tout (C : Cx p s m args meth c cc nL own D cy z N q) {dflt lo hi : Int} {offs : Array Int} {len : Nat} {x : Int32} {tgt : Nat} (hd : decode cc pc = .ok (.tableswitch dflt lo hi offs, len)) (h : x.toInt < lo ∨ hi < x.toInt) (ht : (pc : Int) + dflt = (tgt : Int)) (K : AW p l e R s m args below meth c D N q nL Q f lv tgt st) : AW p l e R s m args below meth c D N q nL Q f lv pc (.int x :: st) := fun H locs ls hP hS hv => lv_tableOut C.1 C.2.1 hd h ht (K H locs ls hP hS hv)
theorem aw_fq {f' : wS} (h : f = f') (K : AW p l e R s m args below meth c D N q nL Q f' lv pc st) : AW p l e R s m args below meth c D N q nL Q f lv pc st := h ▸ K
theorem aw_post {post post2 : Option Value → wS → Prop} (h : ∀ r g, post r g → post2 r g) (K : AW p l e R s m args below meth c D N q nL (MQ below (Qg D N q post (wA N q s.heap.size)) args s 0 0 (wA N q s.heap.size)) f lv pc st) : AW p l e R s m args below meth c D N q nL (MQ below (Qg D N q post2 (wA N q s.heap.size)) args s 0 0 (wA N q s.heap.size)) f lv pc st := fun H locs ls hP hS hv T hT X => by
  obtain ⟨t, a, o, b1, b2, ⟨⟨r, g, e1, e2, e3⟩, b4⟩, b5⟩ := K H locs ls hP hS hv T hT X
  exact ⟨t, a, o, b1, b2, ⟨⟨r, g, e1, h r g e2, e3⟩, b4⟩, b5⟩
end ROWSN
end
section
-- the world of the reference: its object and its eight rows; its numbers are told as natural numbers
def mdC (cy : Nat → ClassId) (q : Nat → Nat) (len span wires chg rsp rwi val ends : Nat) (text : Nat → Nat) (h was rd eyes fw bars ways : Nat → Int32) : wS := fun k => match k with
  | 0 => .inr (9, [.int (nI len), .ref (q 1), .int (nI span), .int (nI wires), .ref (q 2), .ref (q 3), .int (nI chg), .int (nI rsp), .int (nI rwi), .ref (q 4), .int (nI val), .int (nI ends), .ref (q 5), .ref (q 6), .ref (q 7), .ref (q 8)])
  | 1 => .inl (cy 1, 200, .inl (fun j => nI (text j)))
  | 2 => .inl (cy 1, 45, .inl h)
  | 3 => .inl (cy 1, 270, .inl was)
  | 4 => .inl (cy 1, 45, .inl rd)
  | 5 => .inl (cy 1, 10, .inl eyes)
  | 6 => .inl (cy 1, 25, .inl fw)
  | 7 => .inl (cy 1, 8, .inl bars)
  | 8 => .inl (cy 1, 256, .inl ways)
  | _ => .inr (0, [])
section MDC
variable {cy : Nat → ClassId} {q : Nat → Nat} {len span wires chg rsp rwi val ends v : Nat} {text gt : Nat → Nat} {h was rd eyes fw bars ways g : Nat → Int32}
theorem md_p_len : va_up (mdC cy q len span wires chg rsp rwi val ends text h was rd eyes fw bars ways) 0 (.inr (9, List.set [.int (nI len), .ref (q 1), .int (nI span), .int (nI wires), .ref (q 2), .ref (q 3), .int (nI chg), .int (nI rsp), .int (nI rwi), .ref (q 4), .int (nI val), .int (nI ends), .ref (q 5), .ref (q 6), .ref (q 7), .ref (q 8)] 0 (.int (nI v)))) = mdC cy q v span wires chg rsp rwi val ends text h was rd eyes fw bars ways := funext fun k => by
  match k with
  | 0 => rfl
  | 1 => rfl
  | 2 => rfl
  | 3 => rfl
  | 4 => rfl
  | 5 => rfl
  | 6 => rfl
  | 7 => rfl
  | 8 => rfl
  | k + 9 => simp [va_up, mdC]
theorem md_p_span : va_up (mdC cy q len span wires chg rsp rwi val ends text h was rd eyes fw bars ways) 0 (.inr (9, List.set [.int (nI len), .ref (q 1), .int (nI span), .int (nI wires), .ref (q 2), .ref (q 3), .int (nI chg), .int (nI rsp), .int (nI rwi), .ref (q 4), .int (nI val), .int (nI ends), .ref (q 5), .ref (q 6), .ref (q 7), .ref (q 8)] 2 (.int (nI v)))) = mdC cy q len v wires chg rsp rwi val ends text h was rd eyes fw bars ways := funext fun k => by
  match k with
  | 0 => rfl
  | 1 => rfl
  | 2 => rfl
  | 3 => rfl
  | 4 => rfl
  | 5 => rfl
  | 6 => rfl
  | 7 => rfl
  | 8 => rfl
  | k + 9 => simp [va_up, mdC]
theorem md_p_wires : va_up (mdC cy q len span wires chg rsp rwi val ends text h was rd eyes fw bars ways) 0 (.inr (9, List.set [.int (nI len), .ref (q 1), .int (nI span), .int (nI wires), .ref (q 2), .ref (q 3), .int (nI chg), .int (nI rsp), .int (nI rwi), .ref (q 4), .int (nI val), .int (nI ends), .ref (q 5), .ref (q 6), .ref (q 7), .ref (q 8)] 3 (.int (nI v)))) = mdC cy q len span v chg rsp rwi val ends text h was rd eyes fw bars ways := funext fun k => by
  match k with
  | 0 => rfl
  | 1 => rfl
  | 2 => rfl
  | 3 => rfl
  | 4 => rfl
  | 5 => rfl
  | 6 => rfl
  | 7 => rfl
  | 8 => rfl
  | k + 9 => simp [va_up, mdC]
theorem md_p_chg : va_up (mdC cy q len span wires chg rsp rwi val ends text h was rd eyes fw bars ways) 0 (.inr (9, List.set [.int (nI len), .ref (q 1), .int (nI span), .int (nI wires), .ref (q 2), .ref (q 3), .int (nI chg), .int (nI rsp), .int (nI rwi), .ref (q 4), .int (nI val), .int (nI ends), .ref (q 5), .ref (q 6), .ref (q 7), .ref (q 8)] 6 (.int (nI v)))) = mdC cy q len span wires v rsp rwi val ends text h was rd eyes fw bars ways := funext fun k => by
  match k with
  | 0 => rfl
  | 1 => rfl
  | 2 => rfl
  | 3 => rfl
  | 4 => rfl
  | 5 => rfl
  | 6 => rfl
  | 7 => rfl
  | 8 => rfl
  | k + 9 => simp [va_up, mdC]
theorem md_p_rsp : va_up (mdC cy q len span wires chg rsp rwi val ends text h was rd eyes fw bars ways) 0 (.inr (9, List.set [.int (nI len), .ref (q 1), .int (nI span), .int (nI wires), .ref (q 2), .ref (q 3), .int (nI chg), .int (nI rsp), .int (nI rwi), .ref (q 4), .int (nI val), .int (nI ends), .ref (q 5), .ref (q 6), .ref (q 7), .ref (q 8)] 7 (.int (nI v)))) = mdC cy q len span wires chg v rwi val ends text h was rd eyes fw bars ways := funext fun k => by
  match k with
  | 0 => rfl
  | 1 => rfl
  | 2 => rfl
  | 3 => rfl
  | 4 => rfl
  | 5 => rfl
  | 6 => rfl
  | 7 => rfl
  | 8 => rfl
  | k + 9 => simp [va_up, mdC]
theorem md_p_rwi : va_up (mdC cy q len span wires chg rsp rwi val ends text h was rd eyes fw bars ways) 0 (.inr (9, List.set [.int (nI len), .ref (q 1), .int (nI span), .int (nI wires), .ref (q 2), .ref (q 3), .int (nI chg), .int (nI rsp), .int (nI rwi), .ref (q 4), .int (nI val), .int (nI ends), .ref (q 5), .ref (q 6), .ref (q 7), .ref (q 8)] 8 (.int (nI v)))) = mdC cy q len span wires chg rsp v val ends text h was rd eyes fw bars ways := funext fun k => by
  match k with
  | 0 => rfl
  | 1 => rfl
  | 2 => rfl
  | 3 => rfl
  | 4 => rfl
  | 5 => rfl
  | 6 => rfl
  | 7 => rfl
  | 8 => rfl
  | k + 9 => simp [va_up, mdC]
theorem md_p_val : va_up (mdC cy q len span wires chg rsp rwi val ends text h was rd eyes fw bars ways) 0 (.inr (9, List.set [.int (nI len), .ref (q 1), .int (nI span), .int (nI wires), .ref (q 2), .ref (q 3), .int (nI chg), .int (nI rsp), .int (nI rwi), .ref (q 4), .int (nI val), .int (nI ends), .ref (q 5), .ref (q 6), .ref (q 7), .ref (q 8)] 10 (.int (nI v)))) = mdC cy q len span wires chg rsp rwi v ends text h was rd eyes fw bars ways := funext fun k => by
  match k with
  | 0 => rfl
  | 1 => rfl
  | 2 => rfl
  | 3 => rfl
  | 4 => rfl
  | 5 => rfl
  | 6 => rfl
  | 7 => rfl
  | 8 => rfl
  | k + 9 => simp [va_up, mdC]
theorem md_p_ends : va_up (mdC cy q len span wires chg rsp rwi val ends text h was rd eyes fw bars ways) 0 (.inr (9, List.set [.int (nI len), .ref (q 1), .int (nI span), .int (nI wires), .ref (q 2), .ref (q 3), .int (nI chg), .int (nI rsp), .int (nI rwi), .ref (q 4), .int (nI val), .int (nI ends), .ref (q 5), .ref (q 6), .ref (q 7), .ref (q 8)] 11 (.int (nI v)))) = mdC cy q len span wires chg rsp rwi val v text h was rd eyes fw bars ways := funext fun k => by
  match k with
  | 0 => rfl
  | 1 => rfl
  | 2 => rfl
  | 3 => rfl
  | 4 => rfl
  | 5 => rfl
  | 6 => rfl
  | 7 => rfl
  | 8 => rfl
  | k + 9 => simp [va_up, mdC]
theorem md_a_text {n c : Nat} : va_up (mdC cy q len span wires chg rsp rwi val ends text h was rd eyes fw bars ways) 1 (.inl (cy 1, 200, .inl (upd (fun j => nI (text j)) n (nI c)))) = mdC cy q len span wires chg rsp rwi val ends (va_up text n c) h was rd eyes fw bars ways := by
  have e : upd (fun j => nI (text j)) n (nI c) = fun j => nI (va_up text n c j) := by funext j; unfold upd va_up; split <;> rfl
  rw [e]
  exact funext fun k => by
    match k with
    | 0 => rfl
    | 1 => rfl
    | 2 => rfl
    | 3 => rfl
    | 4 => rfl
    | 5 => rfl
    | 6 => rfl
    | 7 => rfl
    | 8 => rfl
    | k + 9 => simp [va_up, mdC]
theorem md_a_h : va_up (mdC cy q len span wires chg rsp rwi val ends text h was rd eyes fw bars ways) 2 (.inl (cy 1, 45, .inl g)) = mdC cy q len span wires chg rsp rwi val ends text g was rd eyes fw bars ways := funext fun k => by
  match k with
  | 0 => rfl
  | 1 => rfl
  | 2 => rfl
  | 3 => rfl
  | 4 => rfl
  | 5 => rfl
  | 6 => rfl
  | 7 => rfl
  | 8 => rfl
  | k + 9 => simp [va_up, mdC]
theorem md_a_was : va_up (mdC cy q len span wires chg rsp rwi val ends text h was rd eyes fw bars ways) 3 (.inl (cy 1, 270, .inl g)) = mdC cy q len span wires chg rsp rwi val ends text h g rd eyes fw bars ways := funext fun k => by
  match k with
  | 0 => rfl
  | 1 => rfl
  | 2 => rfl
  | 3 => rfl
  | 4 => rfl
  | 5 => rfl
  | 6 => rfl
  | 7 => rfl
  | 8 => rfl
  | k + 9 => simp [va_up, mdC]
theorem md_a_rd : va_up (mdC cy q len span wires chg rsp rwi val ends text h was rd eyes fw bars ways) 4 (.inl (cy 1, 45, .inl g)) = mdC cy q len span wires chg rsp rwi val ends text h was g eyes fw bars ways := funext fun k => by
  match k with
  | 0 => rfl
  | 1 => rfl
  | 2 => rfl
  | 3 => rfl
  | 4 => rfl
  | 5 => rfl
  | 6 => rfl
  | 7 => rfl
  | 8 => rfl
  | k + 9 => simp [va_up, mdC]
theorem md_a_eyes : va_up (mdC cy q len span wires chg rsp rwi val ends text h was rd eyes fw bars ways) 5 (.inl (cy 1, 10, .inl g)) = mdC cy q len span wires chg rsp rwi val ends text h was rd g fw bars ways := funext fun k => by
  match k with
  | 0 => rfl
  | 1 => rfl
  | 2 => rfl
  | 3 => rfl
  | 4 => rfl
  | 5 => rfl
  | 6 => rfl
  | 7 => rfl
  | 8 => rfl
  | k + 9 => simp [va_up, mdC]
theorem md_a_fw : va_up (mdC cy q len span wires chg rsp rwi val ends text h was rd eyes fw bars ways) 6 (.inl (cy 1, 25, .inl g)) = mdC cy q len span wires chg rsp rwi val ends text h was rd eyes g bars ways := funext fun k => by
  match k with
  | 0 => rfl
  | 1 => rfl
  | 2 => rfl
  | 3 => rfl
  | 4 => rfl
  | 5 => rfl
  | 6 => rfl
  | 7 => rfl
  | 8 => rfl
  | k + 9 => simp [va_up, mdC]
theorem md_a_bars : va_up (mdC cy q len span wires chg rsp rwi val ends text h was rd eyes fw bars ways) 7 (.inl (cy 1, 8, .inl g)) = mdC cy q len span wires chg rsp rwi val ends text h was rd eyes fw g ways := funext fun k => by
  match k with
  | 0 => rfl
  | 1 => rfl
  | 2 => rfl
  | 3 => rfl
  | 4 => rfl
  | 5 => rfl
  | 6 => rfl
  | 7 => rfl
  | 8 => rfl
  | k + 9 => simp [va_up, mdC]
theorem md_a_ways : va_up (mdC cy q len span wires chg rsp rwi val ends text h was rd eyes fw bars ways) 8 (.inl (cy 1, 256, .inl g)) = mdC cy q len span wires chg rsp rwi val ends text h was rd eyes fw bars g := funext fun k => by
  match k with
  | 0 => rfl
  | 1 => rfl
  | 2 => rfl
  | 3 => rfl
  | 4 => rfl
  | 5 => rfl
  | 6 => rfl
  | 7 => rfl
  | 8 => rfl
  | k + 9 => simp [va_up, mdC]
end MDC
end
section
-- what is asked, as plain functions: of a row h of 45 numbers (8 wires of 5, three limits, shift, bonded), a span S
def inB (v lo hi : Int32) : Bool := decide (lo ≤ v) && decide (v ≤ hi)
def dst (a b : Int32) : Int32 := if a < b then b - a else a - b
theorem i_nle {a b : Int32} (h : a < b) : ¬ b ≤ a := by rw [Int32.le_iff_toInt_le]; rw [Int32.lt_iff_toInt_lt] at h; omega
theorem i_nlt {a b : Int32} (h : b ≤ a) : ¬ a < b := by rw [Int32.lt_iff_toInt_lt]; rw [Int32.le_iff_toInt_le] at h; omega
theorem i_lt {a b : Int32} (h : ¬ b ≤ a) : a < b := by rw [Int32.lt_iff_toInt_lt]; rw [Int32.le_iff_toInt_le] at h; omega
theorem i_le {a b : Int32} (h : ¬ a < b) : b ≤ a := by rw [Int32.le_iff_toInt_le]; rw [Int32.lt_iff_toInt_lt] at h; omega
theorem inB_t {v lo hi : Int32} (h1 : lo ≤ v) (h2 : v ≤ hi) : inB v lo hi = true := by simp [inB, h1, h2]
theorem inB_f1 {v lo hi : Int32} (h1 : v < lo) : inB v lo hi = false := by simp [inB, i_nle h1]
theorem inB_f2 {v lo hi : Int32} (h1 : hi < v) : inB v lo hi = false := by simp [inB, i_nle h1]
theorem inB_iff {v lo hi : Int32} : inB v lo hi = true ↔ lo ≤ v ∧ v ≤ hi := by simp [inB]
/-- how many, whether one, the first one below n -/
def cntB (p : Nat → Bool) : Nat → Nat
  | 0 => 0
  | n + 1 => cntB p n + (if p n then 1 else 0)
def anyB (p : Nat → Bool) : Nat → Bool
  | 0 => false
  | n + 1 => anyB p n || p n
def fstB (p : Nat → Bool) : Nat → Option Nat
  | 0 => none
  | n + 1 => match fstB p n with
    | some k => some k
    | none => if p n then some n else none
def accI (x : Int32) (g : Nat → Int32) : Nat → Int32
  | 0 => x
  | n + 1 => accI x g n + g n
theorem cntB_le (p : Nat → Bool) : ∀ n, cntB p n ≤ n
  | 0 => Nat.le_refl 0
  | n + 1 => by have := cntB_le p n; unfold cntB; split <;> omega
theorem cntB_t {p : Nat → Bool} {n : Nat} (h : p n = true) : cntB p (n + 1) = cntB p n + 1 := by
  show cntB p n + (if p n then 1 else 0) = _
  rw [h]
  rfl
theorem cntB_n {p : Nat → Bool} {n : Nat} (h : p n = false) : cntB p (n + 1) = cntB p n := by
  show cntB p n + (if p n then 1 else 0) = _
  rw [h]
  rfl
theorem anyB_f {p : Nat → Bool} : ∀ {n : Nat}, anyB p n = false ↔ ∀ k, k < n → p k = false
  | 0 => ⟨fun _ k hk => absurd hk (Nat.not_lt_zero k), fun _ => rfl⟩
  | n + 1 => by
    unfold anyB
    rw [Bool.or_eq_false_iff, anyB_f]
    refine ⟨fun h k hk => ?_, fun h => ⟨fun k hk => h k (by omega), h n (by omega)⟩⟩
    rcases Nat.lt_or_ge k n with g | g
    · exact h.1 k g
    · rw [show k = n by omega]; exact h.2
theorem anyB_t {p : Nat → Bool} {n : Nat} : anyB p n = true ↔ ∃ k, k < n ∧ p k = true := by
  cases hb : anyB p n with
  | true =>
    refine ⟨fun _ => ?_, fun _ => rfl⟩
    refine Classical.byContradiction fun hc => ?_
    have : anyB p n = false := anyB_f.mpr fun k hk => by
      cases hp : p k with
      | false => rfl
      | true => exact absurd ⟨k, hk, hp⟩ hc
    rw [hb] at this
    cases this
  | false =>
    refine ⟨fun h => (by cases h), fun ⟨k, hk, hp⟩ => ?_⟩
    rw [anyB_f.mp hb k hk] at hp
    cases hp
theorem fstB_none {p : Nat → Bool} : ∀ {n : Nat}, (∀ k, k < n → p k = false) → fstB p n = none
  | 0, _ => rfl
  | n + 1, h => by unfold fstB; rw [fstB_none (fun k hk => h k (by omega))]; simp [h n (by omega)]
theorem fstB_keep {p : Nat → Bool} {k : Nat} : ∀ (d n : Nat), fstB p n = some k → fstB p (n + d) = some k
  | 0, _, h => h
  | d + 1, n, h => by
    show fstB p (n + d + 1) = some k
    unfold fstB
    rw [fstB_keep d n h]
theorem fstB_at {p : Nat → Bool} {k n : Nat} (hk : k < n) (hb : ∀ j, j < k → p j = false) (hp : p k = true) : fstB p n = some k := by
  have h1 : fstB p (k + 1) = some k := by unfold fstB; rw [fstB_none hb]; simp [hp]
  have := fstB_keep (n - (k + 1)) (k + 1) h1
  rwa [show k + 1 + (n - (k + 1)) = n by omega] at this
/-- PLACE, HEIGHT -/
def plc (h : Nat → Int32) (S i y : Nat) : Int32 := (h (5 * i) + h 43) * nI (S - y) + h (5 * i + 2) * nI y
def hg (base shape peak : Int32) (S y : Nat) : Int32 := if y = 0 then base else if y = S then nI 0 else if shape = 0 then base + peak else if shape = nI 1 then base * nI (S - y) / nI S + nI 4 * peak * nI y * nI (S - y) / nI (S * S) else if y < S / 4 then base + peak * nI y / nI (S / 4) else (base + peak) * nI (S - y) / nI (S - S / 4)
def hgt (h : Nat → Int32) (S i y : Nat) : Int32 := hg (nI 10 * h (5 * i + 1)) (h (5 * i + 3)) (h (5 * i + 4)) S y
/-- LONG -/
def lng (h : Nat → Int32) (S i : Nat) : Int32 := accI (nI S + dst (plc h S i 0) (plc h S i S) / nI S) (fun y => dst (hgt h S i y) (hgt h S i (y + 1))) S
/-- the lowest row below n + 1 of the greatest height -/
def topR (h : Nat → Int32) (S i : Nat) : Nat → Nat
  | 0 => 0
  | n + 1 => if hgt h S i (topR h S i n) < hgt h S i (n + 1) then n + 1 else topR h S i n
theorem topR_le (h : Nat → Int32) (S i : Nat) : ∀ n, topR h S i n ≤ n
  | 0 => Nat.le_refl 0
  | n + 1 => by have := topR_le h S i n; unfold topR; split <;> omega
/-- NEAR at a row; CROSS; IN THE WAY (k of i, at the end e) -/
def nrA (h : Nat → Int32) (S i k y : Nat) : Bool := decide (dst (plc h S i y) (plc h S k y) < h 40 * nI S) && decide (dst (hgt h S i y) (hgt h S k y) < h 41)
def crs (h : Nat → Int32) (S i k : Nat) : Bool := (decide (plc h S i 0 - plc h S k 0 < 0) && decide (0 < plc h S i S - plc h S k S)) || (decide (0 < plc h S i 0 - plc h S k 0) && decide (plc h S i S - plc h S k S < 0))
def ovr (h : Nat → Int32) (S i k e y : Nat) : Bool := decide (0 ≤ hgt h S k y - hgt h S i e) && (decide (nI 2 * dst (nI y) (nI e) < nI 2 * h 42 + (hgt h S k y - hgt h S i e)) && decide (nI 2 * dst (plc h S k y) (plc h S i e) < nI S * (nI 2 * h 42 + (hgt h S k y - hgt h S i e))))
def wayA (h : Nat → Int32) (S i k e : Nat) : Bool := anyB (ovr h S i k e) (S + 1)
def way (h : Nat → Int32) (S i k : Nat) : Bool := wayA h S i k 0 || wayA h S i k S
def nrC (h : Nat → Int32) (S i k : Nat) : Nat := cntB (nrA h S i k) (S + 1)
def nrF (h : Nat → Int32) (S i k : Nat) : Int32 := match fstB (nrA h S i k) (S + 1) with
  | some y => nI y
  | none => -4
/-- bit k of a set; how many; whether one of a set, other than i, is in the way of i -/
def bt (x : Int32) (k : Nat) : Int32 := (x >>> (nI k &&& 31)) &&& nI 1
def bitsI (x : Int32) : Int32 := accI (nI 0) (bt x) 19
def barP (h : Nat → Int32) (S i : Nat) (x : Int32) (k : Nat) : Bool := decide (k ≠ i) && (decide (bt x k = nI 1) && way h S i k)
def barB (h : Nat → Int32) (S n i : Nat) (x : Int32) : Bool := anyB (barP h S i x) n
end
section
-- the reference: places, heights, who is near, who is in the way
set_option maxRecDepth 20000 in
/-- isIn -/
theorem cm_isIn {l : Launch} {D : va_G} {cy : Nat → ClassId} {z : Nat → Nat} {q : Nat → Nat} {N : Nat} (hI : wI N q) {f : wS} {v lo hi : Int32} : Ct l yX9_isIn cX9_isIn 3 (some .boolean) 0 0 D cy z N q [.int v, .int lo, .int hi] f (PI (bi (inB v lo hi)) f) := by
  refine Ct.of (own := RX9) (by decide) rfl hI (Nat.le_of_ble_eq_true rfl) ?_
  intro p e s m args below meth c C hr
  refine aw_lv (lv' := [(0, .int v), (1, .int lo), (2, .int hi)]) (fun x hx => hx) ?_
  refine aw_iload_n C dX9_isIn_0 (i := 0) rfl rfl ?_
  refine aw_iload_n C dX9_isIn_1 (i := 1) rfl rfl ?_
  refine aw_icmp_lt (tgt := 14) C dX9_isIn_2 (by decide) (fun h2 => ?_) (fun h2 => ?_)
  · refine aw_iconst C dX9_isIn_14 ki_0 ?_
    refine aw_zret C hr dX9_isIn_15 (by decide) ?_
    refine PI.mk (bi_g ?_) rfl
    unfold inB
    simp only [Bool.and_eq_true, Bool.or_eq_true, decide_eq_true_eq, Int32.le_iff_toInt_le, Int32.lt_iff_toInt_lt] at h2 ⊢
    omega
  · refine aw_iload_n C dX9_isIn_5 (i := 0) rfl rfl ?_
    refine aw_iload_n C dX9_isIn_6 (i := 2) rfl rfl ?_
    refine aw_icmp_gt (tgt := 14) C dX9_isIn_7 (by decide) (fun h7 => ?_) (fun h7 => ?_)
    · refine aw_iconst C dX9_isIn_14 ki_0 ?_
      refine aw_zret C hr dX9_isIn_15 (by decide) ?_
      refine PI.mk (bi_g ?_) rfl
      unfold inB
      simp only [Bool.and_eq_true, Bool.or_eq_true, decide_eq_true_eq, Int32.le_iff_toInt_le, Int32.lt_iff_toInt_lt] at h2 h7 ⊢
      omega
    · refine aw_iconst C dX9_isIn_10 ki_1 ?_
      refine aw_goto (tgt := 15) C dX9_isIn_11 (by decide) ?_
      refine aw_zret C hr dX9_isIn_15 (by decide) ?_
      refine PI.mk (bi_t ?_) rfl
      unfold inB
      simp only [Bool.and_eq_true, Bool.or_eq_true, decide_eq_true_eq, Int32.le_iff_toInt_le, Int32.lt_iff_toInt_lt] at h2 h7 ⊢
      omega
set_option maxRecDepth 20000 in
/-- distance -/
theorem cm_distance {l : Launch} {D : va_G} {cy : Nat → ClassId} {z : Nat → Nat} {q : Nat → Nat} {N : Nat} (hI : wI N q) {f : wS} {a b : Int32} : Ct l yX9_distance cX9_distance 2 (some .int) 0 0 D cy z N q [.int a, .int b] f (PI (dst a b) f) := by
  refine Ct.of (own := RX9) (by decide) rfl hI (Nat.le_of_ble_eq_true rfl) ?_
  intro p e s m args below meth c C hr
  refine aw_lv (lv' := [(0, .int a), (1, .int b)]) (fun x hx => hx) ?_
  refine aw_iload_n C dX9_distance_0 (i := 0) rfl rfl ?_
  refine aw_iload_n C dX9_distance_1 (i := 1) rfl rfl ?_
  refine aw_icmp_ge (tgt := 11) C dX9_distance_2 (by decide) (fun h2 => ?_) (fun h2 => ?_)
  · refine aw_iload_n C dX9_distance_11 (i := 0) rfl rfl ?_
    refine aw_iload_n C dX9_distance_12 (i := 1) rfl rfl ?_
    refine aw_isub C dX9_distance_13 ?_
    refine aw_iret C hr dX9_distance_14 ?_
    first | exact PI.mk (if_neg (i_nlt h2)).symm rfl | exact PI.mk (if_pos (i_lt h2)).symm rfl
  · refine aw_iload_n C dX9_distance_5 (i := 1) rfl rfl ?_
    refine aw_iload_n C dX9_distance_6 (i := 0) rfl rfl ?_
    refine aw_isub C dX9_distance_7 ?_
    refine aw_goto (tgt := 14) C dX9_distance_8 (by decide) ?_
    refine aw_iret C hr dX9_distance_14 ?_
    first | exact PI.mk (if_neg (i_nlt h2)).symm rfl | exact PI.mk (if_pos (i_lt h2)).symm rfl
set_option maxRecDepth 20000 in
/-- isWire -/
theorem cm_isWire {l : Launch} {D : va_G} {cy : Nat → ClassId} {z : Nat → Nat} {q : Nat → Nat} (hI : wI 9 q) {len span wires chg rsp rwi val ends : Nat} {text : Nat → Nat} {h was rd eyes fw bars ways : Nat → Int32} {i : Int32} : Ct l yX9_isWire cX9_isWire 2 (some .boolean) 1 22 D cy z 9 q [.ref (q 0), .int i] (mdC cy q len span wires chg rsp rwi val ends text h was rd eyes fw bars ways) (PI (bi (inB i (nI 0) (nI wires - nI 1))) (mdC cy q len span wires chg rsp rwi val ends text h was rd eyes fw bars ways)) := by
  refine Ct.of (own := RX9) (by decide) rfl hI (Nat.le_of_ble_eq_true rfl) ?_
  intro p e s m args below meth c C hr
  refine aw_lv (lv' := [(0, .ref (q 0)), (1, .int i)]) (fun x hx => hx) ?_
  refine aw_iload_n C dX9_isWire_0 (i := 1) rfl rfl ?_
  refine aw_iconst C dX9_isWire_1 ki_0 ?_
  refine aw_aload_n C dX9_isWire_2 (i := 0) rfl rfl ?_
  refine aw_get (k := 0) C dX9_isWire_3 fl_X9_38 (by decide) rfl rfl ?_
  refine aw_iconst C dX9_isWire_6 ki_1 ?_
  refine aw_isub C dX9_isWire_7 ?_
  refine aw_S3i C dX9_isWire_8 cs_X9_54 (cm_isIn hI) ⟨Nat.le_of_ble_eq_true rfl, Nat.le_of_ble_eq_true rfl⟩ (Nat.le_of_ble_eq_true rfl) ?_
  refine aw_zret C hr dX9_isWire_11 (bi_nar) ?_
  exact PI.mk rfl rfl
set_option maxRecDepth 20000 in
/-- placeOf -/
theorem cm_placeOf {l : Launch} {D : va_G} {cy : Nat → ClassId} {z : Nat → Nat} {q : Nat → Nat} (hI : wI 9 q) {len span wires chg rsp rwi val ends : Nat} {text : Nat → Nat} {h was rd eyes fw bars ways : Nat → Int32} {i y : Nat} (hi : i < 8) (hy : y ≤ span) : Ct l yX9_placeOf cX9_placeOf 3 (some .int) 0 0 D cy z 9 q [.ref (q 0), .int (nI i), .int (nI y)] (mdC cy q len span wires chg rsp rwi val ends text h was rd eyes fw bars ways) (PI (plc h span i y) (mdC cy q len span wires chg rsp rwi val ends text h was rd eyes fw bars ways)) := by
  refine Ct.of (own := RX9) (by decide) rfl hI (Nat.le_of_ble_eq_true rfl) ?_
  intro p e s m args below meth c C hr
  refine aw_lv (lv' := [(0, .ref (q 0)), (1, .int (nI i)), (2, .int (nI y))]) (fun x hx => hx) ?_
  refine aw_aload_n C dX9_placeOf_0 (i := 0) rfl rfl ?_
  refine aw_get (k := 0) C dX9_placeOf_1 fl_X9_13 (by decide) rfl rfl ?_
  refine aw_iconst C dX9_placeOf_4 ki_5 ?_
  refine aw_iload_n C dX9_placeOf_5 (i := 1) rfl rfl ?_
  refine aw_imul_n C dX9_placeOf_6 ?_
  refine aw_iald (k := 2) C dX9_placeOf_7 (by decide) (rfl) (rfl) (by omega) (by decide) (rfl) ?_
  refine aw_aload_n C dX9_placeOf_8 (i := 0) rfl rfl ?_
  refine aw_get (k := 0) C dX9_placeOf_9 fl_X9_13 (by decide) rfl rfl ?_
  refine aw_bipush C dX9_placeOf_12 kb_43 ?_
  refine aw_iald (k := 2) C dX9_placeOf_14 (by decide) (rfl) (rfl) (by omega) (by decide) (rfl) ?_
  refine aw_iadd C dX9_placeOf_15 ?_
  refine aw_aload_n C dX9_placeOf_16 (i := 0) rfl rfl ?_
  refine aw_get (k := 0) C dX9_placeOf_17 fl_X9_34 (by decide) rfl rfl ?_
  refine aw_iload_n C dX9_placeOf_20 (i := 2) rfl rfl ?_
  refine aw_isub_n C dX9_placeOf_21 (by omega) ?_
  refine aw_imul C dX9_placeOf_22 ?_
  refine aw_aload_n C dX9_placeOf_23 (i := 0) rfl rfl ?_
  refine aw_get (k := 0) C dX9_placeOf_24 fl_X9_13 (by decide) rfl rfl ?_
  refine aw_iconst C dX9_placeOf_27 ki_5 ?_
  refine aw_iload_n C dX9_placeOf_28 (i := 1) rfl rfl ?_
  refine aw_imul_n C dX9_placeOf_29 ?_
  refine aw_iconst C dX9_placeOf_30 ki_2 ?_
  refine aw_iadd_n C dX9_placeOf_31 ?_
  refine aw_iald (k := 2) C dX9_placeOf_32 (by decide) (rfl) (rfl) (by omega) (by decide) (rfl) ?_
  refine aw_iload_n C dX9_placeOf_33 (i := 2) rfl rfl ?_
  refine aw_imul C dX9_placeOf_34 ?_
  refine aw_iadd C dX9_placeOf_35 ?_
  refine aw_iret C hr dX9_placeOf_36 ?_
  exact PI.mk rfl rfl
set_option maxRecDepth 20000 in
/-- heightOf -/
theorem cm_heightOf {l : Launch} {D : va_G} {cy : Nat → ClassId} {z : Nat → Nat} {q : Nat → Nat} (hI : wI 9 q) {len span wires chg rsp rwi val ends : Nat} {text : Nat → Nat} {h was rd eyes fw bars ways : Nat → Int32} {i y : Nat} (hi : i < 8) (hy : y ≤ span) (hs : 8 ≤ span) (hs2 : span ≤ 40) : Ct l yX9_heightOf cX9_heightOf 6 (some .int) 0 0 D cy z 9 q [.ref (q 0), .int (nI i), .int (nI y)] (mdC cy q len span wires chg rsp rwi val ends text h was rd eyes fw bars ways) (PI (hgt h span i y) (mdC cy q len span wires chg rsp rwi val ends text h was rd eyes fw bars ways)) := by
  refine Ct.of (own := RX9) (by decide) rfl hI (Nat.le_of_ble_eq_true rfl) ?_
  intro p e s m args below meth c C hr
  refine aw_lv (lv' := [(0, .ref (q 0)), (1, .int (nI i)), (2, .int (nI y))]) (fun x hx => hx) ?_
  refine aw_bipush C dX9_heightOf_0 kb_10 ?_
  refine aw_aload_n C dX9_heightOf_2 (i := 0) rfl rfl ?_
  refine aw_get (k := 0) C dX9_heightOf_3 fl_X9_13 (by decide) rfl rfl ?_
  refine aw_iconst C dX9_heightOf_6 ki_5 ?_
  refine aw_iload_n C dX9_heightOf_7 (i := 1) rfl rfl ?_
  refine aw_imul_n C dX9_heightOf_8 ?_
  refine aw_iconst C dX9_heightOf_9 ki_1 ?_
  refine aw_iadd_n C dX9_heightOf_10 ?_
  refine aw_iald (k := 2) C dX9_heightOf_11 (by decide) (rfl) (rfl) (by omega) (by decide) (rfl) ?_
  refine aw_imul C dX9_heightOf_12 ?_
  refine aw_istore_n (lv' := [(0, _), (1, _), (2, _), (3, _)]) C dX9_heightOf_13 (i := 3) rfl (Nat.le_of_ble_eq_true rfl) rfl ?_
  refine aw_aload_n C dX9_heightOf_14 (i := 0) rfl rfl ?_
  refine aw_get (k := 0) C dX9_heightOf_15 fl_X9_13 (by decide) rfl rfl ?_
  refine aw_iconst C dX9_heightOf_18 ki_5 ?_
  refine aw_iload_n C dX9_heightOf_19 (i := 1) rfl rfl ?_
  refine aw_imul_n C dX9_heightOf_20 ?_
  refine aw_iconst C dX9_heightOf_21 ki_4 ?_
  refine aw_iadd_n C dX9_heightOf_22 ?_
  refine aw_iald (k := 2) C dX9_heightOf_23 (by decide) (rfl) (rfl) (by omega) (by decide) (rfl) ?_
  refine aw_istore (lv' := [(0, _), (1, _), (2, _), (3, _), (4, _)]) C dX9_heightOf_24 (Nat.le_of_ble_eq_true rfl) rfl ?_
  refine aw_iload_n C dX9_heightOf_26 (i := 2) rfl rfl ?_
  refine aw_if_eq_n (tgt := 38) C dX9_heightOf_27 (by decide) (by omega) (fun h27 => ?_) (fun h27 => ?_)
  · refine aw_iload_n C dX9_heightOf_38 (i := 2) rfl rfl ?_
    refine aw_if_ne_n (tgt := 46) C dX9_heightOf_39 (by decide) (by omega) (fun h39 => ?_) (fun h39 => ?_)
    · refine aw_iconst C dX9_heightOf_46 ki_0 ?_
      refine aw_iret C hr dX9_heightOf_47 ?_
      refine PI.mk ?_ rfl
      unfold hgt hg
      first | (rw [if_pos h27]; done) | (rw [if_neg (Nat.ne_of_gt h27), if_pos h35]; done) | (exfalso; omega)
    · refine aw_iload_n C dX9_heightOf_42 (i := 3) rfl rfl ?_
      refine aw_goto (tgt := 47) C dX9_heightOf_43 (by decide) ?_
      refine aw_iret C hr dX9_heightOf_47 ?_
      refine PI.mk ?_ rfl
      unfold hgt hg
      first | (rw [if_pos h27]; done) | (rw [if_neg (Nat.ne_of_gt h27), if_pos h35]; done) | (exfalso; omega)
  · refine aw_iload_n C dX9_heightOf_30 (i := 2) rfl rfl ?_
    refine aw_aload_n C dX9_heightOf_31 (i := 0) rfl rfl ?_
    refine aw_get (k := 0) C dX9_heightOf_32 fl_X9_34 (by decide) rfl rfl ?_
    refine aw_icmp_ne_n (tgt := 48) C dX9_heightOf_35 (by decide) (by omega) (by omega) (fun h35 => ?_) (fun h35 => ?_)
    · refine aw_aload_n C dX9_heightOf_48 (i := 0) rfl rfl ?_
      refine aw_get (k := 0) C dX9_heightOf_49 fl_X9_13 (by decide) rfl rfl ?_
      refine aw_iconst C dX9_heightOf_52 ki_5 ?_
      refine aw_iload_n C dX9_heightOf_53 (i := 1) rfl rfl ?_
      refine aw_imul_n C dX9_heightOf_54 ?_
      refine aw_iconst C dX9_heightOf_55 ki_3 ?_
      refine aw_iadd_n C dX9_heightOf_56 ?_
      refine aw_iald (k := 2) C dX9_heightOf_57 (by decide) (rfl) (rfl) (by omega) (by decide) (rfl) ?_
      refine aw_if_ne (tgt := 66) C dX9_heightOf_58 (by decide) (fun h58 => ?_) (fun h58 => ?_)
      · refine aw_aload_n C dX9_heightOf_66 (i := 0) rfl rfl ?_
        refine aw_get (k := 0) C dX9_heightOf_67 fl_X9_13 (by decide) rfl rfl ?_
        refine aw_iconst C dX9_heightOf_70 ki_5 ?_
        refine aw_iload_n C dX9_heightOf_71 (i := 1) rfl rfl ?_
        refine aw_imul_n C dX9_heightOf_72 ?_
        refine aw_iconst C dX9_heightOf_73 ki_3 ?_
        refine aw_iadd_n C dX9_heightOf_74 ?_
        refine aw_iald (k := 2) C dX9_heightOf_75 (by decide) (rfl) (rfl) (by omega) (by decide) (rfl) ?_
        refine aw_iconst C dX9_heightOf_76 ki_1 ?_
        refine aw_icmp_ne (tgt := 118) C dX9_heightOf_77 (by decide) (fun h77 => ?_) (fun h77 => ?_)
        · refine aw_aload_n C dX9_heightOf_118 (i := 0) rfl rfl ?_
          refine aw_get (k := 0) C dX9_heightOf_119 fl_X9_34 (by decide) rfl rfl ?_
          refine aw_iconst C dX9_heightOf_122 ki_4 ?_
          refine aw_idiv_n C dX9_heightOf_123 (by omega) (by omega) (by omega) ?_
          refine aw_istore (lv' := [(0, _), (1, _), (2, _), (3, _), (4, _), (5, _)]) C dX9_heightOf_124 (Nat.le_of_ble_eq_true rfl) rfl ?_
          refine aw_iload_n C dX9_heightOf_126 (i := 2) rfl rfl ?_
          refine aw_iload C dX9_heightOf_127 rfl ?_
          refine aw_icmp_ge_n (tgt := 144) C dX9_heightOf_129 (by decide) (by omega) (by omega) (fun h129 => ?_) (fun h129 => ?_)
          · refine aw_iload_n C dX9_heightOf_144 (i := 3) rfl rfl ?_
            refine aw_iload C dX9_heightOf_145 rfl ?_
            refine aw_iadd C dX9_heightOf_147 ?_
            refine aw_aload_n C dX9_heightOf_148 (i := 0) rfl rfl ?_
            refine aw_get (k := 0) C dX9_heightOf_149 fl_X9_34 (by decide) rfl rfl ?_
            refine aw_iload_n C dX9_heightOf_152 (i := 2) rfl rfl ?_
            refine aw_isub_n C dX9_heightOf_153 (by omega) ?_
            refine aw_imul C dX9_heightOf_154 ?_
            refine aw_aload_n C dX9_heightOf_155 (i := 0) rfl rfl ?_
            refine aw_get (k := 0) C dX9_heightOf_156 fl_X9_34 (by decide) rfl rfl ?_
            refine aw_iload C dX9_heightOf_159 rfl ?_
            refine aw_isub_n C dX9_heightOf_161 (by omega) ?_
            refine aw_idiv C dX9_heightOf_162 (nI_ne0 (by omega) (by omega)) ?_
            refine aw_iret C hr dX9_heightOf_163 ?_
            refine PI.mk ?_ rfl
            unfold hgt hg
            rw [if_neg (Nat.ne_of_gt h27), if_neg h35, if_neg h58, if_neg h77]
            first | (rw [if_pos h129]; done) | (rw [if_neg (Nat.not_lt.mpr h129)]; done)
          · refine aw_iload_n C dX9_heightOf_132 (i := 3) rfl rfl ?_
            refine aw_iload C dX9_heightOf_133 rfl ?_
            refine aw_iload_n C dX9_heightOf_135 (i := 2) rfl rfl ?_
            refine aw_imul C dX9_heightOf_136 ?_
            refine aw_iload C dX9_heightOf_137 rfl ?_
            refine aw_idiv C dX9_heightOf_139 (nI_ne0 (by omega) (by omega)) ?_
            refine aw_iadd C dX9_heightOf_140 ?_
            refine aw_goto (tgt := 163) C dX9_heightOf_141 (by decide) ?_
            refine aw_iret C hr dX9_heightOf_163 ?_
            refine PI.mk ?_ rfl
            unfold hgt hg
            rw [if_neg (Nat.ne_of_gt h27), if_neg h35, if_neg h58, if_neg h77]
            first | (rw [if_pos h129]; done) | (rw [if_neg (Nat.not_lt.mpr h129)]; done)
        · refine aw_iload_n C dX9_heightOf_80 (i := 3) rfl rfl ?_
          refine aw_aload_n C dX9_heightOf_81 (i := 0) rfl rfl ?_
          refine aw_get (k := 0) C dX9_heightOf_82 fl_X9_34 (by decide) rfl rfl ?_
          refine aw_iload_n C dX9_heightOf_85 (i := 2) rfl rfl ?_
          refine aw_isub_n C dX9_heightOf_86 (by omega) ?_
          refine aw_imul C dX9_heightOf_87 ?_
          refine aw_aload_n C dX9_heightOf_88 (i := 0) rfl rfl ?_
          refine aw_get (k := 0) C dX9_heightOf_89 fl_X9_34 (by decide) rfl rfl ?_
          refine aw_idiv C dX9_heightOf_92 (nI_ne0 (by omega) (by omega)) ?_
          refine aw_iconst C dX9_heightOf_93 ki_4 ?_
          refine aw_iload C dX9_heightOf_94 rfl ?_
          refine aw_imul C dX9_heightOf_96 ?_
          refine aw_iload_n C dX9_heightOf_97 (i := 2) rfl rfl ?_
          refine aw_imul C dX9_heightOf_98 ?_
          refine aw_aload_n C dX9_heightOf_99 (i := 0) rfl rfl ?_
          refine aw_get (k := 0) C dX9_heightOf_100 fl_X9_34 (by decide) rfl rfl ?_
          refine aw_iload_n C dX9_heightOf_103 (i := 2) rfl rfl ?_
          refine aw_isub_n C dX9_heightOf_104 (by omega) ?_
          refine aw_imul C dX9_heightOf_105 ?_
          refine aw_aload_n C dX9_heightOf_106 (i := 0) rfl rfl ?_
          refine aw_get (k := 0) C dX9_heightOf_107 fl_X9_34 (by decide) rfl rfl ?_
          refine aw_aload_n C dX9_heightOf_110 (i := 0) rfl rfl ?_
          refine aw_get (k := 0) C dX9_heightOf_111 fl_X9_34 (by decide) rfl rfl ?_
          refine aw_imul_n C dX9_heightOf_114 ?_
          refine aw_idiv C dX9_heightOf_115 (nI_ne0 (Nat.mul_pos (by omega) (by omega)) (by have := Nat.mul_le_mul hs2 hs2; omega)) ?_
          refine aw_iadd C dX9_heightOf_116 ?_
          refine aw_iret C hr dX9_heightOf_117 ?_
          refine PI.mk ?_ rfl
          unfold hgt hg
          rw [if_neg (Nat.ne_of_gt h27), if_neg h35, if_neg h58, if_pos h77]
      · refine aw_iload_n C dX9_heightOf_61 (i := 3) rfl rfl ?_
        refine aw_iload C dX9_heightOf_62 rfl ?_
        refine aw_iadd C dX9_heightOf_64 ?_
        refine aw_iret C hr dX9_heightOf_65 ?_
        refine PI.mk ?_ rfl
        unfold hgt hg
        rw [if_neg (Nat.ne_of_gt h27), if_neg h35, if_pos h58]
    · refine aw_iload_n C dX9_heightOf_38 (i := 2) rfl rfl ?_
      refine aw_if_ne_n (tgt := 46) C dX9_heightOf_39 (by decide) (by omega) (fun h39 => ?_) (fun h39 => ?_)
      · refine aw_iconst C dX9_heightOf_46 ki_0 ?_
        refine aw_iret C hr dX9_heightOf_47 ?_
        refine PI.mk ?_ rfl
        unfold hgt hg
        first | (rw [if_pos h27]; done) | (rw [if_neg (Nat.ne_of_gt h27), if_pos h35]; done) | (exfalso; omega)
      · refine aw_iload_n C dX9_heightOf_42 (i := 3) rfl rfl ?_
        refine aw_goto (tgt := 47) C dX9_heightOf_43 (by decide) ?_
        refine aw_iret C hr dX9_heightOf_47 ?_
        refine PI.mk ?_ rfl
        unfold hgt hg
        first | (rw [if_pos h27]; done) | (rw [if_neg (Nat.ne_of_gt h27), if_pos h35]; done) | (exfalso; omega)
set_option maxRecDepth 20000 in
/-- longOf, its loop -/
theorem cm_longOf_l {l : Launch} {D : va_G} {cy : Nat → ClassId} {z : Nat → Nat} {q : Nat → Nat} {p : Program} {e : Env} {s : State} {m : MethodId} {args : Array Value} {below : List Frame} {meth : Method} {c : Code} (hI : wI 9 q) (C : Cx p s m args meth c cX9_longOf 4 RX9 D cy z 9 q) (hr : meth.sig.returnType = (some .int)) {len span wires chg rsp rwi val ends : Nat} {text : Nat → Nat} {h was rd eyes fw bars ways : Nat → Int32} {i : Nat} (hi : i < 8) (hs : 8 ≤ span) (hs2 : span ≤ 40) : ∀ (d : Nat) (y : Nat), span - y < d → (y ≤ span) → AW p l e { frames := 1, cells := 0, slots := 0, locals := 25 } s m args below meth c D 9 q 4 (MQ below (Qg D 9 q (PI (lng h span i) (mdC cy q len span wires chg rsp rwi val ends text h was rd eyes fw bars ways)) (wA 9 q s.heap.size)) args s 0 0 (wA 9 q s.heap.size)) (mdC cy q len span wires chg rsp rwi val ends text h was rd eyes fw bars ways) [(0, .ref (q 0)), (1, .int (nI i)), (2, .int (accI (nI span + dst (plc h span i 0) (plc h span i span) / nI span) (fun y => dst (hgt h span i y) (hgt h span i (y + 1))) y)), (3, .int (nI y))] 31 [] := by
  intro d
  induction d with
  | zero => intro y hd; exact absurd hd (Nat.not_lt_zero _)
  | succ d ih =>
    intro y hd iv0
    refine aw_iload_n C dX9_longOf_31 (i := 3) rfl rfl ?_
    refine aw_aload_n C dX9_longOf_32 (i := 0) rfl rfl ?_
    refine aw_get (k := 0) C dX9_longOf_33 fl_X9_34 (by decide) rfl rfl ?_
    refine aw_icmp_ge_n (tgt := 65) C dX9_longOf_36 (by decide) (by omega) (by omega) (fun h36 => ?_) (fun h36 => ?_)
    · refine aw_iload_n C dX9_longOf_65 (i := 2) rfl rfl ?_
      refine aw_iret C hr dX9_longOf_66 ?_
      exact PI.mk (by rw [show y = span by omega]; rfl) rfl
    · refine aw_iload_n C dX9_longOf_39 (i := 2) rfl rfl ?_
      refine aw_aload_n C dX9_longOf_40 (i := 0) rfl rfl ?_
      refine aw_iload_n C dX9_longOf_41 (i := 1) rfl rfl ?_
      refine aw_iload_n C dX9_longOf_42 (i := 3) rfl rfl ?_
      refine aw_V2i (k := 0) C dX9_longOf_43 cv_X9_108 (by decide) rfl rfl rfl (cm_heightOf hI (by omega) (by omega) hs hs2) ⟨Nat.le_of_ble_eq_true rfl, Nat.le_of_ble_eq_true rfl⟩ (Nat.le_of_ble_eq_true rfl) ?_
      refine aw_aload_n C dX9_longOf_46 (i := 0) rfl rfl ?_
      refine aw_iload_n C dX9_longOf_47 (i := 1) rfl rfl ?_
      refine aw_iload_n C dX9_longOf_48 (i := 3) rfl rfl ?_
      refine aw_iconst C dX9_longOf_49 ki_1 ?_
      refine aw_iadd_n C dX9_longOf_50 ?_
      refine aw_V2i (k := 0) C dX9_longOf_51 cv_X9_108 (by decide) rfl rfl rfl (cm_heightOf hI (by omega) (by omega) hs hs2) ⟨Nat.le_of_ble_eq_true rfl, Nat.le_of_ble_eq_true rfl⟩ (Nat.le_of_ble_eq_true rfl) ?_
      refine aw_S2i C dX9_longOf_54 cs_X9_105 (cm_distance hI) ⟨Nat.le_of_ble_eq_true rfl, Nat.le_of_ble_eq_true rfl⟩ (Nat.le_of_ble_eq_true rfl) ?_
      refine aw_iadd C dX9_longOf_57 ?_
      refine aw_istore_n (lv' := [(0, _), (1, _), (2, _), (3, _)]) C dX9_longOf_58 (i := 2) rfl (Nat.le_of_ble_eq_true rfl) rfl ?_
      refine aw_iinc_n (lv' := [(0, _), (1, _), (2, _), (3, _)]) C dX9_longOf_59 rfl ki_1 (Nat.le_of_ble_eq_true rfl) rfl ?_
      refine aw_goto (tgt := 31) C dX9_longOf_62 (by decide) ?_
      exact ih (y + 1) (by omega) (by omega)
set_option maxRecDepth 20000 in
/-- longOf -/
theorem cm_longOf {l : Launch} {D : va_G} {cy : Nat → ClassId} {z : Nat → Nat} {q : Nat → Nat} (hI : wI 9 q) {len span wires chg rsp rwi val ends : Nat} {text : Nat → Nat} {h was rd eyes fw bars ways : Nat → Int32} {i : Nat} (hi : i < 8) (hs : 8 ≤ span) (hs2 : span ≤ 40) : Ct l yX9_longOf cX9_longOf 4 (some .int) 1 25 D cy z 9 q [.ref (q 0), .int (nI i)] (mdC cy q len span wires chg rsp rwi val ends text h was rd eyes fw bars ways) (PI (lng h span i) (mdC cy q len span wires chg rsp rwi val ends text h was rd eyes fw bars ways)) := by
  refine Ct.of (own := RX9) (by decide) rfl hI (Nat.le_of_ble_eq_true rfl) ?_
  intro p e s m args below meth c C hr
  refine aw_lv (lv' := [(0, .ref (q 0)), (1, .int (nI i))]) (fun x hx => hx) ?_
  refine aw_aload_n C dX9_longOf_0 (i := 0) rfl rfl ?_
  refine aw_get (k := 0) C dX9_longOf_1 fl_X9_34 (by decide) rfl rfl ?_
  refine aw_aload_n C dX9_longOf_4 (i := 0) rfl rfl ?_
  refine aw_iload_n C dX9_longOf_5 (i := 1) rfl rfl ?_
  refine aw_iconst C dX9_longOf_6 ki_0 ?_
  refine aw_V2i (k := 0) C dX9_longOf_7 cv_X9_102 (by decide) rfl rfl rfl (cm_placeOf hI (by omega) (by omega)) ⟨Nat.le_of_ble_eq_true rfl, Nat.le_of_ble_eq_true rfl⟩ (Nat.le_of_ble_eq_true rfl) ?_
  refine aw_aload_n C dX9_longOf_10 (i := 0) rfl rfl ?_
  refine aw_iload_n C dX9_longOf_11 (i := 1) rfl rfl ?_
  refine aw_aload_n C dX9_longOf_12 (i := 0) rfl rfl ?_
  refine aw_get (k := 0) C dX9_longOf_13 fl_X9_34 (by decide) rfl rfl ?_
  refine aw_V2i (k := 0) C dX9_longOf_16 cv_X9_102 (by decide) rfl rfl rfl (cm_placeOf hI (by omega) (by omega)) ⟨Nat.le_of_ble_eq_true rfl, Nat.le_of_ble_eq_true rfl⟩ (Nat.le_of_ble_eq_true rfl) ?_
  refine aw_S2i C dX9_longOf_19 cs_X9_105 (cm_distance hI) ⟨Nat.le_of_ble_eq_true rfl, Nat.le_of_ble_eq_true rfl⟩ (Nat.le_of_ble_eq_true rfl) ?_
  refine aw_aload_n C dX9_longOf_22 (i := 0) rfl rfl ?_
  refine aw_get (k := 0) C dX9_longOf_23 fl_X9_34 (by decide) rfl rfl ?_
  refine aw_idiv C dX9_longOf_26 (nI_ne0 (by omega) (by omega)) ?_
  refine aw_iadd C dX9_longOf_27 ?_
  refine aw_istore_n (lv' := [(0, _), (1, _), (2, _)]) C dX9_longOf_28 (i := 2) rfl (Nat.le_of_ble_eq_true rfl) rfl ?_
  refine aw_iconst C dX9_longOf_29 ki_0 ?_
  refine aw_istore_n (lv' := [(0, _), (1, _), (2, _), (3, _)]) C dX9_longOf_30 (i := 3) rfl (Nat.le_of_ble_eq_true rfl) rfl ?_
  exact cm_longOf_l hI C hr hi hs hs2 (span + 1) 0 (by omega) (by omega)
set_option maxRecDepth 20000 in
/-- topOf, its loop -/
theorem cm_topOf_l {l : Launch} {D : va_G} {cy : Nat → ClassId} {z : Nat → Nat} {q : Nat → Nat} {p : Program} {e : Env} {s : State} {m : MethodId} {args : Array Value} {below : List Frame} {meth : Method} {c : Code} (hI : wI 9 q) (C : Cx p s m args meth c cX9_topOf 4 RX9 D cy z 9 q) (hr : meth.sig.returnType = (some .int)) {len span wires chg rsp rwi val ends : Nat} {text : Nat → Nat} {h was rd eyes fw bars ways : Nat → Int32} {i : Nat} (hi : i < 8) (hs : 8 ≤ span) (hs2 : span ≤ 40) : ∀ (d : Nat) (y : Nat), span - y < d → (y ≤ span) → AW p l e { frames := 1, cells := 0, slots := 0, locals := 25 } s m args below meth c D 9 q 4 (MQ below (Qg D 9 q (PI (nI (topR h span i span)) (mdC cy q len span wires chg rsp rwi val ends text h was rd eyes fw bars ways)) (wA 9 q s.heap.size)) args s 0 0 (wA 9 q s.heap.size)) (mdC cy q len span wires chg rsp rwi val ends text h was rd eyes fw bars ways) [(0, .ref (q 0)), (1, .int (nI i)), (2, .int (nI (topR h span i y))), (3, .int (nI (y + 1)))] 4 [] := by
  intro d
  induction d with
  | zero => intro y hd; exact absurd hd (Nat.not_lt_zero _)
  | succ d ih =>
    intro y hd iv0
    refine aw_iload_n C dX9_topOf_4 (i := 3) rfl rfl ?_
    refine aw_aload_n C dX9_topOf_5 (i := 0) rfl rfl ?_
    refine aw_get (k := 0) C dX9_topOf_6 fl_X9_34 (by decide) rfl rfl ?_
    refine aw_icmp_gt_n (tgt := 39) C dX9_topOf_9 (by decide) (by omega) (by omega) (fun h9 => ?_) (fun h9 => ?_)
    · refine aw_iload_n C dX9_topOf_39 (i := 2) rfl rfl ?_
      refine aw_iret C hr dX9_topOf_40 ?_
      exact PI.mk (by rw [show y = span by omega]) rfl
    · have ht := topR_le h span i y
      refine aw_aload_n C dX9_topOf_12 (i := 0) rfl rfl ?_
      refine aw_iload_n C dX9_topOf_13 (i := 1) rfl rfl ?_
      refine aw_iload_n C dX9_topOf_14 (i := 3) rfl rfl ?_
      refine aw_V2i (k := 0) C dX9_topOf_15 cv_X9_108 (by decide) rfl rfl rfl (cm_heightOf hI (by omega) (by omega) hs hs2) ⟨Nat.le_of_ble_eq_true rfl, Nat.le_of_ble_eq_true rfl⟩ (Nat.le_of_ble_eq_true rfl) ?_
      refine aw_aload_n C dX9_topOf_18 (i := 0) rfl rfl ?_
      refine aw_iload_n C dX9_topOf_19 (i := 1) rfl rfl ?_
      refine aw_iload_n C dX9_topOf_20 (i := 2) rfl rfl ?_
      refine aw_V2i (k := 0) C dX9_topOf_21 cv_X9_108 (by decide) rfl rfl rfl (cm_heightOf hI (by omega) (by omega) hs hs2) ⟨Nat.le_of_ble_eq_true rfl, Nat.le_of_ble_eq_true rfl⟩ (Nat.le_of_ble_eq_true rfl) ?_
      refine aw_icmp_le (tgt := 31) C dX9_topOf_24 (by decide) (fun h24 => ?_) (fun h24 => ?_)
      · refine aw_iload_n C dX9_topOf_31 (i := 2) rfl rfl ?_
        refine aw_istore_n (lv' := [(0, _), (1, _), (2, _), (3, _)]) C dX9_topOf_32 (i := 2) rfl (Nat.le_of_ble_eq_true rfl) rfl ?_
        refine aw_iinc_n (lv' := [(0, _), (1, _), (2, _), (3, _)]) C dX9_topOf_33 rfl ki_1 (Nat.le_of_ble_eq_true rfl) rfl ?_
        refine aw_goto (tgt := 4) C dX9_topOf_36 (by decide) ?_
        have e : topR h span i (y + 1) = topR h span i y := if_neg (i_nlt h24)
        have k9 := ih (y + 1) (by omega) (by omega)
        rw [e] at k9
        exact k9
      · refine aw_iload_n C dX9_topOf_27 (i := 3) rfl rfl ?_
        refine aw_goto (tgt := 32) C dX9_topOf_28 (by decide) ?_
        refine aw_istore_n (lv' := [(0, _), (1, _), (2, _), (3, _)]) C dX9_topOf_32 (i := 2) rfl (Nat.le_of_ble_eq_true rfl) rfl ?_
        refine aw_iinc_n (lv' := [(0, _), (1, _), (2, _), (3, _)]) C dX9_topOf_33 rfl ki_1 (Nat.le_of_ble_eq_true rfl) rfl ?_
        refine aw_goto (tgt := 4) C dX9_topOf_36 (by decide) ?_
        have e : topR h span i (y + 1) = y + 1 := if_pos (i_lt h24)
        have k9 := ih (y + 1) (by omega) (by omega)
        rw [e] at k9
        exact k9
set_option maxRecDepth 20000 in
/-- topOf -/
theorem cm_topOf {l : Launch} {D : va_G} {cy : Nat → ClassId} {z : Nat → Nat} {q : Nat → Nat} (hI : wI 9 q) {len span wires chg rsp rwi val ends : Nat} {text : Nat → Nat} {h was rd eyes fw bars ways : Nat → Int32} {i : Nat} (hi : i < 8) (hs : 8 ≤ span) (hs2 : span ≤ 40) : Ct l yX9_topOf cX9_topOf 4 (some .int) 1 25 D cy z 9 q [.ref (q 0), .int (nI i)] (mdC cy q len span wires chg rsp rwi val ends text h was rd eyes fw bars ways) (PI (nI (topR h span i span)) (mdC cy q len span wires chg rsp rwi val ends text h was rd eyes fw bars ways)) := by
  refine Ct.of (own := RX9) (by decide) rfl hI (Nat.le_of_ble_eq_true rfl) ?_
  intro p e s m args below meth c C hr
  refine aw_lv (lv' := [(0, .ref (q 0)), (1, .int (nI i))]) (fun x hx => hx) ?_
  refine aw_iconst C dX9_topOf_0 ki_0 ?_
  refine aw_istore_n (lv' := [(0, _), (1, _), (2, _)]) C dX9_topOf_1 (i := 2) rfl (Nat.le_of_ble_eq_true rfl) rfl ?_
  refine aw_iconst C dX9_topOf_2 ki_1 ?_
  refine aw_istore_n (lv' := [(0, _), (1, _), (2, _), (3, _)]) C dX9_topOf_3 (i := 3) rfl (Nat.le_of_ble_eq_true rfl) rfl ?_
  exact cm_topOf_l hI C hr hi hs hs2 (span + 1) 0 (by omega) (by omega)
set_option maxRecDepth 20000 in
/-- areNear -/
theorem cm_areNear {l : Launch} {D : va_G} {cy : Nat → ClassId} {z : Nat → Nat} {q : Nat → Nat} (hI : wI 9 q) {len span wires chg rsp rwi val ends : Nat} {text : Nat → Nat} {h was rd eyes fw bars ways : Nat → Int32} {i k : Nat} (hi : i < 8) (hk : k < 8) {y : Nat} (hy : y ≤ span) (hs : 8 ≤ span) (hs2 : span ≤ 40) : Ct l yX9_areNear cX9_areNear 4 (some .boolean) 1 25 D cy z 9 q [.ref (q 0), .int (nI i), .int (nI k), .int (nI y)] (mdC cy q len span wires chg rsp rwi val ends text h was rd eyes fw bars ways) (PI (bi (nrA h span i k y)) (mdC cy q len span wires chg rsp rwi val ends text h was rd eyes fw bars ways)) := by
  refine Ct.of (own := RX9) (by decide) rfl hI (Nat.le_of_ble_eq_true rfl) ?_
  intro p e s m args below meth c C hr
  refine aw_lv (lv' := [(0, .ref (q 0)), (1, .int (nI i)), (2, .int (nI k)), (3, .int (nI y))]) (fun x hx => hx) ?_
  refine aw_aload_n C dX9_areNear_0 (i := 0) rfl rfl ?_
  refine aw_iload_n C dX9_areNear_1 (i := 1) rfl rfl ?_
  refine aw_iload_n C dX9_areNear_2 (i := 3) rfl rfl ?_
  refine aw_V2i (k := 0) C dX9_areNear_3 cv_X9_102 (by decide) rfl rfl rfl (cm_placeOf hI (by omega) (by omega)) ⟨Nat.le_of_ble_eq_true rfl, Nat.le_of_ble_eq_true rfl⟩ (Nat.le_of_ble_eq_true rfl) ?_
  refine aw_aload_n C dX9_areNear_6 (i := 0) rfl rfl ?_
  refine aw_iload_n C dX9_areNear_7 (i := 2) rfl rfl ?_
  refine aw_iload_n C dX9_areNear_8 (i := 3) rfl rfl ?_
  refine aw_V2i (k := 0) C dX9_areNear_9 cv_X9_102 (by decide) rfl rfl rfl (cm_placeOf hI (by omega) (by omega)) ⟨Nat.le_of_ble_eq_true rfl, Nat.le_of_ble_eq_true rfl⟩ (Nat.le_of_ble_eq_true rfl) ?_
  refine aw_S2i C dX9_areNear_12 cs_X9_105 (cm_distance hI) ⟨Nat.le_of_ble_eq_true rfl, Nat.le_of_ble_eq_true rfl⟩ (Nat.le_of_ble_eq_true rfl) ?_
  refine aw_aload_n C dX9_areNear_15 (i := 0) rfl rfl ?_
  refine aw_get (k := 0) C dX9_areNear_16 fl_X9_13 (by decide) rfl rfl ?_
  refine aw_bipush C dX9_areNear_19 kb_40 ?_
  refine aw_iald (k := 2) C dX9_areNear_21 (by decide) (rfl) (rfl) (by omega) (by decide) (rfl) ?_
  refine aw_aload_n C dX9_areNear_22 (i := 0) rfl rfl ?_
  refine aw_get (k := 0) C dX9_areNear_23 fl_X9_34 (by decide) rfl rfl ?_
  refine aw_imul C dX9_areNear_26 ?_
  refine aw_icmp_ge (tgt := 59) C dX9_areNear_27 (by decide) (fun h27 => ?_) (fun h27 => ?_)
  · refine aw_iconst C dX9_areNear_59 ki_0 ?_
    refine aw_zret C hr dX9_areNear_60 (by decide) ?_
    refine PI.mk (bi_g ?_) rfl
    unfold nrA
    simp only [Bool.and_eq_true, Bool.or_eq_true, decide_eq_true_eq, Int32.le_iff_toInt_le, Int32.lt_iff_toInt_lt] at h27 ⊢
    omega
  · refine aw_aload_n C dX9_areNear_30 (i := 0) rfl rfl ?_
    refine aw_iload_n C dX9_areNear_31 (i := 1) rfl rfl ?_
    refine aw_iload_n C dX9_areNear_32 (i := 3) rfl rfl ?_
    refine aw_V2i (k := 0) C dX9_areNear_33 cv_X9_108 (by decide) rfl rfl rfl (cm_heightOf hI (by omega) (by omega) hs hs2) ⟨Nat.le_of_ble_eq_true rfl, Nat.le_of_ble_eq_true rfl⟩ (Nat.le_of_ble_eq_true rfl) ?_
    refine aw_aload_n C dX9_areNear_36 (i := 0) rfl rfl ?_
    refine aw_iload_n C dX9_areNear_37 (i := 2) rfl rfl ?_
    refine aw_iload_n C dX9_areNear_38 (i := 3) rfl rfl ?_
    refine aw_V2i (k := 0) C dX9_areNear_39 cv_X9_108 (by decide) rfl rfl rfl (cm_heightOf hI (by omega) (by omega) hs hs2) ⟨Nat.le_of_ble_eq_true rfl, Nat.le_of_ble_eq_true rfl⟩ (Nat.le_of_ble_eq_true rfl) ?_
    refine aw_S2i C dX9_areNear_42 cs_X9_105 (cm_distance hI) ⟨Nat.le_of_ble_eq_true rfl, Nat.le_of_ble_eq_true rfl⟩ (Nat.le_of_ble_eq_true rfl) ?_
    refine aw_aload_n C dX9_areNear_45 (i := 0) rfl rfl ?_
    refine aw_get (k := 0) C dX9_areNear_46 fl_X9_13 (by decide) rfl rfl ?_
    refine aw_bipush C dX9_areNear_49 kb_41 ?_
    refine aw_iald (k := 2) C dX9_areNear_51 (by decide) (rfl) (rfl) (by omega) (by decide) (rfl) ?_
    refine aw_icmp_ge (tgt := 59) C dX9_areNear_52 (by decide) (fun h52 => ?_) (fun h52 => ?_)
    · refine aw_iconst C dX9_areNear_59 ki_0 ?_
      refine aw_zret C hr dX9_areNear_60 (by decide) ?_
      refine PI.mk (bi_g ?_) rfl
      unfold nrA
      simp only [Bool.and_eq_true, Bool.or_eq_true, decide_eq_true_eq, Int32.le_iff_toInt_le, Int32.lt_iff_toInt_lt] at h27 h52 ⊢
      omega
    · refine aw_iconst C dX9_areNear_55 ki_1 ?_
      refine aw_goto (tgt := 60) C dX9_areNear_56 (by decide) ?_
      refine aw_zret C hr dX9_areNear_60 (by decide) ?_
      refine PI.mk (bi_t ?_) rfl
      unfold nrA
      simp only [Bool.and_eq_true, Bool.or_eq_true, decide_eq_true_eq, Int32.le_iff_toInt_le, Int32.lt_iff_toInt_lt] at h27 h52 ⊢
      omega
set_option maxRecDepth 20000 in
/-- near, its loop -/
theorem cm_nearF_l {l : Launch} {D : va_G} {cy : Nat → ClassId} {z : Nat → Nat} {q : Nat → Nat} {p : Program} {e : Env} {s : State} {m : MethodId} {args : Array Value} {below : List Frame} {meth : Method} {c : Code} (hI : wI 9 q) (C : Cx p s m args meth c cX9_near 6 RX9 D cy z 9 q) (hr : meth.sig.returnType = (some .int)) {len span wires chg rsp rwi val ends : Nat} {text : Nat → Nat} {h was rd eyes fw bars ways : Nat → Int32} {i k : Nat} (hi : i < 8) (hk : k < 8) (hs : 8 ≤ span) (hs2 : span ≤ 40) : ∀ (d : Nat) (y : Nat), span + 1 - y < d → (y ≤ span + 1) → (∀ j, j < y → nrA h span i k j = false) → AW p l e { frames := 2, cells := 0, slots := 0, locals := 48 } s m args below meth c D 9 q 6 (MQ below (Qg D 9 q (PI (nrF h span i k) (mdC cy q len span wires chg rsp rwi val ends text h was rd eyes fw bars ways)) (wA 9 q s.heap.size)) args s 0 0 (wA 9 q s.heap.size)) (mdC cy q len span wires chg rsp rwi val ends text h was rd eyes fw bars ways) [(0, .ref (q 0)), (1, .int (nI i)), (2, .int (nI k)), (3, .int (nI 1)), (4, .int (nI 0)), (5, .int (nI y))] 6 [] := by
  intro d
  induction d with
  | zero => intro y hd; exact absurd hd (Nat.not_lt_zero _)
  | succ d ih =>
    intro y hd iv0 iv1
    refine aw_iload C dX9_near_6 rfl ?_
    refine aw_aload_n C dX9_near_8 (i := 0) rfl rfl ?_
    refine aw_get (k := 0) C dX9_near_9 fl_X9_34 (by decide) rfl rfl ?_
    refine aw_icmp_gt_n (tgt := 42) C dX9_near_12 (by decide) (by omega) (by omega) (fun h12 => ?_) (fun h12 => ?_)
    · refine aw_iload_n C dX9_near_42 (i := 3) rfl rfl ?_
      refine aw_if_eq_n (tgt := 51) C dX9_near_43 (by decide) (by omega) (fun h43 => absurd h43 (by decide)) (fun h43 => ?_)
      refine aw_bipush C dX9_near_46 kb_m4 ?_
      refine aw_goto (tgt := 53) C dX9_near_48 (by decide) ?_
      refine aw_iret C hr dX9_near_53 ?_
      exact PI.mk (by unfold nrF; rw [fstB_none (fun j hj => iv1 j (by omega))]) rfl
    · refine aw_aload_n C dX9_near_15 (i := 0) rfl rfl ?_
      refine aw_iload_n C dX9_near_16 (i := 1) rfl rfl ?_
      refine aw_iload_n C dX9_near_17 (i := 2) rfl rfl ?_
      refine aw_iload C dX9_near_18 rfl ?_
      refine aw_V3i (k := 0) C dX9_near_20 cv_X9_117 (by decide) rfl rfl rfl (cm_areNear hI hi hk (by omega) hs hs2) ⟨Nat.le_of_ble_eq_true rfl, Nat.le_of_ble_eq_true rfl⟩ (Nat.le_of_ble_eq_true rfl) ?_
      refine aw_if_eq_b (tgt := 36) C dX9_near_23 (by decide) (fun h23 => ?_) (fun h23 => ?_)
      · refine aw_iinc_n (lv' := [(0, _), (1, _), (2, _), (3, _), (4, _), (5, _)]) C dX9_near_36 rfl ki_1 (Nat.le_of_ble_eq_true rfl) rfl ?_
        refine aw_goto (tgt := 6) C dX9_near_39 (by decide) ?_
        exact ih (y + 1) (by omega) (by omega) (fun j hj => by rcases Nat.lt_or_ge j y with g | g; exact iv1 j g; rw [show j = y by omega]; exact h23)
      · refine aw_iload_n C dX9_near_26 (i := 3) rfl rfl ?_
        refine aw_if_eq_n (tgt := 33) C dX9_near_27 (by decide) (by omega) (fun h27 => absurd h27 (by decide)) (fun h27 => ?_)
        refine aw_iload C dX9_near_30 rfl ?_
        refine aw_iret C hr dX9_near_32 ?_
        exact PI.mk (by unfold nrF; rw [fstB_at (k := y) (by omega) iv1 h23]) rfl
set_option maxRecDepth 20000 in
/-- near -/
theorem cm_nearF {l : Launch} {D : va_G} {cy : Nat → ClassId} {z : Nat → Nat} {q : Nat → Nat} (hI : wI 9 q) {len span wires chg rsp rwi val ends : Nat} {text : Nat → Nat} {h was rd eyes fw bars ways : Nat → Int32} {i k : Nat} (hi : i < 8) (hk : k < 8) (hs : 8 ≤ span) (hs2 : span ≤ 40) : Ct l yX9_near cX9_near 6 (some .int) 2 48 D cy z 9 q [.ref (q 0), .int (nI i), .int (nI k), .int (nI 1)] (mdC cy q len span wires chg rsp rwi val ends text h was rd eyes fw bars ways) (PI (nrF h span i k) (mdC cy q len span wires chg rsp rwi val ends text h was rd eyes fw bars ways)) := by
  refine Ct.of (own := RX9) (by decide) rfl hI (Nat.le_of_ble_eq_true rfl) ?_
  intro p e s m args below meth c C hr
  refine aw_lv (lv' := [(0, .ref (q 0)), (1, .int (nI i)), (2, .int (nI k)), (3, .int (nI 1))]) (fun x hx => hx) ?_
  refine aw_iconst C dX9_near_0 ki_0 ?_
  refine aw_istore (lv' := [(0, _), (1, _), (2, _), (3, _), (4, _)]) C dX9_near_1 (Nat.le_of_ble_eq_true rfl) rfl ?_
  refine aw_iconst C dX9_near_3 ki_0 ?_
  refine aw_istore (lv' := [(0, _), (1, _), (2, _), (3, _), (4, _), (5, _)]) C dX9_near_4 (Nat.le_of_ble_eq_true rfl) rfl ?_
  exact cm_nearF_l hI C hr hi hk hs hs2 (span + 2) 0 (by omega) (by omega) (fun j hj => absurd hj (Nat.not_lt_zero j))
set_option maxRecDepth 20000 in
/-- near, its loop -/
theorem cm_nearC_l {l : Launch} {D : va_G} {cy : Nat → ClassId} {z : Nat → Nat} {q : Nat → Nat} {p : Program} {e : Env} {s : State} {m : MethodId} {args : Array Value} {below : List Frame} {meth : Method} {c : Code} (hI : wI 9 q) (C : Cx p s m args meth c cX9_near 6 RX9 D cy z 9 q) (hr : meth.sig.returnType = (some .int)) {len span wires chg rsp rwi val ends : Nat} {text : Nat → Nat} {h was rd eyes fw bars ways : Nat → Int32} {i k : Nat} (hi : i < 8) (hk : k < 8) (hs : 8 ≤ span) (hs2 : span ≤ 40) : ∀ (d : Nat) (y : Nat), span + 1 - y < d → (y ≤ span + 1) → AW p l e { frames := 2, cells := 0, slots := 0, locals := 48 } s m args below meth c D 9 q 6 (MQ below (Qg D 9 q (PI (nI (nrC h span i k)) (mdC cy q len span wires chg rsp rwi val ends text h was rd eyes fw bars ways)) (wA 9 q s.heap.size)) args s 0 0 (wA 9 q s.heap.size)) (mdC cy q len span wires chg rsp rwi val ends text h was rd eyes fw bars ways) [(0, .ref (q 0)), (1, .int (nI i)), (2, .int (nI k)), (3, .int (nI 0)), (4, .int (nI (cntB (nrA h span i k) y))), (5, .int (nI y))] 6 [] := by
  intro d
  induction d with
  | zero => intro y hd; exact absurd hd (Nat.not_lt_zero _)
  | succ d ih =>
    intro y hd iv0
    refine aw_iload C dX9_near_6 rfl ?_
    refine aw_aload_n C dX9_near_8 (i := 0) rfl rfl ?_
    refine aw_get (k := 0) C dX9_near_9 fl_X9_34 (by decide) rfl rfl ?_
    refine aw_icmp_gt_n (tgt := 42) C dX9_near_12 (by decide) (by omega) (by omega) (fun h12 => ?_) (fun h12 => ?_)
    · refine aw_iload_n C dX9_near_42 (i := 3) rfl rfl ?_
      refine aw_if_eq_n (tgt := 51) C dX9_near_43 (by decide) (by omega) (fun h43 => ?_) (fun h43 => absurd h43 (by decide))
      refine aw_iload C dX9_near_51 rfl ?_
      refine aw_iret C hr dX9_near_53 ?_
      exact PI.mk (by rw [show y = span + 1 by omega]; rfl) rfl
    · refine aw_aload_n C dX9_near_15 (i := 0) rfl rfl ?_
      refine aw_iload_n C dX9_near_16 (i := 1) rfl rfl ?_
      refine aw_iload_n C dX9_near_17 (i := 2) rfl rfl ?_
      refine aw_iload C dX9_near_18 rfl ?_
      refine aw_V3i (k := 0) C dX9_near_20 cv_X9_117 (by decide) rfl rfl rfl (cm_areNear hI hi hk (by omega) hs hs2) ⟨Nat.le_of_ble_eq_true rfl, Nat.le_of_ble_eq_true rfl⟩ (Nat.le_of_ble_eq_true rfl) ?_
      refine aw_if_eq_b (tgt := 36) C dX9_near_23 (by decide) (fun h23 => ?_) (fun h23 => ?_)
      · refine aw_iinc_n (lv' := [(0, _), (1, _), (2, _), (3, _), (4, _), (5, _)]) C dX9_near_36 rfl ki_1 (Nat.le_of_ble_eq_true rfl) rfl ?_
        refine aw_goto (tgt := 6) C dX9_near_39 (by decide) ?_
        have e := cntB_n h23
        have k9 := ih (y + 1) (by omega) (by omega)
        rw [e] at k9
        exact k9
      · refine aw_iload_n C dX9_near_26 (i := 3) rfl rfl ?_
        refine aw_if_eq_n (tgt := 33) C dX9_near_27 (by decide) (by omega) (fun h27 => ?_) (fun h27 => absurd h27 (by decide))
        refine aw_iinc_n (lv' := [(0, _), (1, _), (2, _), (3, _), (4, _), (5, _)]) C dX9_near_33 rfl ki_1 (Nat.le_of_ble_eq_true rfl) rfl ?_
        refine aw_iinc_n (lv' := [(0, _), (1, _), (2, _), (3, _), (4, _), (5, _)]) C dX9_near_36 rfl ki_1 (Nat.le_of_ble_eq_true rfl) rfl ?_
        refine aw_goto (tgt := 6) C dX9_near_39 (by decide) ?_
        have e := cntB_t h23
        have k9 := ih (y + 1) (by omega) (by omega)
        rw [e] at k9
        exact k9
set_option maxRecDepth 20000 in
/-- near -/
theorem cm_nearC {l : Launch} {D : va_G} {cy : Nat → ClassId} {z : Nat → Nat} {q : Nat → Nat} (hI : wI 9 q) {len span wires chg rsp rwi val ends : Nat} {text : Nat → Nat} {h was rd eyes fw bars ways : Nat → Int32} {i k : Nat} (hi : i < 8) (hk : k < 8) (hs : 8 ≤ span) (hs2 : span ≤ 40) : Ct l yX9_near cX9_near 6 (some .int) 2 48 D cy z 9 q [.ref (q 0), .int (nI i), .int (nI k), .int (nI 0)] (mdC cy q len span wires chg rsp rwi val ends text h was rd eyes fw bars ways) (PI (nI (nrC h span i k)) (mdC cy q len span wires chg rsp rwi val ends text h was rd eyes fw bars ways)) := by
  refine Ct.of (own := RX9) (by decide) rfl hI (Nat.le_of_ble_eq_true rfl) ?_
  intro p e s m args below meth c C hr
  refine aw_lv (lv' := [(0, .ref (q 0)), (1, .int (nI i)), (2, .int (nI k)), (3, .int (nI 0))]) (fun x hx => hx) ?_
  refine aw_iconst C dX9_near_0 ki_0 ?_
  refine aw_istore (lv' := [(0, _), (1, _), (2, _), (3, _), (4, _)]) C dX9_near_1 (Nat.le_of_ble_eq_true rfl) rfl ?_
  refine aw_iconst C dX9_near_3 ki_0 ?_
  refine aw_istore (lv' := [(0, _), (1, _), (2, _), (3, _), (4, _), (5, _)]) C dX9_near_4 (Nat.le_of_ble_eq_true rfl) rfl ?_
  exact cm_nearC_l hI C hr hi hk hs hs2 (span + 2) 0 (by omega) (by omega)
set_option maxRecDepth 20000 in
/-- cross -/
theorem cm_cross {l : Launch} {D : va_G} {cy : Nat → ClassId} {z : Nat → Nat} {q : Nat → Nat} (hI : wI 9 q) {len span wires chg rsp rwi val ends : Nat} {text : Nat → Nat} {h was rd eyes fw bars ways : Nat → Int32} {i k : Nat} (hi : i < 8) (hk : k < 8) (hs : 8 ≤ span) (hs2 : span ≤ 40) : Ct l yX9_cross cX9_cross 5 (some .boolean) 1 22 D cy z 9 q [.ref (q 0), .int (nI i), .int (nI k)] (mdC cy q len span wires chg rsp rwi val ends text h was rd eyes fw bars ways) (PI (bi (crs h span i k)) (mdC cy q len span wires chg rsp rwi val ends text h was rd eyes fw bars ways)) := by
  refine Ct.of (own := RX9) (by decide) rfl hI (Nat.le_of_ble_eq_true rfl) ?_
  intro p e s m args below meth c C hr
  refine aw_lv (lv' := [(0, .ref (q 0)), (1, .int (nI i)), (2, .int (nI k))]) (fun x hx => hx) ?_
  refine aw_aload_n C dX9_cross_0 (i := 0) rfl rfl ?_
  refine aw_iload_n C dX9_cross_1 (i := 1) rfl rfl ?_
  refine aw_iconst C dX9_cross_2 ki_0 ?_
  refine aw_V2i (k := 0) C dX9_cross_3 cv_X9_102 (by decide) rfl rfl rfl (cm_placeOf hI (by omega) (by omega)) ⟨Nat.le_of_ble_eq_true rfl, Nat.le_of_ble_eq_true rfl⟩ (Nat.le_of_ble_eq_true rfl) ?_
  refine aw_aload_n C dX9_cross_6 (i := 0) rfl rfl ?_
  refine aw_iload_n C dX9_cross_7 (i := 2) rfl rfl ?_
  refine aw_iconst C dX9_cross_8 ki_0 ?_
  refine aw_V2i (k := 0) C dX9_cross_9 cv_X9_102 (by decide) rfl rfl rfl (cm_placeOf hI (by omega) (by omega)) ⟨Nat.le_of_ble_eq_true rfl, Nat.le_of_ble_eq_true rfl⟩ (Nat.le_of_ble_eq_true rfl) ?_
  refine aw_isub C dX9_cross_12 ?_
  refine aw_istore_n (lv' := [(0, _), (1, _), (2, _), (3, _)]) C dX9_cross_13 (i := 3) rfl (Nat.le_of_ble_eq_true rfl) rfl ?_
  refine aw_aload_n C dX9_cross_14 (i := 0) rfl rfl ?_
  refine aw_iload_n C dX9_cross_15 (i := 1) rfl rfl ?_
  refine aw_aload_n C dX9_cross_16 (i := 0) rfl rfl ?_
  refine aw_get (k := 0) C dX9_cross_17 fl_X9_34 (by decide) rfl rfl ?_
  refine aw_V2i (k := 0) C dX9_cross_20 cv_X9_102 (by decide) rfl rfl rfl (cm_placeOf hI (by omega) (by omega)) ⟨Nat.le_of_ble_eq_true rfl, Nat.le_of_ble_eq_true rfl⟩ (Nat.le_of_ble_eq_true rfl) ?_
  refine aw_aload_n C dX9_cross_23 (i := 0) rfl rfl ?_
  refine aw_iload_n C dX9_cross_24 (i := 2) rfl rfl ?_
  refine aw_aload_n C dX9_cross_25 (i := 0) rfl rfl ?_
  refine aw_get (k := 0) C dX9_cross_26 fl_X9_34 (by decide) rfl rfl ?_
  refine aw_V2i (k := 0) C dX9_cross_29 cv_X9_102 (by decide) rfl rfl rfl (cm_placeOf hI (by omega) (by omega)) ⟨Nat.le_of_ble_eq_true rfl, Nat.le_of_ble_eq_true rfl⟩ (Nat.le_of_ble_eq_true rfl) ?_
  refine aw_isub C dX9_cross_32 ?_
  refine aw_istore (lv' := [(0, _), (1, _), (2, _), (3, _), (4, _)]) C dX9_cross_33 (Nat.le_of_ble_eq_true rfl) rfl ?_
  refine aw_iload_n C dX9_cross_35 (i := 3) rfl rfl ?_
  refine aw_if_ge (tgt := 44) C dX9_cross_36 (by decide) (fun h36 => ?_) (fun h36 => ?_)
  · refine aw_iload_n C dX9_cross_44 (i := 3) rfl rfl ?_
    refine aw_if_le (tgt := 57) C dX9_cross_45 (by decide) (fun h45 => ?_) (fun h45 => ?_)
    · refine aw_iconst C dX9_cross_57 ki_0 ?_
      refine aw_zret C hr dX9_cross_58 (by decide) ?_
      refine PI.mk (bi_g ?_) rfl
      unfold crs
      simp only [Bool.and_eq_true, Bool.or_eq_true, decide_eq_true_eq, Int32.le_iff_toInt_le, Int32.lt_iff_toInt_lt] at h36 h45 ⊢
      omega
    · refine aw_iload C dX9_cross_48 rfl ?_
      refine aw_if_ge (tgt := 57) C dX9_cross_50 (by decide) (fun h50 => ?_) (fun h50 => ?_)
      · refine aw_iconst C dX9_cross_57 ki_0 ?_
        refine aw_zret C hr dX9_cross_58 (by decide) ?_
        refine PI.mk (bi_g ?_) rfl
        unfold crs
        simp only [Bool.and_eq_true, Bool.or_eq_true, decide_eq_true_eq, Int32.le_iff_toInt_le, Int32.lt_iff_toInt_lt] at h36 h45 h50 ⊢
        omega
      · refine aw_iconst C dX9_cross_53 ki_1 ?_
        refine aw_goto (tgt := 58) C dX9_cross_54 (by decide) ?_
        refine aw_zret C hr dX9_cross_58 (by decide) ?_
        refine PI.mk (bi_t ?_) rfl
        unfold crs
        simp only [Bool.and_eq_true, Bool.or_eq_true, decide_eq_true_eq, Int32.le_iff_toInt_le, Int32.lt_iff_toInt_lt] at h36 h45 h50 ⊢
        omega
  · refine aw_iload C dX9_cross_39 rfl ?_
    refine aw_if_gt (tgt := 53) C dX9_cross_41 (by decide) (fun h41 => ?_) (fun h41 => ?_)
    · refine aw_iconst C dX9_cross_53 ki_1 ?_
      refine aw_goto (tgt := 58) C dX9_cross_54 (by decide) ?_
      refine aw_zret C hr dX9_cross_58 (by decide) ?_
      refine PI.mk (bi_t ?_) rfl
      unfold crs
      simp only [Bool.and_eq_true, Bool.or_eq_true, decide_eq_true_eq, Int32.le_iff_toInt_le, Int32.lt_iff_toInt_lt] at h36 h41 ⊢
      omega
    · refine aw_iload_n C dX9_cross_44 (i := 3) rfl rfl ?_
      refine aw_if_le (tgt := 57) C dX9_cross_45 (by decide) (fun h45 => ?_) (fun h45 => ?_)
      · refine aw_iconst C dX9_cross_57 ki_0 ?_
        refine aw_zret C hr dX9_cross_58 (by decide) ?_
        refine PI.mk (bi_g ?_) rfl
        unfold crs
        simp only [Bool.and_eq_true, Bool.or_eq_true, decide_eq_true_eq, Int32.le_iff_toInt_le, Int32.lt_iff_toInt_lt] at h36 h41 h45 ⊢
        omega
      · refine aw_iload C dX9_cross_48 rfl ?_
        refine aw_if_ge (tgt := 57) C dX9_cross_50 (by decide) (fun h50 => ?_) (fun h50 => ?_)
        · refine aw_iconst C dX9_cross_57 ki_0 ?_
          refine aw_zret C hr dX9_cross_58 (by decide) ?_
          refine PI.mk (bi_g ?_) rfl
          unfold crs
          simp only [Bool.and_eq_true, Bool.or_eq_true, decide_eq_true_eq, Int32.le_iff_toInt_le, Int32.lt_iff_toInt_lt] at h36 h41 h45 h50 ⊢
          omega
        · refine aw_iconst C dX9_cross_53 ki_1 ?_
          refine aw_goto (tgt := 58) C dX9_cross_54 (by decide) ?_
          refine aw_zret C hr dX9_cross_58 (by decide) ?_
          refine PI.mk (bi_t ?_) rfl
          unfold crs
          simp only [Bool.and_eq_true, Bool.or_eq_true, decide_eq_true_eq, Int32.le_iff_toInt_le, Int32.lt_iff_toInt_lt] at h36 h41 h45 h50 ⊢
          omega
set_option maxRecDepth 20000 in
/-- inWayAt, its loop -/
theorem cm_inWayAt_l {l : Launch} {D : va_G} {cy : Nat → ClassId} {z : Nat → Nat} {q : Nat → Nat} {p : Program} {e : Env} {s : State} {m : MethodId} {args : Array Value} {below : List Frame} {meth : Method} {c : Code} (hI : wI 9 q) (C : Cx p s m args meth c cX9_inWayAt 9 RX9 D cy z 9 q) (hr : meth.sig.returnType = (some .boolean)) {len span wires chg rsp rwi val ends : Nat} {text : Nat → Nat} {h was rd eyes fw bars ways : Nat → Int32} {i k : Nat} (hi : i < 8) (hk : k < 8) {e0 : Nat} (he : e0 ≤ span) (hs : 8 ≤ span) (hs2 : span ≤ 40) : ∀ (d : Nat) (y : Nat), span + 1 - y < d → (y ≤ span + 1) → (∀ j, j < y → ovr h span i k e0 j = false) → AW p l e { frames := 1, cells := 0, slots := 0, locals := 25 } s m args below meth c D 9 q 9 (MQ below (Qg D 9 q (PI (bi (wayA h span i k e0)) (mdC cy q len span wires chg rsp rwi val ends text h was rd eyes fw bars ways)) (wA 9 q s.heap.size)) args s 0 0 (wA 9 q s.heap.size)) (mdC cy q len span wires chg rsp rwi val ends text h was rd eyes fw bars ways) [(0, .ref (q 0)), (1, .int (nI i)), (2, .int (nI k)), (3, .int (nI e0)), (4, .int (hgt h span i e0)), (5, .int (plc h span i e0)), (6, .int (nI y))] 19 [] := by
  intro d
  induction d with
  | zero => intro y hd; exact absurd hd (Nat.not_lt_zero _)
  | succ d ih =>
    intro y hd iv0 iv1
    refine aw_iload C dX9_inWayAt_19 rfl ?_
    refine aw_aload_n C dX9_inWayAt_21 (i := 0) rfl rfl ?_
    refine aw_get (k := 0) C dX9_inWayAt_22 fl_X9_34 (by decide) rfl rfl ?_
    refine aw_icmp_gt_n (tgt := 104) C dX9_inWayAt_25 (by decide) (by omega) (by omega) (fun h25 => ?_) (fun h25 => ?_)
    · refine aw_iconst C dX9_inWayAt_104 ki_0 ?_
      refine aw_zret C hr dX9_inWayAt_105 (by decide) ?_
      exact PI.mk (bi_f (anyB_f.mpr (fun j hj => iv1 j (by omega)))) rfl
    · refine aw_aload_n C dX9_inWayAt_28 (i := 0) rfl rfl ?_
      refine aw_iload_n C dX9_inWayAt_29 (i := 2) rfl rfl ?_
      refine aw_iload C dX9_inWayAt_30 rfl ?_
      refine aw_V2i (k := 0) C dX9_inWayAt_32 cv_X9_108 (by decide) rfl rfl rfl (cm_heightOf hI (by omega) (by omega) hs hs2) ⟨Nat.le_of_ble_eq_true rfl, Nat.le_of_ble_eq_true rfl⟩ (Nat.le_of_ble_eq_true rfl) ?_
      refine aw_iload C dX9_inWayAt_35 rfl ?_
      refine aw_isub C dX9_inWayAt_37 ?_
      refine aw_istore (lv' := [(0, _), (1, _), (2, _), (3, _), (4, _), (5, _), (6, _), (7, _)]) C dX9_inWayAt_38 (Nat.le_of_ble_eq_true rfl) rfl ?_
      refine aw_iconst C dX9_inWayAt_40 ki_2 ?_
      refine aw_aload_n C dX9_inWayAt_41 (i := 0) rfl rfl ?_
      refine aw_get (k := 0) C dX9_inWayAt_42 fl_X9_13 (by decide) rfl rfl ?_
      refine aw_bipush C dX9_inWayAt_45 kb_42 ?_
      refine aw_iald (k := 2) C dX9_inWayAt_47 (by decide) (rfl) (rfl) (by omega) (by decide) (rfl) ?_
      refine aw_imul C dX9_inWayAt_48 ?_
      refine aw_iload C dX9_inWayAt_49 rfl ?_
      refine aw_iadd C dX9_inWayAt_51 ?_
      refine aw_istore (lv' := [(0, _), (1, _), (2, _), (3, _), (4, _), (5, _), (6, _), (7, _), (8, _)]) C dX9_inWayAt_52 (Nat.le_of_ble_eq_true rfl) rfl ?_
      refine aw_iload C dX9_inWayAt_54 rfl ?_
      refine aw_if_lt (tgt := 98) C dX9_inWayAt_56 (by decide) (fun h56 => ?_) (fun h56 => ?_)
      · refine aw_iinc_n (lv' := [(0, _), (1, _), (2, _), (3, _), (4, _), (5, _), (6, _), (7, _), (8, _)]) C dX9_inWayAt_98 rfl ki_1 (Nat.le_of_ble_eq_true rfl) rfl ?_
        refine aw_goto (tgt := 19) C dX9_inWayAt_101 (by decide) ?_
        refine aw_take 7 (lv' := [(0, _), (1, _), (2, _), (3, _), (4, _), (5, _), (6, _)]) rfl ?_
        exact ih (y + 1) (by omega) (by omega) (fun j hj => by rcases Nat.lt_or_ge j y with g | g; exact iv1 j g; rw [show j = y by omega]; rw [← Bool.not_eq_true]; unfold ovr; simp only [Bool.and_eq_true, Bool.or_eq_true, decide_eq_true_eq, Int32.le_iff_toInt_le, Int32.lt_iff_toInt_lt] at h56 ⊢; omega)
      · refine aw_iconst C dX9_inWayAt_59 ki_2 ?_
        refine aw_iload C dX9_inWayAt_60 rfl ?_
        refine aw_iload_n C dX9_inWayAt_62 (i := 3) rfl rfl ?_
        refine aw_S2i C dX9_inWayAt_63 cs_X9_105 (cm_distance hI) ⟨Nat.le_of_ble_eq_true rfl, Nat.le_of_ble_eq_true rfl⟩ (Nat.le_of_ble_eq_true rfl) ?_
        refine aw_imul C dX9_inWayAt_66 ?_
        refine aw_iload C dX9_inWayAt_67 rfl ?_
        refine aw_icmp_ge (tgt := 98) C dX9_inWayAt_69 (by decide) (fun h69 => ?_) (fun h69 => ?_)
        · refine aw_iinc_n (lv' := [(0, _), (1, _), (2, _), (3, _), (4, _), (5, _), (6, _), (7, _), (8, _)]) C dX9_inWayAt_98 rfl ki_1 (Nat.le_of_ble_eq_true rfl) rfl ?_
          refine aw_goto (tgt := 19) C dX9_inWayAt_101 (by decide) ?_
          refine aw_take 7 (lv' := [(0, _), (1, _), (2, _), (3, _), (4, _), (5, _), (6, _)]) rfl ?_
          exact ih (y + 1) (by omega) (by omega) (fun j hj => by rcases Nat.lt_or_ge j y with g | g; exact iv1 j g; rw [show j = y by omega]; rw [← Bool.not_eq_true]; unfold ovr; simp only [Bool.and_eq_true, Bool.or_eq_true, decide_eq_true_eq, Int32.le_iff_toInt_le, Int32.lt_iff_toInt_lt] at h56 h69 ⊢; omega)
        · refine aw_iconst C dX9_inWayAt_72 ki_2 ?_
          refine aw_aload_n C dX9_inWayAt_73 (i := 0) rfl rfl ?_
          refine aw_iload_n C dX9_inWayAt_74 (i := 2) rfl rfl ?_
          refine aw_iload C dX9_inWayAt_75 rfl ?_
          refine aw_V2i (k := 0) C dX9_inWayAt_77 cv_X9_102 (by decide) rfl rfl rfl (cm_placeOf hI (by omega) (by omega)) ⟨Nat.le_of_ble_eq_true rfl, Nat.le_of_ble_eq_true rfl⟩ (Nat.le_of_ble_eq_true rfl) ?_
          refine aw_iload C dX9_inWayAt_80 rfl ?_
          refine aw_S2i C dX9_inWayAt_82 cs_X9_105 (cm_distance hI) ⟨Nat.le_of_ble_eq_true rfl, Nat.le_of_ble_eq_true rfl⟩ (Nat.le_of_ble_eq_true rfl) ?_
          refine aw_imul C dX9_inWayAt_85 ?_
          refine aw_aload_n C dX9_inWayAt_86 (i := 0) rfl rfl ?_
          refine aw_get (k := 0) C dX9_inWayAt_87 fl_X9_34 (by decide) rfl rfl ?_
          refine aw_iload C dX9_inWayAt_90 rfl ?_
          refine aw_imul C dX9_inWayAt_92 ?_
          refine aw_icmp_ge (tgt := 98) C dX9_inWayAt_93 (by decide) (fun h93 => ?_) (fun h93 => ?_)
          · refine aw_iinc_n (lv' := [(0, _), (1, _), (2, _), (3, _), (4, _), (5, _), (6, _), (7, _), (8, _)]) C dX9_inWayAt_98 rfl ki_1 (Nat.le_of_ble_eq_true rfl) rfl ?_
            refine aw_goto (tgt := 19) C dX9_inWayAt_101 (by decide) ?_
            refine aw_take 7 (lv' := [(0, _), (1, _), (2, _), (3, _), (4, _), (5, _), (6, _)]) rfl ?_
            exact ih (y + 1) (by omega) (by omega) (fun j hj => by rcases Nat.lt_or_ge j y with g | g; exact iv1 j g; rw [show j = y by omega]; rw [← Bool.not_eq_true]; unfold ovr; simp only [Bool.and_eq_true, Bool.or_eq_true, decide_eq_true_eq, Int32.le_iff_toInt_le, Int32.lt_iff_toInt_lt] at h56 h69 h93 ⊢; omega)
          · refine aw_iconst C dX9_inWayAt_96 ki_1 ?_
            refine aw_zret C hr dX9_inWayAt_97 (by decide) ?_
            exact PI.mk (bi_t (anyB_t.mpr ⟨y, by omega, by unfold ovr; simp only [Bool.and_eq_true, decide_eq_true_eq]; exact ⟨i_le h56, i_lt h69, i_lt h93⟩⟩)) rfl
set_option maxRecDepth 20000 in
/-- inWayAt -/
theorem cm_inWayAt {l : Launch} {D : va_G} {cy : Nat → ClassId} {z : Nat → Nat} {q : Nat → Nat} (hI : wI 9 q) {len span wires chg rsp rwi val ends : Nat} {text : Nat → Nat} {h was rd eyes fw bars ways : Nat → Int32} {i k : Nat} (hi : i < 8) (hk : k < 8) {e0 : Nat} (he : e0 ≤ span) (hs : 8 ≤ span) (hs2 : span ≤ 40) : Ct l yX9_inWayAt cX9_inWayAt 9 (some .boolean) 1 25 D cy z 9 q [.ref (q 0), .int (nI i), .int (nI k), .int (nI e0)] (mdC cy q len span wires chg rsp rwi val ends text h was rd eyes fw bars ways) (PI (bi (wayA h span i k e0)) (mdC cy q len span wires chg rsp rwi val ends text h was rd eyes fw bars ways)) := by
  refine Ct.of (own := RX9) (by decide) rfl hI (Nat.le_of_ble_eq_true rfl) ?_
  intro p e s m args below meth c C hr
  refine aw_lv (lv' := [(0, .ref (q 0)), (1, .int (nI i)), (2, .int (nI k)), (3, .int (nI e0))]) (fun x hx => hx) ?_
  refine aw_aload_n C dX9_inWayAt_0 (i := 0) rfl rfl ?_
  refine aw_iload_n C dX9_inWayAt_1 (i := 1) rfl rfl ?_
  refine aw_iload_n C dX9_inWayAt_2 (i := 3) rfl rfl ?_
  refine aw_V2i (k := 0) C dX9_inWayAt_3 cv_X9_108 (by decide) rfl rfl rfl (cm_heightOf hI (by omega) (by omega) hs hs2) ⟨Nat.le_of_ble_eq_true rfl, Nat.le_of_ble_eq_true rfl⟩ (Nat.le_of_ble_eq_true rfl) ?_
  refine aw_istore (lv' := [(0, _), (1, _), (2, _), (3, _), (4, _)]) C dX9_inWayAt_6 (Nat.le_of_ble_eq_true rfl) rfl ?_
  refine aw_aload_n C dX9_inWayAt_8 (i := 0) rfl rfl ?_
  refine aw_iload_n C dX9_inWayAt_9 (i := 1) rfl rfl ?_
  refine aw_iload_n C dX9_inWayAt_10 (i := 3) rfl rfl ?_
  refine aw_V2i (k := 0) C dX9_inWayAt_11 cv_X9_102 (by decide) rfl rfl rfl (cm_placeOf hI (by omega) (by omega)) ⟨Nat.le_of_ble_eq_true rfl, Nat.le_of_ble_eq_true rfl⟩ (Nat.le_of_ble_eq_true rfl) ?_
  refine aw_istore (lv' := [(0, _), (1, _), (2, _), (3, _), (4, _), (5, _)]) C dX9_inWayAt_14 (Nat.le_of_ble_eq_true rfl) rfl ?_
  refine aw_iconst C dX9_inWayAt_16 ki_0 ?_
  refine aw_istore (lv' := [(0, _), (1, _), (2, _), (3, _), (4, _), (5, _), (6, _)]) C dX9_inWayAt_17 (Nat.le_of_ble_eq_true rfl) rfl ?_
  exact cm_inWayAt_l hI C hr hi hk he hs hs2 (span + 2) 0 (by omega) (by omega) (fun j hj => absurd hj (Nat.not_lt_zero j))
set_option maxRecDepth 20000 in
/-- inWay -/
theorem cm_inWay {l : Launch} {D : va_G} {cy : Nat → ClassId} {z : Nat → Nat} {q : Nat → Nat} (hI : wI 9 q) {len span wires chg rsp rwi val ends : Nat} {text : Nat → Nat} {h was rd eyes fw bars ways : Nat → Int32} {i k : Nat} (hi : i < 8) (hk : k < 8) (hs : 8 ≤ span) (hs2 : span ≤ 40) : Ct l yX9_inWay cX9_inWay 3 (some .boolean) 2 53 D cy z 9 q [.ref (q 0), .int (nI i), .int (nI k)] (mdC cy q len span wires chg rsp rwi val ends text h was rd eyes fw bars ways) (PI (bi (way h span i k)) (mdC cy q len span wires chg rsp rwi val ends text h was rd eyes fw bars ways)) := by
  refine Ct.of (own := RX9) (by decide) rfl hI (Nat.le_of_ble_eq_true rfl) ?_
  intro p e s m args below meth c C hr
  refine aw_lv (lv' := [(0, .ref (q 0)), (1, .int (nI i)), (2, .int (nI k))]) (fun x hx => hx) ?_
  refine aw_aload_n C dX9_inWay_0 (i := 0) rfl rfl ?_
  refine aw_iload_n C dX9_inWay_1 (i := 1) rfl rfl ?_
  refine aw_iload_n C dX9_inWay_2 (i := 2) rfl rfl ?_
  refine aw_iconst C dX9_inWay_3 ki_0 ?_
  refine aw_V3i (k := 0) C dX9_inWay_4 cv_X9_120 (by decide) rfl rfl rfl (cm_inWayAt hI hi hk (by omega) hs hs2) ⟨Nat.le_of_ble_eq_true rfl, Nat.le_of_ble_eq_true rfl⟩ (Nat.le_of_ble_eq_true rfl) ?_
  refine aw_if_ne_b (tgt := 23) C dX9_inWay_7 (by decide) (fun h7 => ?_) (fun h7 => ?_)
  · refine aw_iconst C dX9_inWay_23 ki_1 ?_
    refine aw_goto (tgt := 28) C dX9_inWay_24 (by decide) ?_
    refine aw_zret C hr dX9_inWay_28 (by decide) ?_
    exact PI.mk (bi_t (by unfold way; rw [h7]; rfl)) rfl
  · refine aw_aload_n C dX9_inWay_10 (i := 0) rfl rfl ?_
    refine aw_iload_n C dX9_inWay_11 (i := 1) rfl rfl ?_
    refine aw_iload_n C dX9_inWay_12 (i := 2) rfl rfl ?_
    refine aw_aload_n C dX9_inWay_13 (i := 0) rfl rfl ?_
    refine aw_get (k := 0) C dX9_inWay_14 fl_X9_34 (by decide) rfl rfl ?_
    refine aw_V3i (k := 0) C dX9_inWay_17 cv_X9_120 (by decide) rfl rfl rfl (cm_inWayAt hI hi hk (by omega) hs hs2) ⟨Nat.le_of_ble_eq_true rfl, Nat.le_of_ble_eq_true rfl⟩ (Nat.le_of_ble_eq_true rfl) ?_
    refine aw_if_eq_b (tgt := 27) C dX9_inWay_20 (by decide) (fun h20 => ?_) (fun h20 => ?_)
    · refine aw_iconst C dX9_inWay_27 ki_0 ?_
      refine aw_zret C hr dX9_inWay_28 (by decide) ?_
      exact PI.mk (bi_f (by unfold way; rw [h7, h20]; rfl)) rfl
    · refine aw_iconst C dX9_inWay_23 ki_1 ?_
      refine aw_goto (tgt := 28) C dX9_inWay_24 (by decide) ?_
      refine aw_zret C hr dX9_inWay_28 (by decide) ?_
      exact PI.mk (bi_t (by unfold way; rw [h7, h20]; rfl)) rfl
set_option maxRecDepth 20000 in
/-- bits, its loop -/
theorem cm_bits_l {l : Launch} {D : va_G} {cy : Nat → ClassId} {z : Nat → Nat} {q : Nat → Nat} {N : Nat} {p : Program} {e : Env} {s : State} {m : MethodId} {args : Array Value} {below : List Frame} {meth : Method} {c : Code} (hI : wI N q) (C : Cx p s m args meth c cX9_bits 3 RX9 D cy z N q) (hr : meth.sig.returnType = (some .int)) {f : wS} {x : Int32} : ∀ (d : Nat) (k : Nat), 19 - k < d → (k ≤ 19) → AW p l e { frames := 0, cells := 0, slots := 0, locals := 0 } s m args below meth c D N q 3 (MQ below (Qg D N q (PI (bitsI x) f) (wA N q s.heap.size)) args s 0 0 (wA N q s.heap.size)) f [(0, .int x), (1, .int (accI (nI 0) (bt x) k)), (2, .int (nI k))] 4 [] := by
  intro d
  induction d with
  | zero => intro k hd; exact absurd hd (Nat.not_lt_zero _)
  | succ d ih =>
    intro k hd iv0
    refine aw_iload_n C dX9_bits_4 (i := 2) rfl rfl ?_
    refine aw_bipush C dX9_bits_5 kb_19 ?_
    refine aw_icmp_ge_n (tgt := 24) C dX9_bits_7 (by decide) (by omega) (by omega) (fun h7 => ?_) (fun h7 => ?_)
    · refine aw_iload_n C dX9_bits_24 (i := 1) rfl rfl ?_
      refine aw_iret C hr dX9_bits_25 ?_
      exact PI.mk (by rw [show k = 19 by omega]; rfl) rfl
    · refine aw_iload_n C dX9_bits_10 (i := 1) rfl rfl ?_
      refine aw_iload_n C dX9_bits_11 (i := 0) rfl rfl ?_
      refine aw_iload_n C dX9_bits_12 (i := 2) rfl rfl ?_
      refine aw_ishr C dX9_bits_13 ?_
      refine aw_iconst C dX9_bits_14 ki_1 ?_
      refine aw_iand C dX9_bits_15 ?_
      refine aw_iadd C dX9_bits_16 ?_
      refine aw_istore_n (lv' := [(0, _), (1, _), (2, _)]) C dX9_bits_17 (i := 1) rfl (Nat.le_of_ble_eq_true rfl) rfl ?_
      refine aw_iinc_n (lv' := [(0, _), (1, _), (2, _)]) C dX9_bits_18 rfl ki_1 (Nat.le_of_ble_eq_true rfl) rfl ?_
      refine aw_goto (tgt := 4) C dX9_bits_21 (by decide) ?_
      exact ih (k + 1) (by omega) (by omega)
set_option maxRecDepth 20000 in
/-- bits -/
theorem cm_bits {l : Launch} {D : va_G} {cy : Nat → ClassId} {z : Nat → Nat} {q : Nat → Nat} {N : Nat} (hI : wI N q) {f : wS} {x : Int32} : Ct l yX9_bits cX9_bits 3 (some .int) 0 0 D cy z N q [.int x] f (PI (bitsI x) f) := by
  refine Ct.of (own := RX9) (by decide) rfl hI (Nat.le_of_ble_eq_true rfl) ?_
  intro p e s m args below meth c C hr
  refine aw_lv (lv' := [(0, .int x)]) (fun x hx => hx) ?_
  refine aw_iconst C dX9_bits_0 ki_0 ?_
  refine aw_istore_n (lv' := [(0, _), (1, _)]) C dX9_bits_1 (i := 1) rfl (Nat.le_of_ble_eq_true rfl) rfl ?_
  refine aw_iconst C dX9_bits_2 ki_0 ?_
  refine aw_istore_n (lv' := [(0, _), (1, _), (2, _)]) C dX9_bits_3 (i := 2) rfl (Nat.le_of_ble_eq_true rfl) rfl ?_
  exact cm_bits_l hI C hr 20 0 (by omega) (by omega)
set_option maxRecDepth 20000 in
/-- isBarred, its loop -/
theorem cm_isBarred_l {l : Launch} {D : va_G} {cy : Nat → ClassId} {z : Nat → Nat} {q : Nat → Nat} {p : Program} {e : Env} {s : State} {m : MethodId} {args : Array Value} {below : List Frame} {meth : Method} {c : Code} (hI : wI 9 q) (C : Cx p s m args meth c cX9_isBarred 5 RX9 D cy z 9 q) (hr : meth.sig.returnType = (some .boolean)) {len span wires chg rsp rwi val ends : Nat} {text : Nat → Nat} {h was rd eyes fw bars ways : Nat → Int32} {i : Nat} {x : Int32} (hi : i < 8) (hw : wires ≤ 8) (hs : 8 ≤ span) (hs2 : span ≤ 40) : ∀ (d : Nat) (k : Nat) (b : Bool), wires - k < d → (k ≤ wires) → (b = anyB (barP h span i x) k) → AW p l e { frames := 3, cells := 0, slots := 0, locals := 75 } s m args below meth c D 9 q 5 (MQ below (Qg D 9 q (PI (bi (barB h span wires i x)) (mdC cy q len span wires chg rsp rwi val ends text h was rd eyes fw bars ways)) (wA 9 q s.heap.size)) args s 0 0 (wA 9 q s.heap.size)) (mdC cy q len span wires chg rsp rwi val ends text h was rd eyes fw bars ways) [(0, .ref (q 0)), (1, .int (nI i)), (2, .int x), (3, .int (bi b)), (4, .int (nI k))] 5 [] := by
  intro d
  induction d with
  | zero => intro k b hd; exact absurd hd (Nat.not_lt_zero _)
  | succ d ih =>
    intro k b hd iv0 iv1
    refine aw_iload C dX9_isBarred_5 rfl ?_
    refine aw_aload_n C dX9_isBarred_7 (i := 0) rfl rfl ?_
    refine aw_get (k := 0) C dX9_isBarred_8 fl_X9_38 (by decide) rfl rfl ?_
    refine aw_icmp_ge_n (tgt := 56) C dX9_isBarred_11 (by decide) (by omega) (by omega) (fun h11 => ?_) (fun h11 => ?_)
    · refine aw_iload_n C dX9_isBarred_56 (i := 3) rfl rfl ?_
      refine aw_zret C hr dX9_isBarred_57 (bi_nar) ?_
      exact PI.mk (by rw [iv1, show k = wires by omega]; rfl) rfl
    · refine aw_iload_n C dX9_isBarred_14 (i := 3) rfl rfl ?_
      refine aw_if_ne_b (tgt := 44) C dX9_isBarred_15 (by decide) (fun h15 => ?_) (fun h15 => ?_)
      · refine aw_iconst C dX9_isBarred_44 ki_1 ?_
        refine aw_goto (tgt := 49) C dX9_isBarred_45 (by decide) ?_
        refine aw_istore_n (lv' := [(0, _), (1, _), (2, _), (3, _), (4, _)]) C dX9_isBarred_49 (i := 3) rfl (Nat.le_of_ble_eq_true rfl) rfl ?_
        refine aw_iinc_n (lv' := [(0, _), (1, _), (2, _), (3, _), (4, _)]) C dX9_isBarred_50 rfl ki_1 (Nat.le_of_ble_eq_true rfl) rfl ?_
        refine aw_goto (tgt := 5) C dX9_isBarred_53 (by decide) ?_
        exact ih (k + 1) true (by omega) (by omega) (by unfold anyB; rw [← iv1, h15]; rfl)
      · refine aw_iload C dX9_isBarred_18 rfl ?_
        refine aw_iload_n C dX9_isBarred_20 (i := 1) rfl rfl ?_
        refine aw_icmp_eq_n (tgt := 48) C dX9_isBarred_21 (by decide) (by omega) (by omega) (fun h21 => ?_) (fun h21 => ?_)
        · refine aw_iconst C dX9_isBarred_48 ki_0 ?_
          refine aw_istore_n (lv' := [(0, _), (1, _), (2, _), (3, _), (4, _)]) C dX9_isBarred_49 (i := 3) rfl (Nat.le_of_ble_eq_true rfl) rfl ?_
          refine aw_iinc_n (lv' := [(0, _), (1, _), (2, _), (3, _), (4, _)]) C dX9_isBarred_50 rfl ki_1 (Nat.le_of_ble_eq_true rfl) rfl ?_
          refine aw_goto (tgt := 5) C dX9_isBarred_53 (by decide) ?_
          exact ih (k + 1) false (by omega) (by omega) (by unfold anyB; rw [← iv1, h15]; unfold barP bt; simp [h21])
        · refine aw_iload_n C dX9_isBarred_24 (i := 2) rfl rfl ?_
          refine aw_iload C dX9_isBarred_25 rfl ?_
          refine aw_ishr C dX9_isBarred_27 ?_
          refine aw_iconst C dX9_isBarred_28 ki_1 ?_
          refine aw_iand C dX9_isBarred_29 ?_
          refine aw_iconst C dX9_isBarred_30 ki_1 ?_
          refine aw_icmp_ne (tgt := 48) C dX9_isBarred_31 (by decide) (fun h31 => ?_) (fun h31 => ?_)
          · refine aw_iconst C dX9_isBarred_48 ki_0 ?_
            refine aw_istore_n (lv' := [(0, _), (1, _), (2, _), (3, _), (4, _)]) C dX9_isBarred_49 (i := 3) rfl (Nat.le_of_ble_eq_true rfl) rfl ?_
            refine aw_iinc_n (lv' := [(0, _), (1, _), (2, _), (3, _), (4, _)]) C dX9_isBarred_50 rfl ki_1 (Nat.le_of_ble_eq_true rfl) rfl ?_
            refine aw_goto (tgt := 5) C dX9_isBarred_53 (by decide) ?_
            exact ih (k + 1) false (by omega) (by omega) (by unfold anyB; rw [← iv1, h15]; unfold barP bt; simp [h21, h31])
          · refine aw_aload_n C dX9_isBarred_34 (i := 0) rfl rfl ?_
            refine aw_iload_n C dX9_isBarred_35 (i := 1) rfl rfl ?_
            refine aw_iload C dX9_isBarred_36 rfl ?_
            refine aw_V2i (k := 0) C dX9_isBarred_38 cv_X9_130 (by decide) rfl rfl rfl (cm_inWay hI hi (by omega) hs hs2) ⟨Nat.le_of_ble_eq_true rfl, Nat.le_of_ble_eq_true rfl⟩ (Nat.le_of_ble_eq_true rfl) ?_
            refine aw_if_eq_b (tgt := 48) C dX9_isBarred_41 (by decide) (fun h41 => ?_) (fun h41 => ?_)
            · refine aw_iconst C dX9_isBarred_48 ki_0 ?_
              refine aw_istore_n (lv' := [(0, _), (1, _), (2, _), (3, _), (4, _)]) C dX9_isBarred_49 (i := 3) rfl (Nat.le_of_ble_eq_true rfl) rfl ?_
              refine aw_iinc_n (lv' := [(0, _), (1, _), (2, _), (3, _), (4, _)]) C dX9_isBarred_50 rfl ki_1 (Nat.le_of_ble_eq_true rfl) rfl ?_
              refine aw_goto (tgt := 5) C dX9_isBarred_53 (by decide) ?_
              exact ih (k + 1) false (by omega) (by omega) (by unfold anyB; rw [← iv1, h15]; unfold barP bt; simp [h21, h31, h41])
            · refine aw_iconst C dX9_isBarred_44 ki_1 ?_
              refine aw_goto (tgt := 49) C dX9_isBarred_45 (by decide) ?_
              refine aw_istore_n (lv' := [(0, _), (1, _), (2, _), (3, _), (4, _)]) C dX9_isBarred_49 (i := 3) rfl (Nat.le_of_ble_eq_true rfl) rfl ?_
              refine aw_iinc_n (lv' := [(0, _), (1, _), (2, _), (3, _), (4, _)]) C dX9_isBarred_50 rfl ki_1 (Nat.le_of_ble_eq_true rfl) rfl ?_
              refine aw_goto (tgt := 5) C dX9_isBarred_53 (by decide) ?_
              exact ih (k + 1) true (by omega) (by omega) (by unfold anyB; rw [← iv1, h15]; unfold barP bt; simp [h21, h31, h41])
set_option maxRecDepth 20000 in
/-- isBarred -/
theorem cm_isBarred {l : Launch} {D : va_G} {cy : Nat → ClassId} {z : Nat → Nat} {q : Nat → Nat} (hI : wI 9 q) {len span wires chg rsp rwi val ends : Nat} {text : Nat → Nat} {h was rd eyes fw bars ways : Nat → Int32} {i : Nat} {x : Int32} (hi : i < 8) (hw : wires ≤ 8) (hs : 8 ≤ span) (hs2 : span ≤ 40) : Ct l yX9_isBarred cX9_isBarred 5 (some .boolean) 3 75 D cy z 9 q [.ref (q 0), .int (nI i), .int x] (mdC cy q len span wires chg rsp rwi val ends text h was rd eyes fw bars ways) (PI (bi (barB h span wires i x)) (mdC cy q len span wires chg rsp rwi val ends text h was rd eyes fw bars ways)) := by
  refine Ct.of (own := RX9) (by decide) rfl hI (Nat.le_of_ble_eq_true rfl) ?_
  intro p e s m args below meth c C hr
  refine aw_lv (lv' := [(0, .ref (q 0)), (1, .int (nI i)), (2, .int x)]) (fun x hx => hx) ?_
  refine aw_iconst C dX9_isBarred_0 ki_0 ?_
  refine aw_istore_n (lv' := [(0, _), (1, _), (2, _), (3, _)]) C dX9_isBarred_1 (i := 3) rfl (Nat.le_of_ble_eq_true rfl) rfl ?_
  refine aw_iconst C dX9_isBarred_2 ki_0 ?_
  refine aw_istore (lv' := [(0, _), (1, _), (2, _), (3, _), (4, _)]) C dX9_isBarred_3 (Nat.le_of_ble_eq_true rfl) rfl ?_
  exact cm_isBarred_l hI C hr hi hw hs hs2 (wires + 1) 0 false (by omega) (by omega) rfl
end
section
-- what is asked, the state: how long the text is, SPAN, how many wires, how many changes can be undone, the text, the row, the rows ahead, the sights
abbrev St : Type := Nat × Nat × Nat × Nat × (Nat → Nat) × (Nat → Int32) × (Nat → Int32) × (Nat → Int32)
def wrB (wires : Nat) (i : Int32) : Bool := inB i (nI 0) (nI wires - nI 1)
theorem in_of {x : Int32} {n : Nat} (hn : n < 2147483648) (h : inB x (nI 0) (nI n) = true) : ∃ a, a ≤ n ∧ x = nI a := by
  obtain ⟨h1, h2⟩ := inB_iff.mp h
  obtain ⟨a, ha, rfl⟩ := nI_of (x := x) (i_nlt (by rw [← nI_0]; exact h1))
  exact ⟨a, (nI_leI (by omega) hn).mp h2, rfl⟩
theorem in_to {a n : Nat} (ha : a ≤ n) (hn : n < 2147483648) : inB (nI a) (nI 0) (nI n) = true := inB_t (nI_le (by omega) (by omega)) (nI_le ha hn)
theorem wr_of {wires : Nat} {i : Int32} (hw : wires ≤ 8) (h : wrB wires i = true) : ∃ a, a < wires ∧ i = nI a := by
  obtain ⟨h1, h2⟩ := inB_iff.mp h
  obtain ⟨a, ha, rfl⟩ := nI_of (x := i) (i_nlt (by rw [← nI_0]; exact h1))
  refine ⟨a, ?_, rfl⟩
  rcases Nat.eq_zero_or_pos wires with e | e
  · subst e
    rw [Int32.le_iff_toInt_le, nI_toInt ha] at h2
    exact absurd h2 (by have : (nI 0 - nI 1).toInt = -1 := by decide
                        omega)
  · rw [pk_sub (show 1 ≤ wires from e)] at h2
    have := (nI_leI ha (by omega)).mp h2
    omega
theorem wr_to {wires a : Nat} (hw : wires ≤ 8) (h : a < wires) : wrB wires (nI a) = true := by
  unfold wrB
  rw [pk_sub (show 1 ≤ wires by omega)]
  exact in_to (by omega) (by omega)
theorem wr_lt {wires a : Nat} (hw : wires ≤ 8) (ha : a < 2147483648) : wrB wires (nI a) = decide (a < wires) := by
  by_cases h : a < wires
  · rw [wr_to hw h]; simp [h]
  · cases hb : wrB wires (nI a) with
    | false => simp [h]
    | true =>
      obtain ⟨c, hc, e⟩ := wr_of hw hb
      rw [(nI_eq ha (by omega)).mp e] at h
      exact absurd hc h
def lowI (what : Int32) : Int32 := if what = nI 4 then nI 1 else nI 0
def highI (what : Int32) : Int32 := if what = 0 then nI 60 else if what = nI 2 then nI 60 else if what = nI 4 then nI 40 else nI 2
def mostI (w : Int32) : Int32 := if w = nI 1 then nI 40 else nI 9
/-- a row filled from another one, below k; from a place on, k of them -/
def cpG (s d : Nat → Int32) (k : Nat) : Nat → Int32 := fun j => if j < k then s j else d j
theorem cpG_0 (s d : Nat → Int32) : cpG s d 0 = d := funext fun j => if_neg (Nat.not_lt_zero j)
theorem cpG_ge {s d : Nat → Int32} {k j : Nat} (h : k ≤ j) : cpG s d k j = d j := if_neg (Nat.not_lt.mpr h)
theorem cpG_lt {s d : Nat → Int32} {k j : Nat} (h : j < k) : cpG s d k j = s j := if_pos h
theorem cpG_s (s d : Nat → Int32) (k : Nat) : upd (cpG s d k) k (s k) = cpG s d (k + 1) := by
  funext j
  unfold upd cpG
  by_cases h : j = k
  · subst h
    rw [if_pos rfl, if_pos (by omega)]
  · rw [if_neg h]
    by_cases g : j < k
    · rw [if_pos g, if_pos (by omega)]
    · rw [if_neg g, if_neg (by omega)]
def cpO (s d : Nat → Int32) (off k : Nat) : Nat → Int32 := fun j => if j < off then d j else if j < off + k then s (j - off) else d j
theorem cpO_0 (s d : Nat → Int32) (off : Nat) : cpO s d off 0 = d := by
  funext j
  unfold cpO
  split
  · rfl
  · rw [if_neg (by omega)]
theorem cpO_s (s d : Nat → Int32) (off k : Nat) : upd (cpO s d off k) (off + k) (s k) = cpO s d off (k + 1) := by
  funext j
  unfold upd cpO
  by_cases h : j = off + k
  · subst h
    rw [if_pos rfl, if_neg (by omega), if_pos (by omega), show off + k - off = k by omega]
  · rw [if_neg h]
    by_cases g : j < off
    · rw [if_pos g, if_pos g]
    · rw [if_neg g, if_neg g]
      by_cases g2 : j < off + k
      · rw [if_pos g2, if_pos (by omega)]
      · rw [if_neg g2, if_neg (by omega)]
/-- what is kept for undoing -/
def ntW (chg : Nat) (was h : Nat → Int32) : Nat → Int32 := if chg = 6 then cpO h (cpG (fun j => was (j + 45)) was 225) 225 45 else cpO h was (45 * chg) 45
def ntC (chg : Nat) : Nat := if chg = 6 then 6 else chg + 1
/-- a place of the row becomes v -/
def becm (len span wires chg : Nat) (text : Nat → Nat) (h was eyes : Nat → Int32) (pl : Nat) (v : Int32) : Int32 × St := if h pl = v then (-2, (len, span, wires, chg, text, h, was, eyes)) else (h pl, (len, span, wires, ntC chg, text, upd h pl v, ntW chg was h, eyes))
def opWrite (len span wires chg : Nat) (text : Nat → Nat) (h was eyes : Nat → Int32) (x : Int32) : Int32 × St := if inB x (nI 32) (nI 126) = true then if len = 200 then (-3, (len, span, wires, chg, text, h, was, eyes)) else (nI (len + 1), (len + 1, span, wires, chg, va_up text len x.toNatClampNeg, h, was, eyes)) else (-1, (len, span, wires, chg, text, h, was, eyes))
def opWipe (len span wires chg : Nat) (text : Nat → Nat) (h was eyes : Nat → Int32) : Int32 × St := (nI len, (0, span, wires, chg, text, h, was, eyes))
def opSet (len span wires chg : Nat) (text : Nat → Nat) (h was eyes : Nat → Int32) (i what v : Int32) : Int32 × St := if wrB wires i = true then if inB what (nI 0) (nI 4) = true then if inB v (lowI what) (highI what) = true then becm len span wires chg text h was eyes (5 * i.toNatClampNeg + what.toNatClampNeg) v else (-1, (len, span, wires, chg, text, h, was, eyes)) else (-1, (len, span, wires, chg, text, h, was, eyes)) else (-1, (len, span, wires, chg, text, h, was, eyes))
def opLimit (len span wires chg : Nat) (text : Nat → Nat) (h was eyes : Nat → Int32) (which v : Int32) : Int32 × St := if inB which (nI 0) (nI 2) = true then if inB v (nI 1) (mostI which) = true then becm len span wires chg text h was eyes (40 + which.toNatClampNeg) v else (-1, (len, span, wires, chg, text, h, was, eyes)) else (-1, (len, span, wires, chg, text, h, was, eyes))
def opShift (len span wires chg : Nat) (text : Nat → Nat) (h was eyes : Nat → Int32) (x : Int32) : Int32 × St := if inB x (-9) (nI 9) = true then if h 43 = x then (-2, (len, span, wires, chg, text, h, was, eyes)) else (h 43 + 100000, (len, span, wires, ntC chg, text, upd h 43 x, ntW chg was h, eyes)) else (-1, (len, span, wires, chg, text, h, was, eyes))
def unH (chg : Nat) (was h : Nat → Int32) : Nat → Int32 := cpG (fun j => was (45 * (chg - 1) + j)) h 45
def opUndo (len span wires chg : Nat) (text : Nat → Nat) (h was eyes : Nat → Int32) : Int32 × St := if chg = 0 then (-2, (len, span, wires, chg, text, h, was, eyes)) else (nI (chg - 1), (len, span, wires, chg - 1, text, unH chg was h, was, eyes))
def opPlace (span wires : Nat) (h : Nat → Int32) (i y : Int32) : Int32 := if wrB wires i = true then if inB y (nI 0) (nI span) = true then plc h span i.toNatClampNeg y.toNatClampNeg + 100000 else -1 else -1
def opHeight (span wires : Nat) (h : Nat → Int32) (i y : Int32) : Int32 := if wrB wires i = true then if inB y (nI 0) (nI span) = true then hgt h span i.toNatClampNeg y.toNatClampNeg else -1 else -1
def opPair (span wires : Nat) (h : Nat → Int32) (i k what : Int32) : Int32 := if wrB wires i = true then if wrB wires k = true then if i = k then -1 else if inB what (nI 0) (nI 3) = true then if what = nI 0 then nrF h span i.toNatClampNeg k.toNatClampNeg else if what = nI 1 then nI (nrC h span i.toNatClampNeg k.toNatClampNeg) else if what = nI 2 then bi (crs h span i.toNatClampNeg k.toNatClampNeg) else bi (way h span i.toNatClampNeg k.toNatClampNeg) else -1 else -1 else -1
def opWire (span wires : Nat) (h : Nat → Int32) (i what : Int32) : Int32 := if wrB wires i = true then if inB what (nI 0) (nI 8) = true then if what = nI 5 then bt (h 44) i.toNatClampNeg else if what = nI 6 then lng h span i.toNatClampNeg else if what = nI 7 then hgt h span i.toNatClampNeg (topR h span i.toNatClampNeg span) else if what = nI 8 then nI (topR h span i.toNatClampNeg span) else h (5 * i.toNatClampNeg + what.toNatClampNeg) else -1 else -1
def opBond (len span wires chg : Nat) (text : Nat → Nat) (h was eyes : Nat → Int32) (i : Int32) : Int32 × St := if wrB wires i = true then if bt (h 44) i.toNatClampNeg = nI 1 then (-2, (len, span, wires, chg, text, h, was, eyes)) else if barB h span wires i.toNatClampNeg (h 44) = true then (-2, (len, span, wires, chg, text, h, was, eyes)) else (bitsI (h 44 ||| nI 1 <<< (i &&& 31)), (len, span, wires, ntC chg, text, upd h 44 (h 44 ||| nI 1 <<< (i &&& 31)), ntW chg was h, eyes)) else (-1, (len, span, wires, chg, text, h, was, eyes))
def opTake (len span wires chg : Nat) (text : Nat → Nat) (h was eyes : Nat → Int32) (i : Int32) : Int32 × St := if wrB wires i = true then if bt (h 44) i.toNatClampNeg = 0 then (-2, (len, span, wires, chg, text, h, was, eyes)) else (bitsI (h 44 - nI 1 <<< (i &&& 31)), (len, span, wires, ntC chg, text, upd h 44 (h 44 - nI 1 <<< (i &&& 31)), ntW chg was h, eyes)) else (-1, (len, span, wires, chg, text, h, was, eyes))
def rdyS (h : Nat → Int32) (S n : Nat) : Nat → Int32
  | 0 => nI 0
  | k + 1 => rdyS h S n k ||| (if bt (h 44) k = 0 then if barB h S n k (h 44) = true then nI 0 else nI 1 <<< (nI k &&& 31) else nI 0)
def opReady (span wires : Nat) (h : Nat → Int32) : Int32 := rdyS h span wires wires
/-- the reference's end: the answer and the state; its scratch is free -/
def PO (cy : Nat → ClassId) (q : Nat → Nat) (r : Int32 × St) : Option Value → wS → Prop := PX (fun x g => x = r.1 ∧ ∃ (rsp rwi val ends : Nat) (rd fw bars ways : Nat → Int32), g = mdC cy q r.2.1 r.2.2.1 r.2.2.2.1 r.2.2.2.2.1 rsp rwi val ends r.2.2.2.2.2.1 r.2.2.2.2.2.2.1 r.2.2.2.2.2.2.2.1 rd r.2.2.2.2.2.2.2.2 fw bars ways)
theorem PO.mk {cy : Nat → ClassId} {q : Nat → Nat} {r : Int32 × St} {x : Int32} {len span wires chg rsp rwi val ends : Nat} {text : Nat → Nat} {h was rd eyes fw bars ways : Nat → Int32} (hr : r = (x, (len, span, wires, chg, text, h, was, eyes))) : PO cy q r (some (.int x)) (mdC cy q len span wires chg rsp rwi val ends text h was rd eyes fw bars ways) := by
  subst hr
  exact ⟨x, rfl, rfl, rsp, rwi, val, ends, rd, fw, bars, ways, rfl⟩
end
section
-- the reference: changes, and questions of one or two wires
set_option maxRecDepth 20000 in
/-- lowest -/
theorem cm_lowest {l : Launch} {D : va_G} {cy : Nat → ClassId} {z : Nat → Nat} {q : Nat → Nat} {N : Nat} (hI : wI N q) {f : wS} {w : Int32} : Ct l yX9_lowest cX9_lowest 1 (some .int) 0 0 D cy z N q [.int w] f (PI (lowI w) f) := by
  refine Ct.of (own := RX9) (by decide) rfl hI (Nat.le_of_ble_eq_true rfl) ?_
  intro p e s m args below meth c C hr
  refine aw_lv (lv' := [(0, .int w)]) (fun x hx => hx) ?_
  refine aw_iload_n C dX9_lowest_0 (i := 0) rfl rfl ?_
  refine aw_iconst C dX9_lowest_1 ki_4 ?_
  refine aw_icmp_ne (tgt := 9) C dX9_lowest_2 (by decide) (fun h2 => ?_) (fun h2 => ?_)
  · refine aw_iconst C dX9_lowest_9 ki_0 ?_
    refine aw_iret C hr dX9_lowest_10 ?_
    exact PI.mk (if_neg h2).symm rfl
  · refine aw_iconst C dX9_lowest_5 ki_1 ?_
    refine aw_goto (tgt := 10) C dX9_lowest_6 (by decide) ?_
    refine aw_iret C hr dX9_lowest_10 ?_
    exact PI.mk (if_pos h2).symm rfl
set_option maxRecDepth 20000 in
/-- most -/
theorem cm_most {l : Launch} {D : va_G} {cy : Nat → ClassId} {z : Nat → Nat} {q : Nat → Nat} {N : Nat} (hI : wI N q) {f : wS} {w : Int32} : Ct l yX9_most cX9_most 1 (some .int) 0 0 D cy z N q [.int w] f (PI (mostI w) f) := by
  refine Ct.of (own := RX9) (by decide) rfl hI (Nat.le_of_ble_eq_true rfl) ?_
  intro p e s m args below meth c C hr
  refine aw_lv (lv' := [(0, .int w)]) (fun x hx => hx) ?_
  refine aw_iload_n C dX9_most_0 (i := 0) rfl rfl ?_
  refine aw_iconst C dX9_most_1 ki_1 ?_
  refine aw_icmp_ne (tgt := 10) C dX9_most_2 (by decide) (fun h2 => ?_) (fun h2 => ?_)
  · refine aw_bipush C dX9_most_10 kb_9 ?_
    refine aw_iret C hr dX9_most_12 ?_
    exact PI.mk (if_neg h2).symm rfl
  · refine aw_bipush C dX9_most_5 kb_40 ?_
    refine aw_goto (tgt := 12) C dX9_most_7 (by decide) ?_
    refine aw_iret C hr dX9_most_12 ?_
    exact PI.mk (if_pos h2).symm rfl
set_option maxRecDepth 20000 in
/-- highest -/
theorem cm_highest {l : Launch} {D : va_G} {cy : Nat → ClassId} {z : Nat → Nat} {q : Nat → Nat} {N : Nat} (hI : wI N q) {f : wS} {w : Int32} : Ct l yX9_highest cX9_highest 1 (some .int) 0 0 D cy z N q [.int w] f (PI (highI w) f) := by
  refine Ct.of (own := RX9) (by decide) rfl hI (Nat.le_of_ble_eq_true rfl) ?_
  intro p e s m args below meth c C hr
  refine aw_lv (lv' := [(0, .int w)]) (fun x hx => hx) ?_
  refine aw_iload_n C dX9_highest_0 (i := 0) rfl rfl ?_
  refine aw_if_eq (tgt := 9) C dX9_highest_1 (by decide) (fun h1 => ?_) (fun h1 => ?_)
  · refine aw_bipush C dX9_highest_9 kb_60 ?_
    refine aw_goto (tgt := 25) C dX9_highest_11 (by decide) ?_
    refine aw_iret C hr dX9_highest_25 ?_
    exact PI.mk (by unfold highI; rw [if_pos h1]) rfl
  · refine aw_iload_n C dX9_highest_4 (i := 0) rfl rfl ?_
    refine aw_iconst C dX9_highest_5 ki_2 ?_
    refine aw_icmp_ne (tgt := 14) C dX9_highest_6 (by decide) (fun h6 => ?_) (fun h6 => ?_)
    · refine aw_iload_n C dX9_highest_14 (i := 0) rfl rfl ?_
      refine aw_iconst C dX9_highest_15 ki_4 ?_
      refine aw_icmp_ne (tgt := 24) C dX9_highest_16 (by decide) (fun h16 => ?_) (fun h16 => ?_)
      · refine aw_iconst C dX9_highest_24 ki_2 ?_
        refine aw_iret C hr dX9_highest_25 ?_
        exact PI.mk (by unfold highI; rw [if_neg h1, if_neg h6, if_neg h16]) rfl
      · refine aw_bipush C dX9_highest_19 kb_40 ?_
        refine aw_goto (tgt := 25) C dX9_highest_21 (by decide) ?_
        refine aw_iret C hr dX9_highest_25 ?_
        exact PI.mk (by unfold highI; rw [if_neg h1, if_neg h6, if_pos h16]) rfl
    · refine aw_bipush C dX9_highest_9 kb_60 ?_
      refine aw_goto (tgt := 25) C dX9_highest_11 (by decide) ?_
      refine aw_iret C hr dX9_highest_25 ?_
      exact PI.mk (by unfold highI; rw [if_neg h1, if_pos h6]) rfl
set_option maxRecDepth 20000 in
/-- notes, its loop -/
theorem cm_notes_1 {l : Launch} {D : va_G} {cy : Nat → ClassId} {z : Nat → Nat} {q : Nat → Nat} {p : Program} {e : Env} {s : State} {m : MethodId} {args : Array Value} {below : List Frame} {meth : Method} {c : Code} {Q : State → Prop} (hI : wI 9 q) (C : Cx p s m args meth c cX9_notes 2 RX9 D cy z 9 q) (hr : meth.sig.returnType = none) {len span wires chg rsp rwi val ends : Nat} {text : Nat → Nat} {h was rd eyes fw bars ways : Nat → Int32} (K : AW p l e { frames := 0, cells := 0, slots := 0, locals := 0 } s m args below meth c D 9 q 2 Q (mdC cy q len span wires chg rsp rwi val ends text h (cpG (fun j => was (j + 45)) was 225) rd eyes fw bars ways) [(0, .ref (q 0)), (1, .int (nI 225))] 39 []) : ∀ (d : Nat) (k : Nat), 225 - k < d → (k ≤ 225) → AW p l e { frames := 0, cells := 0, slots := 0, locals := 0 } s m args below meth c D 9 q 2 Q (mdC cy q len span wires chg rsp rwi val ends text h (cpG (fun j => was (j + 45)) was k) rd eyes fw bars ways) [(0, .ref (q 0)), (1, .int (nI k))] 11 [] := by
  intro d
  induction d with
  | zero => intro k hd; exact absurd hd (Nat.not_lt_zero _)
  | succ d ih =>
    intro k hd iv0
    refine aw_iload_n C dX9_notes_11 (i := 1) rfl rfl ?_
    refine aw_sipush C dX9_notes_12 ks_225 ?_
    refine aw_icmp_ge_n (tgt := 39) C dX9_notes_15 (by decide) (by omega) (by omega) (fun h15 => ?_) (fun h15 => ?_)
    · obtain rfl : k = 225 := by omega
      exact K
    · refine aw_aload_n C dX9_notes_18 (i := 0) rfl rfl ?_
      refine aw_get (k := 0) C dX9_notes_19 fl_X9_16 (by decide) rfl rfl ?_
      refine aw_iload_n C dX9_notes_22 (i := 1) rfl rfl ?_
      refine aw_aload_n C dX9_notes_23 (i := 0) rfl rfl ?_
      refine aw_get (k := 0) C dX9_notes_24 fl_X9_16 (by decide) rfl rfl ?_
      refine aw_iload_n C dX9_notes_27 (i := 1) rfl rfl ?_
      refine aw_bipush C dX9_notes_28 kb_45 ?_
      refine aw_iadd_n C dX9_notes_30 ?_
      refine aw_iald (k := 3) C dX9_notes_31 (by decide) (rfl) (rfl) (by omega) (by decide) (cpG_ge (by omega)) ?_
      refine aw_iast (k := 3) C dX9_notes_32 (by decide) (rfl) (rfl) (by omega) (by decide) (md_a_was) ?_
      refine aw_iinc_n (lv' := [(0, _), (1, _)]) C dX9_notes_33 rfl ki_1 (Nat.le_of_ble_eq_true rfl) rfl ?_
      refine aw_goto (tgt := 11) C dX9_notes_36 (by decide) ?_
      rw [cpG_s (fun j => was (j + 45)) was k]
      exact ih (k + 1) (by omega) (by omega)
set_option maxRecDepth 20000 in
/-- notes, its loop -/
theorem cm_notes_2 {l : Launch} {D : va_G} {cy : Nat → ClassId} {z : Nat → Nat} {q : Nat → Nat} {p : Program} {e : Env} {s : State} {m : MethodId} {args : Array Value} {below : List Frame} {meth : Method} {c : Code} (hI : wI 9 q) (C : Cx p s m args meth c cX9_notes 2 RX9 D cy z 9 q) (hr : meth.sig.returnType = none) {len span wires chg rsp rwi val ends : Nat} {text : Nat → Nat} {h was rd eyes fw bars ways : Nat → Int32} (hc : chg ≤ 5) : ∀ (d : Nat) (k : Nat), 45 - k < d → (k ≤ 45) → AW p l e { frames := 0, cells := 0, slots := 0, locals := 0 } s m args below meth c D 9 q 2 (MQ below (Qg D 9 q (PV (mdC cy q len span wires (chg + 1) rsp rwi val ends text h (cpO h was (45 * chg) 45) rd eyes fw bars ways)) (wA 9 q s.heap.size)) args s 0 0 (wA 9 q s.heap.size)) (mdC cy q len span wires chg rsp rwi val ends text h (cpO h was (45 * chg) k) rd eyes fw bars ways) [(0, .ref (q 0)), (1, .int (nI k))] 51 [] := by
  intro d
  induction d with
  | zero => intro k hd; exact absurd hd (Nat.not_lt_zero _)
  | succ d ih =>
    intro k hd iv0
    refine aw_iload_n C dX9_notes_51 (i := 1) rfl rfl ?_
    refine aw_bipush C dX9_notes_52 kb_45 ?_
    refine aw_icmp_ge_n (tgt := 83) C dX9_notes_54 (by decide) (by omega) (by omega) (fun h54 => ?_) (fun h54 => ?_)
    · refine aw_aload_n C dX9_notes_83 (i := 0) rfl rfl ?_
      refine aw_dup C dX9_notes_84 rfl ?_
      refine aw_get (k := 0) C dX9_notes_85 fl_X9_88 (by decide) rfl rfl ?_
      refine aw_iconst C dX9_notes_88 ki_1 ?_
      refine aw_iadd_n C dX9_notes_89 ?_
      refine aw_put (k := 0) C dX9_notes_90 fp_X9_88 (by decide) rfl rfl rfl (Nat.le_of_ble_eq_true rfl) md_p_chg ?_
      refine aw_vret C hr dX9_notes_93 ?_
      obtain rfl : k = 45 := by omega
      exact ⟨rfl, rfl⟩
    · refine aw_aload_n C dX9_notes_57 (i := 0) rfl rfl ?_
      refine aw_get (k := 0) C dX9_notes_58 fl_X9_16 (by decide) rfl rfl ?_
      refine aw_bipush C dX9_notes_61 kb_45 ?_
      refine aw_aload_n C dX9_notes_63 (i := 0) rfl rfl ?_
      refine aw_get (k := 0) C dX9_notes_64 fl_X9_88 (by decide) rfl rfl ?_
      refine aw_imul_n C dX9_notes_67 ?_
      refine aw_iload_n C dX9_notes_68 (i := 1) rfl rfl ?_
      refine aw_iadd_n C dX9_notes_69 ?_
      refine aw_aload_n C dX9_notes_70 (i := 0) rfl rfl ?_
      refine aw_get (k := 0) C dX9_notes_71 fl_X9_13 (by decide) rfl rfl ?_
      refine aw_iload_n C dX9_notes_74 (i := 1) rfl rfl ?_
      refine aw_iald (k := 2) C dX9_notes_75 (by decide) (rfl) (rfl) (by omega) (by decide) (rfl) ?_
      refine aw_iast (k := 3) C dX9_notes_76 (by decide) (rfl) (rfl) (by omega) (by decide) (md_a_was) ?_
      refine aw_iinc_n (lv' := [(0, _), (1, _)]) C dX9_notes_77 rfl ki_1 (Nat.le_of_ble_eq_true rfl) rfl ?_
      refine aw_goto (tgt := 51) C dX9_notes_80 (by decide) ?_
      rw [cpO_s]
      exact ih (k + 1) (by omega) (by omega)
set_option maxRecDepth 20000 in
/-- notes -/
theorem cm_notes {l : Launch} {D : va_G} {cy : Nat → ClassId} {z : Nat → Nat} {q : Nat → Nat} (hI : wI 9 q) {len span wires chg rsp rwi val ends : Nat} {text : Nat → Nat} {h was rd eyes fw bars ways : Nat → Int32} (hc : chg ≤ 6) : Ct l yX9_notes cX9_notes 2 none 0 0 D cy z 9 q [.ref (q 0)] (mdC cy q len span wires chg rsp rwi val ends text h was rd eyes fw bars ways) (PV (mdC cy q len span wires (ntC chg) rsp rwi val ends text h (ntW chg was h) rd eyes fw bars ways)) := by
  refine Ct.of (own := RX9) (by decide) rfl hI (Nat.le_of_ble_eq_true rfl) ?_
  intro p e s m args below meth c C hr
  refine aw_lv (lv' := [(0, .ref (q 0))]) (fun x hx => hx) ?_
  refine aw_aload_n C dX9_notes_0 (i := 0) rfl rfl ?_
  refine aw_get (k := 0) C dX9_notes_1 fl_X9_88 (by decide) rfl rfl ?_
  refine aw_bipush C dX9_notes_4 kb_6 ?_
  refine aw_icmp_ne_n (tgt := 49) C dX9_notes_6 (by decide) (by omega) (by omega) (fun h6 => ?_) (fun h6 => ?_)
  · refine aw_iconst C dX9_notes_49 ki_0 ?_
    refine aw_istore_n (lv' := [(0, _), (1, _)]) C dX9_notes_50 (i := 1) rfl (Nat.le_of_ble_eq_true rfl) rfl ?_
    have e1 : ntC chg = chg + 1 := by unfold ntC; rw [if_neg h6]
    have e2 : ntW chg was h = cpO h was (45 * chg) 45 := by unfold ntW; rw [if_neg h6]
    rw [e1, e2]
    refine aw_fq (f' := (mdC cy q len span wires chg rsp rwi val ends text h (cpO h was (45 * chg) 0) rd eyes fw bars ways)) (by rw [cpO_0]) ?_
    exact cm_notes_2 hI C hr (by omega) 46 0 (by omega) (by omega)
  · refine aw_iconst C dX9_notes_9 ki_0 ?_
    refine aw_istore_n (lv' := [(0, _), (1, _)]) C dX9_notes_10 (i := 1) rfl (Nat.le_of_ble_eq_true rfl) rfl ?_
    refine aw_fq (f' := (mdC cy q len span wires chg rsp rwi val ends text h (cpG (fun j => was (j + 45)) was 0) rd eyes fw bars ways)) (by rw [cpG_0]) ?_
    refine cm_notes_1 hI C hr ?_ 226 0 (by omega) (by omega)
    refine aw_aload_n C dX9_notes_39 (i := 0) rfl rfl ?_
    refine aw_dup C dX9_notes_40 rfl ?_
    refine aw_get (k := 0) C dX9_notes_41 fl_X9_88 (by decide) rfl rfl ?_
    refine aw_iconst C dX9_notes_44 ki_1 ?_
    refine aw_isub_n C dX9_notes_45 (by omega) ?_
    refine aw_put (k := 0) C dX9_notes_46 fp_X9_88 (by decide) rfl rfl rfl (Nat.le_of_ble_eq_true rfl) md_p_chg ?_
    refine aw_iconst C dX9_notes_49 ki_0 ?_
    refine aw_istore_n (lv' := [(0, _), (1, _)]) C dX9_notes_50 (i := 1) rfl (Nat.le_of_ble_eq_true rfl) rfl ?_
    have e1 : ntC chg = chg - 1 + 1 := by unfold ntC; rw [if_pos h6]; omega
    have e2 : ntW chg was h = cpO h (cpG (fun j => was (j + 45)) was 225) (45 * (chg - 1)) 45 := by unfold ntW; rw [if_pos h6, h6]
    rw [e1, e2]
    refine aw_fq (f' := (mdC cy q len span wires (chg - 1) rsp rwi val ends text h (cpO h (cpG (fun j => was (j + 45)) was 225) (45 * (chg - 1)) 0) rd eyes fw bars ways)) (by rw [cpO_0]) ?_
    exact cm_notes_2 hI C hr (by omega) 46 0 (by omega) (by omega)
set_option maxRecDepth 20000 in
/-- becomes -/
theorem cm_becomes {l : Launch} {D : va_G} {cy : Nat → ClassId} {z : Nat → Nat} {q : Nat → Nat} (hI : wI 9 q) {len span wires chg rsp rwi val ends : Nat} {text : Nat → Nat} {h was rd eyes fw bars ways : Nat → Int32} {pl : Nat} {v : Int32} (hc : chg ≤ 6) (hp : pl < 45) : Ct l yX9_becomes cX9_becomes 4 (some .int) 1 21 D cy z 9 q [.ref (q 0), .int (nI pl), .int v] (mdC cy q len span wires chg rsp rwi val ends text h was rd eyes fw bars ways) (PO cy q (becm len span wires chg text h was eyes pl v)) := by
  refine Ct.of (own := RX9) (by decide) rfl hI (Nat.le_of_ble_eq_true rfl) ?_
  intro p e s m args below meth c C hr
  refine aw_lv (lv' := [(0, .ref (q 0)), (1, .int (nI pl)), (2, .int v)]) (fun x hx => hx) ?_
  refine aw_aload_n C dX9_becomes_0 (i := 0) rfl rfl ?_
  refine aw_get (k := 0) C dX9_becomes_1 fl_X9_13 (by decide) rfl rfl ?_
  refine aw_iload_n C dX9_becomes_4 (i := 1) rfl rfl ?_
  refine aw_iald (k := 2) C dX9_becomes_5 (by decide) (rfl) (rfl) (by omega) (by decide) (rfl) ?_
  refine aw_istore_n (lv' := [(0, _), (1, _), (2, _), (3, _)]) C dX9_becomes_6 (i := 3) rfl (Nat.le_of_ble_eq_true rfl) rfl ?_
  refine aw_iload_n C dX9_becomes_7 (i := 3) rfl rfl ?_
  refine aw_iload_n C dX9_becomes_8 (i := 2) rfl rfl ?_
  refine aw_icmp_ne (tgt := 15) C dX9_becomes_9 (by decide) (fun h9 => ?_) (fun h9 => ?_)
  · refine aw_aload_n C dX9_becomes_15 (i := 0) rfl rfl ?_
    refine aw_V0v (k := 0) C dX9_becomes_16 cv_X9_91 (by decide) rfl rfl rfl (cm_notes hI hc) ⟨Nat.le_of_ble_eq_true rfl, Nat.le_of_ble_eq_true rfl⟩ (Nat.le_of_ble_eq_true rfl) ?_
    refine aw_aload_n C dX9_becomes_19 (i := 0) rfl rfl ?_
    refine aw_get (k := 0) C dX9_becomes_20 fl_X9_13 (by decide) rfl rfl ?_
    refine aw_iload_n C dX9_becomes_23 (i := 1) rfl rfl ?_
    refine aw_iload_n C dX9_becomes_24 (i := 2) rfl rfl ?_
    refine aw_iast (k := 2) C dX9_becomes_25 (by decide) (rfl) (rfl) (by omega) (by decide) (md_a_h) ?_
    refine aw_iload_n C dX9_becomes_26 (i := 3) rfl rfl ?_
    refine aw_iret C hr dX9_becomes_27 ?_
    exact PO.mk (if_neg h9)
  · refine aw_bipush C dX9_becomes_12 kb_m2 ?_
    refine aw_iret C hr dX9_becomes_14 ?_
    exact PO.mk (if_pos h9)
theorem cm_isWr {l : Launch} {D : va_G} {cy : Nat → ClassId} {z : Nat → Nat} {q : Nat → Nat} (hI : wI 9 q) {len span wires chg rsp rwi val ends : Nat} {text : Nat → Nat} {h was rd eyes fw bars ways : Nat → Int32} {i : Int32} : Ct l yX9_isWire cX9_isWire 2 (some .boolean) 1 22 D cy z 9 q [.ref (q 0), .int i] (mdC cy q len span wires chg rsp rwi val ends text h was rd eyes fw bars ways) (PI (bi (wrB wires i)) (mdC cy q len span wires chg rsp rwi val ends text h was rd eyes fw bars ways)) := cm_isWire hI
set_option maxRecDepth 20000 in
/-- set -/
theorem cm_set {l : Launch} {D : va_G} {cy : Nat → ClassId} {z : Nat → Nat} {q : Nat → Nat} (hI : wI 9 q) {len span wires chg rsp rwi val ends : Nat} {text : Nat → Nat} {h was rd eyes fw bars ways : Nat → Int32} {i what v : Int32} (hc : chg ≤ 6) (hw : wires ≤ 8) : Ct l yX9_set cX9_set 4 (some .int) 2 44 D cy z 9 q [.ref (q 0), .int i, .int what, .int v] (mdC cy q len span wires chg rsp rwi val ends text h was rd eyes fw bars ways) (PO cy q (opSet len span wires chg text h was eyes i what v)) := by
  refine Ct.of (own := RX9) (by decide) rfl hI (Nat.le_of_ble_eq_true rfl) ?_
  intro p e s m args below meth c C hr
  refine aw_lv (lv' := [(0, .ref (q 0)), (1, .int i), (2, .int what), (3, .int v)]) (fun x hx => hx) ?_
  refine aw_aload_n C dX9_set_0 (i := 0) rfl rfl ?_
  refine aw_iload_n C dX9_set_1 (i := 1) rfl rfl ?_
  refine aw_V1i (k := 0) C dX9_set_2 cv_X9_94 (by decide) rfl rfl rfl (cm_isWr hI) ⟨Nat.le_of_ble_eq_true rfl, Nat.le_of_ble_eq_true rfl⟩ (Nat.le_of_ble_eq_true rfl) ?_
  refine aw_if_eq_b (tgt := 32) C dX9_set_5 (by decide) (fun h5 => ?_) (fun h5 => ?_)
  · refine aw_iconst C dX9_set_32 ki_m1 ?_
    refine aw_iret C hr dX9_set_33 ?_
    exact PO.mk (by unfold opSet; rw [if_neg (by rw [h5]; decide)])
  · refine aw_iload_n C dX9_set_8 (i := 2) rfl rfl ?_
    refine aw_iconst C dX9_set_9 ki_0 ?_
    refine aw_iconst C dX9_set_10 ki_4 ?_
    refine aw_S3i C dX9_set_11 cs_X9_54 (cm_isIn hI) ⟨Nat.le_of_ble_eq_true rfl, Nat.le_of_ble_eq_true rfl⟩ (Nat.le_of_ble_eq_true rfl) ?_
    refine aw_if_eq_b (tgt := 32) C dX9_set_14 (by decide) (fun h14 => ?_) (fun h14 => ?_)
    · refine aw_iconst C dX9_set_32 ki_m1 ?_
      refine aw_iret C hr dX9_set_33 ?_
      exact PO.mk (by unfold opSet; rw [if_pos h5, if_neg (by rw [h14]; decide)])
    · refine aw_iload_n C dX9_set_17 (i := 3) rfl rfl ?_
      refine aw_iload_n C dX9_set_18 (i := 2) rfl rfl ?_
      refine aw_S1i C dX9_set_19 cs_X9_61 (cm_lowest hI) ⟨Nat.le_of_ble_eq_true rfl, Nat.le_of_ble_eq_true rfl⟩ (Nat.le_of_ble_eq_true rfl) ?_
      refine aw_iload_n C dX9_set_22 (i := 2) rfl rfl ?_
      refine aw_S1i C dX9_set_23 cs_X9_64 (cm_highest hI) ⟨Nat.le_of_ble_eq_true rfl, Nat.le_of_ble_eq_true rfl⟩ (Nat.le_of_ble_eq_true rfl) ?_
      refine aw_S3i C dX9_set_26 cs_X9_54 (cm_isIn hI) ⟨Nat.le_of_ble_eq_true rfl, Nat.le_of_ble_eq_true rfl⟩ (Nat.le_of_ble_eq_true rfl) ?_
      refine aw_if_ne_b (tgt := 34) C dX9_set_29 (by decide) (fun h29 => ?_) (fun h29 => ?_)
      · have e0 : opSet len span wires chg text h was eyes i what v = becm len span wires chg text h was eyes (5 * i.toNatClampNeg + what.toNatClampNeg) v := by unfold opSet; rw [if_pos h5, if_pos h14, if_pos h29]
        obtain ⟨a, ha, rfl⟩ := wr_of hw h5
        obtain ⟨b, hb, rfl⟩ := in_of (by decide) h14
        rw [nI_clamp (by omega), nI_clamp (by omega)] at e0
        refine aw_aload_n C dX9_set_34 (i := 0) rfl rfl ?_
        refine aw_iconst C dX9_set_35 ki_5 ?_
        refine aw_iload_n C dX9_set_36 (i := 1) rfl rfl ?_
        refine aw_imul_n C dX9_set_37 ?_
        refine aw_iload_n C dX9_set_38 (i := 2) rfl rfl ?_
        refine aw_iadd_n C dX9_set_39 ?_
        refine aw_iload_n C dX9_set_40 (i := 3) rfl rfl ?_
        refine aw_V2x (k := 0) C dX9_set_41 cv_X9_97 (by decide) rfl rfl rfl (cm_becomes hI hc (by omega)) ⟨Nat.le_of_ble_eq_true rfl, Nat.le_of_ble_eq_true rfl⟩ (Nat.le_of_ble_eq_true rfl) (fun x g hp => ?_)
        obtain ⟨rfl, rsp, rwi, val, ends, rd, fw, bars, ways, rfl⟩ := hp
        refine aw_iret C hr dX9_set_44 ?_
        exact PO.mk (by rw [e0])
      · refine aw_iconst C dX9_set_32 ki_m1 ?_
        refine aw_iret C hr dX9_set_33 ?_
        exact PO.mk (by unfold opSet; rw [if_pos h5, if_pos h14, if_neg (by rw [h29]; decide)])
set_option maxRecDepth 20000 in
/-- limit -/
theorem cm_limit {l : Launch} {D : va_G} {cy : Nat → ClassId} {z : Nat → Nat} {q : Nat → Nat} (hI : wI 9 q) {len span wires chg rsp rwi val ends : Nat} {text : Nat → Nat} {h was rd eyes fw bars ways : Nat → Int32} {w v : Int32} (hc : chg ≤ 6) : Ct l yX9_limit cX9_limit 3 (some .int) 2 44 D cy z 9 q [.ref (q 0), .int w, .int v] (mdC cy q len span wires chg rsp rwi val ends text h was rd eyes fw bars ways) (PO cy q (opLimit len span wires chg text h was eyes w v)) := by
  refine Ct.of (own := RX9) (by decide) rfl hI (Nat.le_of_ble_eq_true rfl) ?_
  intro p e s m args below meth c C hr
  refine aw_lv (lv' := [(0, .ref (q 0)), (1, .int w), (2, .int v)]) (fun x hx => hx) ?_
  refine aw_iload_n C dX9_limit_0 (i := 1) rfl rfl ?_
  refine aw_iconst C dX9_limit_1 ki_0 ?_
  refine aw_iconst C dX9_limit_2 ki_2 ?_
  refine aw_S3i C dX9_limit_3 cs_X9_54 (cm_isIn hI) ⟨Nat.le_of_ble_eq_true rfl, Nat.le_of_ble_eq_true rfl⟩ (Nat.le_of_ble_eq_true rfl) ?_
  refine aw_if_eq_b (tgt := 33) C dX9_limit_6 (by decide) (fun h6 => ?_) (fun h6 => ?_)
  · refine aw_iconst C dX9_limit_33 ki_m1 ?_
    refine aw_iret C hr dX9_limit_34 ?_
    exact PO.mk (by unfold opLimit; rw [if_neg (by rw [h6]; decide)])
  · refine aw_iload_n C dX9_limit_9 (i := 2) rfl rfl ?_
    refine aw_iconst C dX9_limit_10 ki_1 ?_
    refine aw_iload_n C dX9_limit_11 (i := 1) rfl rfl ?_
    refine aw_S1i C dX9_limit_12 cs_X9_77 (cm_most hI) ⟨Nat.le_of_ble_eq_true rfl, Nat.le_of_ble_eq_true rfl⟩ (Nat.le_of_ble_eq_true rfl) ?_
    refine aw_S3i C dX9_limit_15 cs_X9_54 (cm_isIn hI) ⟨Nat.le_of_ble_eq_true rfl, Nat.le_of_ble_eq_true rfl⟩ (Nat.le_of_ble_eq_true rfl) ?_
    refine aw_if_eq_b (tgt := 33) C dX9_limit_18 (by decide) (fun h18 => ?_) (fun h18 => ?_)
    · refine aw_iconst C dX9_limit_33 ki_m1 ?_
      refine aw_iret C hr dX9_limit_34 ?_
      exact PO.mk (by unfold opLimit; rw [if_pos h6, if_neg (by rw [h18]; decide)])
    · have e0 : opLimit len span wires chg text h was eyes w v = becm len span wires chg text h was eyes (40 + w.toNatClampNeg) v := by unfold opLimit; rw [if_pos h6, if_pos h18]
      obtain ⟨b, hb, rfl⟩ := in_of (by decide) h6
      rw [nI_clamp (by omega)] at e0
      refine aw_aload_n C dX9_limit_21 (i := 0) rfl rfl ?_
      refine aw_bipush C dX9_limit_22 kb_40 ?_
      refine aw_iload_n C dX9_limit_24 (i := 1) rfl rfl ?_
      refine aw_iadd_n C dX9_limit_25 ?_
      refine aw_iload_n C dX9_limit_26 (i := 2) rfl rfl ?_
      refine aw_V2x (k := 0) C dX9_limit_27 cv_X9_97 (by decide) rfl rfl rfl (cm_becomes hI hc (by omega)) ⟨Nat.le_of_ble_eq_true rfl, Nat.le_of_ble_eq_true rfl⟩ (Nat.le_of_ble_eq_true rfl) (fun x g hp => ?_)
      obtain ⟨rfl, rsp, rwi, val, ends, rd, fw, bars, ways, rfl⟩ := hp
      refine aw_goto (tgt := 34) C dX9_limit_30 (by decide) ?_
      refine aw_iret C hr dX9_limit_34 ?_
      exact PO.mk (by rw [e0])
set_option maxRecDepth 20000 in
/-- shift -/
theorem cm_shift {l : Launch} {D : va_G} {cy : Nat → ClassId} {z : Nat → Nat} {q : Nat → Nat} (hI : wI 9 q) {len span wires chg rsp rwi val ends : Nat} {text : Nat → Nat} {h was rd eyes fw bars ways : Nat → Int32} {x : Int32} (hc : chg ≤ 6) : Ct l yX9_shift cX9_shift 3 (some .int) 1 22 D cy z 9 q [.ref (q 0), .int x] (mdC cy q len span wires chg rsp rwi val ends text h was rd eyes fw bars ways) (PO cy q (opShift len span wires chg text h was eyes x)) := by
  refine Ct.of (own := RX9) (by decide) rfl hI (Nat.le_of_ble_eq_true rfl) ?_
  intro p e s m args below meth c C hr
  refine aw_lv (lv' := [(0, .ref (q 0)), (1, .int x)]) (fun x hx => hx) ?_
  refine aw_iload_n C dX9_shift_0 (i := 1) rfl rfl ?_
  refine aw_bipush C dX9_shift_1 kb_m9 ?_
  refine aw_bipush C dX9_shift_3 kb_9 ?_
  refine aw_S3i C dX9_shift_5 cs_X9_54 (cm_isIn hI) ⟨Nat.le_of_ble_eq_true rfl, Nat.le_of_ble_eq_true rfl⟩ (Nat.le_of_ble_eq_true rfl) ?_
  refine aw_if_ne_b (tgt := 13) C dX9_shift_8 (by decide) (fun h8 => ?_) (fun h8 => ?_)
  · refine aw_aload_n C dX9_shift_13 (i := 0) rfl rfl ?_
    refine aw_get (k := 0) C dX9_shift_14 fl_X9_13 (by decide) rfl rfl ?_
    refine aw_bipush C dX9_shift_17 kb_43 ?_
    refine aw_iald (k := 2) C dX9_shift_19 (by decide) (rfl) (rfl) (by omega) (by decide) (rfl) ?_
    refine aw_istore_n (lv' := [(0, _), (1, _), (2, _)]) C dX9_shift_20 (i := 2) rfl (Nat.le_of_ble_eq_true rfl) rfl ?_
    refine aw_iload_n C dX9_shift_21 (i := 2) rfl rfl ?_
    refine aw_iload_n C dX9_shift_22 (i := 1) rfl rfl ?_
    refine aw_icmp_ne (tgt := 29) C dX9_shift_23 (by decide) (fun h23 => ?_) (fun h23 => ?_)
    · refine aw_aload_n C dX9_shift_29 (i := 0) rfl rfl ?_
      refine aw_V0v (k := 0) C dX9_shift_30 cv_X9_91 (by decide) rfl rfl rfl (cm_notes hI hc) ⟨Nat.le_of_ble_eq_true rfl, Nat.le_of_ble_eq_true rfl⟩ (Nat.le_of_ble_eq_true rfl) ?_
      refine aw_aload_n C dX9_shift_33 (i := 0) rfl rfl ?_
      refine aw_get (k := 0) C dX9_shift_34 fl_X9_13 (by decide) rfl rfl ?_
      refine aw_bipush C dX9_shift_37 kb_43 ?_
      refine aw_iload_n C dX9_shift_39 (i := 1) rfl rfl ?_
      refine aw_iast (k := 2) C dX9_shift_40 (by decide) (rfl) (rfl) (by omega) (by decide) (md_a_h) ?_
      refine aw_iload_n C dX9_shift_41 (i := 2) rfl rfl ?_
      refine aw_ldc C dX9_shift_42 kc_X9_101 ?_
      refine aw_iadd C dX9_shift_44 ?_
      refine aw_iret C hr dX9_shift_45 ?_
      exact PO.mk (by unfold opShift; rw [if_pos h8, if_neg h23])
    · refine aw_bipush C dX9_shift_26 kb_m2 ?_
      refine aw_iret C hr dX9_shift_28 ?_
      exact PO.mk (by unfold opShift; rw [if_pos h8, if_pos h23])
  · refine aw_iconst C dX9_shift_11 ki_m1 ?_
    refine aw_iret C hr dX9_shift_12 ?_
    exact PO.mk (by unfold opShift; rw [if_neg (by rw [h8]; decide)])
set_option maxRecDepth 20000 in
/-- undo, its loop -/
theorem cm_undo_l {l : Launch} {D : va_G} {cy : Nat → ClassId} {z : Nat → Nat} {q : Nat → Nat} {p : Program} {e : Env} {s : State} {m : MethodId} {args : Array Value} {below : List Frame} {meth : Method} {c : Code} (hI : wI 9 q) (C : Cx p s m args meth c cX9_undo 2 RX9 D cy z 9 q) (hr : meth.sig.returnType = (some .int)) {len span wires chg rsp rwi val ends : Nat} {text : Nat → Nat} {h was rd eyes fw bars ways : Nat → Int32} (hc : chg ≤ 5) : ∀ (d : Nat) (k : Nat), 45 - k < d → (k ≤ 45) → AW p l e { frames := 0, cells := 0, slots := 0, locals := 0 } s m args below meth c D 9 q 2 (MQ below (Qg D 9 q (PI (nI chg) (mdC cy q len span wires chg rsp rwi val ends text (cpG (fun j => was (45 * chg + j)) h 45) was rd eyes fw bars ways)) (wA 9 q s.heap.size)) args s 0 0 (wA 9 q s.heap.size)) (mdC cy q len span wires chg rsp rwi val ends text (cpG (fun j => was (45 * chg + j)) h k) was rd eyes fw bars ways) [(0, .ref (q 0)), (1, .int (nI k))] 22 [] := by
  intro d
  induction d with
  | zero => intro k hd; exact absurd hd (Nat.not_lt_zero _)
  | succ d ih =>
    intro k hd iv0
    refine aw_iload_n C dX9_undo_22 (i := 1) rfl rfl ?_
    refine aw_bipush C dX9_undo_23 kb_45 ?_
    refine aw_icmp_ge_n (tgt := 54) C dX9_undo_25 (by decide) (by omega) (by omega) (fun h25 => ?_) (fun h25 => ?_)
    · refine aw_aload_n C dX9_undo_54 (i := 0) rfl rfl ?_
      refine aw_get (k := 0) C dX9_undo_55 fl_X9_88 (by decide) rfl rfl ?_
      refine aw_iret C hr dX9_undo_58 ?_
      obtain rfl : k = 45 := by omega
      exact PI.mk rfl rfl
    · refine aw_aload_n C dX9_undo_28 (i := 0) rfl rfl ?_
      refine aw_get (k := 0) C dX9_undo_29 fl_X9_13 (by decide) rfl rfl ?_
      refine aw_iload_n C dX9_undo_32 (i := 1) rfl rfl ?_
      refine aw_aload_n C dX9_undo_33 (i := 0) rfl rfl ?_
      refine aw_get (k := 0) C dX9_undo_34 fl_X9_16 (by decide) rfl rfl ?_
      refine aw_bipush C dX9_undo_37 kb_45 ?_
      refine aw_aload_n C dX9_undo_39 (i := 0) rfl rfl ?_
      refine aw_get (k := 0) C dX9_undo_40 fl_X9_88 (by decide) rfl rfl ?_
      refine aw_imul_n C dX9_undo_43 ?_
      refine aw_iload_n C dX9_undo_44 (i := 1) rfl rfl ?_
      refine aw_iadd_n C dX9_undo_45 ?_
      refine aw_iald (k := 3) C dX9_undo_46 (by decide) (rfl) (rfl) (by omega) (by decide) (rfl) ?_
      refine aw_iast (k := 2) C dX9_undo_47 (by decide) (rfl) (rfl) (by omega) (by decide) (md_a_h) ?_
      refine aw_iinc_n (lv' := [(0, _), (1, _)]) C dX9_undo_48 rfl ki_1 (Nat.le_of_ble_eq_true rfl) rfl ?_
      refine aw_goto (tgt := 22) C dX9_undo_51 (by decide) ?_
      rw [cpG_s (fun j => was (45 * chg + j)) h k]
      exact ih (k + 1) (by omega) (by omega)
set_option maxRecDepth 20000 in
/-- undo -/
theorem cm_undo {l : Launch} {D : va_G} {cy : Nat → ClassId} {z : Nat → Nat} {q : Nat → Nat} (hI : wI 9 q) {len span wires chg rsp rwi val ends : Nat} {text : Nat → Nat} {h was rd eyes fw bars ways : Nat → Int32} (hc : chg ≤ 6) : Ct l yX9_undo cX9_undo 2 (some .int) 0 0 D cy z 9 q [.ref (q 0)] (mdC cy q len span wires chg rsp rwi val ends text h was rd eyes fw bars ways) (PO cy q (opUndo len span wires chg text h was eyes)) := by
  refine Ct.of (own := RX9) (by decide) rfl hI (Nat.le_of_ble_eq_true rfl) ?_
  intro p e s m args below meth c C hr
  refine aw_lv (lv' := [(0, .ref (q 0))]) (fun x hx => hx) ?_
  refine aw_aload_n C dX9_undo_0 (i := 0) rfl rfl ?_
  refine aw_get (k := 0) C dX9_undo_1 fl_X9_88 (by decide) rfl rfl ?_
  refine aw_if_ne_n (tgt := 10) C dX9_undo_4 (by decide) (by omega) (fun h4 => ?_) (fun h4 => ?_)
  · refine aw_aload_n C dX9_undo_10 (i := 0) rfl rfl ?_
    refine aw_dup C dX9_undo_11 rfl ?_
    refine aw_get (k := 0) C dX9_undo_12 fl_X9_88 (by decide) rfl rfl ?_
    refine aw_iconst C dX9_undo_15 ki_1 ?_
    refine aw_isub_n C dX9_undo_16 (by omega) ?_
    refine aw_put (k := 0) C dX9_undo_17 fp_X9_88 (by decide) rfl rfl rfl (Nat.le_of_ble_eq_true rfl) md_p_chg ?_
    refine aw_iconst C dX9_undo_20 ki_0 ?_
    refine aw_istore_n (lv' := [(0, _), (1, _)]) C dX9_undo_21 (i := 1) rfl (Nat.le_of_ble_eq_true rfl) rfl ?_
    have e0 : opUndo len span wires chg text h was eyes = _ := if_neg (Nat.ne_of_gt h4)
    refine aw_fq (f' := (mdC cy q len span wires (chg - 1) rsp rwi val ends text (cpG (fun j => was (45 * (chg - 1) + j)) h 0) was rd eyes fw bars ways)) (by rw [cpG_0]) ?_
    refine aw_post ?_ (cm_undo_l hI C hr (by omega) 46 0 (by omega) (by omega))
    intro r g hp
    obtain ⟨rfl, rfl⟩ := hp
    exact PO.mk e0
  · refine aw_bipush C dX9_undo_7 kb_m2 ?_
    refine aw_iret C hr dX9_undo_9 ?_
    exact PO.mk (if_pos h4)
set_option maxRecDepth 20000 in
/-- write -/
theorem cm_write {l : Launch} {D : va_G} {cy : Nat → ClassId} {z : Nat → Nat} {q : Nat → Nat} (hI : wI 9 q) {len span wires chg rsp rwi val ends : Nat} {text : Nat → Nat} {h was rd eyes fw bars ways : Nat → Int32} {x : Int32} (hl : len ≤ 200) : Ct l yX9_write cX9_write 2 (some .int) 0 0 D cy z 9 q [.ref (q 0), .int x] (mdC cy q len span wires chg rsp rwi val ends text h was rd eyes fw bars ways) (PO cy q (opWrite len span wires chg text h was eyes x)) := by
  refine Ct.of (own := RX9) (by decide) rfl hI (Nat.le_of_ble_eq_true rfl) ?_
  intro p e s m args below meth c C hr
  refine aw_lv (lv' := [(0, .ref (q 0)), (1, .int x)]) (fun x hx => hx) ?_
  refine aw_iload_n C dX9_write_0 (i := 1) rfl rfl ?_
  refine aw_bipush C dX9_write_1 kb_32 ?_
  refine aw_icmp_lt (tgt := 12) C dX9_write_3 (by decide) (fun h3 => ?_) (fun h3 => ?_)
  · refine aw_iconst C dX9_write_12 ki_m1 ?_
    refine aw_iret C hr dX9_write_13 ?_
    exact PO.mk (by unfold opWrite; rw [if_neg (by rw [inB_f1 h3]; decide)])
  · refine aw_iload_n C dX9_write_6 (i := 1) rfl rfl ?_
    refine aw_bipush C dX9_write_7 kb_126 ?_
    refine aw_icmp_le (tgt := 14) C dX9_write_9 (by decide) (fun h9 => ?_) (fun h9 => ?_)
    · have hb : inB x (nI 32) (nI 126) = true := inB_t (i_le h3) h9
      obtain ⟨a, ha, rfl⟩ := nI_of (x := x) (i_nlt (by rw [← nI_0]; rw [Int32.le_iff_toInt_le]; have h1 := i_le h3; rw [Int32.le_iff_toInt_le] at h1; exact Int.le_trans (by decide) h1))
      have ec : (nI a).toNatClampNeg = a := nI_clamp ha
      refine aw_aload_n C dX9_write_14 (i := 0) rfl rfl ?_
      refine aw_get (k := 0) C dX9_write_15 fl_X9_41 (by decide) rfl rfl ?_
      refine aw_sipush C dX9_write_18 ks_200 ?_
      refine aw_icmp_ne_n (tgt := 27) C dX9_write_21 (by decide) (by omega) (by omega) (fun h21 => ?_) (fun h21 => ?_)
      · refine aw_aload_n C dX9_write_27 (i := 0) rfl rfl ?_
        refine aw_get (k := 0) C dX9_write_28 fl_X9_7 (by decide) rfl rfl ?_
        refine aw_aload_n C dX9_write_31 (i := 0) rfl rfl ?_
        refine aw_get (k := 0) C dX9_write_32 fl_X9_41 (by decide) rfl rfl ?_
        refine aw_iload_n C dX9_write_35 (i := 1) rfl rfl ?_
        refine aw_iast (k := 1) C dX9_write_36 (by decide) (rfl) (rfl) (by omega) (by decide) (md_a_text) ?_
        refine aw_aload_n C dX9_write_37 (i := 0) rfl rfl ?_
        refine aw_dup C dX9_write_38 rfl ?_
        refine aw_get (k := 0) C dX9_write_39 fl_X9_41 (by decide) rfl rfl ?_
        refine aw_iconst C dX9_write_42 ki_1 ?_
        refine aw_iadd_n C dX9_write_43 ?_
        refine aw_put (k := 0) C dX9_write_44 fp_X9_41 (by decide) rfl rfl rfl (Nat.le_of_ble_eq_true rfl) md_p_len ?_
        refine aw_aload_n C dX9_write_47 (i := 0) rfl rfl ?_
        refine aw_get (k := 0) C dX9_write_48 fl_X9_41 (by decide) rfl rfl ?_
        refine aw_iret C hr dX9_write_51 ?_
        exact PO.mk (by unfold opWrite; rw [if_pos hb, if_neg h21, ec])
      · refine aw_bipush C dX9_write_24 kb_m3 ?_
        refine aw_iret C hr dX9_write_26 ?_
        exact PO.mk (by unfold opWrite; rw [if_pos hb, if_pos h21])
    · refine aw_iconst C dX9_write_12 ki_m1 ?_
      refine aw_iret C hr dX9_write_13 ?_
      exact PO.mk (by unfold opWrite; rw [if_neg (by rw [inB_f2 (i_lt h9)]; decide)])
set_option maxRecDepth 20000 in
/-- wipe -/
theorem cm_wipe {l : Launch} {D : va_G} {cy : Nat → ClassId} {z : Nat → Nat} {q : Nat → Nat} (hI : wI 9 q) {len span wires chg rsp rwi val ends : Nat} {text : Nat → Nat} {h was rd eyes fw bars ways : Nat → Int32} : Ct l yX9_wipe cX9_wipe 2 (some .int) 0 0 D cy z 9 q [.ref (q 0)] (mdC cy q len span wires chg rsp rwi val ends text h was rd eyes fw bars ways) (PO cy q (opWipe len span wires chg text h was eyes)) := by
  refine Ct.of (own := RX9) (by decide) rfl hI (Nat.le_of_ble_eq_true rfl) ?_
  intro p e s m args below meth c C hr
  refine aw_lv (lv' := [(0, .ref (q 0))]) (fun x hx => hx) ?_
  refine aw_aload_n C dX9_wipe_0 (i := 0) rfl rfl ?_
  refine aw_get (k := 0) C dX9_wipe_1 fl_X9_41 (by decide) rfl rfl ?_
  refine aw_istore_n (lv' := [(0, _), (1, _)]) C dX9_wipe_4 (i := 1) rfl (Nat.le_of_ble_eq_true rfl) rfl ?_
  refine aw_aload_n C dX9_wipe_5 (i := 0) rfl rfl ?_
  refine aw_iconst C dX9_wipe_6 ki_0 ?_
  refine aw_put (k := 0) C dX9_wipe_7 fp_X9_41 (by decide) rfl rfl rfl (Nat.le_of_ble_eq_true rfl) md_p_len ?_
  refine aw_iload_n C dX9_wipe_10 (i := 1) rfl rfl ?_
  refine aw_iret C hr dX9_wipe_11 ?_
  exact PO.mk rfl
set_option maxRecDepth 20000 in
/-- place -/
theorem cm_place {l : Launch} {D : va_G} {cy : Nat → ClassId} {z : Nat → Nat} {q : Nat → Nat} (hI : wI 9 q) {len span wires chg rsp rwi val ends : Nat} {text : Nat → Nat} {h was rd eyes fw bars ways : Nat → Int32} {i y : Int32} (hs : 8 ≤ span) (hs2 : span ≤ 40) (hw : wires ≤ 8) : Ct l yX9_place cX9_place 3 (some .int) 2 43 D cy z 9 q [.ref (q 0), .int i, .int y] (mdC cy q len span wires chg rsp rwi val ends text h was rd eyes fw bars ways) (PI (opPlace span wires h i y) (mdC cy q len span wires chg rsp rwi val ends text h was rd eyes fw bars ways)) := by
  refine Ct.of (own := RX9) (by decide) rfl hI (Nat.le_of_ble_eq_true rfl) ?_
  intro p e s m args below meth c C hr
  refine aw_lv (lv' := [(0, .ref (q 0)), (1, .int i), (2, .int y)]) (fun x hx => hx) ?_
  refine aw_aload_n C dX9_place_0 (i := 0) rfl rfl ?_
  refine aw_iload_n C dX9_place_1 (i := 1) rfl rfl ?_
  refine aw_V1i (k := 0) C dX9_place_2 cv_X9_94 (by decide) rfl rfl rfl (cm_isWr hI) ⟨Nat.le_of_ble_eq_true rfl, Nat.le_of_ble_eq_true rfl⟩ (Nat.le_of_ble_eq_true rfl) ?_
  refine aw_if_eq_b (tgt := 32) C dX9_place_5 (by decide) (fun h5 => ?_) (fun h5 => ?_)
  · refine aw_iconst C dX9_place_32 ki_m1 ?_
    refine aw_iret C hr dX9_place_33 ?_
    exact PI.mk (by unfold opPlace; rw [if_neg (by rw [h5]; decide)]) rfl
  · refine aw_iload_n C dX9_place_8 (i := 2) rfl rfl ?_
    refine aw_iconst C dX9_place_9 ki_0 ?_
    refine aw_aload_n C dX9_place_10 (i := 0) rfl rfl ?_
    refine aw_get (k := 0) C dX9_place_11 fl_X9_34 (by decide) rfl rfl ?_
    refine aw_S3i C dX9_place_14 cs_X9_54 (cm_isIn hI) ⟨Nat.le_of_ble_eq_true rfl, Nat.le_of_ble_eq_true rfl⟩ (Nat.le_of_ble_eq_true rfl) ?_
    refine aw_if_eq_b (tgt := 32) C dX9_place_17 (by decide) (fun h17 => ?_) (fun h17 => ?_)
    · refine aw_iconst C dX9_place_32 ki_m1 ?_
      refine aw_iret C hr dX9_place_33 ?_
      exact PI.mk (by unfold opPlace; rw [if_pos h5, if_neg (by rw [h17]; decide)]) rfl
    · have e0 : opPlace span wires h i y = plc h span i.toNatClampNeg y.toNatClampNeg + 100000 := by unfold opPlace; rw [if_pos h5, if_pos h17]
      obtain ⟨a, ha, rfl⟩ := wr_of hw h5
      obtain ⟨b, hb, rfl⟩ := in_of (by omega) h17
      rw [nI_clamp (by omega), nI_clamp (by omega)] at e0
      refine aw_aload_n C dX9_place_20 (i := 0) rfl rfl ?_
      refine aw_iload_n C dX9_place_21 (i := 1) rfl rfl ?_
      refine aw_iload_n C dX9_place_22 (i := 2) rfl rfl ?_
      refine aw_V2i (k := 0) C dX9_place_23 cv_X9_102 (by decide) rfl rfl rfl (cm_placeOf hI (by omega) (by omega)) ⟨Nat.le_of_ble_eq_true rfl, Nat.le_of_ble_eq_true rfl⟩ (Nat.le_of_ble_eq_true rfl) ?_
      refine aw_ldc C dX9_place_26 kc_X9_101 ?_
      refine aw_iadd C dX9_place_28 ?_
      refine aw_goto (tgt := 33) C dX9_place_29 (by decide) ?_
      refine aw_iret C hr dX9_place_33 ?_
      exact PI.mk e0.symm rfl
set_option maxRecDepth 20000 in
/-- height -/
theorem cm_height {l : Launch} {D : va_G} {cy : Nat → ClassId} {z : Nat → Nat} {q : Nat → Nat} (hI : wI 9 q) {len span wires chg rsp rwi val ends : Nat} {text : Nat → Nat} {h was rd eyes fw bars ways : Nat → Int32} {i y : Int32} (hs : 8 ≤ span) (hs2 : span ≤ 40) (hw : wires ≤ 8) : Ct l yX9_height cX9_height 3 (some .int) 2 43 D cy z 9 q [.ref (q 0), .int i, .int y] (mdC cy q len span wires chg rsp rwi val ends text h was rd eyes fw bars ways) (PI (opHeight span wires h i y) (mdC cy q len span wires chg rsp rwi val ends text h was rd eyes fw bars ways)) := by
  refine Ct.of (own := RX9) (by decide) rfl hI (Nat.le_of_ble_eq_true rfl) ?_
  intro p e s m args below meth c C hr
  refine aw_lv (lv' := [(0, .ref (q 0)), (1, .int i), (2, .int y)]) (fun x hx => hx) ?_
  refine aw_aload_n C dX9_height_0 (i := 0) rfl rfl ?_
  refine aw_iload_n C dX9_height_1 (i := 1) rfl rfl ?_
  refine aw_V1i (k := 0) C dX9_height_2 cv_X9_94 (by decide) rfl rfl rfl (cm_isWr hI) ⟨Nat.le_of_ble_eq_true rfl, Nat.le_of_ble_eq_true rfl⟩ (Nat.le_of_ble_eq_true rfl) ?_
  refine aw_if_eq_b (tgt := 29) C dX9_height_5 (by decide) (fun h5 => ?_) (fun h5 => ?_)
  · refine aw_iconst C dX9_height_29 ki_m1 ?_
    refine aw_iret C hr dX9_height_30 ?_
    exact PI.mk (by unfold opHeight; rw [if_neg (by rw [h5]; decide)]) rfl
  · refine aw_iload_n C dX9_height_8 (i := 2) rfl rfl ?_
    refine aw_iconst C dX9_height_9 ki_0 ?_
    refine aw_aload_n C dX9_height_10 (i := 0) rfl rfl ?_
    refine aw_get (k := 0) C dX9_height_11 fl_X9_34 (by decide) rfl rfl ?_
    refine aw_S3i C dX9_height_14 cs_X9_54 (cm_isIn hI) ⟨Nat.le_of_ble_eq_true rfl, Nat.le_of_ble_eq_true rfl⟩ (Nat.le_of_ble_eq_true rfl) ?_
    refine aw_if_eq_b (tgt := 29) C dX9_height_17 (by decide) (fun h17 => ?_) (fun h17 => ?_)
    · refine aw_iconst C dX9_height_29 ki_m1 ?_
      refine aw_iret C hr dX9_height_30 ?_
      exact PI.mk (by unfold opHeight; rw [if_pos h5, if_neg (by rw [h17]; decide)]) rfl
    · have e0 : opHeight span wires h i y = hgt h span i.toNatClampNeg y.toNatClampNeg := by unfold opHeight; rw [if_pos h5, if_pos h17]
      obtain ⟨a, ha, rfl⟩ := wr_of hw h5
      obtain ⟨b, hb, rfl⟩ := in_of (by omega) h17
      rw [nI_clamp (by omega), nI_clamp (by omega)] at e0
      refine aw_aload_n C dX9_height_20 (i := 0) rfl rfl ?_
      refine aw_iload_n C dX9_height_21 (i := 1) rfl rfl ?_
      refine aw_iload_n C dX9_height_22 (i := 2) rfl rfl ?_
      refine aw_V2i (k := 0) C dX9_height_23 cv_X9_108 (by decide) rfl rfl rfl (cm_heightOf hI (by omega) (by omega) hs hs2) ⟨Nat.le_of_ble_eq_true rfl, Nat.le_of_ble_eq_true rfl⟩ (Nat.le_of_ble_eq_true rfl) ?_
      refine aw_goto (tgt := 30) C dX9_height_26 (by decide) ?_
      refine aw_iret C hr dX9_height_30 ?_
      exact PI.mk e0.symm rfl
set_option maxRecDepth 20000 in
/-- pair -/
theorem cm_pair {l : Launch} {D : va_G} {cy : Nat → ClassId} {z : Nat → Nat} {q : Nat → Nat} (hI : wI 9 q) {len span wires chg rsp rwi val ends : Nat} {text : Nat → Nat} {h was rd eyes fw bars ways : Nat → Int32} {i k what : Int32} (hs : 8 ≤ span) (hs2 : span ≤ 40) (hw : wires ≤ 8) : Ct l yX9_pair cX9_pair 4 (some .int) 3 75 D cy z 9 q [.ref (q 0), .int i, .int k, .int what] (mdC cy q len span wires chg rsp rwi val ends text h was rd eyes fw bars ways) (PI (opPair span wires h i k what) (mdC cy q len span wires chg rsp rwi val ends text h was rd eyes fw bars ways)) := by
  refine Ct.of (own := RX9) (by decide) rfl hI (Nat.le_of_ble_eq_true rfl) ?_
  intro p e s m args below meth c C hr
  refine aw_lv (lv' := [(0, .ref (q 0)), (1, .int i), (2, .int k), (3, .int what)]) (fun x hx => hx) ?_
  refine aw_aload_n C dX9_pair_0 (i := 0) rfl rfl ?_
  refine aw_iload_n C dX9_pair_1 (i := 1) rfl rfl ?_
  refine aw_V1i (k := 0) C dX9_pair_2 cv_X9_94 (by decide) rfl rfl rfl (cm_isWr hI) ⟨Nat.le_of_ble_eq_true rfl, Nat.le_of_ble_eq_true rfl⟩ (Nat.le_of_ble_eq_true rfl) ?_
  refine aw_if_eq_b (tgt := 30) C dX9_pair_5 (by decide) (fun h5 => ?_) (fun h5 => ?_)
  · refine aw_iconst C dX9_pair_30 ki_m1 ?_
    refine aw_iret C hr dX9_pair_31 ?_
    exact PI.mk (by unfold opPair; rw [if_neg (by rw [h5]; decide)]) rfl
  · refine aw_aload_n C dX9_pair_8 (i := 0) rfl rfl ?_
    refine aw_iload_n C dX9_pair_9 (i := 2) rfl rfl ?_
    refine aw_V1i (k := 0) C dX9_pair_10 cv_X9_94 (by decide) rfl rfl rfl (cm_isWr hI) ⟨Nat.le_of_ble_eq_true rfl, Nat.le_of_ble_eq_true rfl⟩ (Nat.le_of_ble_eq_true rfl) ?_
    refine aw_if_eq_b (tgt := 30) C dX9_pair_13 (by decide) (fun h13 => ?_) (fun h13 => ?_)
    · refine aw_iconst C dX9_pair_30 ki_m1 ?_
      refine aw_iret C hr dX9_pair_31 ?_
      exact PI.mk (by unfold opPair; rw [if_pos h5, if_neg (by rw [h13]; decide)]) rfl
    · refine aw_iload_n C dX9_pair_16 (i := 1) rfl rfl ?_
      refine aw_iload_n C dX9_pair_17 (i := 2) rfl rfl ?_
      refine aw_icmp_eq (tgt := 30) C dX9_pair_18 (by decide) (fun h18 => ?_) (fun h18 => ?_)
      · refine aw_iconst C dX9_pair_30 ki_m1 ?_
        refine aw_iret C hr dX9_pair_31 ?_
        exact PI.mk (by unfold opPair; rw [if_pos h5, if_pos h13, if_pos h18]) rfl
      · refine aw_iload_n C dX9_pair_21 (i := 3) rfl rfl ?_
        refine aw_iconst C dX9_pair_22 ki_0 ?_
        refine aw_iconst C dX9_pair_23 ki_3 ?_
        refine aw_S3i C dX9_pair_24 cs_X9_54 (cm_isIn hI) ⟨Nat.le_of_ble_eq_true rfl, Nat.le_of_ble_eq_true rfl⟩ (Nat.le_of_ble_eq_true rfl) ?_
        refine aw_if_ne_b (tgt := 32) C dX9_pair_27 (by decide) (fun h27 => ?_) (fun h27 => ?_)
        · have e0 : opPair span wires h i k what = (if what = nI 0 then nrF h span i.toNatClampNeg k.toNatClampNeg else if what = nI 1 then nI (nrC h span i.toNatClampNeg k.toNatClampNeg) else if what = nI 2 then bi (crs h span i.toNatClampNeg k.toNatClampNeg) else bi (way h span i.toNatClampNeg k.toNatClampNeg)) := by unfold opPair; rw [if_pos h5, if_pos h13, if_neg h18, if_pos h27]
          obtain ⟨a, ha, rfl⟩ := wr_of hw h5
          obtain ⟨b, hb, rfl⟩ := wr_of hw h13
          rw [nI_clamp (by omega), nI_clamp (by omega)] at e0
          refine aw_iload_n C dX9_pair_32 (i := 3) rfl rfl ?_
          by_cases hsw : 0 ≤ what.toInt ∧ what.toInt ≤ 2
          · rcases (show what.toInt = 0 ∨ what.toInt = 1 ∨ what.toInt = 2 by omega) with hsw | hsw | hsw
            · obtain rfl : what = nI 0 := Int32.toInt_inj.mp (by rw [hsw]; rfl)
              refine aw_tin (tgt := 60) (off := 27) (v := 0) C dX9_pair_33 hsw (by decide) (by decide) rfl (by decide) ?_
              refine aw_aload_n C dX9_pair_60 (i := 0) rfl rfl ?_
              refine aw_iload_n C dX9_pair_61 (i := 1) rfl rfl ?_
              refine aw_iload_n C dX9_pair_62 (i := 2) rfl rfl ?_
              refine aw_iconst C dX9_pair_63 ki_1 ?_
              refine aw_V3i (k := 0) C dX9_pair_64 cv_X9_123 (by decide) rfl rfl rfl (cm_nearF hI (by omega) (by omega) hs hs2) ⟨Nat.le_of_ble_eq_true rfl, Nat.le_of_ble_eq_true rfl⟩ (Nat.le_of_ble_eq_true rfl) ?_
              refine aw_iret C hr dX9_pair_67 ?_
              refine PI.mk ?_ rfl
              rw [e0, if_pos rfl]
            · obtain rfl : what = nI 1 := Int32.toInt_inj.mp (by rw [hsw]; rfl)
              refine aw_tin (tgt := 68) (off := 35) (v := 1) C dX9_pair_33 hsw (by decide) (by decide) rfl (by decide) ?_
              refine aw_aload_n C dX9_pair_68 (i := 0) rfl rfl ?_
              refine aw_iload_n C dX9_pair_69 (i := 1) rfl rfl ?_
              refine aw_iload_n C dX9_pair_70 (i := 2) rfl rfl ?_
              refine aw_iconst C dX9_pair_71 ki_0 ?_
              refine aw_V3i (k := 0) C dX9_pair_72 cv_X9_123 (by decide) rfl rfl rfl (cm_nearC hI (by omega) (by omega) hs hs2) ⟨Nat.le_of_ble_eq_true rfl, Nat.le_of_ble_eq_true rfl⟩ (Nat.le_of_ble_eq_true rfl) ?_
              refine aw_iret C hr dX9_pair_75 ?_
              refine PI.mk ?_ rfl
              rw [e0, if_neg (by decide), if_pos rfl]
            · obtain rfl : what = nI 2 := Int32.toInt_inj.mp (by rw [hsw]; rfl)
              refine aw_tin (tgt := 76) (off := 43) (v := 2) C dX9_pair_33 hsw (by decide) (by decide) rfl (by decide) ?_
              refine aw_aload_n C dX9_pair_76 (i := 0) rfl rfl ?_
              refine aw_iload_n C dX9_pair_77 (i := 1) rfl rfl ?_
              refine aw_iload_n C dX9_pair_78 (i := 2) rfl rfl ?_
              refine aw_V2i (k := 0) C dX9_pair_79 cv_X9_127 (by decide) rfl rfl rfl (cm_cross hI (by omega) (by omega) hs hs2) ⟨Nat.le_of_ble_eq_true rfl, Nat.le_of_ble_eq_true rfl⟩ (Nat.le_of_ble_eq_true rfl) ?_
              refine aw_if_eq_b (tgt := 89) C dX9_pair_82 (by decide) (fun h82 => ?_) (fun h82 => ?_)
              · refine aw_iconst C dX9_pair_89 ki_0 ?_
                refine aw_iret C hr dX9_pair_90 ?_
                refine PI.mk ?_ rfl
                rw [e0, if_neg (by decide), if_neg (by decide), if_pos rfl]
                rw [h82]
                rfl
              · refine aw_iconst C dX9_pair_85 ki_1 ?_
                refine aw_goto (tgt := 90) C dX9_pair_86 (by decide) ?_
                refine aw_iret C hr dX9_pair_90 ?_
                refine PI.mk ?_ rfl
                rw [e0, if_neg (by decide), if_neg (by decide), if_pos rfl]
                rw [h82]
                rfl
          · refine aw_tout (tgt := 91) C dX9_pair_33 (by omega) (by decide) ?_
            have hn0 : ¬ what = nI 0 := fun e9 => hsw (by rw [e9]; decide)
            have hn1 : ¬ what = nI 1 := fun e9 => hsw (by rw [e9]; decide)
            have hn2 : ¬ what = nI 2 := fun e9 => hsw (by rw [e9]; decide)
            refine aw_aload_n C dX9_pair_91 (i := 0) rfl rfl ?_
            refine aw_iload_n C dX9_pair_92 (i := 1) rfl rfl ?_
            refine aw_iload_n C dX9_pair_93 (i := 2) rfl rfl ?_
            refine aw_V2i (k := 0) C dX9_pair_94 cv_X9_130 (by decide) rfl rfl rfl (cm_inWay hI (by omega) (by omega) hs hs2) ⟨Nat.le_of_ble_eq_true rfl, Nat.le_of_ble_eq_true rfl⟩ (Nat.le_of_ble_eq_true rfl) ?_
            refine aw_if_eq_b (tgt := 104) C dX9_pair_97 (by decide) (fun h97 => ?_) (fun h97 => ?_)
            · refine aw_iconst C dX9_pair_104 ki_0 ?_
              refine aw_iret C hr dX9_pair_105 ?_
              refine PI.mk ?_ rfl
              rw [e0, if_neg hn0, if_neg hn1, if_neg hn2]
              rw [h97]
              rfl
            · refine aw_iconst C dX9_pair_100 ki_1 ?_
              refine aw_goto (tgt := 105) C dX9_pair_101 (by decide) ?_
              refine aw_iret C hr dX9_pair_105 ?_
              refine PI.mk ?_ rfl
              rw [e0, if_neg hn0, if_neg hn1, if_neg hn2]
              rw [h97]
              rfl
        · refine aw_iconst C dX9_pair_30 ki_m1 ?_
          refine aw_iret C hr dX9_pair_31 ?_
          exact PI.mk (by unfold opPair; rw [if_pos h5, if_pos h13, if_neg h18, if_neg (by rw [h27]; decide)]) rfl
set_option maxRecDepth 20000 in
/-- wire -/
theorem cm_wire {l : Launch} {D : va_G} {cy : Nat → ClassId} {z : Nat → Nat} {q : Nat → Nat} (hI : wI 9 q) {len span wires chg rsp rwi val ends : Nat} {text : Nat → Nat} {h was rd eyes fw bars ways : Nat → Int32} {i what : Int32} (hs : 8 ≤ span) (hs2 : span ≤ 40) (hw : wires ≤ 8) : Ct l yX9_wire cX9_wire 3 (some .int) 2 48 D cy z 9 q [.ref (q 0), .int i, .int what] (mdC cy q len span wires chg rsp rwi val ends text h was rd eyes fw bars ways) (PI (opWire span wires h i what) (mdC cy q len span wires chg rsp rwi val ends text h was rd eyes fw bars ways)) := by
  refine Ct.of (own := RX9) (by decide) rfl hI (Nat.le_of_ble_eq_true rfl) ?_
  intro p e s m args below meth c C hr
  refine aw_lv (lv' := [(0, .ref (q 0)), (1, .int i), (2, .int what)]) (fun x hx => hx) ?_
  refine aw_aload_n C dX9_wire_0 (i := 0) rfl rfl ?_
  refine aw_iload_n C dX9_wire_1 (i := 1) rfl rfl ?_
  refine aw_V1i (k := 0) C dX9_wire_2 cv_X9_94 (by decide) rfl rfl rfl (cm_isWr hI) ⟨Nat.le_of_ble_eq_true rfl, Nat.le_of_ble_eq_true rfl⟩ (Nat.le_of_ble_eq_true rfl) ?_
  refine aw_if_eq_b (tgt := 18) C dX9_wire_5 (by decide) (fun h5 => ?_) (fun h5 => ?_)
  · refine aw_iconst C dX9_wire_18 ki_m1 ?_
    refine aw_iret C hr dX9_wire_19 ?_
    exact PI.mk (by unfold opWire; rw [if_neg (by rw [h5]; decide)]) rfl
  · refine aw_iload_n C dX9_wire_8 (i := 2) rfl rfl ?_
    refine aw_iconst C dX9_wire_9 ki_0 ?_
    refine aw_bipush C dX9_wire_10 kb_8 ?_
    refine aw_S3i C dX9_wire_12 cs_X9_54 (cm_isIn hI) ⟨Nat.le_of_ble_eq_true rfl, Nat.le_of_ble_eq_true rfl⟩ (Nat.le_of_ble_eq_true rfl) ?_
    refine aw_if_ne_b (tgt := 20) C dX9_wire_15 (by decide) (fun h15 => ?_) (fun h15 => ?_)
    · have e0 : opWire span wires h i what = (if what = nI 5 then bt (h 44) i.toNatClampNeg else if what = nI 6 then lng h span i.toNatClampNeg else if what = nI 7 then hgt h span i.toNatClampNeg (topR h span i.toNatClampNeg span) else if what = nI 8 then nI (topR h span i.toNatClampNeg span) else h (5 * i.toNatClampNeg + what.toNatClampNeg)) := by unfold opWire; rw [if_pos h5, if_pos h15]
      obtain ⟨a, ha, rfl⟩ := wr_of hw h5
      rw [nI_clamp (by omega)] at e0
      have htp := topR_le h span a span
      refine aw_iload_n C dX9_wire_20 (i := 2) rfl rfl ?_
      by_cases hsw : 5 ≤ what.toInt ∧ what.toInt ≤ 8
      · rcases (show what.toInt = 5 ∨ what.toInt = 6 ∨ what.toInt = 7 ∨ what.toInt = 8 by omega) with hsw | hsw | hsw | hsw
        · obtain rfl : what = nI 5 := Int32.toInt_inj.mp (by rw [hsw]; rfl)
          refine aw_tin (tgt := 52) (off := 31) (v := 5) C dX9_wire_21 hsw (by decide) (by decide) rfl (by decide) ?_
          refine aw_aload_n C dX9_wire_52 (i := 0) rfl rfl ?_
          refine aw_get (k := 0) C dX9_wire_53 fl_X9_13 (by decide) rfl rfl ?_
          refine aw_bipush C dX9_wire_56 kb_44 ?_
          refine aw_iald (k := 2) C dX9_wire_58 (by decide) (rfl) (rfl) (by omega) (by decide) (rfl) ?_
          refine aw_iload_n C dX9_wire_59 (i := 1) rfl rfl ?_
          refine aw_ishr C dX9_wire_60 ?_
          refine aw_iconst C dX9_wire_61 ki_1 ?_
          refine aw_iand C dX9_wire_62 ?_
          refine aw_iret C hr dX9_wire_63 ?_
          refine PI.mk ?_ rfl
          rw [e0, if_pos rfl]
          rfl
        · obtain rfl : what = nI 6 := Int32.toInt_inj.mp (by rw [hsw]; rfl)
          refine aw_tin (tgt := 64) (off := 43) (v := 6) C dX9_wire_21 hsw (by decide) (by decide) rfl (by decide) ?_
          refine aw_aload_n C dX9_wire_64 (i := 0) rfl rfl ?_
          refine aw_iload_n C dX9_wire_65 (i := 1) rfl rfl ?_
          refine aw_V1i (k := 0) C dX9_wire_66 cv_X9_111 (by decide) rfl rfl rfl (cm_longOf hI (by omega) hs hs2) ⟨Nat.le_of_ble_eq_true rfl, Nat.le_of_ble_eq_true rfl⟩ (Nat.le_of_ble_eq_true rfl) ?_
          refine aw_iret C hr dX9_wire_69 ?_
          refine PI.mk ?_ rfl
          rw [e0, if_neg (by decide), if_pos rfl]
        · obtain rfl : what = nI 7 := Int32.toInt_inj.mp (by rw [hsw]; rfl)
          refine aw_tin (tgt := 70) (off := 49) (v := 7) C dX9_wire_21 hsw (by decide) (by decide) rfl (by decide) ?_
          refine aw_aload_n C dX9_wire_70 (i := 0) rfl rfl ?_
          refine aw_iload_n C dX9_wire_71 (i := 1) rfl rfl ?_
          refine aw_aload_n C dX9_wire_72 (i := 0) rfl rfl ?_
          refine aw_iload_n C dX9_wire_73 (i := 1) rfl rfl ?_
          refine aw_V1i (k := 0) C dX9_wire_74 cv_X9_114 (by decide) rfl rfl rfl (cm_topOf hI (by omega) hs hs2) ⟨Nat.le_of_ble_eq_true rfl, Nat.le_of_ble_eq_true rfl⟩ (Nat.le_of_ble_eq_true rfl) ?_
          refine aw_V2i (k := 0) C dX9_wire_77 cv_X9_108 (by decide) rfl rfl rfl (cm_heightOf hI (by omega) (by omega) hs hs2) ⟨Nat.le_of_ble_eq_true rfl, Nat.le_of_ble_eq_true rfl⟩ (Nat.le_of_ble_eq_true rfl) ?_
          refine aw_iret C hr dX9_wire_80 ?_
          refine PI.mk ?_ rfl
          rw [e0, if_neg (by decide), if_neg (by decide), if_pos rfl]
        · obtain rfl : what = nI 8 := Int32.toInt_inj.mp (by rw [hsw]; rfl)
          refine aw_tin (tgt := 81) (off := 60) (v := 8) C dX9_wire_21 hsw (by decide) (by decide) rfl (by decide) ?_
          refine aw_aload_n C dX9_wire_81 (i := 0) rfl rfl ?_
          refine aw_iload_n C dX9_wire_82 (i := 1) rfl rfl ?_
          refine aw_V1i (k := 0) C dX9_wire_83 cv_X9_114 (by decide) rfl rfl rfl (cm_topOf hI (by omega) hs hs2) ⟨Nat.le_of_ble_eq_true rfl, Nat.le_of_ble_eq_true rfl⟩ (Nat.le_of_ble_eq_true rfl) ?_
          refine aw_iret C hr dX9_wire_86 ?_
          refine PI.mk ?_ rfl
          rw [e0, if_neg (by decide), if_neg (by decide), if_neg (by decide), if_pos rfl]
      · refine aw_tout (tgt := 87) C dX9_wire_21 (by omega) (by decide) ?_
        have hn5 : ¬ what = nI 5 := fun e9 => hsw (by rw [e9]; decide)
        have hn6 : ¬ what = nI 6 := fun e9 => hsw (by rw [e9]; decide)
        have hn7 : ¬ what = nI 7 := fun e9 => hsw (by rw [e9]; decide)
        have hn8 : ¬ what = nI 8 := fun e9 => hsw (by rw [e9]; decide)
        obtain ⟨b, hb, rfl⟩ := in_of (by decide) h15
        rw [nI_clamp (by omega)] at e0
        rw [nI_toInt (by omega)] at hsw
        refine aw_aload_n C dX9_wire_87 (i := 0) rfl rfl ?_
        refine aw_get (k := 0) C dX9_wire_88 fl_X9_13 (by decide) rfl rfl ?_
        refine aw_iconst C dX9_wire_91 ki_5 ?_
        refine aw_iload_n C dX9_wire_92 (i := 1) rfl rfl ?_
        refine aw_imul_n C dX9_wire_93 ?_
        refine aw_iload_n C dX9_wire_94 (i := 2) rfl rfl ?_
        refine aw_iadd_n C dX9_wire_95 ?_
        refine aw_iald (k := 2) C dX9_wire_96 (by decide) (rfl) (rfl) (by omega) (by decide) (rfl) ?_
        refine aw_iret C hr dX9_wire_97 ?_
        refine PI.mk ?_ rfl
        rw [e0, if_neg hn5, if_neg hn6, if_neg hn7, if_neg hn8]
    · refine aw_iconst C dX9_wire_18 ki_m1 ?_
      refine aw_iret C hr dX9_wire_19 ?_
      exact PI.mk (by unfold opWire; rw [if_pos h5, if_neg (by rw [h15]; decide)]) rfl
set_option maxRecDepth 20000 in
/-- bond -/
theorem cm_bond {l : Launch} {D : va_G} {cy : Nat → ClassId} {z : Nat → Nat} {q : Nat → Nat} (hI : wI 9 q) {len span wires chg rsp rwi val ends : Nat} {text : Nat → Nat} {h was rd eyes fw bars ways : Nat → Int32} {i : Int32} (hc : chg ≤ 6) (hs : 8 ≤ span) (hs2 : span ≤ 40) (hw : wires ≤ 8) : Ct l yX9_bond cX9_bond 2 (some .int) 4 99 D cy z 9 q [.ref (q 0), .int i] (mdC cy q len span wires chg rsp rwi val ends text h was rd eyes fw bars ways) (PO cy q (opBond len span wires chg text h was eyes i)) := by
  refine Ct.of (own := RX9) (by decide) rfl hI (Nat.le_of_ble_eq_true rfl) ?_
  intro p e s m args below meth c C hr
  refine aw_lv (lv' := [(0, .ref (q 0)), (1, .int i)]) (fun x hx => hx) ?_
  refine aw_aload_n C dX9_bond_0 (i := 0) rfl rfl ?_
  refine aw_iload_n C dX9_bond_1 (i := 1) rfl rfl ?_
  refine aw_V1i (k := 0) C dX9_bond_2 cv_X9_94 (by decide) rfl rfl rfl (cm_isWr hI) ⟨Nat.le_of_ble_eq_true rfl, Nat.le_of_ble_eq_true rfl⟩ (Nat.le_of_ble_eq_true rfl) ?_
  refine aw_if_ne_b (tgt := 10) C dX9_bond_5 (by decide) (fun h5 => ?_) (fun h5 => ?_)
  · obtain ⟨a, ha, rfl⟩ := wr_of hw h5
    have ec : (nI a).toNatClampNeg = a := nI_clamp (by omega)
    refine aw_aload_n C dX9_bond_10 (i := 0) rfl rfl ?_
    refine aw_get (k := 0) C dX9_bond_11 fl_X9_13 (by decide) rfl rfl ?_
    refine aw_bipush C dX9_bond_14 kb_44 ?_
    refine aw_iald (k := 2) C dX9_bond_16 (by decide) (rfl) (rfl) (by omega) (by decide) (rfl) ?_
    refine aw_iload_n C dX9_bond_17 (i := 1) rfl rfl ?_
    refine aw_ishr C dX9_bond_18 ?_
    refine aw_iconst C dX9_bond_19 ki_1 ?_
    refine aw_iand C dX9_bond_20 ?_
    refine aw_iconst C dX9_bond_21 ki_1 ?_
    refine aw_icmp_eq (tgt := 40) C dX9_bond_22 (by decide) (fun h22 => ?_) (fun h22 => ?_)
    · refine aw_bipush C dX9_bond_40 kb_m2 ?_
      refine aw_iret C hr dX9_bond_42 ?_
      exact PO.mk (by unfold opBond; rw [if_pos h5, ec, if_pos (show bt (h 44) a = nI 1 from h22)])
    · refine aw_aload_n C dX9_bond_25 (i := 0) rfl rfl ?_
      refine aw_iload_n C dX9_bond_26 (i := 1) rfl rfl ?_
      refine aw_aload_n C dX9_bond_27 (i := 0) rfl rfl ?_
      refine aw_get (k := 0) C dX9_bond_28 fl_X9_13 (by decide) rfl rfl ?_
      refine aw_bipush C dX9_bond_31 kb_44 ?_
      refine aw_iald (k := 2) C dX9_bond_33 (by decide) (rfl) (rfl) (by omega) (by decide) (rfl) ?_
      refine aw_V2i (k := 0) C dX9_bond_34 cv_X9_133 (by decide) rfl rfl rfl (cm_isBarred hI (by omega) hw hs hs2) ⟨Nat.le_of_ble_eq_true rfl, Nat.le_of_ble_eq_true rfl⟩ (Nat.le_of_ble_eq_true rfl) ?_
      refine aw_if_eq_b (tgt := 43) C dX9_bond_37 (by decide) (fun h37 => ?_) (fun h37 => ?_)
      · refine aw_aload_n C dX9_bond_43 (i := 0) rfl rfl ?_
        refine aw_V0v (k := 0) C dX9_bond_44 cv_X9_91 (by decide) rfl rfl rfl (cm_notes hI hc) ⟨Nat.le_of_ble_eq_true rfl, Nat.le_of_ble_eq_true rfl⟩ (Nat.le_of_ble_eq_true rfl) ?_
        refine aw_aload_n C dX9_bond_47 (i := 0) rfl rfl ?_
        refine aw_get (k := 0) C dX9_bond_48 fl_X9_13 (by decide) rfl rfl ?_
        refine aw_bipush C dX9_bond_51 kb_44 ?_
        refine aw_dup2 C dX9_bond_53 rfl rfl ?_
        refine aw_iald (k := 2) C dX9_bond_54 (by decide) (rfl) (rfl) (by omega) (by decide) (rfl) ?_
        refine aw_iconst C dX9_bond_55 ki_1 ?_
        refine aw_iload_n C dX9_bond_56 (i := 1) rfl rfl ?_
        refine aw_ishl C dX9_bond_57 ?_
        refine aw_ior C dX9_bond_58 ?_
        refine aw_iast (k := 2) C dX9_bond_59 (by decide) (rfl) (rfl) (by omega) (by decide) (md_a_h) ?_
        refine aw_aload_n C dX9_bond_60 (i := 0) rfl rfl ?_
        refine aw_get (k := 0) C dX9_bond_61 fl_X9_13 (by decide) rfl rfl ?_
        refine aw_bipush C dX9_bond_64 kb_44 ?_
        refine aw_iald (k := 2) C dX9_bond_66 (by decide) (rfl) (rfl) (by omega) (by decide) ((by unfold upd; exact if_pos rfl)) ?_
        refine aw_S1i C dX9_bond_67 cs_X9_136 (cm_bits hI) ⟨Nat.le_of_ble_eq_true rfl, Nat.le_of_ble_eq_true rfl⟩ (Nat.le_of_ble_eq_true rfl) ?_
        refine aw_iret C hr dX9_bond_70 ?_
        exact PO.mk (by unfold opBond; rw [if_pos h5, ec, if_neg (show ¬ bt (h 44) a = nI 1 from h22), if_neg (by rw [h37]; decide)])
      · refine aw_bipush C dX9_bond_40 kb_m2 ?_
        refine aw_iret C hr dX9_bond_42 ?_
        exact PO.mk (by unfold opBond; rw [if_pos h5, ec, if_neg (show ¬ bt (h 44) a = nI 1 from h22), if_pos h37])
  · refine aw_iconst C dX9_bond_8 ki_m1 ?_
    refine aw_iret C hr dX9_bond_9 ?_
    exact PO.mk (by unfold opBond; rw [if_neg (by rw [h5]; decide)])
set_option maxRecDepth 20000 in
/-- take -/
theorem cm_take {l : Launch} {D : va_G} {cy : Nat → ClassId} {z : Nat → Nat} {q : Nat → Nat} (hI : wI 9 q) {len span wires chg rsp rwi val ends : Nat} {text : Nat → Nat} {h was rd eyes fw bars ways : Nat → Int32} {i : Int32} (hc : chg ≤ 6) (hs : 8 ≤ span) (hs2 : span ≤ 40) (hw : wires ≤ 8) : Ct l yX9_take cX9_take 2 (some .int) 2 43 D cy z 9 q [.ref (q 0), .int i] (mdC cy q len span wires chg rsp rwi val ends text h was rd eyes fw bars ways) (PO cy q (opTake len span wires chg text h was eyes i)) := by
  refine Ct.of (own := RX9) (by decide) rfl hI (Nat.le_of_ble_eq_true rfl) ?_
  intro p e s m args below meth c C hr
  refine aw_lv (lv' := [(0, .ref (q 0)), (1, .int i)]) (fun x hx => hx) ?_
  refine aw_aload_n C dX9_take_0 (i := 0) rfl rfl ?_
  refine aw_iload_n C dX9_take_1 (i := 1) rfl rfl ?_
  refine aw_V1i (k := 0) C dX9_take_2 cv_X9_94 (by decide) rfl rfl rfl (cm_isWr hI) ⟨Nat.le_of_ble_eq_true rfl, Nat.le_of_ble_eq_true rfl⟩ (Nat.le_of_ble_eq_true rfl) ?_
  refine aw_if_ne_b (tgt := 10) C dX9_take_5 (by decide) (fun h5 => ?_) (fun h5 => ?_)
  · obtain ⟨a, ha, rfl⟩ := wr_of hw h5
    have ec : (nI a).toNatClampNeg = a := nI_clamp (by omega)
    refine aw_aload_n C dX9_take_10 (i := 0) rfl rfl ?_
    refine aw_get (k := 0) C dX9_take_11 fl_X9_13 (by decide) rfl rfl ?_
    refine aw_bipush C dX9_take_14 kb_44 ?_
    refine aw_iald (k := 2) C dX9_take_16 (by decide) (rfl) (rfl) (by omega) (by decide) (rfl) ?_
    refine aw_iload_n C dX9_take_17 (i := 1) rfl rfl ?_
    refine aw_ishr C dX9_take_18 ?_
    refine aw_iconst C dX9_take_19 ki_1 ?_
    refine aw_iand C dX9_take_20 ?_
    refine aw_if_ne (tgt := 27) C dX9_take_21 (by decide) (fun h21 => ?_) (fun h21 => ?_)
    · refine aw_aload_n C dX9_take_27 (i := 0) rfl rfl ?_
      refine aw_V0v (k := 0) C dX9_take_28 cv_X9_91 (by decide) rfl rfl rfl (cm_notes hI hc) ⟨Nat.le_of_ble_eq_true rfl, Nat.le_of_ble_eq_true rfl⟩ (Nat.le_of_ble_eq_true rfl) ?_
      refine aw_aload_n C dX9_take_31 (i := 0) rfl rfl ?_
      refine aw_get (k := 0) C dX9_take_32 fl_X9_13 (by decide) rfl rfl ?_
      refine aw_bipush C dX9_take_35 kb_44 ?_
      refine aw_dup2 C dX9_take_37 rfl rfl ?_
      refine aw_iald (k := 2) C dX9_take_38 (by decide) (rfl) (rfl) (by omega) (by decide) (rfl) ?_
      refine aw_iconst C dX9_take_39 ki_1 ?_
      refine aw_iload_n C dX9_take_40 (i := 1) rfl rfl ?_
      refine aw_ishl C dX9_take_41 ?_
      refine aw_isub C dX9_take_42 ?_
      refine aw_iast (k := 2) C dX9_take_43 (by decide) (rfl) (rfl) (by omega) (by decide) (md_a_h) ?_
      refine aw_aload_n C dX9_take_44 (i := 0) rfl rfl ?_
      refine aw_get (k := 0) C dX9_take_45 fl_X9_13 (by decide) rfl rfl ?_
      refine aw_bipush C dX9_take_48 kb_44 ?_
      refine aw_iald (k := 2) C dX9_take_50 (by decide) (rfl) (rfl) (by omega) (by decide) ((by unfold upd; exact if_pos rfl)) ?_
      refine aw_S1i C dX9_take_51 cs_X9_136 (cm_bits hI) ⟨Nat.le_of_ble_eq_true rfl, Nat.le_of_ble_eq_true rfl⟩ (Nat.le_of_ble_eq_true rfl) ?_
      refine aw_iret C hr dX9_take_54 ?_
      exact PO.mk (by unfold opTake; rw [if_pos h5, ec, if_neg (show ¬ bt (h 44) a = 0 from h21)])
    · refine aw_bipush C dX9_take_24 kb_m2 ?_
      refine aw_iret C hr dX9_take_26 ?_
      exact PO.mk (by unfold opTake; rw [if_pos h5, ec, if_pos (show bt (h 44) a = 0 from h21)])
  · refine aw_iconst C dX9_take_8 ki_m1 ?_
    refine aw_iret C hr dX9_take_9 ?_
    exact PO.mk (by unfold opTake; rw [if_neg (by rw [h5]; decide)])
set_option maxRecDepth 20000 in
/-- ready, its loop -/
theorem cm_ready_l {l : Launch} {D : va_G} {cy : Nat → ClassId} {z : Nat → Nat} {q : Nat → Nat} {p : Program} {e : Env} {s : State} {m : MethodId} {args : Array Value} {below : List Frame} {meth : Method} {c : Code} (hI : wI 9 q) (C : Cx p s m args meth c cX9_ready 3 RX9 D cy z 9 q) (hr : meth.sig.returnType = (some .int)) {len span wires chg rsp rwi val ends : Nat} {text : Nat → Nat} {h was rd eyes fw bars ways : Nat → Int32} (hs : 8 ≤ span) (hs2 : span ≤ 40) (hw : wires ≤ 8) : ∀ (d : Nat) (k : Nat), wires - k < d → (k ≤ wires) → AW p l e { frames := 4, cells := 0, slots := 0, locals := 99 } s m args below meth c D 9 q 3 (MQ below (Qg D 9 q (PI (opReady span wires h) (mdC cy q len span wires chg rsp rwi val ends text h was rd eyes fw bars ways)) (wA 9 q s.heap.size)) args s 0 0 (wA 9 q s.heap.size)) (mdC cy q len span wires chg rsp rwi val ends text h was rd eyes fw bars ways) [(0, .ref (q 0)), (1, .int (rdyS h span wires k)), (2, .int (nI k))] 4 [] := by
  intro d
  induction d with
  | zero => intro k hd; exact absurd hd (Nat.not_lt_zero _)
  | succ d ih =>
    intro k hd iv0
    refine aw_iload_n C dX9_ready_4 (i := 2) rfl rfl ?_
    refine aw_aload_n C dX9_ready_5 (i := 0) rfl rfl ?_
    refine aw_get (k := 0) C dX9_ready_6 fl_X9_38 (by decide) rfl rfl ?_
    refine aw_icmp_ge_n (tgt := 57) C dX9_ready_9 (by decide) (by omega) (by omega) (fun h9 => ?_) (fun h9 => ?_)
    · refine aw_iload_n C dX9_ready_57 (i := 1) rfl rfl ?_
      refine aw_iret C hr dX9_ready_58 ?_
      exact PI.mk (by rw [show k = wires by omega]; rfl) rfl
    · refine aw_iload_n C dX9_ready_12 (i := 1) rfl rfl ?_
      refine aw_aload_n C dX9_ready_13 (i := 0) rfl rfl ?_
      refine aw_get (k := 0) C dX9_ready_14 fl_X9_13 (by decide) rfl rfl ?_
      refine aw_bipush C dX9_ready_17 kb_44 ?_
      refine aw_iald (k := 2) C dX9_ready_19 (by decide) (rfl) (rfl) (by omega) (by decide) (rfl) ?_
      refine aw_iload_n C dX9_ready_20 (i := 2) rfl rfl ?_
      refine aw_ishr C dX9_ready_21 ?_
      refine aw_iconst C dX9_ready_22 ki_1 ?_
      refine aw_iand C dX9_ready_23 ?_
      refine aw_if_ne (tgt := 48) C dX9_ready_24 (by decide) (fun h24 => ?_) (fun h24 => ?_)
      · refine aw_iconst C dX9_ready_48 ki_0 ?_
        refine aw_ior C dX9_ready_49 ?_
        refine aw_istore_n (lv' := [(0, _), (1, _), (2, _)]) C dX9_ready_50 (i := 1) rfl (Nat.le_of_ble_eq_true rfl) rfl ?_
        refine aw_iinc_n (lv' := [(0, _), (1, _), (2, _)]) C dX9_ready_51 rfl ki_1 (Nat.le_of_ble_eq_true rfl) rfl ?_
        refine aw_goto (tgt := 4) C dX9_ready_54 (by decide) ?_
        have k9 := ih (k + 1) (by omega) (by omega)
        unfold rdyS at k9
        rw [if_neg (show ¬ bt (h 44) k = 0 from h24)] at k9
        exact k9
      · refine aw_aload_n C dX9_ready_27 (i := 0) rfl rfl ?_
        refine aw_iload_n C dX9_ready_28 (i := 2) rfl rfl ?_
        refine aw_aload_n C dX9_ready_29 (i := 0) rfl rfl ?_
        refine aw_get (k := 0) C dX9_ready_30 fl_X9_13 (by decide) rfl rfl ?_
        refine aw_bipush C dX9_ready_33 kb_44 ?_
        refine aw_iald (k := 2) C dX9_ready_35 (by decide) (rfl) (rfl) (by omega) (by decide) (rfl) ?_
        refine aw_V2i (k := 0) C dX9_ready_36 cv_X9_133 (by decide) rfl rfl rfl (cm_isBarred hI (by omega) hw hs hs2) ⟨Nat.le_of_ble_eq_true rfl, Nat.le_of_ble_eq_true rfl⟩ (Nat.le_of_ble_eq_true rfl) ?_
        refine aw_if_ne_b (tgt := 48) C dX9_ready_39 (by decide) (fun h39 => ?_) (fun h39 => ?_)
        · refine aw_iconst C dX9_ready_48 ki_0 ?_
          refine aw_ior C dX9_ready_49 ?_
          refine aw_istore_n (lv' := [(0, _), (1, _), (2, _)]) C dX9_ready_50 (i := 1) rfl (Nat.le_of_ble_eq_true rfl) rfl ?_
          refine aw_iinc_n (lv' := [(0, _), (1, _), (2, _)]) C dX9_ready_51 rfl ki_1 (Nat.le_of_ble_eq_true rfl) rfl ?_
          refine aw_goto (tgt := 4) C dX9_ready_54 (by decide) ?_
          have k9 := ih (k + 1) (by omega) (by omega)
          unfold rdyS at k9
          rw [if_pos (show bt (h 44) k = 0 from h24), if_pos h39] at k9
          exact k9
        · refine aw_iconst C dX9_ready_42 ki_1 ?_
          refine aw_iload_n C dX9_ready_43 (i := 2) rfl rfl ?_
          refine aw_ishl C dX9_ready_44 ?_
          refine aw_goto (tgt := 49) C dX9_ready_45 (by decide) ?_
          refine aw_ior C dX9_ready_49 ?_
          refine aw_istore_n (lv' := [(0, _), (1, _), (2, _)]) C dX9_ready_50 (i := 1) rfl (Nat.le_of_ble_eq_true rfl) rfl ?_
          refine aw_iinc_n (lv' := [(0, _), (1, _), (2, _)]) C dX9_ready_51 rfl ki_1 (Nat.le_of_ble_eq_true rfl) rfl ?_
          refine aw_goto (tgt := 4) C dX9_ready_54 (by decide) ?_
          have k9 := ih (k + 1) (by omega) (by omega)
          unfold rdyS at k9
          rw [if_pos (show bt (h 44) k = 0 from h24), if_neg (by rw [h39]; decide)] at k9
          exact k9
set_option maxRecDepth 20000 in
/-- ready -/
theorem cm_ready {l : Launch} {D : va_G} {cy : Nat → ClassId} {z : Nat → Nat} {q : Nat → Nat} (hI : wI 9 q) {len span wires chg rsp rwi val ends : Nat} {text : Nat → Nat} {h was rd eyes fw bars ways : Nat → Int32} (hs : 8 ≤ span) (hs2 : span ≤ 40) (hw : wires ≤ 8) : Ct l yX9_ready cX9_ready 3 (some .int) 4 99 D cy z 9 q [.ref (q 0)] (mdC cy q len span wires chg rsp rwi val ends text h was rd eyes fw bars ways) (PI (opReady span wires h) (mdC cy q len span wires chg rsp rwi val ends text h was rd eyes fw bars ways)) := by
  refine Ct.of (own := RX9) (by decide) rfl hI (Nat.le_of_ble_eq_true rfl) ?_
  intro p e s m args below meth c C hr
  refine aw_lv (lv' := [(0, .ref (q 0))]) (fun x hx => hx) ?_
  refine aw_iconst C dX9_ready_0 ki_0 ?_
  refine aw_istore_n (lv' := [(0, _), (1, _)]) C dX9_ready_1 (i := 1) rfl (Nat.le_of_ble_eq_true rfl) rfl ?_
  refine aw_iconst C dX9_ready_2 ki_0 ?_
  refine aw_istore_n (lv' := [(0, _), (1, _), (2, _)]) C dX9_ready_3 (i := 2) rfl (Nat.le_of_ble_eq_true rfl) rfl ?_
  exact cm_ready_l hI C hr hs hs2 hw (wires + 1) 0 (by omega) (by omega)
end
section
-- what is asked: pairs, orders, who is stuck, sums
theorem upd_us {f : Nat → Int32} {k : Nat} {x : Int32} : upd f k x k = x := by unfold upd; exact if_pos rfl
theorem upd_un {f : Nat → Int32} {k j : Nat} {x : Int32} (h : j ≠ k) : upd f k x j = f j := by unfold upd; exact if_neg h
theorem upd_uu {f : Nat → Int32} {k : Nat} {x y : Int32} : upd (upd f k x) k y = upd f k y := by
  funext j
  unfold upd
  split <;> rfl
theorem upd_sw {f : Nat → Int32} {i j : Nat} (h : i ≠ j) (x y : Int32) : upd (upd f i x) j y = upd (upd f j y) i x := by
  funext k
  unfold upd
  by_cases h1 : k = j
  · subst h1
    rw [if_pos rfl, if_neg (fun e => h e.symm), if_pos rfl]
  · rw [if_neg h1, if_neg h1]
theorem upd_id {f : Nat → Int32} {k : Nat} {x : Int32} (h : f k = x) : upd f k x = f := by
  funext j
  unfold upd
  by_cases e : j = k
  · rw [if_pos e, e, h]
  · rw [if_neg e]
def prS (p : Nat → Nat → Bool) (n : Nat) : Nat → Nat
  | 0 => 0
  | i + 1 => prS p n i + cntB (p i) n
theorem prS_le (p : Nat → Nat → Bool) (n : Nat) : ∀ i, prS p n i ≤ i * n
  | 0 => Nat.zero_le _
  | i + 1 => by
    have h1 := prS_le p n i
    have h2 := cntB_le (p i) n
    show prS p n i + cntB (p i) n ≤ (i + 1) * n
    rw [Nat.succ_mul]
    omega
def pr6 (h : Nat → Int32) (S : Nat) (i k : Nat) : Bool := decide (i < k) && decide (0 < nrC h S i k)
def pr7 (h : Nat → Int32) (S : Nat) (i k : Nat) : Bool := decide (i < k) && crs h S i k
def pr8 (h : Nat → Int32) (S : Nat) (i k : Nat) : Bool := decide (i ≠ k) && way h S i k
def opCount (len span wires chg : Nat) (h : Nat → Int32) (what : Int32) : Int32 := if what = nI 0 then nI wires else if what = nI 1 then nI span else if what = nI 2 then h 40 else if what = nI 3 then h 41 else if what = nI 4 then h 42 else if what = nI 5 then bitsI (h 44) else if what = nI 6 then nI (prS (pr6 h span) wires wires) else if what = nI 7 then nI (prS (pr7 h span) wires wires) else if what = nI 8 then nI (prS (pr8 h span) wires wires) else if what = nI 9 then nI chg else if what = nI 10 then nI len else if what = nI 11 then h 43 + 100000 else if what = nI 12 then accI (nI 0) (lng h span) wires else -1
/-- those (bits, below n) that k is in the way of -/
def brA (h : Nat → Int32) (S k : Nat) : Nat → Int32
  | 0 => nI 0
  | i + 1 => brA h S k i ||| (if i = k then nI 0 else if way h S i k = true then nI 1 <<< (nI i &&& 31) else nI 0)
def foP (b : Nat → Int32) (x : Int32) (k : Nat) : Bool := decide (bt x k = nI 1) && decide (b k &&& x = 0)
/-- the lowest one of a set that is in the way of no other of it -/
def foI (b : Nat → Int32) (n : Nat) (x : Int32) : Int32 := match fstB (foP b x) n with
  | some k => nI k
  | none => -4
def lfI (b : Nat → Int32) (n : Nat) : Nat → Int32
  | 0 => nI 1 <<< (nI n &&& 31) - nI 1
  | j + 1 => lfI b n j - (if 0 ≤ foI b n (lfI b n j) then nI 1 <<< (foI b n (lfI b n j) &&& 31) else nI 0)
theorem lfI_s {b : Nat → Int32} {n j : Nat} : lfI b n (j + 1) = lfI b n j - (if 0 ≤ foI b n (lfI b n j) then nI 1 <<< (foI b n (lfI b n j) &&& 31) else nI 0) := rfl
theorem foI_cg {b c : Nat → Int32} {n : Nat} (h : ∀ k, k < n → b k = c k) (x : Int32) : foI b n x = foI c n x := by
  have e : ∀ j, j ≤ n → fstB (foP b x) j = fstB (foP c x) j := by
    intro j
    induction j with
    | zero => intro _; rfl
    | succ j ih =>
      intro hj
      unfold fstB
      rw [ih (by omega)]
      have : foP b x j = foP c x j := by unfold foP; rw [h j (by omega)]
      rw [this]
  unfold foI
  rw [e n (Nat.le_refl n)]
theorem lfI_cg {b c : Nat → Int32} {n : Nat} (h : ∀ k, k < n → b k = c k) : ∀ j, lfI b n j = lfI c n j
  | 0 => rfl
  | j + 1 => by unfold lfI; rw [lfI_cg h j, foI_cg h]
def brs (h : Nat → Int32) (S n : Nat) : Nat → Int32 := fun k => brA h S k n
def opStuck (span wires : Nat) (h : Nat → Int32) : Int32 := lfI (brs h span wires) wires wires
def opOrder (span wires : Nat) (h : Nat → Int32) (k : Int32) : Int32 := if inB k (nI 0) (nI 7) = true then if opStuck span wires h = 0 then if k < nI wires then foI (brs h span wires) wires (lfI (brs h span wires) wires k.toNatClampNeg) else -4 else -2 else -1
/-- ORDERS, as the reference counts them: from each set to those of one more -/
theorem shl1 : ∀ k, k < 31 → nI 1 <<< (nI k &&& 31) = nI (2 ^ k) := by decide +kernel
theorem all_eq {n : Nat} (h : n ≤ 8) : nI 1 <<< (nI n &&& 31) - nI 1 = nI (2 ^ n - 1) := by
  rw [shl1 n (by omega), pk_sub (Nat.one_le_two_pow)]
theorem or_nI (a b : Nat) : nI a ||| nI b = nI (a ||| b) := by
  apply Int32.toBitVec_inj.mp
  show (nI a).toBitVec ||| (nI b).toBitVec = (nI (a ||| b)).toBitVec
  apply BitVec.eq_of_toNat_eq
  show _ = (BitVec.ofNat 32 (a ||| b)).toNat
  rw [BitVec.toNat_or, BitVec.toNat_ofNat]
  show (BitVec.ofNat 32 a).toNat ||| (BitVec.ofNat 32 b).toNat = _
  rw [BitVec.toNat_ofNat, BitVec.toNat_ofNat, Nat.or_mod_two_pow]
def psK (b : Nat → Int32) (n s : Nat) (w : Nat → Int32) : Nat → (Nat → Int32)
  | 0 => w
  | k + 1 => if bt (nI s) k = 0 then if b k &&& (nI (2 ^ n - 1) - nI s) = 0 then upd (psK b n s w k) (s ||| 2 ^ k) (psK b n s w k (s ||| 2 ^ k) + psK b n s w k s) else psK b n s w k else psK b n s w k
theorem psK_s {b : Nat → Int32} {n s : Nat} {w : Nat → Int32} {k : Nat} : psK b n s w (k + 1) = if bt (nI s) k = 0 then if b k &&& (nI (2 ^ n - 1) - nI s) = 0 then upd (psK b n s w k) (s ||| 2 ^ k) (psK b n s w k (s ||| 2 ^ k) + psK b n s w k s) else psK b n s w k else psK b n s w k := rfl
def psS (b : Nat → Int32) (n : Nat) (w : Nat → Int32) : Nat → (Nat → Int32)
  | 0 => w
  | s + 1 => psK b n s (psS b n w s) n
def w0 (w : Nat → Int32) (k : Nat) : Nat → Int32 := cpG (fun j => if j = 0 then nI 1 else nI 0) w k
/-- the reference's count of orders, over a row w whose old contents do not matter -/
def opOrders (span wires : Nat) (h w : Nat → Int32) : Int32 := psS (brs h span wires) wires (w0 w (2 ^ wires)) (2 ^ wires - 1) (2 ^ wires - 1)
theorem or_lt8 {a k n : Nat} (ha : a < 2 ^ n) (hk : k < n) : a ||| 2 ^ k < 2 ^ n := Nat.or_lt_two_pow ha (Nat.pow_lt_pow_right (by omega) hk)
theorem psK_cg {b c : Nat → Int32} {n s : Nat} (h : ∀ k, k < n → b k = c k) (w : Nat → Int32) : ∀ k, k ≤ n → psK b n s w k = psK c n s w k
  | 0, _ => rfl
  | k + 1, hk => by rw [psK_s, psK_s, psK_cg h w k (by omega), h k (by omega)]
theorem psS_cg {b c : Nat → Int32} {n : Nat} (h : ∀ k, k < n → b k = c k) (w : Nat → Int32) : ∀ s, psS b n w s = psS c n w s
  | 0 => rfl
  | s + 1 => by unfold psS; rw [psS_cg h w s, psK_cg h _ n (Nat.le_refl n)]
theorem pw8 {n : Nat} (h : n ≤ 8) : 2 ^ n ≤ 256 ∧ 1 ≤ 2 ^ n := ⟨Nat.pow_le_pow_right (n := 2) (by omega) h, Nat.one_le_two_pow⟩
end
section
-- the reference: pairs, counts, orders
set_option maxRecDepth 20000 in
/-- pairsThat, its loop -/
theorem cm_pairs6_i {l : Launch} {D : va_G} {cy : Nat → ClassId} {z : Nat → Nat} {q : Nat → Nat} {p : Program} {e : Env} {s : State} {m : MethodId} {args : Array Value} {below : List Frame} {meth : Method} {c : Code} {Q : State → Prop} (hI : wI 9 q) (C : Cx p s m args meth c cX9_pairsThat 6 RX9 D cy z 9 q) (hr : meth.sig.returnType = (some .int)) {len span wires chg rsp rwi val ends : Nat} {text : Nat → Nat} {h was rd eyes fw bars ways : Nat → Int32} (hs : 8 ≤ span) (hs2 : span ≤ 40) (hw : wires ≤ 8) {i a : Nat} (hi : i < wires) (K : AW p l e { frames := 3, cells := 0, slots := 0, locals := 75 } s m args below meth c D 9 q 6 Q (mdC cy q len span wires chg rsp rwi val ends text h was rd eyes fw bars ways) [(0, .ref (q 0)), (1, .int (nI 6)), (2, .int (nI (a + cntB ((pr6 h span) i) wires))), (3, .int (nI i)), (4, .int (nI wires))] 111 []) : ∀ (d : Nat) (k : Nat), wires - k < d → (k ≤ wires) → AW p l e { frames := 3, cells := 0, slots := 0, locals := 75 } s m args below meth c D 9 q 6 Q (mdC cy q len span wires chg rsp rwi val ends text h was rd eyes fw bars ways) [(0, .ref (q 0)), (1, .int (nI 6)), (2, .int (nI (a + cntB ((pr6 h span) i) k))), (3, .int (nI i)), (4, .int (nI (k)))] 15 [] := by
  intro d
  induction d with
  | zero => intro k hd; exact absurd hd (Nat.not_lt_zero _)
  | succ d ih =>
    intro k hd iv0
    refine aw_iload C dX9_pairsThat_15 rfl ?_
    refine aw_aload_n C dX9_pairsThat_17 (i := 0) rfl rfl ?_
    refine aw_get (k := 0) C dX9_pairsThat_18 fl_X9_38 (by decide) rfl rfl ?_
    refine aw_icmp_ge_n (tgt := 111) C dX9_pairsThat_21 (by decide) (by omega) (by omega) (fun h21 => ?_) (fun h21 => ?_)
    · obtain rfl : k = wires := by omega
      exact K
    · have hcb := cntB_le ((pr6 h span) i) k
      have hnc : nrC h span i k ≤ span + 1 := cntB_le _ _
      refine aw_iload_n C dX9_pairsThat_24 (i := 3) rfl rfl ?_
      refine aw_iload C dX9_pairsThat_25 rfl ?_
      refine aw_icmp_eq_n (tgt := 105) C dX9_pairsThat_27 (by decide) (by omega) (by omega) (fun h27 => ?_) (fun h27 => ?_)
      · refine aw_iinc_n (lv' := [(0, _), (1, _), (2, _), (3, _), (4, _)]) C dX9_pairsThat_105 rfl ki_1 (Nat.le_of_ble_eq_true rfl) rfl ?_
        refine aw_goto (tgt := 15) C dX9_pairsThat_108 (by decide) ?_
        have e9 := cntB_n (n := k) (p := pr6 h span i) (by unfold pr6; simp [h27])
        have k9 := ih (k + 1) (by omega) (by omega)
        rw [e9] at k9
        exact k9
      · refine aw_iload_n C dX9_pairsThat_30 (i := 1) rfl rfl ?_
        refine aw_bipush C dX9_pairsThat_31 kb_8 ?_
        refine aw_icmp_eq_n (tgt := 42) C dX9_pairsThat_33 (by decide) (by omega) (by omega) (fun h33 => absurd h33 (by decide)) (fun h33 => ?_)
        refine aw_iload_n C dX9_pairsThat_36 (i := 3) rfl rfl ?_
        refine aw_iload C dX9_pairsThat_37 rfl ?_
        refine aw_icmp_ge_n (tgt := 105) C dX9_pairsThat_39 (by decide) (by omega) (by omega) (fun h39 => ?_) (fun h39 => ?_)
        · refine aw_iinc_n (lv' := [(0, _), (1, _), (2, _), (3, _), (4, _)]) C dX9_pairsThat_105 rfl ki_1 (Nat.le_of_ble_eq_true rfl) rfl ?_
          refine aw_goto (tgt := 15) C dX9_pairsThat_108 (by decide) ?_
          have e9 := cntB_n (n := k) (p := pr6 h span i) (by unfold pr6; simp [Nat.not_lt.mpr h39])
          have k9 := ih (k + 1) (by omega) (by omega)
          rw [e9] at k9
          exact k9
        · refine aw_iload_n C dX9_pairsThat_42 (i := 1) rfl rfl ?_
          refine aw_bipush C dX9_pairsThat_43 kb_6 ?_
          refine aw_icmp_ne_n (tgt := 67) C dX9_pairsThat_45 (by decide) (by omega) (by omega) (fun h45 => absurd rfl h45) (fun h45 => ?_)
          refine aw_aload_n C dX9_pairsThat_48 (i := 0) rfl rfl ?_
          refine aw_iload_n C dX9_pairsThat_49 (i := 3) rfl rfl ?_
          refine aw_iload C dX9_pairsThat_50 rfl ?_
          refine aw_iconst C dX9_pairsThat_52 ki_0 ?_
          refine aw_V3i (k := 0) C dX9_pairsThat_53 cv_X9_123 (by decide) rfl rfl rfl (cm_nearC hI (by omega) (by omega) hs hs2) ⟨Nat.le_of_ble_eq_true rfl, Nat.le_of_ble_eq_true rfl⟩ (Nat.le_of_ble_eq_true rfl) ?_
          refine aw_if_le_n (tgt := 63) C dX9_pairsThat_56 (by decide) (by omega) (fun h56 => ?_) (fun h56 => ?_)
          · refine aw_iconst C dX9_pairsThat_63 ki_0 ?_
            refine aw_goto (tgt := 90) C dX9_pairsThat_64 (by decide) ?_
            refine aw_istore (lv' := [(0, _), (1, _), (2, _), (3, _), (4, _), (5, _)]) C dX9_pairsThat_90 (Nat.le_of_ble_eq_true rfl) rfl ?_
            refine aw_iload_n C dX9_pairsThat_92 (i := 2) rfl rfl ?_
            refine aw_iload C dX9_pairsThat_93 rfl ?_
            refine aw_if_eq_n (tgt := 102) C dX9_pairsThat_95 (by decide) (by omega) (fun h95 => ?_) (fun h95 => absurd h95 (by decide))
            refine aw_iconst C dX9_pairsThat_102 ki_0 ?_
            refine aw_iadd_n C dX9_pairsThat_103 ?_
            refine aw_istore_n (lv' := [(0, _), (1, _), (2, _), (3, _), (4, _), (5, _)]) C dX9_pairsThat_104 (i := 2) rfl (Nat.le_of_ble_eq_true rfl) rfl ?_
            refine aw_iinc_n (lv' := [(0, _), (1, _), (2, _), (3, _), (4, _), (5, _)]) C dX9_pairsThat_105 rfl ki_1 (Nat.le_of_ble_eq_true rfl) rfl ?_
            refine aw_goto (tgt := 15) C dX9_pairsThat_108 (by decide) ?_
            refine aw_take 5 (lv' := [(0, _), (1, _), (2, _), (3, _), (4, _)]) rfl ?_
            have e9 := cntB_n (n := k) (p := pr6 h span i) (by unfold pr6; simp [h39, h56])
            have k9 := ih (k + 1) (by omega) (by omega)
            rw [e9] at k9
            exact k9
          · refine aw_iconst C dX9_pairsThat_59 ki_1 ?_
            refine aw_goto (tgt := 90) C dX9_pairsThat_60 (by decide) ?_
            refine aw_istore (lv' := [(0, _), (1, _), (2, _), (3, _), (4, _), (5, _)]) C dX9_pairsThat_90 (Nat.le_of_ble_eq_true rfl) rfl ?_
            refine aw_iload_n C dX9_pairsThat_92 (i := 2) rfl rfl ?_
            refine aw_iload C dX9_pairsThat_93 rfl ?_
            refine aw_if_eq_n (tgt := 102) C dX9_pairsThat_95 (by decide) (by omega) (fun h95 => absurd h95 (by decide)) (fun h95 => ?_)
            refine aw_iconst C dX9_pairsThat_98 ki_1 ?_
            refine aw_goto (tgt := 103) C dX9_pairsThat_99 (by decide) ?_
            refine aw_iadd_n C dX9_pairsThat_103 ?_
            refine aw_istore_n (lv' := [(0, _), (1, _), (2, _), (3, _), (4, _), (5, _)]) C dX9_pairsThat_104 (i := 2) rfl (Nat.le_of_ble_eq_true rfl) rfl ?_
            refine aw_iinc_n (lv' := [(0, _), (1, _), (2, _), (3, _), (4, _), (5, _)]) C dX9_pairsThat_105 rfl ki_1 (Nat.le_of_ble_eq_true rfl) rfl ?_
            refine aw_goto (tgt := 15) C dX9_pairsThat_108 (by decide) ?_
            refine aw_take 5 (lv' := [(0, _), (1, _), (2, _), (3, _), (4, _)]) rfl ?_
            have e9 := cntB_t (n := k) (p := pr6 h span i) (by unfold pr6; simp [h39, h56])
            have k9 := ih (k + 1) (by omega) (by omega)
            rw [e9] at k9
            exact k9
set_option maxRecDepth 20000 in
/-- pairsThat, its loop -/
theorem cm_pairs6_o {l : Launch} {D : va_G} {cy : Nat → ClassId} {z : Nat → Nat} {q : Nat → Nat} {p : Program} {e : Env} {s : State} {m : MethodId} {args : Array Value} {below : List Frame} {meth : Method} {c : Code} (hI : wI 9 q) (C : Cx p s m args meth c cX9_pairsThat 6 RX9 D cy z 9 q) (hr : meth.sig.returnType = (some .int)) {len span wires chg rsp rwi val ends : Nat} {text : Nat → Nat} {h was rd eyes fw bars ways : Nat → Int32} (hs : 8 ≤ span) (hs2 : span ≤ 40) (hw : wires ≤ 8) : ∀ (d : Nat) (i : Nat), wires - i < d → (i ≤ wires) → AW p l e { frames := 3, cells := 0, slots := 0, locals := 75 } s m args below meth c D 9 q 6 (MQ below (Qg D 9 q (PI (nI (prS (pr6 h span) wires wires)) (mdC cy q len span wires chg rsp rwi val ends text h was rd eyes fw bars ways)) (wA 9 q s.heap.size)) args s 0 0 (wA 9 q s.heap.size)) (mdC cy q len span wires chg rsp rwi val ends text h was rd eyes fw bars ways) [(0, .ref (q 0)), (1, .int (nI 6)), (2, .int (nI (prS (pr6 h span) wires i))), (3, .int (nI i))] 4 [] := by
  intro d
  induction d with
  | zero => intro i hd; exact absurd hd (Nat.not_lt_zero _)
  | succ d ih =>
    intro i hd iv0
    refine aw_iload_n C dX9_pairsThat_4 (i := 3) rfl rfl ?_
    refine aw_aload_n C dX9_pairsThat_5 (i := 0) rfl rfl ?_
    refine aw_get (k := 0) C dX9_pairsThat_6 fl_X9_38 (by decide) rfl rfl ?_
    refine aw_icmp_ge_n (tgt := 117) C dX9_pairsThat_9 (by decide) (by omega) (by omega) (fun h9 => ?_) (fun h9 => ?_)
    · refine aw_iload_n C dX9_pairsThat_117 (i := 2) rfl rfl ?_
      refine aw_iret C hr dX9_pairsThat_118 ?_
      exact PI.mk (by rw [show i = wires by omega]) rfl
    · refine aw_iconst C dX9_pairsThat_12 ki_0 ?_
      refine aw_istore (lv' := [(0, _), (1, _), (2, _), (3, _), (4, _)]) C dX9_pairsThat_13 (Nat.le_of_ble_eq_true rfl) rfl ?_
      refine cm_pairs6_i hI C hr hs hs2 hw (by omega) ?_ (wires + 1) 0 (by omega) (by omega)
      refine aw_iinc_n (lv' := [(0, _), (1, _), (2, _), (3, _), (4, _)]) C dX9_pairsThat_111 rfl ki_1 (Nat.le_of_ble_eq_true rfl) rfl ?_
      refine aw_goto (tgt := 4) C dX9_pairsThat_114 (by decide) ?_
      refine aw_take 4 (lv' := [(0, _), (1, _), (2, _), (3, _)]) rfl ?_
      exact ih (i + 1) (by omega) (by omega)
set_option maxRecDepth 20000 in
/-- pairsThat -/
theorem cm_pairs6 {l : Launch} {D : va_G} {cy : Nat → ClassId} {z : Nat → Nat} {q : Nat → Nat} (hI : wI 9 q) {len span wires chg rsp rwi val ends : Nat} {text : Nat → Nat} {h was rd eyes fw bars ways : Nat → Int32} (hs : 8 ≤ span) (hs2 : span ≤ 40) (hw : wires ≤ 8) : Ct l yX9_pairsThat cX9_pairsThat 6 (some .int) 3 75 D cy z 9 q [.ref (q 0), .int (nI 6)] (mdC cy q len span wires chg rsp rwi val ends text h was rd eyes fw bars ways) (PI (nI (prS (pr6 h span) wires wires)) (mdC cy q len span wires chg rsp rwi val ends text h was rd eyes fw bars ways)) := by
  refine Ct.of (own := RX9) (by decide) rfl hI (Nat.le_of_ble_eq_true rfl) ?_
  intro p e s m args below meth c C hr
  refine aw_lv (lv' := [(0, .ref (q 0)), (1, .int (nI 6))]) (fun x hx => hx) ?_
  refine aw_iconst C dX9_pairsThat_0 ki_0 ?_
  refine aw_istore_n (lv' := [(0, _), (1, _), (2, _)]) C dX9_pairsThat_1 (i := 2) rfl (Nat.le_of_ble_eq_true rfl) rfl ?_
  refine aw_iconst C dX9_pairsThat_2 ki_0 ?_
  refine aw_istore_n (lv' := [(0, _), (1, _), (2, _), (3, _)]) C dX9_pairsThat_3 (i := 3) rfl (Nat.le_of_ble_eq_true rfl) rfl ?_
  exact cm_pairs6_o hI C hr hs hs2 hw (wires + 1) 0 (by omega) (by omega)
set_option maxRecDepth 20000 in
/-- pairsThat, its loop -/
theorem cm_pairs7_i {l : Launch} {D : va_G} {cy : Nat → ClassId} {z : Nat → Nat} {q : Nat → Nat} {p : Program} {e : Env} {s : State} {m : MethodId} {args : Array Value} {below : List Frame} {meth : Method} {c : Code} {Q : State → Prop} (hI : wI 9 q) (C : Cx p s m args meth c cX9_pairsThat 6 RX9 D cy z 9 q) (hr : meth.sig.returnType = (some .int)) {len span wires chg rsp rwi val ends : Nat} {text : Nat → Nat} {h was rd eyes fw bars ways : Nat → Int32} (hs : 8 ≤ span) (hs2 : span ≤ 40) (hw : wires ≤ 8) {i a : Nat} (hi : i < wires) (K : AW p l e { frames := 3, cells := 0, slots := 0, locals := 75 } s m args below meth c D 9 q 6 Q (mdC cy q len span wires chg rsp rwi val ends text h was rd eyes fw bars ways) [(0, .ref (q 0)), (1, .int (nI 7)), (2, .int (nI (a + cntB ((pr7 h span) i) wires))), (3, .int (nI i)), (4, .int (nI wires))] 111 []) : ∀ (d : Nat) (k : Nat), wires - k < d → (k ≤ wires) → AW p l e { frames := 3, cells := 0, slots := 0, locals := 75 } s m args below meth c D 9 q 6 Q (mdC cy q len span wires chg rsp rwi val ends text h was rd eyes fw bars ways) [(0, .ref (q 0)), (1, .int (nI 7)), (2, .int (nI (a + cntB ((pr7 h span) i) k))), (3, .int (nI i)), (4, .int (nI (k)))] 15 [] := by
  intro d
  induction d with
  | zero => intro k hd; exact absurd hd (Nat.not_lt_zero _)
  | succ d ih =>
    intro k hd iv0
    refine aw_iload C dX9_pairsThat_15 rfl ?_
    refine aw_aload_n C dX9_pairsThat_17 (i := 0) rfl rfl ?_
    refine aw_get (k := 0) C dX9_pairsThat_18 fl_X9_38 (by decide) rfl rfl ?_
    refine aw_icmp_ge_n (tgt := 111) C dX9_pairsThat_21 (by decide) (by omega) (by omega) (fun h21 => ?_) (fun h21 => ?_)
    · obtain rfl : k = wires := by omega
      exact K
    · have hcb := cntB_le ((pr7 h span) i) k
      have hnc : nrC h span i k ≤ span + 1 := cntB_le _ _
      refine aw_iload_n C dX9_pairsThat_24 (i := 3) rfl rfl ?_
      refine aw_iload C dX9_pairsThat_25 rfl ?_
      refine aw_icmp_eq_n (tgt := 105) C dX9_pairsThat_27 (by decide) (by omega) (by omega) (fun h27 => ?_) (fun h27 => ?_)
      · refine aw_iinc_n (lv' := [(0, _), (1, _), (2, _), (3, _), (4, _)]) C dX9_pairsThat_105 rfl ki_1 (Nat.le_of_ble_eq_true rfl) rfl ?_
        refine aw_goto (tgt := 15) C dX9_pairsThat_108 (by decide) ?_
        have e9 := cntB_n (n := k) (p := pr7 h span i) (by unfold pr7; simp [h27])
        have k9 := ih (k + 1) (by omega) (by omega)
        rw [e9] at k9
        exact k9
      · refine aw_iload_n C dX9_pairsThat_30 (i := 1) rfl rfl ?_
        refine aw_bipush C dX9_pairsThat_31 kb_8 ?_
        refine aw_icmp_eq_n (tgt := 42) C dX9_pairsThat_33 (by decide) (by omega) (by omega) (fun h33 => absurd h33 (by decide)) (fun h33 => ?_)
        refine aw_iload_n C dX9_pairsThat_36 (i := 3) rfl rfl ?_
        refine aw_iload C dX9_pairsThat_37 rfl ?_
        refine aw_icmp_ge_n (tgt := 105) C dX9_pairsThat_39 (by decide) (by omega) (by omega) (fun h39 => ?_) (fun h39 => ?_)
        · refine aw_iinc_n (lv' := [(0, _), (1, _), (2, _), (3, _), (4, _)]) C dX9_pairsThat_105 rfl ki_1 (Nat.le_of_ble_eq_true rfl) rfl ?_
          refine aw_goto (tgt := 15) C dX9_pairsThat_108 (by decide) ?_
          have e9 := cntB_n (n := k) (p := pr7 h span i) (by unfold pr7; simp [Nat.not_lt.mpr h39])
          have k9 := ih (k + 1) (by omega) (by omega)
          rw [e9] at k9
          exact k9
        · refine aw_iload_n C dX9_pairsThat_42 (i := 1) rfl rfl ?_
          refine aw_bipush C dX9_pairsThat_43 kb_6 ?_
          refine aw_icmp_ne_n (tgt := 67) C dX9_pairsThat_45 (by decide) (by omega) (by omega) (fun h45 => ?_) (fun h45 => absurd h45 (by decide))
          refine aw_iload_n C dX9_pairsThat_67 (i := 1) rfl rfl ?_
          refine aw_bipush C dX9_pairsThat_68 kb_7 ?_
          refine aw_icmp_ne_n (tgt := 83) C dX9_pairsThat_70 (by decide) (by omega) (by omega) (fun h70 => absurd rfl h70) (fun h70 => ?_)
          refine aw_aload_n C dX9_pairsThat_73 (i := 0) rfl rfl ?_
          refine aw_iload_n C dX9_pairsThat_74 (i := 3) rfl rfl ?_
          refine aw_iload C dX9_pairsThat_75 rfl ?_
          refine aw_V2i (k := 0) C dX9_pairsThat_77 cv_X9_127 (by decide) rfl rfl rfl (cm_cross hI (by omega) (by omega) hs hs2) ⟨Nat.le_of_ble_eq_true rfl, Nat.le_of_ble_eq_true rfl⟩ (Nat.le_of_ble_eq_true rfl) ?_
          refine aw_goto (tgt := 90) C dX9_pairsThat_80 (by decide) ?_
          refine aw_istore (lv' := [(0, _), (1, _), (2, _), (3, _), (4, _), (5, _)]) C dX9_pairsThat_90 (Nat.le_of_ble_eq_true rfl) rfl ?_
          refine aw_iload_n C dX9_pairsThat_92 (i := 2) rfl rfl ?_
          refine aw_iload C dX9_pairsThat_93 rfl ?_
          refine aw_if_eq_b (tgt := 102) C dX9_pairsThat_95 (by decide) (fun h95 => ?_) (fun h95 => ?_)
          · refine aw_iconst C dX9_pairsThat_102 ki_0 ?_
            refine aw_iadd_n C dX9_pairsThat_103 ?_
            refine aw_istore_n (lv' := [(0, _), (1, _), (2, _), (3, _), (4, _), (5, _)]) C dX9_pairsThat_104 (i := 2) rfl (Nat.le_of_ble_eq_true rfl) rfl ?_
            refine aw_iinc_n (lv' := [(0, _), (1, _), (2, _), (3, _), (4, _), (5, _)]) C dX9_pairsThat_105 rfl ki_1 (Nat.le_of_ble_eq_true rfl) rfl ?_
            refine aw_goto (tgt := 15) C dX9_pairsThat_108 (by decide) ?_
            refine aw_take 5 (lv' := [(0, _), (1, _), (2, _), (3, _), (4, _)]) rfl ?_
            have e9 := cntB_n (n := k) (p := pr7 h span i) (by unfold pr7; simp [h39, h95])
            have k9 := ih (k + 1) (by omega) (by omega)
            rw [e9] at k9
            exact k9
          · refine aw_iconst C dX9_pairsThat_98 ki_1 ?_
            refine aw_goto (tgt := 103) C dX9_pairsThat_99 (by decide) ?_
            refine aw_iadd_n C dX9_pairsThat_103 ?_
            refine aw_istore_n (lv' := [(0, _), (1, _), (2, _), (3, _), (4, _), (5, _)]) C dX9_pairsThat_104 (i := 2) rfl (Nat.le_of_ble_eq_true rfl) rfl ?_
            refine aw_iinc_n (lv' := [(0, _), (1, _), (2, _), (3, _), (4, _), (5, _)]) C dX9_pairsThat_105 rfl ki_1 (Nat.le_of_ble_eq_true rfl) rfl ?_
            refine aw_goto (tgt := 15) C dX9_pairsThat_108 (by decide) ?_
            refine aw_take 5 (lv' := [(0, _), (1, _), (2, _), (3, _), (4, _)]) rfl ?_
            have e9 := cntB_t (n := k) (p := pr7 h span i) (by unfold pr7; simp [h39, h95])
            have k9 := ih (k + 1) (by omega) (by omega)
            rw [e9] at k9
            exact k9
set_option maxRecDepth 20000 in
/-- pairsThat, its loop -/
theorem cm_pairs7_o {l : Launch} {D : va_G} {cy : Nat → ClassId} {z : Nat → Nat} {q : Nat → Nat} {p : Program} {e : Env} {s : State} {m : MethodId} {args : Array Value} {below : List Frame} {meth : Method} {c : Code} (hI : wI 9 q) (C : Cx p s m args meth c cX9_pairsThat 6 RX9 D cy z 9 q) (hr : meth.sig.returnType = (some .int)) {len span wires chg rsp rwi val ends : Nat} {text : Nat → Nat} {h was rd eyes fw bars ways : Nat → Int32} (hs : 8 ≤ span) (hs2 : span ≤ 40) (hw : wires ≤ 8) : ∀ (d : Nat) (i : Nat), wires - i < d → (i ≤ wires) → AW p l e { frames := 3, cells := 0, slots := 0, locals := 75 } s m args below meth c D 9 q 6 (MQ below (Qg D 9 q (PI (nI (prS (pr7 h span) wires wires)) (mdC cy q len span wires chg rsp rwi val ends text h was rd eyes fw bars ways)) (wA 9 q s.heap.size)) args s 0 0 (wA 9 q s.heap.size)) (mdC cy q len span wires chg rsp rwi val ends text h was rd eyes fw bars ways) [(0, .ref (q 0)), (1, .int (nI 7)), (2, .int (nI (prS (pr7 h span) wires i))), (3, .int (nI i))] 4 [] := by
  intro d
  induction d with
  | zero => intro i hd; exact absurd hd (Nat.not_lt_zero _)
  | succ d ih =>
    intro i hd iv0
    refine aw_iload_n C dX9_pairsThat_4 (i := 3) rfl rfl ?_
    refine aw_aload_n C dX9_pairsThat_5 (i := 0) rfl rfl ?_
    refine aw_get (k := 0) C dX9_pairsThat_6 fl_X9_38 (by decide) rfl rfl ?_
    refine aw_icmp_ge_n (tgt := 117) C dX9_pairsThat_9 (by decide) (by omega) (by omega) (fun h9 => ?_) (fun h9 => ?_)
    · refine aw_iload_n C dX9_pairsThat_117 (i := 2) rfl rfl ?_
      refine aw_iret C hr dX9_pairsThat_118 ?_
      exact PI.mk (by rw [show i = wires by omega]) rfl
    · refine aw_iconst C dX9_pairsThat_12 ki_0 ?_
      refine aw_istore (lv' := [(0, _), (1, _), (2, _), (3, _), (4, _)]) C dX9_pairsThat_13 (Nat.le_of_ble_eq_true rfl) rfl ?_
      refine cm_pairs7_i hI C hr hs hs2 hw (by omega) ?_ (wires + 1) 0 (by omega) (by omega)
      refine aw_iinc_n (lv' := [(0, _), (1, _), (2, _), (3, _), (4, _)]) C dX9_pairsThat_111 rfl ki_1 (Nat.le_of_ble_eq_true rfl) rfl ?_
      refine aw_goto (tgt := 4) C dX9_pairsThat_114 (by decide) ?_
      refine aw_take 4 (lv' := [(0, _), (1, _), (2, _), (3, _)]) rfl ?_
      exact ih (i + 1) (by omega) (by omega)
set_option maxRecDepth 20000 in
/-- pairsThat -/
theorem cm_pairs7 {l : Launch} {D : va_G} {cy : Nat → ClassId} {z : Nat → Nat} {q : Nat → Nat} (hI : wI 9 q) {len span wires chg rsp rwi val ends : Nat} {text : Nat → Nat} {h was rd eyes fw bars ways : Nat → Int32} (hs : 8 ≤ span) (hs2 : span ≤ 40) (hw : wires ≤ 8) : Ct l yX9_pairsThat cX9_pairsThat 6 (some .int) 3 75 D cy z 9 q [.ref (q 0), .int (nI 7)] (mdC cy q len span wires chg rsp rwi val ends text h was rd eyes fw bars ways) (PI (nI (prS (pr7 h span) wires wires)) (mdC cy q len span wires chg rsp rwi val ends text h was rd eyes fw bars ways)) := by
  refine Ct.of (own := RX9) (by decide) rfl hI (Nat.le_of_ble_eq_true rfl) ?_
  intro p e s m args below meth c C hr
  refine aw_lv (lv' := [(0, .ref (q 0)), (1, .int (nI 7))]) (fun x hx => hx) ?_
  refine aw_iconst C dX9_pairsThat_0 ki_0 ?_
  refine aw_istore_n (lv' := [(0, _), (1, _), (2, _)]) C dX9_pairsThat_1 (i := 2) rfl (Nat.le_of_ble_eq_true rfl) rfl ?_
  refine aw_iconst C dX9_pairsThat_2 ki_0 ?_
  refine aw_istore_n (lv' := [(0, _), (1, _), (2, _), (3, _)]) C dX9_pairsThat_3 (i := 3) rfl (Nat.le_of_ble_eq_true rfl) rfl ?_
  exact cm_pairs7_o hI C hr hs hs2 hw (wires + 1) 0 (by omega) (by omega)
set_option maxRecDepth 20000 in
/-- pairsThat, its loop -/
theorem cm_pairs8_i {l : Launch} {D : va_G} {cy : Nat → ClassId} {z : Nat → Nat} {q : Nat → Nat} {p : Program} {e : Env} {s : State} {m : MethodId} {args : Array Value} {below : List Frame} {meth : Method} {c : Code} {Q : State → Prop} (hI : wI 9 q) (C : Cx p s m args meth c cX9_pairsThat 6 RX9 D cy z 9 q) (hr : meth.sig.returnType = (some .int)) {len span wires chg rsp rwi val ends : Nat} {text : Nat → Nat} {h was rd eyes fw bars ways : Nat → Int32} (hs : 8 ≤ span) (hs2 : span ≤ 40) (hw : wires ≤ 8) {i a : Nat} (hi : i < wires) (K : AW p l e { frames := 3, cells := 0, slots := 0, locals := 75 } s m args below meth c D 9 q 6 Q (mdC cy q len span wires chg rsp rwi val ends text h was rd eyes fw bars ways) [(0, .ref (q 0)), (1, .int (nI 8)), (2, .int (nI (a + cntB ((pr8 h span) i) wires))), (3, .int (nI i)), (4, .int (nI wires))] 111 []) : ∀ (d : Nat) (k : Nat), wires - k < d → (k ≤ wires) → AW p l e { frames := 3, cells := 0, slots := 0, locals := 75 } s m args below meth c D 9 q 6 Q (mdC cy q len span wires chg rsp rwi val ends text h was rd eyes fw bars ways) [(0, .ref (q 0)), (1, .int (nI 8)), (2, .int (nI (a + cntB ((pr8 h span) i) k))), (3, .int (nI i)), (4, .int (nI (k)))] 15 [] := by
  intro d
  induction d with
  | zero => intro k hd; exact absurd hd (Nat.not_lt_zero _)
  | succ d ih =>
    intro k hd iv0
    refine aw_iload C dX9_pairsThat_15 rfl ?_
    refine aw_aload_n C dX9_pairsThat_17 (i := 0) rfl rfl ?_
    refine aw_get (k := 0) C dX9_pairsThat_18 fl_X9_38 (by decide) rfl rfl ?_
    refine aw_icmp_ge_n (tgt := 111) C dX9_pairsThat_21 (by decide) (by omega) (by omega) (fun h21 => ?_) (fun h21 => ?_)
    · obtain rfl : k = wires := by omega
      exact K
    · have hcb := cntB_le ((pr8 h span) i) k
      have hnc : nrC h span i k ≤ span + 1 := cntB_le _ _
      refine aw_iload_n C dX9_pairsThat_24 (i := 3) rfl rfl ?_
      refine aw_iload C dX9_pairsThat_25 rfl ?_
      refine aw_icmp_eq_n (tgt := 105) C dX9_pairsThat_27 (by decide) (by omega) (by omega) (fun h27 => ?_) (fun h27 => ?_)
      · refine aw_iinc_n (lv' := [(0, _), (1, _), (2, _), (3, _), (4, _)]) C dX9_pairsThat_105 rfl ki_1 (Nat.le_of_ble_eq_true rfl) rfl ?_
        refine aw_goto (tgt := 15) C dX9_pairsThat_108 (by decide) ?_
        have e9 := cntB_n (n := k) (p := pr8 h span i) (by unfold pr8; simp [h27])
        have k9 := ih (k + 1) (by omega) (by omega)
        rw [e9] at k9
        exact k9
      · refine aw_iload_n C dX9_pairsThat_30 (i := 1) rfl rfl ?_
        refine aw_bipush C dX9_pairsThat_31 kb_8 ?_
        refine aw_icmp_eq_n (tgt := 42) C dX9_pairsThat_33 (by decide) (by omega) (by omega) (fun h33 => ?_) (fun h33 => absurd rfl h33)
        refine aw_iload_n C dX9_pairsThat_42 (i := 1) rfl rfl ?_
        refine aw_bipush C dX9_pairsThat_43 kb_6 ?_
        refine aw_icmp_ne_n (tgt := 67) C dX9_pairsThat_45 (by decide) (by omega) (by omega) (fun h45 => ?_) (fun h45 => absurd h45 (by decide))
        refine aw_iload_n C dX9_pairsThat_67 (i := 1) rfl rfl ?_
        refine aw_bipush C dX9_pairsThat_68 kb_7 ?_
        refine aw_icmp_ne_n (tgt := 83) C dX9_pairsThat_70 (by decide) (by omega) (by omega) (fun h70 => ?_) (fun h70 => absurd h70 (by decide))
        refine aw_aload_n C dX9_pairsThat_83 (i := 0) rfl rfl ?_
        refine aw_iload_n C dX9_pairsThat_84 (i := 3) rfl rfl ?_
        refine aw_iload C dX9_pairsThat_85 rfl ?_
        refine aw_V2i (k := 0) C dX9_pairsThat_87 cv_X9_130 (by decide) rfl rfl rfl (cm_inWay hI (by omega) (by omega) hs hs2) ⟨Nat.le_of_ble_eq_true rfl, Nat.le_of_ble_eq_true rfl⟩ (Nat.le_of_ble_eq_true rfl) ?_
        refine aw_istore (lv' := [(0, _), (1, _), (2, _), (3, _), (4, _), (5, _)]) C dX9_pairsThat_90 (Nat.le_of_ble_eq_true rfl) rfl ?_
        refine aw_iload_n C dX9_pairsThat_92 (i := 2) rfl rfl ?_
        refine aw_iload C dX9_pairsThat_93 rfl ?_
        refine aw_if_eq_b (tgt := 102) C dX9_pairsThat_95 (by decide) (fun h95 => ?_) (fun h95 => ?_)
        · refine aw_iconst C dX9_pairsThat_102 ki_0 ?_
          refine aw_iadd_n C dX9_pairsThat_103 ?_
          refine aw_istore_n (lv' := [(0, _), (1, _), (2, _), (3, _), (4, _), (5, _)]) C dX9_pairsThat_104 (i := 2) rfl (Nat.le_of_ble_eq_true rfl) rfl ?_
          refine aw_iinc_n (lv' := [(0, _), (1, _), (2, _), (3, _), (4, _), (5, _)]) C dX9_pairsThat_105 rfl ki_1 (Nat.le_of_ble_eq_true rfl) rfl ?_
          refine aw_goto (tgt := 15) C dX9_pairsThat_108 (by decide) ?_
          refine aw_take 5 (lv' := [(0, _), (1, _), (2, _), (3, _), (4, _)]) rfl ?_
          have e9 := cntB_n (n := k) (p := pr8 h span i) (by unfold pr8; simp [h27, h95])
          have k9 := ih (k + 1) (by omega) (by omega)
          rw [e9] at k9
          exact k9
        · refine aw_iconst C dX9_pairsThat_98 ki_1 ?_
          refine aw_goto (tgt := 103) C dX9_pairsThat_99 (by decide) ?_
          refine aw_iadd_n C dX9_pairsThat_103 ?_
          refine aw_istore_n (lv' := [(0, _), (1, _), (2, _), (3, _), (4, _), (5, _)]) C dX9_pairsThat_104 (i := 2) rfl (Nat.le_of_ble_eq_true rfl) rfl ?_
          refine aw_iinc_n (lv' := [(0, _), (1, _), (2, _), (3, _), (4, _), (5, _)]) C dX9_pairsThat_105 rfl ki_1 (Nat.le_of_ble_eq_true rfl) rfl ?_
          refine aw_goto (tgt := 15) C dX9_pairsThat_108 (by decide) ?_
          refine aw_take 5 (lv' := [(0, _), (1, _), (2, _), (3, _), (4, _)]) rfl ?_
          have e9 := cntB_t (n := k) (p := pr8 h span i) (by unfold pr8; simp [h27, h95])
          have k9 := ih (k + 1) (by omega) (by omega)
          rw [e9] at k9
          exact k9
set_option maxRecDepth 20000 in
/-- pairsThat, its loop -/
theorem cm_pairs8_o {l : Launch} {D : va_G} {cy : Nat → ClassId} {z : Nat → Nat} {q : Nat → Nat} {p : Program} {e : Env} {s : State} {m : MethodId} {args : Array Value} {below : List Frame} {meth : Method} {c : Code} (hI : wI 9 q) (C : Cx p s m args meth c cX9_pairsThat 6 RX9 D cy z 9 q) (hr : meth.sig.returnType = (some .int)) {len span wires chg rsp rwi val ends : Nat} {text : Nat → Nat} {h was rd eyes fw bars ways : Nat → Int32} (hs : 8 ≤ span) (hs2 : span ≤ 40) (hw : wires ≤ 8) : ∀ (d : Nat) (i : Nat), wires - i < d → (i ≤ wires) → AW p l e { frames := 3, cells := 0, slots := 0, locals := 75 } s m args below meth c D 9 q 6 (MQ below (Qg D 9 q (PI (nI (prS (pr8 h span) wires wires)) (mdC cy q len span wires chg rsp rwi val ends text h was rd eyes fw bars ways)) (wA 9 q s.heap.size)) args s 0 0 (wA 9 q s.heap.size)) (mdC cy q len span wires chg rsp rwi val ends text h was rd eyes fw bars ways) [(0, .ref (q 0)), (1, .int (nI 8)), (2, .int (nI (prS (pr8 h span) wires i))), (3, .int (nI i))] 4 [] := by
  intro d
  induction d with
  | zero => intro i hd; exact absurd hd (Nat.not_lt_zero _)
  | succ d ih =>
    intro i hd iv0
    refine aw_iload_n C dX9_pairsThat_4 (i := 3) rfl rfl ?_
    refine aw_aload_n C dX9_pairsThat_5 (i := 0) rfl rfl ?_
    refine aw_get (k := 0) C dX9_pairsThat_6 fl_X9_38 (by decide) rfl rfl ?_
    refine aw_icmp_ge_n (tgt := 117) C dX9_pairsThat_9 (by decide) (by omega) (by omega) (fun h9 => ?_) (fun h9 => ?_)
    · refine aw_iload_n C dX9_pairsThat_117 (i := 2) rfl rfl ?_
      refine aw_iret C hr dX9_pairsThat_118 ?_
      exact PI.mk (by rw [show i = wires by omega]) rfl
    · refine aw_iconst C dX9_pairsThat_12 ki_0 ?_
      refine aw_istore (lv' := [(0, _), (1, _), (2, _), (3, _), (4, _)]) C dX9_pairsThat_13 (Nat.le_of_ble_eq_true rfl) rfl ?_
      refine cm_pairs8_i hI C hr hs hs2 hw (by omega) ?_ (wires + 1) 0 (by omega) (by omega)
      refine aw_iinc_n (lv' := [(0, _), (1, _), (2, _), (3, _), (4, _)]) C dX9_pairsThat_111 rfl ki_1 (Nat.le_of_ble_eq_true rfl) rfl ?_
      refine aw_goto (tgt := 4) C dX9_pairsThat_114 (by decide) ?_
      refine aw_take 4 (lv' := [(0, _), (1, _), (2, _), (3, _)]) rfl ?_
      exact ih (i + 1) (by omega) (by omega)
set_option maxRecDepth 20000 in
/-- pairsThat -/
theorem cm_pairs8 {l : Launch} {D : va_G} {cy : Nat → ClassId} {z : Nat → Nat} {q : Nat → Nat} (hI : wI 9 q) {len span wires chg rsp rwi val ends : Nat} {text : Nat → Nat} {h was rd eyes fw bars ways : Nat → Int32} (hs : 8 ≤ span) (hs2 : span ≤ 40) (hw : wires ≤ 8) : Ct l yX9_pairsThat cX9_pairsThat 6 (some .int) 3 75 D cy z 9 q [.ref (q 0), .int (nI 8)] (mdC cy q len span wires chg rsp rwi val ends text h was rd eyes fw bars ways) (PI (nI (prS (pr8 h span) wires wires)) (mdC cy q len span wires chg rsp rwi val ends text h was rd eyes fw bars ways)) := by
  refine Ct.of (own := RX9) (by decide) rfl hI (Nat.le_of_ble_eq_true rfl) ?_
  intro p e s m args below meth c C hr
  refine aw_lv (lv' := [(0, .ref (q 0)), (1, .int (nI 8))]) (fun x hx => hx) ?_
  refine aw_iconst C dX9_pairsThat_0 ki_0 ?_
  refine aw_istore_n (lv' := [(0, _), (1, _), (2, _)]) C dX9_pairsThat_1 (i := 2) rfl (Nat.le_of_ble_eq_true rfl) rfl ?_
  refine aw_iconst C dX9_pairsThat_2 ki_0 ?_
  refine aw_istore_n (lv' := [(0, _), (1, _), (2, _), (3, _)]) C dX9_pairsThat_3 (i := 3) rfl (Nat.le_of_ble_eq_true rfl) rfl ?_
  exact cm_pairs8_o hI C hr hs hs2 hw (wires + 1) 0 (by omega) (by omega)
set_option maxRecDepth 20000 in
/-- count, its loop -/
theorem cm_count_l {l : Launch} {D : va_G} {cy : Nat → ClassId} {z : Nat → Nat} {q : Nat → Nat} {p : Program} {e : Env} {s : State} {m : MethodId} {args : Array Value} {below : List Frame} {meth : Method} {c : Code} (hI : wI 9 q) (C : Cx p s m args meth c cX9_count 4 RX9 D cy z 9 q) (hr : meth.sig.returnType = (some .int)) {len span wires chg rsp rwi val ends : Nat} {text : Nat → Nat} {h was rd eyes fw bars ways : Nat → Int32} (hs : 8 ≤ span) (hs2 : span ≤ 40) (hw : wires ≤ 8) : ∀ (d : Nat) (k : Nat), wires - k < d → (k ≤ wires) → AW p l e { frames := 4, cells := 0, slots := 0, locals := 100 } s m args below meth c D 9 q 4 (MQ below (Qg D 9 q (PI (accI (nI 0) (lng h span) wires) (mdC cy q len span wires chg rsp rwi val ends text h was rd eyes fw bars ways)) (wA 9 q s.heap.size)) args s 0 0 (wA 9 q s.heap.size)) (mdC cy q len span wires chg rsp rwi val ends text h was rd eyes fw bars ways) [(0, .ref (q 0)), (1, .int (nI 12)), (2, .int (accI (nI 0) (lng h span) k)), (3, .int (nI k))] 130 [] := by
  intro d
  induction d with
  | zero => intro k hd; exact absurd hd (Nat.not_lt_zero _)
  | succ d ih =>
    intro k hd iv0
    refine aw_iload_n C dX9_count_130 (i := 3) rfl rfl ?_
    refine aw_aload_n C dX9_count_131 (i := 0) rfl rfl ?_
    refine aw_get (k := 0) C dX9_count_132 fl_X9_38 (by decide) rfl rfl ?_
    refine aw_icmp_ge_n (tgt := 152) C dX9_count_135 (by decide) (by omega) (by omega) (fun h135 => ?_) (fun h135 => ?_)
    · refine aw_iload_n C dX9_count_152 (i := 2) rfl rfl ?_
      refine aw_iret C hr dX9_count_153 ?_
      exact PI.mk (by rw [show k = wires by omega]) rfl
    · refine aw_iload_n C dX9_count_138 (i := 2) rfl rfl ?_
      refine aw_aload_n C dX9_count_139 (i := 0) rfl rfl ?_
      refine aw_iload_n C dX9_count_140 (i := 3) rfl rfl ?_
      refine aw_V1i (k := 0) C dX9_count_141 cv_X9_111 (by decide) rfl rfl rfl (cm_longOf hI (by omega) hs hs2) ⟨Nat.le_of_ble_eq_true rfl, Nat.le_of_ble_eq_true rfl⟩ (Nat.le_of_ble_eq_true rfl) ?_
      refine aw_iadd C dX9_count_144 ?_
      refine aw_istore_n (lv' := [(0, _), (1, _), (2, _), (3, _)]) C dX9_count_145 (i := 2) rfl (Nat.le_of_ble_eq_true rfl) rfl ?_
      refine aw_iinc_n (lv' := [(0, _), (1, _), (2, _), (3, _)]) C dX9_count_146 rfl ki_1 (Nat.le_of_ble_eq_true rfl) rfl ?_
      refine aw_goto (tgt := 130) C dX9_count_149 (by decide) ?_
      exact ih (k + 1) (by omega) (by omega)
set_option maxRecDepth 20000 in
/-- count -/
theorem cm_count {l : Launch} {D : va_G} {cy : Nat → ClassId} {z : Nat → Nat} {q : Nat → Nat} (hI : wI 9 q) {len span wires chg rsp rwi val ends : Nat} {text : Nat → Nat} {h was rd eyes fw bars ways : Nat → Int32} {what : Int32} (hs : 8 ≤ span) (hs2 : span ≤ 40) (hw : wires ≤ 8) : Ct l yX9_count cX9_count 4 (some .int) 4 100 D cy z 9 q [.ref (q 0), .int what] (mdC cy q len span wires chg rsp rwi val ends text h was rd eyes fw bars ways) (PI (opCount len span wires chg h what) (mdC cy q len span wires chg rsp rwi val ends text h was rd eyes fw bars ways)) := by
  refine Ct.of (own := RX9) (by decide) rfl hI (Nat.le_of_ble_eq_true rfl) ?_
  intro p e s m args below meth c C hr
  refine aw_lv (lv' := [(0, .ref (q 0)), (1, .int what)]) (fun x hx => hx) ?_
  refine aw_iload_n C dX9_count_0 (i := 1) rfl rfl ?_
  by_cases hsw : 0 ≤ what.toInt ∧ what.toInt ≤ 12
  · rcases (show what.toInt = 0 ∨ what.toInt = 1 ∨ what.toInt = 2 ∨ what.toInt = 3 ∨ what.toInt = 4 ∨ what.toInt = 5 ∨ what.toInt = 6 ∨ what.toInt = 7 ∨ what.toInt = 8 ∨ what.toInt = 9 ∨ what.toInt = 10 ∨ what.toInt = 11 ∨ what.toInt = 12 by omega) with hsw | hsw | hsw | hsw | hsw | hsw | hsw | hsw | hsw | hsw | hsw | hsw | hsw
    · obtain rfl : what = nI 0 := Int32.toInt_inj.mp (by rw [hsw]; rfl)
      refine aw_tin (tgt := 68) (off := 67) (v := 0) C dX9_count_1 hsw (by decide) (by decide) rfl (by decide) ?_
      refine aw_aload_n C dX9_count_68 (i := 0) rfl rfl ?_
      refine aw_get (k := 0) C dX9_count_69 fl_X9_38 (by decide) rfl rfl ?_
      refine aw_iret C hr dX9_count_72 ?_
      refine PI.mk ?_ rfl
      unfold opCount
      rw [if_pos rfl]
    · obtain rfl : what = nI 1 := Int32.toInt_inj.mp (by rw [hsw]; rfl)
      refine aw_tin (tgt := 73) (off := 72) (v := 1) C dX9_count_1 hsw (by decide) (by decide) rfl (by decide) ?_
      refine aw_aload_n C dX9_count_73 (i := 0) rfl rfl ?_
      refine aw_get (k := 0) C dX9_count_74 fl_X9_34 (by decide) rfl rfl ?_
      refine aw_iret C hr dX9_count_77 ?_
      refine PI.mk ?_ rfl
      unfold opCount
      rw [if_neg (by decide), if_pos rfl]
    · obtain rfl : what = nI 2 := Int32.toInt_inj.mp (by rw [hsw]; rfl)
      refine aw_tin (tgt := 78) (off := 77) (v := 2) C dX9_count_1 hsw (by decide) (by decide) rfl (by decide) ?_
      refine aw_aload_n C dX9_count_78 (i := 0) rfl rfl ?_
      refine aw_get (k := 0) C dX9_count_79 fl_X9_13 (by decide) rfl rfl ?_
      refine aw_bipush C dX9_count_82 kb_38 ?_
      refine aw_iload_n C dX9_count_84 (i := 1) rfl rfl ?_
      refine aw_iadd_n C dX9_count_85 ?_
      refine aw_iald (k := 2) C dX9_count_86 (by decide) (rfl) (rfl) (by omega) (by decide) (rfl) ?_
      refine aw_iret C hr dX9_count_87 ?_
      refine PI.mk ?_ rfl
      unfold opCount
      rw [if_neg (by decide), if_neg (by decide), if_pos rfl]
    · obtain rfl : what = nI 3 := Int32.toInt_inj.mp (by rw [hsw]; rfl)
      refine aw_tin (tgt := 78) (off := 77) (v := 3) C dX9_count_1 hsw (by decide) (by decide) rfl (by decide) ?_
      refine aw_aload_n C dX9_count_78 (i := 0) rfl rfl ?_
      refine aw_get (k := 0) C dX9_count_79 fl_X9_13 (by decide) rfl rfl ?_
      refine aw_bipush C dX9_count_82 kb_38 ?_
      refine aw_iload_n C dX9_count_84 (i := 1) rfl rfl ?_
      refine aw_iadd_n C dX9_count_85 ?_
      refine aw_iald (k := 2) C dX9_count_86 (by decide) (rfl) (rfl) (by omega) (by decide) (rfl) ?_
      refine aw_iret C hr dX9_count_87 ?_
      refine PI.mk ?_ rfl
      unfold opCount
      rw [if_neg (by decide), if_neg (by decide), if_neg (by decide), if_pos rfl]
    · obtain rfl : what = nI 4 := Int32.toInt_inj.mp (by rw [hsw]; rfl)
      refine aw_tin (tgt := 78) (off := 77) (v := 4) C dX9_count_1 hsw (by decide) (by decide) rfl (by decide) ?_
      refine aw_aload_n C dX9_count_78 (i := 0) rfl rfl ?_
      refine aw_get (k := 0) C dX9_count_79 fl_X9_13 (by decide) rfl rfl ?_
      refine aw_bipush C dX9_count_82 kb_38 ?_
      refine aw_iload_n C dX9_count_84 (i := 1) rfl rfl ?_
      refine aw_iadd_n C dX9_count_85 ?_
      refine aw_iald (k := 2) C dX9_count_86 (by decide) (rfl) (rfl) (by omega) (by decide) (rfl) ?_
      refine aw_iret C hr dX9_count_87 ?_
      refine PI.mk ?_ rfl
      unfold opCount
      rw [if_neg (by decide), if_neg (by decide), if_neg (by decide), if_neg (by decide), if_pos rfl]
    · obtain rfl : what = nI 5 := Int32.toInt_inj.mp (by rw [hsw]; rfl)
      refine aw_tin (tgt := 88) (off := 87) (v := 5) C dX9_count_1 hsw (by decide) (by decide) rfl (by decide) ?_
      refine aw_aload_n C dX9_count_88 (i := 0) rfl rfl ?_
      refine aw_get (k := 0) C dX9_count_89 fl_X9_13 (by decide) rfl rfl ?_
      refine aw_bipush C dX9_count_92 kb_44 ?_
      refine aw_iald (k := 2) C dX9_count_94 (by decide) (rfl) (rfl) (by omega) (by decide) (rfl) ?_
      refine aw_S1i C dX9_count_95 cs_X9_136 (cm_bits hI) ⟨Nat.le_of_ble_eq_true rfl, Nat.le_of_ble_eq_true rfl⟩ (Nat.le_of_ble_eq_true rfl) ?_
      refine aw_iret C hr dX9_count_98 ?_
      refine PI.mk ?_ rfl
      unfold opCount
      rw [if_neg (by decide), if_neg (by decide), if_neg (by decide), if_neg (by decide), if_neg (by decide), if_pos rfl]
    · obtain rfl : what = nI 6 := Int32.toInt_inj.mp (by rw [hsw]; rfl)
      refine aw_tin (tgt := 99) (off := 98) (v := 6) C dX9_count_1 hsw (by decide) (by decide) rfl (by decide) ?_
      refine aw_aload_n C dX9_count_99 (i := 0) rfl rfl ?_
      refine aw_iload_n C dX9_count_100 (i := 1) rfl rfl ?_
      refine aw_V1i (k := 0) C dX9_count_101 cv_X9_164 (by decide) rfl rfl rfl (cm_pairs6 hI hs hs2 hw) ⟨Nat.le_of_ble_eq_true rfl, Nat.le_of_ble_eq_true rfl⟩ (Nat.le_of_ble_eq_true rfl) ?_
      refine aw_iret C hr dX9_count_104 ?_
      refine PI.mk ?_ rfl
      unfold opCount
      rw [if_neg (by decide), if_neg (by decide), if_neg (by decide), if_neg (by decide), if_neg (by decide), if_neg (by decide), if_pos rfl]
    · obtain rfl : what = nI 7 := Int32.toInt_inj.mp (by rw [hsw]; rfl)
      refine aw_tin (tgt := 99) (off := 98) (v := 7) C dX9_count_1 hsw (by decide) (by decide) rfl (by decide) ?_
      refine aw_aload_n C dX9_count_99 (i := 0) rfl rfl ?_
      refine aw_iload_n C dX9_count_100 (i := 1) rfl rfl ?_
      refine aw_V1i (k := 0) C dX9_count_101 cv_X9_164 (by decide) rfl rfl rfl (cm_pairs7 hI hs hs2 hw) ⟨Nat.le_of_ble_eq_true rfl, Nat.le_of_ble_eq_true rfl⟩ (Nat.le_of_ble_eq_true rfl) ?_
      refine aw_iret C hr dX9_count_104 ?_
      refine PI.mk ?_ rfl
      unfold opCount
      rw [if_neg (by decide), if_neg (by decide), if_neg (by decide), if_neg (by decide), if_neg (by decide), if_neg (by decide), if_neg (by decide), if_pos rfl]
    · obtain rfl : what = nI 8 := Int32.toInt_inj.mp (by rw [hsw]; rfl)
      refine aw_tin (tgt := 99) (off := 98) (v := 8) C dX9_count_1 hsw (by decide) (by decide) rfl (by decide) ?_
      refine aw_aload_n C dX9_count_99 (i := 0) rfl rfl ?_
      refine aw_iload_n C dX9_count_100 (i := 1) rfl rfl ?_
      refine aw_V1i (k := 0) C dX9_count_101 cv_X9_164 (by decide) rfl rfl rfl (cm_pairs8 hI hs hs2 hw) ⟨Nat.le_of_ble_eq_true rfl, Nat.le_of_ble_eq_true rfl⟩ (Nat.le_of_ble_eq_true rfl) ?_
      refine aw_iret C hr dX9_count_104 ?_
      refine PI.mk ?_ rfl
      unfold opCount
      rw [if_neg (by decide), if_neg (by decide), if_neg (by decide), if_neg (by decide), if_neg (by decide), if_neg (by decide), if_neg (by decide), if_neg (by decide), if_pos rfl]
    · obtain rfl : what = nI 9 := Int32.toInt_inj.mp (by rw [hsw]; rfl)
      refine aw_tin (tgt := 105) (off := 104) (v := 9) C dX9_count_1 hsw (by decide) (by decide) rfl (by decide) ?_
      refine aw_aload_n C dX9_count_105 (i := 0) rfl rfl ?_
      refine aw_get (k := 0) C dX9_count_106 fl_X9_88 (by decide) rfl rfl ?_
      refine aw_iret C hr dX9_count_109 ?_
      refine PI.mk ?_ rfl
      unfold opCount
      rw [if_neg (by decide), if_neg (by decide), if_neg (by decide), if_neg (by decide), if_neg (by decide), if_neg (by decide), if_neg (by decide), if_neg (by decide), if_neg (by decide), if_pos rfl]
    · obtain rfl : what = nI 10 := Int32.toInt_inj.mp (by rw [hsw]; rfl)
      refine aw_tin (tgt := 110) (off := 109) (v := 10) C dX9_count_1 hsw (by decide) (by decide) rfl (by decide) ?_
      refine aw_aload_n C dX9_count_110 (i := 0) rfl rfl ?_
      refine aw_get (k := 0) C dX9_count_111 fl_X9_41 (by decide) rfl rfl ?_
      refine aw_iret C hr dX9_count_114 ?_
      refine PI.mk ?_ rfl
      unfold opCount
      rw [if_neg (by decide), if_neg (by decide), if_neg (by decide), if_neg (by decide), if_neg (by decide), if_neg (by decide), if_neg (by decide), if_neg (by decide), if_neg (by decide), if_neg (by decide), if_pos rfl]
    · obtain rfl : what = nI 11 := Int32.toInt_inj.mp (by rw [hsw]; rfl)
      refine aw_tin (tgt := 115) (off := 114) (v := 11) C dX9_count_1 hsw (by decide) (by decide) rfl (by decide) ?_
      refine aw_aload_n C dX9_count_115 (i := 0) rfl rfl ?_
      refine aw_get (k := 0) C dX9_count_116 fl_X9_13 (by decide) rfl rfl ?_
      refine aw_bipush C dX9_count_119 kb_43 ?_
      refine aw_iald (k := 2) C dX9_count_121 (by decide) (rfl) (rfl) (by omega) (by decide) (rfl) ?_
      refine aw_ldc C dX9_count_122 kc_X9_101 ?_
      refine aw_iadd C dX9_count_124 ?_
      refine aw_iret C hr dX9_count_125 ?_
      refine PI.mk ?_ rfl
      unfold opCount
      rw [if_neg (by decide), if_neg (by decide), if_neg (by decide), if_neg (by decide), if_neg (by decide), if_neg (by decide), if_neg (by decide), if_neg (by decide), if_neg (by decide), if_neg (by decide), if_neg (by decide), if_pos rfl]
    · obtain rfl : what = nI 12 := Int32.toInt_inj.mp (by rw [hsw]; rfl)
      refine aw_tin (tgt := 126) (off := 125) (v := 12) C dX9_count_1 hsw (by decide) (by decide) rfl (by decide) ?_
      refine aw_iconst C dX9_count_126 ki_0 ?_
      refine aw_istore_n (lv' := [(0, _), (1, _), (2, _)]) C dX9_count_127 (i := 2) rfl (Nat.le_of_ble_eq_true rfl) rfl ?_
      refine aw_iconst C dX9_count_128 ki_0 ?_
      refine aw_istore_n (lv' := [(0, _), (1, _), (2, _), (3, _)]) C dX9_count_129 (i := 3) rfl (Nat.le_of_ble_eq_true rfl) rfl ?_
      refine aw_post ?_ (cm_count_l hI C hr hs hs2 hw (wires + 1) 0 (by omega) (by omega))
      intro r g hp
      obtain ⟨rfl, rfl⟩ := hp
      refine PI.mk ?_ rfl
      unfold opCount
      rw [if_neg (by decide), if_neg (by decide), if_neg (by decide), if_neg (by decide), if_neg (by decide), if_neg (by decide), if_neg (by decide), if_neg (by decide), if_neg (by decide), if_neg (by decide), if_neg (by decide), if_neg (by decide), if_pos rfl]
  · refine aw_tout (tgt := 154) C dX9_count_1 (by omega) (by decide) ?_
    refine aw_iconst C dX9_count_154 ki_m1 ?_
    refine aw_iret C hr dX9_count_155 ?_
    refine PI.mk ?_ rfl
    unfold opCount
    rw [if_neg (fun e9 => hsw (by rw [e9]; decide)), if_neg (fun e9 => hsw (by rw [e9]; decide)), if_neg (fun e9 => hsw (by rw [e9]; decide)), if_neg (fun e9 => hsw (by rw [e9]; decide)), if_neg (fun e9 => hsw (by rw [e9]; decide)), if_neg (fun e9 => hsw (by rw [e9]; decide)), if_neg (fun e9 => hsw (by rw [e9]; decide)), if_neg (fun e9 => hsw (by rw [e9]; decide)), if_neg (fun e9 => hsw (by rw [e9]; decide)), if_neg (fun e9 => hsw (by rw [e9]; decide)), if_neg (fun e9 => hsw (by rw [e9]; decide)), if_neg (fun e9 => hsw (by rw [e9]; decide)), if_neg (fun e9 => hsw (by rw [e9]; decide))]
set_option maxRecDepth 20000 in
/-- lays, its loop -/
theorem cm_lays_i {l : Launch} {D : va_G} {cy : Nat → ClassId} {z : Nat → Nat} {q : Nat → Nat} {p : Program} {e : Env} {s : State} {m : MethodId} {args : Array Value} {below : List Frame} {meth : Method} {c : Code} {Q : State → Prop} (hI : wI 9 q) (C : Cx p s m args meth c cX9_lays 3 RX9 D cy z 9 q) (hr : meth.sig.returnType = none) {len span wires chg rsp rwi val ends : Nat} {text : Nat → Nat} {h was rd eyes fw bars ways : Nat → Int32} (hs : 8 ≤ span) (hs2 : span ≤ 40) (hw : wires ≤ 8) {k : Nat} (hk : k < wires) (K : AW p l e { frames := 3, cells := 0, slots := 0, locals := 75 } s m args below meth c D 9 q 3 Q (mdC cy q len span wires chg rsp rwi val ends text h was rd eyes fw (upd (cpG (brs h span wires) bars k) k (brA h span k wires)) ways) [(0, .ref (q 0)), (1, .int (nI k)), (2, .int (nI wires))] 63 []) : ∀ (d : Nat) (i : Nat), wires - i < d → (i ≤ wires) → AW p l e { frames := 3, cells := 0, slots := 0, locals := 75 } s m args below meth c D 9 q 3 Q (mdC cy q len span wires chg rsp rwi val ends text h was rd eyes fw (upd (cpG (brs h span wires) bars k) k (brA h span k i)) ways) [(0, .ref (q 0)), (1, .int (nI k)), (2, .int (nI i))] 19 [] := by
  intro d
  induction d with
  | zero => intro i hd; exact absurd hd (Nat.not_lt_zero _)
  | succ d ih =>
    intro i hd iv0
    refine aw_iload_n C dX9_lays_19 (i := 2) rfl rfl ?_
    refine aw_aload_n C dX9_lays_20 (i := 0) rfl rfl ?_
    refine aw_get (k := 0) C dX9_lays_21 fl_X9_38 (by decide) rfl rfl ?_
    refine aw_icmp_ge_n (tgt := 63) C dX9_lays_24 (by decide) (by omega) (by omega) (fun h24 => ?_) (fun h24 => ?_)
    · obtain rfl : i = wires := by omega
      exact K
    · refine aw_aload_n C dX9_lays_27 (i := 0) rfl rfl ?_
      refine aw_get (k := 0) C dX9_lays_28 fl_X9_28 (by decide) rfl rfl ?_
      refine aw_iload_n C dX9_lays_31 (i := 1) rfl rfl ?_
      refine aw_dup2 C dX9_lays_32 rfl rfl ?_
      refine aw_iald (k := 7) C dX9_lays_33 (by decide) (rfl) (rfl) (by omega) (by decide) (upd_us) ?_
      refine aw_iload_n C dX9_lays_34 (i := 2) rfl rfl ?_
      refine aw_iload_n C dX9_lays_35 (i := 1) rfl rfl ?_
      refine aw_icmp_eq_n (tgt := 54) C dX9_lays_36 (by decide) (by omega) (by omega) (fun h36 => ?_) (fun h36 => ?_)
      · refine aw_iconst C dX9_lays_54 ki_0 ?_
        refine aw_ior C dX9_lays_55 ?_
        refine aw_iast (k := 7) C dX9_lays_56 (by decide) (rfl) (rfl) (by omega) (by decide) (md_a_bars) ?_
        refine aw_iinc_n (lv' := [(0, _), (1, _), (2, _)]) C dX9_lays_57 rfl ki_1 (Nat.le_of_ble_eq_true rfl) rfl ?_
        refine aw_goto (tgt := 19) C dX9_lays_60 (by decide) ?_
        rw [upd_uu]
        have k9 := ih (i + 1) (by omega) (by omega)
        unfold brA at k9
        rw [if_pos h36] at k9
        exact k9
      · refine aw_aload_n C dX9_lays_39 (i := 0) rfl rfl ?_
        refine aw_iload_n C dX9_lays_40 (i := 2) rfl rfl ?_
        refine aw_iload_n C dX9_lays_41 (i := 1) rfl rfl ?_
        refine aw_V2i (k := 0) C dX9_lays_42 cv_X9_130 (by decide) rfl rfl rfl (cm_inWay hI (by omega) (by omega) hs hs2) ⟨Nat.le_of_ble_eq_true rfl, Nat.le_of_ble_eq_true rfl⟩ (Nat.le_of_ble_eq_true rfl) ?_
        refine aw_if_eq_b (tgt := 54) C dX9_lays_45 (by decide) (fun h45 => ?_) (fun h45 => ?_)
        · refine aw_iconst C dX9_lays_54 ki_0 ?_
          refine aw_ior C dX9_lays_55 ?_
          refine aw_iast (k := 7) C dX9_lays_56 (by decide) (rfl) (rfl) (by omega) (by decide) (md_a_bars) ?_
          refine aw_iinc_n (lv' := [(0, _), (1, _), (2, _)]) C dX9_lays_57 rfl ki_1 (Nat.le_of_ble_eq_true rfl) rfl ?_
          refine aw_goto (tgt := 19) C dX9_lays_60 (by decide) ?_
          rw [upd_uu]
          have k9 := ih (i + 1) (by omega) (by omega)
          unfold brA at k9
          rw [if_neg h36, if_neg (by rw [h45]; decide)] at k9
          exact k9
        · refine aw_iconst C dX9_lays_48 ki_1 ?_
          refine aw_iload_n C dX9_lays_49 (i := 2) rfl rfl ?_
          refine aw_ishl C dX9_lays_50 ?_
          refine aw_goto (tgt := 55) C dX9_lays_51 (by decide) ?_
          refine aw_ior C dX9_lays_55 ?_
          refine aw_iast (k := 7) C dX9_lays_56 (by decide) (rfl) (rfl) (by omega) (by decide) (md_a_bars) ?_
          refine aw_iinc_n (lv' := [(0, _), (1, _), (2, _)]) C dX9_lays_57 rfl ki_1 (Nat.le_of_ble_eq_true rfl) rfl ?_
          refine aw_goto (tgt := 19) C dX9_lays_60 (by decide) ?_
          rw [upd_uu]
          have k9 := ih (i + 1) (by omega) (by omega)
          unfold brA at k9
          rw [if_neg h36, if_pos h45] at k9
          exact k9
set_option maxRecDepth 20000 in
/-- lays, its loop -/
theorem cm_lays_o {l : Launch} {D : va_G} {cy : Nat → ClassId} {z : Nat → Nat} {q : Nat → Nat} {p : Program} {e : Env} {s : State} {m : MethodId} {args : Array Value} {below : List Frame} {meth : Method} {c : Code} (hI : wI 9 q) (C : Cx p s m args meth c cX9_lays 3 RX9 D cy z 9 q) (hr : meth.sig.returnType = none) {len span wires chg rsp rwi val ends : Nat} {text : Nat → Nat} {h was rd eyes fw bars ways : Nat → Int32} (hs : 8 ≤ span) (hs2 : span ≤ 40) (hw : wires ≤ 8) : ∀ (d : Nat) (k : Nat), wires - k < d → (k ≤ wires) → AW p l e { frames := 3, cells := 0, slots := 0, locals := 75 } s m args below meth c D 9 q 3 (MQ below (Qg D 9 q (PV (mdC cy q len span wires chg rsp rwi val ends text h was rd eyes fw (cpG (brs h span wires) bars wires) ways)) (wA 9 q s.heap.size)) args s 0 0 (wA 9 q s.heap.size)) (mdC cy q len span wires chg rsp rwi val ends text h was rd eyes fw (cpG (brs h span wires) bars k) ways) [(0, .ref (q 0)), (1, .int (nI k))] 2 [] := by
  intro d
  induction d with
  | zero => intro k hd; exact absurd hd (Nat.not_lt_zero _)
  | succ d ih =>
    intro k hd iv0
    refine aw_iload_n C dX9_lays_2 (i := 1) rfl rfl ?_
    refine aw_aload_n C dX9_lays_3 (i := 0) rfl rfl ?_
    refine aw_get (k := 0) C dX9_lays_4 fl_X9_38 (by decide) rfl rfl ?_
    refine aw_icmp_ge_n (tgt := 69) C dX9_lays_7 (by decide) (by omega) (by omega) (fun h7 => ?_) (fun h7 => ?_)
    · refine aw_vret C hr dX9_lays_69 ?_
      obtain rfl : k = wires := by omega
      exact ⟨rfl, rfl⟩
    · refine aw_aload_n C dX9_lays_10 (i := 0) rfl rfl ?_
      refine aw_get (k := 0) C dX9_lays_11 fl_X9_28 (by decide) rfl rfl ?_
      refine aw_iload_n C dX9_lays_14 (i := 1) rfl rfl ?_
      refine aw_iconst C dX9_lays_15 ki_0 ?_
      refine aw_iast (k := 7) C dX9_lays_16 (by decide) (rfl) (rfl) (by omega) (by decide) (md_a_bars) ?_
      refine aw_iconst C dX9_lays_17 ki_0 ?_
      refine aw_istore_n (lv' := [(0, _), (1, _), (2, _)]) C dX9_lays_18 (i := 2) rfl (Nat.le_of_ble_eq_true rfl) rfl ?_
      refine cm_lays_i hI C hr hs hs2 hw (by omega) ?_ (wires + 1) 0 (by omega) (by omega)
      refine aw_iinc_n (lv' := [(0, _), (1, _), (2, _)]) C dX9_lays_63 rfl ki_1 (Nat.le_of_ble_eq_true rfl) rfl ?_
      refine aw_goto (tgt := 2) C dX9_lays_66 (by decide) ?_
      refine aw_take 2 (lv' := [(0, _), (1, _)]) rfl ?_
      have e9 := cpG_s (brs h span wires) bars k
      have k9 := ih (k + 1) (by omega) (by omega)
      rw [← e9] at k9
      exact k9
set_option maxRecDepth 20000 in
/-- lays -/
theorem cm_lays {l : Launch} {D : va_G} {cy : Nat → ClassId} {z : Nat → Nat} {q : Nat → Nat} (hI : wI 9 q) {len span wires chg rsp rwi val ends : Nat} {text : Nat → Nat} {h was rd eyes fw bars ways : Nat → Int32} (hs : 8 ≤ span) (hs2 : span ≤ 40) (hw : wires ≤ 8) : Ct l yX9_lays cX9_lays 3 none 3 75 D cy z 9 q [.ref (q 0)] (mdC cy q len span wires chg rsp rwi val ends text h was rd eyes fw bars ways) (PV (mdC cy q len span wires chg rsp rwi val ends text h was rd eyes fw (cpG (brs h span wires) bars wires) ways)) := by
  refine Ct.of (own := RX9) (by decide) rfl hI (Nat.le_of_ble_eq_true rfl) ?_
  intro p e s m args below meth c C hr
  refine aw_lv (lv' := [(0, .ref (q 0))]) (fun x hx => hx) ?_
  refine aw_iconst C dX9_lays_0 ki_0 ?_
  refine aw_istore_n (lv' := [(0, _), (1, _)]) C dX9_lays_1 (i := 1) rfl (Nat.le_of_ble_eq_true rfl) rfl ?_
  refine aw_fq (f' := (mdC cy q len span wires chg rsp rwi val ends text h was rd eyes fw (cpG (brs h span wires) bars 0) ways)) (by rw [cpG_0]) ?_
  exact cm_lays_o hI C hr hs hs2 hw (wires + 1) 0 (by omega) (by omega)
set_option maxRecDepth 20000 in
/-- firstOf, its loop -/
theorem cm_firstOf_l {l : Launch} {D : va_G} {cy : Nat → ClassId} {z : Nat → Nat} {q : Nat → Nat} {p : Program} {e : Env} {s : State} {m : MethodId} {args : Array Value} {below : List Frame} {meth : Method} {c : Code} (hI : wI 9 q) (C : Cx p s m args meth c cX9_firstOf 3 RX9 D cy z 9 q) (hr : meth.sig.returnType = (some .int)) {len span wires chg rsp rwi val ends : Nat} {text : Nat → Nat} {h was rd eyes fw bars ways : Nat → Int32} {x : Int32} (hw : wires ≤ 8) : ∀ (d : Nat) (k : Nat), wires - k < d → (k ≤ wires) → (∀ j, j < k → foP bars x j = false) → AW p l e { frames := 0, cells := 0, slots := 0, locals := 0 } s m args below meth c D 9 q 3 (MQ below (Qg D 9 q (PI (foI bars wires x) (mdC cy q len span wires chg rsp rwi val ends text h was rd eyes fw bars ways)) (wA 9 q s.heap.size)) args s 0 0 (wA 9 q s.heap.size)) (mdC cy q len span wires chg rsp rwi val ends text h was rd eyes fw bars ways) [(0, .ref (q 0)), (1, .int x), (2, .int (nI k))] 2 [] := by
  intro d
  induction d with
  | zero => intro k hd; exact absurd hd (Nat.not_lt_zero _)
  | succ d ih =>
    intro k hd iv0 iv1
    refine aw_iload_n C dX9_firstOf_2 (i := 2) rfl rfl ?_
    refine aw_aload_n C dX9_firstOf_3 (i := 0) rfl rfl ?_
    refine aw_get (k := 0) C dX9_firstOf_4 fl_X9_38 (by decide) rfl rfl ?_
    refine aw_icmp_ge_n (tgt := 38) C dX9_firstOf_7 (by decide) (by omega) (by omega) (fun h7 => ?_) (fun h7 => ?_)
    · refine aw_bipush C dX9_firstOf_38 kb_m4 ?_
      refine aw_iret C hr dX9_firstOf_40 ?_
      exact PI.mk (by unfold foI; rw [fstB_none (fun j hj => iv1 j (by omega))]) rfl
    · refine aw_iload_n C dX9_firstOf_10 (i := 1) rfl rfl ?_
      refine aw_iload_n C dX9_firstOf_11 (i := 2) rfl rfl ?_
      refine aw_ishr C dX9_firstOf_12 ?_
      refine aw_iconst C dX9_firstOf_13 ki_1 ?_
      refine aw_iand C dX9_firstOf_14 ?_
      refine aw_iconst C dX9_firstOf_15 ki_1 ?_
      refine aw_icmp_ne (tgt := 32) C dX9_firstOf_16 (by decide) (fun h16 => ?_) (fun h16 => ?_)
      · refine aw_iinc_n (lv' := [(0, _), (1, _), (2, _)]) C dX9_firstOf_32 rfl ki_1 (Nat.le_of_ble_eq_true rfl) rfl ?_
        refine aw_goto (tgt := 2) C dX9_firstOf_35 (by decide) ?_
        exact ih (k + 1) (by omega) (by omega) (fun j hj => by rcases Nat.lt_or_ge j k with g | g; exact iv1 j g; rw [show j = k by omega]; unfold foP bt; simp [h16])
      · refine aw_aload_n C dX9_firstOf_19 (i := 0) rfl rfl ?_
        refine aw_get (k := 0) C dX9_firstOf_20 fl_X9_28 (by decide) rfl rfl ?_
        refine aw_iload_n C dX9_firstOf_23 (i := 2) rfl rfl ?_
        refine aw_iald (k := 7) C dX9_firstOf_24 (by decide) (rfl) (rfl) (by omega) (by decide) (rfl) ?_
        refine aw_iload_n C dX9_firstOf_25 (i := 1) rfl rfl ?_
        refine aw_iand C dX9_firstOf_26 ?_
        refine aw_if_ne (tgt := 32) C dX9_firstOf_27 (by decide) (fun h27 => ?_) (fun h27 => ?_)
        · refine aw_iinc_n (lv' := [(0, _), (1, _), (2, _)]) C dX9_firstOf_32 rfl ki_1 (Nat.le_of_ble_eq_true rfl) rfl ?_
          refine aw_goto (tgt := 2) C dX9_firstOf_35 (by decide) ?_
          exact ih (k + 1) (by omega) (by omega) (fun j hj => by rcases Nat.lt_or_ge j k with g | g; exact iv1 j g; rw [show j = k by omega]; unfold foP bt; simp [h16, h27])
        · refine aw_iload_n C dX9_firstOf_30 (i := 2) rfl rfl ?_
          refine aw_iret C hr dX9_firstOf_31 ?_
          exact PI.mk (by unfold foI; rw [fstB_at (k := k) (by omega) iv1 (by unfold foP bt; simp [h16, h27])]) rfl
set_option maxRecDepth 20000 in
/-- firstOf -/
theorem cm_firstOf {l : Launch} {D : va_G} {cy : Nat → ClassId} {z : Nat → Nat} {q : Nat → Nat} (hI : wI 9 q) {len span wires chg rsp rwi val ends : Nat} {text : Nat → Nat} {h was rd eyes fw bars ways : Nat → Int32} {x : Int32} (hw : wires ≤ 8) : Ct l yX9_firstOf cX9_firstOf 3 (some .int) 0 0 D cy z 9 q [.ref (q 0), .int x] (mdC cy q len span wires chg rsp rwi val ends text h was rd eyes fw bars ways) (PI (foI bars wires x) (mdC cy q len span wires chg rsp rwi val ends text h was rd eyes fw bars ways)) := by
  refine Ct.of (own := RX9) (by decide) rfl hI (Nat.le_of_ble_eq_true rfl) ?_
  intro p e s m args below meth c C hr
  refine aw_lv (lv' := [(0, .ref (q 0)), (1, .int x)]) (fun x hx => hx) ?_
  refine aw_iconst C dX9_firstOf_0 ki_0 ?_
  refine aw_istore_n (lv' := [(0, _), (1, _), (2, _)]) C dX9_firstOf_1 (i := 2) rfl (Nat.le_of_ble_eq_true rfl) rfl ?_
  exact cm_firstOf_l hI C hr hw (wires + 1) 0 (by omega) (by omega) (fun j hj => absurd hj (Nat.not_lt_zero j))
set_option maxRecDepth 20000 in
/-- left, its loop -/
theorem cm_left_l {l : Launch} {D : va_G} {cy : Nat → ClassId} {z : Nat → Nat} {q : Nat → Nat} {p : Program} {e : Env} {s : State} {m : MethodId} {args : Array Value} {below : List Frame} {meth : Method} {c : Code} (hI : wI 9 q) (C : Cx p s m args meth c cX9_left 5 RX9 D cy z 9 q) (hr : meth.sig.returnType = (some .int)) {len span wires chg rsp rwi val ends : Nat} {text : Nat → Nat} {h was rd eyes fw bars ways : Nat → Int32} {stp : Nat} (hw : wires ≤ 8) (hst : stp ≤ 8) : ∀ (d : Nat) (j : Nat), stp - j < d → (j ≤ stp) → AW p l e { frames := 1, cells := 0, slots := 0, locals := 22 } s m args below meth c D 9 q 5 (MQ below (Qg D 9 q (PI (lfI bars wires stp) (mdC cy q len span wires chg rsp rwi val ends text h was rd eyes fw bars ways)) (wA 9 q s.heap.size)) args s 0 0 (wA 9 q s.heap.size)) (mdC cy q len span wires chg rsp rwi val ends text h was rd eyes fw bars ways) [(0, .ref (q 0)), (1, .int (nI stp)), (2, .int (lfI bars wires j)), (3, .int (nI j))] 11 [] := by
  intro d
  induction d with
  | zero => intro j hd; exact absurd hd (Nat.not_lt_zero _)
  | succ d ih =>
    intro j hd iv0
    refine aw_iload_n C dX9_left_11 (i := 3) rfl rfl ?_
    refine aw_iload_n C dX9_left_12 (i := 1) rfl rfl ?_
    refine aw_icmp_ge_n (tgt := 45) C dX9_left_13 (by decide) (by omega) (by omega) (fun h13 => ?_) (fun h13 => ?_)
    · refine aw_iload_n C dX9_left_45 (i := 2) rfl rfl ?_
      refine aw_iret C hr dX9_left_46 ?_
      exact PI.mk (by rw [show j = stp by omega]) rfl
    · refine aw_aload_n C dX9_left_16 (i := 0) rfl rfl ?_
      refine aw_iload_n C dX9_left_17 (i := 2) rfl rfl ?_
      refine aw_V1i (k := 0) C dX9_left_18 cv_X9_139 (by decide) rfl rfl rfl (cm_firstOf hI hw) ⟨Nat.le_of_ble_eq_true rfl, Nat.le_of_ble_eq_true rfl⟩ (Nat.le_of_ble_eq_true rfl) ?_
      refine aw_istore (lv' := [(0, _), (1, _), (2, _), (3, _), (4, _)]) C dX9_left_21 (Nat.le_of_ble_eq_true rfl) rfl ?_
      refine aw_iload_n C dX9_left_23 (i := 2) rfl rfl ?_
      refine aw_iload C dX9_left_24 rfl ?_
      refine aw_if_ge (tgt := 33) C dX9_left_26 (by decide) (fun h26 => ?_) (fun h26 => ?_)
      · refine aw_iconst C dX9_left_33 ki_1 ?_
        refine aw_iload C dX9_left_34 rfl ?_
        refine aw_ishl C dX9_left_36 ?_
        refine aw_isub C dX9_left_37 ?_
        refine aw_istore_n (lv' := [(0, _), (1, _), (2, _), (3, _), (4, _)]) C dX9_left_38 (i := 2) rfl (Nat.le_of_ble_eq_true rfl) rfl ?_
        refine aw_iinc_n (lv' := [(0, _), (1, _), (2, _), (3, _), (4, _)]) C dX9_left_39 rfl ki_1 (Nat.le_of_ble_eq_true rfl) rfl ?_
        refine aw_goto (tgt := 11) C dX9_left_42 (by decide) ?_
        refine aw_take 4 (lv' := [(0, _), (1, _), (2, _), (3, _)]) rfl ?_
        have k9 := ih (j + 1) (by omega) (by omega)
        rw [lfI_s, if_pos h26] at k9
        exact k9
      · refine aw_iconst C dX9_left_29 ki_0 ?_
        refine aw_goto (tgt := 37) C dX9_left_30 (by decide) ?_
        refine aw_isub C dX9_left_37 ?_
        refine aw_istore_n (lv' := [(0, _), (1, _), (2, _), (3, _), (4, _)]) C dX9_left_38 (i := 2) rfl (Nat.le_of_ble_eq_true rfl) rfl ?_
        refine aw_iinc_n (lv' := [(0, _), (1, _), (2, _), (3, _), (4, _)]) C dX9_left_39 rfl ki_1 (Nat.le_of_ble_eq_true rfl) rfl ?_
        refine aw_goto (tgt := 11) C dX9_left_42 (by decide) ?_
        refine aw_take 4 (lv' := [(0, _), (1, _), (2, _), (3, _)]) rfl ?_
        have k9 := ih (j + 1) (by omega) (by omega)
        rw [lfI_s, if_neg h26] at k9
        exact k9
set_option maxRecDepth 20000 in
/-- left -/
theorem cm_left {l : Launch} {D : va_G} {cy : Nat → ClassId} {z : Nat → Nat} {q : Nat → Nat} (hI : wI 9 q) {len span wires chg rsp rwi val ends : Nat} {text : Nat → Nat} {h was rd eyes fw bars ways : Nat → Int32} {stp : Nat} (hw : wires ≤ 8) (hst : stp ≤ 8) : Ct l yX9_left cX9_left 5 (some .int) 1 22 D cy z 9 q [.ref (q 0), .int (nI stp)] (mdC cy q len span wires chg rsp rwi val ends text h was rd eyes fw bars ways) (PI (lfI bars wires stp) (mdC cy q len span wires chg rsp rwi val ends text h was rd eyes fw bars ways)) := by
  refine Ct.of (own := RX9) (by decide) rfl hI (Nat.le_of_ble_eq_true rfl) ?_
  intro p e s m args below meth c C hr
  refine aw_lv (lv' := [(0, .ref (q 0)), (1, .int (nI stp))]) (fun x hx => hx) ?_
  refine aw_iconst C dX9_left_0 ki_1 ?_
  refine aw_aload_n C dX9_left_1 (i := 0) rfl rfl ?_
  refine aw_get (k := 0) C dX9_left_2 fl_X9_38 (by decide) rfl rfl ?_
  refine aw_ishl C dX9_left_5 ?_
  refine aw_iconst C dX9_left_6 ki_1 ?_
  refine aw_isub C dX9_left_7 ?_
  refine aw_istore_n (lv' := [(0, _), (1, _), (2, _)]) C dX9_left_8 (i := 2) rfl (Nat.le_of_ble_eq_true rfl) rfl ?_
  refine aw_iconst C dX9_left_9 ki_0 ?_
  refine aw_istore_n (lv' := [(0, _), (1, _), (2, _), (3, _)]) C dX9_left_10 (i := 3) rfl (Nat.le_of_ble_eq_true rfl) rfl ?_
  exact cm_left_l hI C hr hw hst (stp + 1) 0 (by omega) (by omega)
set_option maxRecDepth 20000 in
/-- stuck -/
theorem cm_stuck {l : Launch} {D : va_G} {cy : Nat → ClassId} {z : Nat → Nat} {q : Nat → Nat} (hI : wI 9 q) {len span wires chg rsp rwi val ends : Nat} {text : Nat → Nat} {h was rd eyes fw bars ways : Nat → Int32} (hs : 8 ≤ span) (hs2 : span ≤ 40) (hw : wires ≤ 8) : Ct l yX9_stuck cX9_stuck 1 (some .int) 4 97 D cy z 9 q [.ref (q 0)] (mdC cy q len span wires chg rsp rwi val ends text h was rd eyes fw bars ways) (PI (opStuck span wires h) (mdC cy q len span wires chg rsp rwi val ends text h was rd eyes fw (cpG (brs h span wires) bars wires) ways)) := by
  refine Ct.of (own := RX9) (by decide) rfl hI (Nat.le_of_ble_eq_true rfl) ?_
  intro p e s m args below meth c C hr
  refine aw_lv (lv' := [(0, .ref (q 0))]) (fun x hx => hx) ?_
  refine aw_aload_n C dX9_stuck_0 (i := 0) rfl rfl ?_
  refine aw_V0v (k := 0) C dX9_stuck_1 cv_X9_142 (by decide) rfl rfl rfl (cm_lays hI hs hs2 hw) ⟨Nat.le_of_ble_eq_true rfl, Nat.le_of_ble_eq_true rfl⟩ (Nat.le_of_ble_eq_true rfl) ?_
  refine aw_aload_n C dX9_stuck_4 (i := 0) rfl rfl ?_
  refine aw_aload_n C dX9_stuck_5 (i := 0) rfl rfl ?_
  refine aw_get (k := 0) C dX9_stuck_6 fl_X9_38 (by decide) rfl rfl ?_
  refine aw_V1i (k := 0) C dX9_stuck_9 cv_X9_145 (by decide) rfl rfl rfl (cm_left hI hw (by omega)) ⟨Nat.le_of_ble_eq_true rfl, Nat.le_of_ble_eq_true rfl⟩ (Nat.le_of_ble_eq_true rfl) ?_
  refine aw_iret C hr dX9_stuck_12 ?_
  exact PI.mk (lfI_cg (fun k hk => cpG_lt hk) _) rfl
set_option maxRecDepth 20000 in
/-- order -/
theorem cm_order {l : Launch} {D : va_G} {cy : Nat → ClassId} {z : Nat → Nat} {q : Nat → Nat} (hI : wI 9 q) {len span wires chg rsp rwi val ends : Nat} {text : Nat → Nat} {h was rd eyes fw bars ways : Nat → Int32} {k : Int32} (hs : 8 ≤ span) (hs2 : span ≤ 40) (hw : wires ≤ 8) : Ct l yX9_order cX9_order 2 (some .int) 5 117 D cy z 9 q [.ref (q 0), .int k] (mdC cy q len span wires chg rsp rwi val ends text h was rd eyes fw bars ways) (PO cy q (opOrder span wires h k, (len, span, wires, chg, text, h, was, eyes))) := by
  refine Ct.of (own := RX9) (by decide) rfl hI (Nat.le_of_ble_eq_true rfl) ?_
  intro p e s m args below meth c C hr
  refine aw_lv (lv' := [(0, .ref (q 0)), (1, .int k)]) (fun x hx => hx) ?_
  refine aw_iload_n C dX9_order_0 (i := 1) rfl rfl ?_
  refine aw_iconst C dX9_order_1 ki_0 ?_
  refine aw_bipush C dX9_order_2 kb_7 ?_
  refine aw_S3i C dX9_order_4 cs_X9_54 (cm_isIn hI) ⟨Nat.le_of_ble_eq_true rfl, Nat.le_of_ble_eq_true rfl⟩ (Nat.le_of_ble_eq_true rfl) ?_
  refine aw_if_ne_b (tgt := 12) C dX9_order_7 (by decide) (fun h7 => ?_) (fun h7 => ?_)
  · obtain ⟨b, hb, rfl⟩ := in_of (by decide) h7
    have ec : (nI b).toNatClampNeg = b := nI_clamp (by omega)
    refine aw_aload_n C dX9_order_12 (i := 0) rfl rfl ?_
    refine aw_V0i (k := 0) C dX9_order_13 cv_X9_148 (by decide) rfl rfl rfl (cm_stuck hI hs hs2 hw) ⟨Nat.le_of_ble_eq_true rfl, Nat.le_of_ble_eq_true rfl⟩ (Nat.le_of_ble_eq_true rfl) ?_
    refine aw_if_eq (tgt := 22) C dX9_order_16 (by decide) (fun h16 => ?_) (fun h16 => ?_)
    · refine aw_iload_n C dX9_order_22 (i := 1) rfl rfl ?_
      refine aw_aload_n C dX9_order_23 (i := 0) rfl rfl ?_
      refine aw_get (k := 0) C dX9_order_24 fl_X9_38 (by decide) rfl rfl ?_
      refine aw_icmp_ge_n (tgt := 42) C dX9_order_27 (by decide) (by omega) (by omega) (fun h27 => ?_) (fun h27 => ?_)
      · refine aw_bipush C dX9_order_42 kb_m4 ?_
        refine aw_iret C hr dX9_order_44 ?_
        exact PO.mk (by unfold opOrder; rw [if_pos h7, if_pos h16, if_neg (nI_nlt h27 (by omega))])
      · refine aw_aload_n C dX9_order_30 (i := 0) rfl rfl ?_
        refine aw_aload_n C dX9_order_31 (i := 0) rfl rfl ?_
        refine aw_iload_n C dX9_order_32 (i := 1) rfl rfl ?_
        refine aw_V1i (k := 0) C dX9_order_33 cv_X9_145 (by decide) rfl rfl rfl (cm_left hI hw (by omega)) ⟨Nat.le_of_ble_eq_true rfl, Nat.le_of_ble_eq_true rfl⟩ (Nat.le_of_ble_eq_true rfl) ?_
        refine aw_V1i (k := 0) C dX9_order_36 cv_X9_139 (by decide) rfl rfl rfl (cm_firstOf hI hw) ⟨Nat.le_of_ble_eq_true rfl, Nat.le_of_ble_eq_true rfl⟩ (Nat.le_of_ble_eq_true rfl) ?_
        refine aw_goto (tgt := 44) C dX9_order_39 (by decide) ?_
        refine aw_iret C hr dX9_order_44 ?_
        exact PO.mk (by unfold opOrder; rw [if_pos h7, if_pos h16, if_pos (nI_lt h27 (by omega)), ec, lfI_cg (b := cpG (brs h span wires) bars wires) (c := brs h span wires) (fun k hk => cpG_lt hk) b, foI_cg (b := cpG (brs h span wires) bars wires) (c := brs h span wires) (fun k hk => cpG_lt hk)])
    · refine aw_bipush C dX9_order_19 kb_m2 ?_
      refine aw_iret C hr dX9_order_21 ?_
      exact PO.mk (by unfold opOrder; rw [if_pos h7, if_neg h16])
  · refine aw_iconst C dX9_order_10 ki_m1 ?_
    refine aw_iret C hr dX9_order_11 ?_
    exact PO.mk (by unfold opOrder; rw [if_neg (by rw [h7]; decide)])
set_option maxRecDepth 20000 in
/-- orders, its loop -/
theorem cm_orders_0 {l : Launch} {D : va_G} {cy : Nat → ClassId} {z : Nat → Nat} {q : Nat → Nat} {p : Program} {e : Env} {s : State} {m : MethodId} {args : Array Value} {below : List Frame} {meth : Method} {c : Code} {Q : State → Prop} (hI : wI 9 q) (C : Cx p s m args meth c cX9_orders 4 RX9 D cy z 9 q) (hr : meth.sig.returnType = (some .int)) {len span wires chg rsp rwi val ends : Nat} {text : Nat → Nat} {h was rd eyes fw bars ways : Nat → Int32} (hw : wires ≤ 8) (K : AW p l e { frames := 4, cells := 0, slots := 0, locals := 97 } s m args below meth c D 9 q 4 Q (mdC cy q len span wires chg rsp rwi val ends text h was rd eyes fw bars (w0 ways (2 ^ wires))) [(0, .ref (q 0)), (1, .int (nI (2 ^ wires - 1))), (2, .int (nI (2 ^ wires)))] 41 []) : ∀ (d : Nat) (k : Nat), 2 ^ wires - k < d → (k ≤ 2 ^ wires) → AW p l e { frames := 4, cells := 0, slots := 0, locals := 97 } s m args below meth c D 9 q 4 Q (mdC cy q len span wires chg rsp rwi val ends text h was rd eyes fw bars (w0 ways k)) [(0, .ref (q 0)), (1, .int (nI (2 ^ wires - 1))), (2, .int (nI k))] 15 [] := by
  intro d
  induction d with
  | zero => intro k hd; exact absurd hd (Nat.not_lt_zero _)
  | succ d ih =>
    intro k hd iv0
    have hpw := pw8 hw
    refine aw_iload_n C dX9_orders_15 (i := 2) rfl rfl ?_
    refine aw_iload_n C dX9_orders_16 (i := 1) rfl rfl ?_
    refine aw_icmp_gt_n (tgt := 41) C dX9_orders_17 (by decide) (by omega) (by omega) (fun h17 => ?_) (fun h17 => ?_)
    · obtain rfl : k = 2 ^ wires := by omega
      exact K
    · refine aw_aload_n C dX9_orders_20 (i := 0) rfl rfl ?_
      refine aw_get (k := 0) C dX9_orders_21 fl_X9_31 (by decide) rfl rfl ?_
      refine aw_iload_n C dX9_orders_24 (i := 2) rfl rfl ?_
      refine aw_iload_n C dX9_orders_25 (i := 2) rfl rfl ?_
      refine aw_if_ne_n (tgt := 33) C dX9_orders_26 (by decide) (by omega) (fun h26 => ?_) (fun h26 => ?_)
      · refine aw_iconst C dX9_orders_33 ki_0 ?_
        refine aw_iast (k := 8) C dX9_orders_34 (by decide) (rfl) (rfl) (by omega) (by decide) (md_a_ways) ?_
        refine aw_iinc_n (lv' := [(0, _), (1, _), (2, _)]) C dX9_orders_35 rfl ki_1 (Nat.le_of_ble_eq_true rfl) rfl ?_
        refine aw_goto (tgt := 15) C dX9_orders_38 (by decide) ?_
        have e9 := cpG_s (fun j => if j = 0 then nI 1 else nI 0) ways k
        have k9 := ih (k + 1) (by omega) (by omega)
        unfold w0 at k9 ⊢
        rw [← e9] at k9
        rw [if_neg (Nat.ne_of_gt h26)] at k9
        exact k9
      · refine aw_iconst C dX9_orders_29 ki_1 ?_
        refine aw_goto (tgt := 34) C dX9_orders_30 (by decide) ?_
        refine aw_iast (k := 8) C dX9_orders_34 (by decide) (rfl) (rfl) (by omega) (by decide) (md_a_ways) ?_
        refine aw_iinc_n (lv' := [(0, _), (1, _), (2, _)]) C dX9_orders_35 rfl ki_1 (Nat.le_of_ble_eq_true rfl) rfl ?_
        refine aw_goto (tgt := 15) C dX9_orders_38 (by decide) ?_
        have e9 := cpG_s (fun j => if j = 0 then nI 1 else nI 0) ways k
        have k9 := ih (k + 1) (by omega) (by omega)
        unfold w0 at k9 ⊢
        rw [← e9] at k9
        rw [if_pos h26] at k9
        exact k9
set_option maxRecDepth 20000 in
/-- orders, its loop -/
theorem cm_orders_i {l : Launch} {D : va_G} {cy : Nat → ClassId} {z : Nat → Nat} {q : Nat → Nat} {p : Program} {e : Env} {s : State} {m : MethodId} {args : Array Value} {below : List Frame} {meth : Method} {c : Code} {Q : State → Prop} (hI : wI 9 q) (C : Cx p s m args meth c cX9_orders 4 RX9 D cy z 9 q) (hr : meth.sig.returnType = (some .int)) {len span wires chg rsp rwi val ends : Nat} {text : Nat → Nat} {h was rd eyes fw bars ways : Nat → Int32} (hw : wires ≤ 8) {s0 : Nat} (hs0 : s0 < 2 ^ wires - 1) (K : AW p l e { frames := 4, cells := 0, slots := 0, locals := 97 } s m args below meth c D 9 q 4 Q (mdC cy q len span wires chg rsp rwi val ends text h was rd eyes fw bars (psK bars wires s0 ways wires)) [(0, .ref (q 0)), (1, .int (nI (2 ^ wires - 1))), (2, .int (nI s0)), (3, .int (nI wires))] 104 []) : ∀ (d : Nat) (k : Nat), wires - k < d → (k ≤ wires) → AW p l e { frames := 4, cells := 0, slots := 0, locals := 97 } s m args below meth c D 9 q 4 Q (mdC cy q len span wires chg rsp rwi val ends text h was rd eyes fw bars (psK bars wires s0 ways k)) [(0, .ref (q 0)), (1, .int (nI (2 ^ wires - 1))), (2, .int (nI s0)), (3, .int (nI k))] 50 [] := by
  intro d
  induction d with
  | zero => intro k hd; exact absurd hd (Nat.not_lt_zero _)
  | succ d ih =>
    intro k hd iv0
    have hpw := pw8 hw
    refine aw_iload_n C dX9_orders_50 (i := 3) rfl rfl ?_
    refine aw_aload_n C dX9_orders_51 (i := 0) rfl rfl ?_
    refine aw_get (k := 0) C dX9_orders_52 fl_X9_38 (by decide) rfl rfl ?_
    refine aw_icmp_ge_n (tgt := 104) C dX9_orders_55 (by decide) (by omega) (by omega) (fun h55 => ?_) (fun h55 => ?_)
    · obtain rfl : k = wires := by omega
      exact K
    · refine aw_iload_n C dX9_orders_58 (i := 2) rfl rfl ?_
      refine aw_iload_n C dX9_orders_59 (i := 3) rfl rfl ?_
      refine aw_ishr C dX9_orders_60 ?_
      refine aw_iconst C dX9_orders_61 ki_1 ?_
      refine aw_iand C dX9_orders_62 ?_
      refine aw_if_ne (tgt := 98) C dX9_orders_63 (by decide) (fun h63 => ?_) (fun h63 => ?_)
      · refine aw_iinc_n (lv' := [(0, _), (1, _), (2, _), (3, _)]) C dX9_orders_98 rfl ki_1 (Nat.le_of_ble_eq_true rfl) rfl ?_
        refine aw_goto (tgt := 50) C dX9_orders_101 (by decide) ?_
        have k9 := ih (k + 1) (by omega) (by omega)
        rw [psK_s, if_neg (show ¬ bt (nI s0) k = 0 from h63)] at k9
        exact k9
      · refine aw_aload_n C dX9_orders_66 (i := 0) rfl rfl ?_
        refine aw_get (k := 0) C dX9_orders_67 fl_X9_28 (by decide) rfl rfl ?_
        refine aw_iload_n C dX9_orders_70 (i := 3) rfl rfl ?_
        refine aw_iald (k := 7) C dX9_orders_71 (by decide) (rfl) (rfl) (by omega) (by decide) (rfl) ?_
        refine aw_iload_n C dX9_orders_72 (i := 1) rfl rfl ?_
        refine aw_iload_n C dX9_orders_73 (i := 2) rfl rfl ?_
        refine aw_isub C dX9_orders_74 ?_
        refine aw_iand C dX9_orders_75 ?_
        refine aw_if_ne (tgt := 98) C dX9_orders_76 (by decide) (fun h76 => ?_) (fun h76 => ?_)
        · refine aw_iinc_n (lv' := [(0, _), (1, _), (2, _), (3, _)]) C dX9_orders_98 rfl ki_1 (Nat.le_of_ble_eq_true rfl) rfl ?_
          refine aw_goto (tgt := 50) C dX9_orders_101 (by decide) ?_
          have k9 := ih (k + 1) (by omega) (by omega)
          rw [psK_s, if_pos (show bt (nI s0) k = 0 from h63), if_neg h76] at k9
          exact k9
        · have hor : s0 ||| 2 ^ k < 2 ^ wires := or_lt8 (by omega) (by omega)
          refine aw_aload_n C dX9_orders_79 (i := 0) rfl rfl ?_
          refine aw_get (k := 0) C dX9_orders_80 fl_X9_31 (by decide) rfl rfl ?_
          refine aw_iload_n C dX9_orders_83 (i := 2) rfl rfl ?_
          refine aw_iconst C dX9_orders_84 ki_1 ?_
          refine aw_iload_n C dX9_orders_85 (i := 3) rfl rfl ?_
          refine aw_ishl C dX9_orders_86 ?_
          refine aw_ior C dX9_orders_87 ?_
          refine aw_dup2 C dX9_orders_88 rfl rfl ?_
          refine aw_iald (k := 8) C dX9_orders_89 (by decide) (rfl) (by rw [shl1 k (by omega), or_nI]) (by omega) (by decide) (rfl) ?_
          refine aw_aload_n C dX9_orders_90 (i := 0) rfl rfl ?_
          refine aw_get (k := 0) C dX9_orders_91 fl_X9_31 (by decide) rfl rfl ?_
          refine aw_iload_n C dX9_orders_94 (i := 2) rfl rfl ?_
          refine aw_iald (k := 8) C dX9_orders_95 (by decide) (rfl) (rfl) (by omega) (by decide) (rfl) ?_
          refine aw_iadd C dX9_orders_96 ?_
          refine aw_iast (k := 8) C dX9_orders_97 (by decide) (rfl) (by rw [shl1 k (by omega), or_nI]) (by omega) (by decide) (md_a_ways) ?_
          refine aw_iinc_n (lv' := [(0, _), (1, _), (2, _), (3, _)]) C dX9_orders_98 rfl ki_1 (Nat.le_of_ble_eq_true rfl) rfl ?_
          refine aw_goto (tgt := 50) C dX9_orders_101 (by decide) ?_
          have k9 := ih (k + 1) (by omega) (by omega)
          rw [psK_s, if_pos (show bt (nI s0) k = 0 from h63), if_pos h76] at k9
          exact k9
set_option maxRecDepth 20000 in
/-- orders, its loop -/
theorem cm_orders_o {l : Launch} {D : va_G} {cy : Nat → ClassId} {z : Nat → Nat} {q : Nat → Nat} {p : Program} {e : Env} {s : State} {m : MethodId} {args : Array Value} {below : List Frame} {meth : Method} {c : Code} (hI : wI 9 q) (C : Cx p s m args meth c cX9_orders 4 RX9 D cy z 9 q) (hr : meth.sig.returnType = (some .int)) {len span wires chg rsp rwi val ends : Nat} {text : Nat → Nat} {h was rd eyes fw bars ways : Nat → Int32} (hw : wires ≤ 8) : ∀ (d : Nat) (s0 : Nat), 2 ^ wires - 1 - s0 < d → (s0 ≤ 2 ^ wires - 1) → AW p l e { frames := 4, cells := 0, slots := 0, locals := 97 } s m args below meth c D 9 q 4 (MQ below (Qg D 9 q (PI (psS bars wires ways (2 ^ wires - 1) (2 ^ wires - 1)) (mdC cy q len span wires chg rsp rwi val ends text h was rd eyes fw bars (psS bars wires ways (2 ^ wires - 1)))) (wA 9 q s.heap.size)) args s 0 0 (wA 9 q s.heap.size)) (mdC cy q len span wires chg rsp rwi val ends text h was rd eyes fw bars (psS bars wires ways s0)) [(0, .ref (q 0)), (1, .int (nI (2 ^ wires - 1))), (2, .int (nI s0))] 43 [] := by
  intro d
  induction d with
  | zero => intro s0 hd; exact absurd hd (Nat.not_lt_zero _)
  | succ d ih =>
    intro s0 hd iv0
    have hpw := pw8 hw
    refine aw_iload_n C dX9_orders_43 (i := 2) rfl rfl ?_
    refine aw_iload_n C dX9_orders_44 (i := 1) rfl rfl ?_
    refine aw_icmp_ge_n (tgt := 110) C dX9_orders_45 (by decide) (by omega) (by omega) (fun h45 => ?_) (fun h45 => ?_)
    · refine aw_aload_n C dX9_orders_110 (i := 0) rfl rfl ?_
      refine aw_get (k := 0) C dX9_orders_111 fl_X9_31 (by decide) rfl rfl ?_
      refine aw_iload_n C dX9_orders_114 (i := 1) rfl rfl ?_
      refine aw_iald (k := 8) C dX9_orders_115 (by decide) (rfl) (rfl) (by omega) (by decide) (rfl) ?_
      refine aw_iret C hr dX9_orders_116 ?_
      obtain rfl : s0 = 2 ^ wires - 1 := by omega
      exact PI.mk rfl rfl
    · refine aw_iconst C dX9_orders_48 ki_0 ?_
      refine aw_istore_n (lv' := [(0, _), (1, _), (2, _), (3, _)]) C dX9_orders_49 (i := 3) rfl (Nat.le_of_ble_eq_true rfl) rfl ?_
      refine cm_orders_i hI C hr hw (by omega) ?_ (wires + 1) 0 (by omega) (by omega)
      refine aw_iinc_n (lv' := [(0, _), (1, _), (2, _), (3, _)]) C dX9_orders_104 rfl ki_1 (Nat.le_of_ble_eq_true rfl) rfl ?_
      refine aw_goto (tgt := 43) C dX9_orders_107 (by decide) ?_
      refine aw_take 3 (lv' := [(0, _), (1, _), (2, _)]) rfl ?_
      exact ih (s0 + 1) (by omega) (by omega)
set_option maxRecDepth 20000 in
/-- orders -/
theorem cm_orders {l : Launch} {D : va_G} {cy : Nat → ClassId} {z : Nat → Nat} {q : Nat → Nat} (hI : wI 9 q) {len span wires chg rsp rwi val ends : Nat} {text : Nat → Nat} {h was rd eyes fw bars ways : Nat → Int32} (hs : 8 ≤ span) (hs2 : span ≤ 40) (hw : wires ≤ 8) : Ct l yX9_orders cX9_orders 4 (some .int) 4 97 D cy z 9 q [.ref (q 0)] (mdC cy q len span wires chg rsp rwi val ends text h was rd eyes fw bars ways) (PO cy q (opOrders span wires h ways, (len, span, wires, chg, text, h, was, eyes))) := by
  refine Ct.of (own := RX9) (by decide) rfl hI (Nat.le_of_ble_eq_true rfl) ?_
  intro p e s m args below meth c C hr
  refine aw_lv (lv' := [(0, .ref (q 0))]) (fun x hx => hx) ?_
  refine aw_aload_n C dX9_orders_0 (i := 0) rfl rfl ?_
  refine aw_V0v (k := 0) C dX9_orders_1 cv_X9_142 (by decide) rfl rfl rfl (cm_lays hI hs hs2 hw) ⟨Nat.le_of_ble_eq_true rfl, Nat.le_of_ble_eq_true rfl⟩ (Nat.le_of_ble_eq_true rfl) ?_
  refine aw_iconst C dX9_orders_4 ki_1 ?_
  refine aw_aload_n C dX9_orders_5 (i := 0) rfl rfl ?_
  refine aw_get (k := 0) C dX9_orders_6 fl_X9_38 (by decide) rfl rfl ?_
  refine aw_ishl C dX9_orders_9 ?_
  refine aw_iconst C dX9_orders_10 ki_1 ?_
  refine aw_isub C dX9_orders_11 ?_
  rw [all_eq hw]
  refine aw_istore_n (lv' := [(0, _), (1, _)]) C dX9_orders_12 (i := 1) rfl (Nat.le_of_ble_eq_true rfl) rfl ?_
  refine aw_iconst C dX9_orders_13 ki_0 ?_
  refine aw_istore_n (lv' := [(0, _), (1, _), (2, _)]) C dX9_orders_14 (i := 2) rfl (Nat.le_of_ble_eq_true rfl) rfl ?_
  have hpw := pw8 hw
  refine aw_fq (f' := (mdC cy q len span wires chg rsp rwi val ends text h was rd eyes fw (cpG (brs h span wires) bars wires) (w0 ways 0))) (by unfold w0; rw [cpG_0]) ?_
  refine cm_orders_0 hI C hr hw ?_ (2 ^ wires + 1) 0 (by omega) (by omega)
  refine aw_iconst C dX9_orders_41 ki_0 ?_
  refine aw_istore_n (lv' := [(0, _), (1, _), (2, _)]) C dX9_orders_42 (i := 2) rfl (Nat.le_of_ble_eq_true rfl) rfl ?_
  refine aw_post ?_ (cm_orders_o (bars := cpG (brs h span wires) bars wires) (ways := w0 ways (2 ^ wires)) hI C hr hw (2 ^ wires) 0 (by omega) (by omega))
  intro r g hp
  obtain ⟨rfl, rfl⟩ := hp
  exact PO.mk (by unfold opOrders; rw [psS_cg (b := cpG (brs h span wires) bars wires) (c := brs h span wires) (fun k hk => cpG_lt hk)])
end
