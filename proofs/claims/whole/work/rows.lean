section
-- ===== PART A: goes FIRST, ahead of the names: the tables' words, and 'selects' of the private methods out of them =====
/-- a private method of a class that the tables say can be made, by its rows of tables_1 -/
def lw_okq (q : MethodName × Nat) : Prop := (q.1.cls ≠ "java/lang/invoke/MethodHandle" ∧ q.1.cls ≠ "java/lang/invoke/VarHandle") ∧ Cond.instantiable q.1.cls q.2 ∈ tables_1 ∧ Cond.privateMethod q.1 ∈ tables_1 ∧ Cond.instanceMethod q.1 ∈ tables_1
theorem lw_p0 : lw_okq (⟨"MaypoleGreen", "personAt", "(I)LMaypoleGreen$Person;"⟩, 19) := ⟨⟨by decide +kernel, by decide +kernel⟩, List.mem_of_getElem? (i := 19) (by decide +kernel), List.mem_of_getElem? (i := 435) (by decide +kernel), List.mem_of_getElem? (i := 436) (by decide +kernel)⟩
theorem lw_p1 : lw_okq (⟨"MaypoleGreen", "isPlace", "(I)Z"⟩, 19) := ⟨⟨by decide +kernel, by decide +kernel⟩, List.mem_of_getElem? (i := 19) (by decide +kernel), List.mem_of_getElem? (i := 439) (by decide +kernel), List.mem_of_getElem? (i := 440) (by decide +kernel)⟩
theorem lw_p2 : lw_okq (⟨"MaypoleGreen", "standsInRing", "(I)Z"⟩, 19) := ⟨⟨by decide +kernel, by decide +kernel⟩, List.mem_of_getElem? (i := 19) (by decide +kernel), List.mem_of_getElem? (i := 443) (by decide +kernel), List.mem_of_getElem? (i := 444) (by decide +kernel)⟩
theorem lw_p3 : lw_okq (⟨"MaypoleGreen", "doStep", "(I)I"⟩, 19) := ⟨⟨by decide +kernel, by decide +kernel⟩, List.mem_of_getElem? (i := 19) (by decide +kernel), List.mem_of_getElem? (i := 482) (by decide +kernel), List.mem_of_getElem? (i := 483) (by decide +kernel)⟩
theorem lw_p4 : lw_okq (⟨"MaypoleGreen$Floor", "takeWalk", "(Z)I"⟩, 7) := ⟨⟨by decide +kernel, by decide +kernel⟩, List.mem_of_getElem? (i := 44) (by decide +kernel), List.mem_of_getElem? (i := 490) (by decide +kernel), List.mem_of_getElem? (i := 491) (by decide +kernel)⟩
theorem lw_p5 : lw_okq (⟨"MaypoleGreen$Floor", "takePass", "(II)I"⟩, 7) := ⟨⟨by decide +kernel, by decide +kernel⟩, List.mem_of_getElem? (i := 44) (by decide +kernel), List.mem_of_getElem? (i := 501) (by decide +kernel), List.mem_of_getElem? (i := 502) (by decide +kernel)⟩
theorem lw_p6 : lw_okq (⟨"MaypoleGreen$Cloth", "ribbonOnTop", "(II)I"⟩, 6) := ⟨⟨by decide +kernel, by decide +kernel⟩, List.mem_of_getElem? (i := 102) (by decide +kernel), List.mem_of_getElem? (i := 509) (by decide +kernel), List.mem_of_getElem? (i := 510) (by decide +kernel)⟩
theorem lw_p7 : lw_okq (⟨"MaypoleGreen$Cloth", "beatsBy", "(I)Z"⟩, 6) := ⟨⟨by decide +kernel, by decide +kernel⟩, List.mem_of_getElem? (i := 102) (by decide +kernel), List.mem_of_getElem? (i := 577) (by decide +kernel), List.mem_of_getElem? (i := 578) (by decide +kernel)⟩
theorem lw_p8 : lw_okq (⟨"MaypoleGreen$Cloth", "areLike", "(II)Z"⟩, 6) := ⟨⟨by decide +kernel, by decide +kernel⟩, List.mem_of_getElem? (i := 102) (by decide +kernel), List.mem_of_getElem? (i := 581) (by decide +kernel), List.mem_of_getElem? (i := 582) (by decide +kernel)⟩
theorem lw_p9 : lw_okq (⟨"MaypoleGreen$Picture", "mostAsked", "(II)I"⟩, 7) := ⟨⟨by decide +kernel, by decide +kernel⟩, List.mem_of_getElem? (i := 129) (by decide +kernel), List.mem_of_getElem? (i := 618) (by decide +kernel), List.mem_of_getElem? (i := 619) (by decide +kernel)⟩
theorem lw_p10 : lw_okq (⟨"MaypoleGreen", "figureOrDance", "(I)LMaypoleGreen$Steps;"⟩, 19) := ⟨⟨by decide +kernel, by decide +kernel⟩, List.mem_of_getElem? (i := 19) (by decide +kernel), List.mem_of_getElem? (i := 626) (by decide +kernel), List.mem_of_getElem? (i := 627) (by decide +kernel)⟩
theorem lw_p11 : lw_okq (⟨"MaypoleGreen$Form", "meet", "(III)V"⟩, 7) := ⟨⟨by decide +kernel, by decide +kernel⟩, List.mem_of_getElem? (i := 197) (by decide +kernel), List.mem_of_getElem? (i := 642) (by decide +kernel), List.mem_of_getElem? (i := 643) (by decide +kernel)⟩
theorem lw_p12 : lw_okq (⟨"MaypoleGreen$Form", "linkForward", "()V"⟩, 7) := ⟨⟨by decide +kernel, by decide +kernel⟩, List.mem_of_getElem? (i := 197) (by decide +kernel), List.mem_of_getElem? (i := 648) (by decide +kernel), List.mem_of_getElem? (i := 649) (by decide +kernel)⟩
theorem lw_p13 : lw_okq (⟨"MaypoleGreen$Form", "putInOrder", "(I)V"⟩, 7) := ⟨⟨by decide +kernel, by decide +kernel⟩, List.mem_of_getElem? (i := 197) (by decide +kernel), List.mem_of_getElem? (i := 652) (by decide +kernel), List.mem_of_getElem? (i := 653) (by decide +kernel)⟩
theorem lw_p14 : lw_okq (⟨"MaypoleGreen$Form", "leastFree", "(I)I"⟩, 7) := ⟨⟨by decide +kernel, by decide +kernel⟩, List.mem_of_getElem? (i := 197) (by decide +kernel), List.mem_of_getElem? (i := 656) (by decide +kernel), List.mem_of_getElem? (i := 657) (by decide +kernel)⟩
theorem lw_p15 : lw_okq (⟨"MaypoleGreen$Reader", "open", "()I"⟩, 8) := ⟨⟨by decide +kernel, by decide +kernel⟩, List.mem_of_getElem? (i := 160) (by decide +kernel), List.mem_of_getElem? (i := 685) (by decide +kernel), List.mem_of_getElem? (i := 686) (by decide +kernel)⟩
def lw_privs_1 : List (MethodName × Nat) := [(⟨"MaypoleGreen", "personAt", "(I)LMaypoleGreen$Person;"⟩, 19), (⟨"MaypoleGreen", "isPlace", "(I)Z"⟩, 19), (⟨"MaypoleGreen", "standsInRing", "(I)Z"⟩, 19), (⟨"MaypoleGreen", "doStep", "(I)I"⟩, 19), (⟨"MaypoleGreen$Floor", "takeWalk", "(Z)I"⟩, 7), (⟨"MaypoleGreen$Floor", "takePass", "(II)I"⟩, 7), (⟨"MaypoleGreen$Cloth", "ribbonOnTop", "(II)I"⟩, 6), (⟨"MaypoleGreen$Cloth", "beatsBy", "(I)Z"⟩, 6), (⟨"MaypoleGreen$Cloth", "areLike", "(II)Z"⟩, 6), (⟨"MaypoleGreen$Picture", "mostAsked", "(II)I"⟩, 7), (⟨"MaypoleGreen", "figureOrDance", "(I)LMaypoleGreen$Steps;"⟩, 19), (⟨"MaypoleGreen$Form", "meet", "(III)V"⟩, 7), (⟨"MaypoleGreen$Form", "linkForward", "()V"⟩, 7), (⟨"MaypoleGreen$Form", "putInOrder", "(I)V"⟩, 7), (⟨"MaypoleGreen$Form", "leastFree", "(I)I"⟩, 7), (⟨"MaypoleGreen$Reader", "open", "()I"⟩, 8)]
theorem lw_r1 : ∀ q ∈ lw_privs_1, lw_okq q := List.forall_mem_cons.mpr ⟨lw_p0, List.forall_mem_cons.mpr ⟨lw_p1, List.forall_mem_cons.mpr ⟨lw_p2, List.forall_mem_cons.mpr ⟨lw_p3, List.forall_mem_cons.mpr ⟨lw_p4, List.forall_mem_cons.mpr ⟨lw_p5, List.forall_mem_cons.mpr ⟨lw_p6, List.forall_mem_cons.mpr ⟨lw_p7, List.forall_mem_cons.mpr ⟨lw_p8, List.forall_mem_cons.mpr ⟨lw_p9, List.forall_mem_cons.mpr ⟨lw_p10, List.forall_mem_cons.mpr ⟨lw_p11, List.forall_mem_cons.mpr ⟨lw_p12, List.forall_mem_cons.mpr ⟨lw_p13, List.forall_mem_cons.mpr ⟨lw_p14, List.forall_mem_cons.mpr ⟨lw_p15, fun _ h => absurd h List.not_mem_nil⟩⟩⟩⟩⟩⟩⟩⟩⟩⟩⟩⟩⟩⟩⟩⟩
theorem lw_p16 : lw_okq (⟨"MaypoleGreen$Reader", "close", "(IZ)I"⟩, 8) := ⟨⟨by decide +kernel, by decide +kernel⟩, List.mem_of_getElem? (i := 160) (by decide +kernel), List.mem_of_getElem? (i := 689) (by decide +kernel), List.mem_of_getElem? (i := 690) (by decide +kernel)⟩
theorem lw_p17 : lw_okq (⟨"MaypoleGreen$Reader", "signAt", "(I)I"⟩, 8) := ⟨⟨by decide +kernel, by decide +kernel⟩, List.mem_of_getElem? (i := 160) (by decide +kernel), List.mem_of_getElem? (i := 693) (by decide +kernel), List.mem_of_getElem? (i := 694) (by decide +kernel)⟩
theorem lw_p18 : lw_okq (⟨"MaypoleGreen$Reader", "undoFrom", "(I)V"⟩, 8) := ⟨⟨by decide +kernel, by decide +kernel⟩, List.mem_of_getElem? (i := 160) (by decide +kernel), List.mem_of_getElem? (i := 697) (by decide +kernel), List.mem_of_getElem? (i := 698) (by decide +kernel)⟩
theorem lw_p19 : lw_okq (⟨"MaypoleGreen$Reader", "repeatFrom", "(II)V"⟩, 8) := ⟨⟨by decide +kernel, by decide +kernel⟩, List.mem_of_getElem? (i := 160) (by decide +kernel), List.mem_of_getElem? (i := 701) (by decide +kernel), List.mem_of_getElem? (i := 702) (by decide +kernel)⟩
theorem lw_p20 : lw_okq (⟨"MaypoleGreen$Reader", "put", "(I)V"⟩, 8) := ⟨⟨by decide +kernel, by decide +kernel⟩, List.mem_of_getElem? (i := 160) (by decide +kernel), List.mem_of_getElem? (i := 705) (by decide +kernel), List.mem_of_getElem? (i := 706) (by decide +kernel)⟩
theorem lw_p21 : lw_okq (⟨"MaypoleGreen$Reader", "single", "(I)I"⟩, 8) := ⟨⟨by decide +kernel, by decide +kernel⟩, List.mem_of_getElem? (i := 160) (by decide +kernel), List.mem_of_getElem? (i := 710) (by decide +kernel), List.mem_of_getElem? (i := 711) (by decide +kernel)⟩
theorem lw_p22 : lw_okq (⟨"MaypoleGreen$Reader", "putAll", "(LMaypoleGreen$Steps;)V"⟩, 8) := ⟨⟨by decide +kernel, by decide +kernel⟩, List.mem_of_getElem? (i := 160) (by decide +kernel), List.mem_of_getElem? (i := 715) (by decide +kernel), List.mem_of_getElem? (i := 716) (by decide +kernel)⟩
theorem lw_p23 : lw_okq (⟨"MaypoleGreen", "weavesOn", "(LMaypoleGreen$Floor;LMaypoleGreen$Steps;I)Z"⟩, 19) := ⟨⟨by decide +kernel, by decide +kernel⟩, List.mem_of_getElem? (i := 19) (by decide +kernel), List.mem_of_getElem? (i := 742) (by decide +kernel), List.mem_of_getElem? (i := 743) (by decide +kernel)⟩
theorem lw_p24 : lw_okq (⟨"MaypoleGreen", "weaves", "(LMaypoleGreen$Floor;I)Z"⟩, 19) := ⟨⟨by decide +kernel, by decide +kernel⟩, List.mem_of_getElem? (i := 19) (by decide +kernel), List.mem_of_getElem? (i := 746) (by decide +kernel), List.mem_of_getElem? (i := 747) (by decide +kernel)⟩
theorem lw_p25 : lw_okq (⟨"MaypoleGreen", "explained", "(LMaypoleGreen$Steps;I)I"⟩, 19) := ⟨⟨by decide +kernel, by decide +kernel⟩, List.mem_of_getElem? (i := 19) (by decide +kernel), List.mem_of_getElem? (i := 758) (by decide +kernel), List.mem_of_getElem? (i := 759) (by decide +kernel)⟩
theorem lw_p26 : lw_okq (⟨"MaypoleGreen", "weavesSlipped", "(LMaypoleGreen$Floor;II)Z"⟩, 19) := ⟨⟨by decide +kernel, by decide +kernel⟩, List.mem_of_getElem? (i := 19) (by decide +kernel), List.mem_of_getElem? (i := 766) (by decide +kernel), List.mem_of_getElem? (i := 767) (by decide +kernel)⟩
theorem lw_p27 : lw_okq (⟨"MaypoleGreen", "tapeAt", "(I)LMaypoleGreen$Tape;"⟩, 19) := ⟨⟨by decide +kernel, by decide +kernel⟩, List.mem_of_getElem? (i := 19) (by decide +kernel), List.mem_of_getElem? (i := 774) (by decide +kernel), List.mem_of_getElem? (i := 775) (by decide +kernel)⟩
theorem lw_p28 : lw_okq (⟨"MaypoleGreen$Orders", "passesLeft", "(I)I"⟩, 5) := ⟨⟨by decide +kernel, by decide +kernel⟩, List.mem_of_getElem? (i := 228) (by decide +kernel), List.mem_of_getElem? (i := 787) (by decide +kernel), List.mem_of_getElem? (i := 788) (by decide +kernel)⟩
theorem lw_p29 : lw_okq (⟨"MaypoleGreen$Orders", "settleWays", "(I)V"⟩, 5) := ⟨⟨by decide +kernel, by decide +kernel⟩, List.mem_of_getElem? (i := 228) (by decide +kernel), List.mem_of_getElem? (i := 791) (by decide +kernel), List.mem_of_getElem? (i := 792) (by decide +kernel)⟩
theorem lw_p30 : lw_okq (⟨"MaypoleGreen$Orders", "nearer", "(II)I"⟩, 5) := ⟨⟨by decide +kernel, by decide +kernel⟩, List.mem_of_getElem? (i := 228) (by decide +kernel), List.mem_of_getElem? (i := 801) (by decide +kernel), List.mem_of_getElem? (i := 802) (by decide +kernel)⟩
theorem lw_p31 : lw_okq (⟨"MaypoleGreen$Orders", "swap", "(II)V"⟩, 5) := ⟨⟨by decide +kernel, by decide +kernel⟩, List.mem_of_getElem? (i := 228) (by decide +kernel), List.mem_of_getElem? (i := 805) (by decide +kernel), List.mem_of_getElem? (i := 806) (by decide +kernel)⟩
def lw_privs_2 : List (MethodName × Nat) := [(⟨"MaypoleGreen$Reader", "close", "(IZ)I"⟩, 8), (⟨"MaypoleGreen$Reader", "signAt", "(I)I"⟩, 8), (⟨"MaypoleGreen$Reader", "undoFrom", "(I)V"⟩, 8), (⟨"MaypoleGreen$Reader", "repeatFrom", "(II)V"⟩, 8), (⟨"MaypoleGreen$Reader", "put", "(I)V"⟩, 8), (⟨"MaypoleGreen$Reader", "single", "(I)I"⟩, 8), (⟨"MaypoleGreen$Reader", "putAll", "(LMaypoleGreen$Steps;)V"⟩, 8), (⟨"MaypoleGreen", "weavesOn", "(LMaypoleGreen$Floor;LMaypoleGreen$Steps;I)Z"⟩, 19), (⟨"MaypoleGreen", "weaves", "(LMaypoleGreen$Floor;I)Z"⟩, 19), (⟨"MaypoleGreen", "explained", "(LMaypoleGreen$Steps;I)I"⟩, 19), (⟨"MaypoleGreen", "weavesSlipped", "(LMaypoleGreen$Floor;II)Z"⟩, 19), (⟨"MaypoleGreen", "tapeAt", "(I)LMaypoleGreen$Tape;"⟩, 19), (⟨"MaypoleGreen$Orders", "passesLeft", "(I)I"⟩, 5), (⟨"MaypoleGreen$Orders", "settleWays", "(I)V"⟩, 5), (⟨"MaypoleGreen$Orders", "nearer", "(II)I"⟩, 5), (⟨"MaypoleGreen$Orders", "swap", "(II)V"⟩, 5)]
theorem lw_r2 : ∀ q ∈ lw_privs_2, lw_okq q := List.forall_mem_cons.mpr ⟨lw_p16, List.forall_mem_cons.mpr ⟨lw_p17, List.forall_mem_cons.mpr ⟨lw_p18, List.forall_mem_cons.mpr ⟨lw_p19, List.forall_mem_cons.mpr ⟨lw_p20, List.forall_mem_cons.mpr ⟨lw_p21, List.forall_mem_cons.mpr ⟨lw_p22, List.forall_mem_cons.mpr ⟨lw_p23, List.forall_mem_cons.mpr ⟨lw_p24, List.forall_mem_cons.mpr ⟨lw_p25, List.forall_mem_cons.mpr ⟨lw_p26, List.forall_mem_cons.mpr ⟨lw_p27, List.forall_mem_cons.mpr ⟨lw_p28, List.forall_mem_cons.mpr ⟨lw_p29, List.forall_mem_cons.mpr ⟨lw_p30, List.forall_mem_cons.mpr ⟨lw_p31, fun _ h => absurd h List.not_mem_nil⟩⟩⟩⟩⟩⟩⟩⟩⟩⟩⟩⟩⟩⟩⟩⟩
theorem lw_p32 : lw_okq (⟨"MaypoleGreen", "seatPeople", "(I)I"⟩, 19) := ⟨⟨by decide +kernel, by decide +kernel⟩, List.mem_of_getElem? (i := 19) (by decide +kernel), List.mem_of_getElem? (i := 814) (by decide +kernel), List.mem_of_getElem? (i := 815) (by decide +kernel)⟩
theorem lw_p33 : lw_okq (⟨"MaypoleGreen$Seating", "seatFrom", "(II)V"⟩, 9) := ⟨⟨by decide +kernel, by decide +kernel⟩, List.mem_of_getElem? (i := 252) (by decide +kernel), List.mem_of_getElem? (i := 840) (by decide +kernel), List.mem_of_getElem? (i := 841) (by decide +kernel)⟩
theorem lw_p34 : lw_okq (⟨"MaypoleGreen$Seating", "apart", "(II)I"⟩, 9) := ⟨⟨by decide +kernel, by decide +kernel⟩, List.mem_of_getElem? (i := 252) (by decide +kernel), List.mem_of_getElem? (i := 844) (by decide +kernel), List.mem_of_getElem? (i := 845) (by decide +kernel)⟩
theorem lw_p35 : lw_okq (⟨"MaypoleGreen$Seating", "greatestPace", "()I"⟩, 9) := ⟨⟨by decide +kernel, by decide +kernel⟩, List.mem_of_getElem? (i := 252) (by decide +kernel), List.mem_of_getElem? (i := 862) (by decide +kernel), List.mem_of_getElem? (i := 863) (by decide +kernel)⟩
theorem lw_p36 : lw_okq (⟨"MaypoleGreen$Seating", "turn", "(Z)V"⟩, 9) := ⟨⟨by decide +kernel, by decide +kernel⟩, List.mem_of_getElem? (i := 252) (by decide +kernel), List.mem_of_getElem? (i := 869) (by decide +kernel), List.mem_of_getElem? (i := 870) (by decide +kernel)⟩
theorem lw_p37 : lw_okq (⟨"MaypoleGreen$Seating", "change", "(I)I"⟩, 9) := ⟨⟨by decide +kernel, by decide +kernel⟩, List.mem_of_getElem? (i := 252) (by decide +kernel), List.mem_of_getElem? (i := 873) (by decide +kernel), List.mem_of_getElem? (i := 874) (by decide +kernel)⟩
theorem lw_p38 : lw_okq (⟨"MaypoleGreen$Acts", "note", "(I)V"⟩, 2) := ⟨⟨by decide +kernel, by decide +kernel⟩, List.mem_of_getElem? (i := 29) (by decide +kernel), List.mem_of_getElem? (i := 890) (by decide +kernel), List.mem_of_getElem? (i := 891) (by decide +kernel)⟩
theorem lw_p39 : lw_okq (⟨"MaypoleGreen$Acts", "run", "(LMaypoleGreen$Person;IIII)I"⟩, 2) := ⟨⟨by decide +kernel, by decide +kernel⟩, List.mem_of_getElem? (i := 29) (by decide +kernel), List.mem_of_getElem? (i := 894) (by decide +kernel), List.mem_of_getElem? (i := 895) (by decide +kernel)⟩
theorem lw_p40 : lw_okq (⟨"MaypoleGreenModel", "in", "(III)Z"⟩, 61) := ⟨⟨by decide +kernel, by decide +kernel⟩, List.mem_of_getElem? (i := 955) (by decide +kernel), List.mem_of_getElem? (i := 1149) (by decide +kernel), List.mem_of_getElem? (i := 1150) (by decide +kernel)⟩
theorem lw_p41 : lw_okq (⟨"MaypoleGreenModel", "isPlace", "(I)Z"⟩, 61) := ⟨⟨by decide +kernel, by decide +kernel⟩, List.mem_of_getElem? (i := 955) (by decide +kernel), List.mem_of_getElem? (i := 1161) (by decide +kernel), List.mem_of_getElem? (i := 1162) (by decide +kernel)⟩
theorem lw_p42 : lw_okq (⟨"MaypoleGreenModel", "isPerson", "(I)Z"⟩, 61) := ⟨⟨by decide +kernel, by decide +kernel⟩, List.mem_of_getElem? (i := 955) (by decide +kernel), List.mem_of_getElem? (i := 1165) (by decide +kernel), List.mem_of_getElem? (i := 1166) (by decide +kernel)⟩
theorem lw_p43 : lw_okq (⟨"MaypoleGreenModel", "after", "(I)I"⟩, 61) := ⟨⟨by decide +kernel, by decide +kernel⟩, List.mem_of_getElem? (i := 955) (by decide +kernel), List.mem_of_getElem? (i := 1194) (by decide +kernel), List.mem_of_getElem? (i := 1195) (by decide +kernel)⟩
theorem lw_p44 : lw_okq (⟨"MaypoleGreenModel", "turn", "([II)V"⟩, 61) := ⟨⟨by decide +kernel, by decide +kernel⟩, List.mem_of_getElem? (i := 955) (by decide +kernel), List.mem_of_getElem? (i := 1203) (by decide +kernel), List.mem_of_getElem? (i := 1204) (by decide +kernel)⟩
theorem lw_p45 : lw_okq (⟨"MaypoleGreenModel", "topRibbon", "(II)I"⟩, 61) := ⟨⟨by decide +kernel, by decide +kernel⟩, List.mem_of_getElem? (i := 955) (by decide +kernel), List.mem_of_getElem? (i := 1219) (by decide +kernel), List.mem_of_getElem? (i := 1220) (by decide +kernel)⟩
theorem lw_p46 : lw_okq (⟨"MaypoleGreenModel", "ahead", "(I)I"⟩, 61) := ⟨⟨by decide +kernel, by decide +kernel⟩, List.mem_of_getElem? (i := 955) (by decide +kernel), List.mem_of_getElem? (i := 1223) (by decide +kernel), List.mem_of_getElem? (i := 1224) (by decide +kernel)⟩
theorem lw_p47 : lw_okq (⟨"MaypoleGreenModel", "areLike", "(II)Z"⟩, 61) := ⟨⟨by decide +kernel, by decide +kernel⟩, List.mem_of_getElem? (i := 955) (by decide +kernel), List.mem_of_getElem? (i := 1231) (by decide +kernel), List.mem_of_getElem? (i := 1232) (by decide +kernel)⟩
def lw_privs_3 : List (MethodName × Nat) := [(⟨"MaypoleGreen", "seatPeople", "(I)I"⟩, 19), (⟨"MaypoleGreen$Seating", "seatFrom", "(II)V"⟩, 9), (⟨"MaypoleGreen$Seating", "apart", "(II)I"⟩, 9), (⟨"MaypoleGreen$Seating", "greatestPace", "()I"⟩, 9), (⟨"MaypoleGreen$Seating", "turn", "(Z)V"⟩, 9), (⟨"MaypoleGreen$Seating", "change", "(I)I"⟩, 9), (⟨"MaypoleGreen$Acts", "note", "(I)V"⟩, 2), (⟨"MaypoleGreen$Acts", "run", "(LMaypoleGreen$Person;IIII)I"⟩, 2), (⟨"MaypoleGreenModel", "in", "(III)Z"⟩, 61), (⟨"MaypoleGreenModel", "isPlace", "(I)Z"⟩, 61), (⟨"MaypoleGreenModel", "isPerson", "(I)Z"⟩, 61), (⟨"MaypoleGreenModel", "after", "(I)I"⟩, 61), (⟨"MaypoleGreenModel", "turn", "([II)V"⟩, 61), (⟨"MaypoleGreenModel", "topRibbon", "(II)I"⟩, 61), (⟨"MaypoleGreenModel", "ahead", "(I)I"⟩, 61), (⟨"MaypoleGreenModel", "areLike", "(II)Z"⟩, 61)]
theorem lw_r3 : ∀ q ∈ lw_privs_3, lw_okq q := List.forall_mem_cons.mpr ⟨lw_p32, List.forall_mem_cons.mpr ⟨lw_p33, List.forall_mem_cons.mpr ⟨lw_p34, List.forall_mem_cons.mpr ⟨lw_p35, List.forall_mem_cons.mpr ⟨lw_p36, List.forall_mem_cons.mpr ⟨lw_p37, List.forall_mem_cons.mpr ⟨lw_p38, List.forall_mem_cons.mpr ⟨lw_p39, List.forall_mem_cons.mpr ⟨lw_p40, List.forall_mem_cons.mpr ⟨lw_p41, List.forall_mem_cons.mpr ⟨lw_p42, List.forall_mem_cons.mpr ⟨lw_p43, List.forall_mem_cons.mpr ⟨lw_p44, List.forall_mem_cons.mpr ⟨lw_p45, List.forall_mem_cons.mpr ⟨lw_p46, List.forall_mem_cons.mpr ⟨lw_p47, fun _ h => absurd h List.not_mem_nil⟩⟩⟩⟩⟩⟩⟩⟩⟩⟩⟩⟩⟩⟩⟩⟩
theorem lw_p48 : lw_okq (⟨"MaypoleGreenModel", "wrongWith", "([I)I"⟩, 61) := ⟨⟨by decide +kernel, by decide +kernel⟩, List.mem_of_getElem? (i := 955) (by decide +kernel), List.mem_of_getElem? (i := 1247) (by decide +kernel), List.mem_of_getElem? (i := 1248) (by decide +kernel)⟩
theorem lw_p49 : lw_okq (⟨"MaypoleGreenModel", "reads", "()Z"⟩, 61) := ⟨⟨by decide +kernel, by decide +kernel⟩, List.mem_of_getElem? (i := 955) (by decide +kernel), List.mem_of_getElem? (i := 1263) (by decide +kernel), List.mem_of_getElem? (i := 1264) (by decide +kernel)⟩
theorem lw_p50 : lw_okq (⟨"MaypoleGreenModel", "next", "()I"⟩, 61) := ⟨⟨by decide +kernel, by decide +kernel⟩, List.mem_of_getElem? (i := 955) (by decide +kernel), List.mem_of_getElem? (i := 1267) (by decide +kernel), List.mem_of_getElem? (i := 1268) (by decide +kernel)⟩
theorem lw_p51 : lw_okq (⟨"MaypoleGreenModel", "add", "(I)V"⟩, 61) := ⟨⟨by decide +kernel, by decide +kernel⟩, List.mem_of_getElem? (i := 955) (by decide +kernel), List.mem_of_getElem? (i := 1271) (by decide +kernel), List.mem_of_getElem? (i := 1272) (by decide +kernel)⟩
theorem lw_p52 : lw_okq (⟨"MaypoleGreenModel", "isFigure", "(I)Z"⟩, 61) := ⟨⟨by decide +kernel, by decide +kernel⟩, List.mem_of_getElem? (i := 955) (by decide +kernel), List.mem_of_getElem? (i := 1275) (by decide +kernel), List.mem_of_getElem? (i := 1276) (by decide +kernel)⟩
theorem lw_p53 : lw_okq (⟨"MaypoleGreenModel", "repeat", "(II)V"⟩, 61) := ⟨⟨by decide +kernel, by decide +kernel⟩, List.mem_of_getElem? (i := 955) (by decide +kernel), List.mem_of_getElem? (i := 1279) (by decide +kernel), List.mem_of_getElem? (i := 1280) (by decide +kernel)⟩
theorem lw_p54 : lw_okq (⟨"MaypoleGreenModel", "undo", "(I)V"⟩, 61) := ⟨⟨by decide +kernel, by decide +kernel⟩, List.mem_of_getElem? (i := 955) (by decide +kernel), List.mem_of_getElem? (i := 1283) (by decide +kernel), List.mem_of_getElem? (i := 1284) (by decide +kernel)⟩
theorem lw_p55 : lw_okq (⟨"MaypoleGreenModel", "undoing", "(I)I"⟩, 61) := ⟨⟨by decide +kernel, by decide +kernel⟩, List.mem_of_getElem? (i := 955) (by decide +kernel), List.mem_of_getElem? (i := 1287) (by decide +kernel), List.mem_of_getElem? (i := 1288) (by decide +kernel)⟩
theorem lw_p56 : lw_okq (⟨"MaypoleGreenModel", "findForm", "(I)Z"⟩, 61) := ⟨⟨by decide +kernel, by decide +kernel⟩, List.mem_of_getElem? (i := 955) (by decide +kernel), List.mem_of_getElem? (i := 1305) (by decide +kernel), List.mem_of_getElem? (i := 1306) (by decide +kernel)⟩
theorem lw_p57 : lw_okq (⟨"MaypoleGreenModel", "stepsOf", "(I)I"⟩, 61) := ⟨⟨by decide +kernel, by decide +kernel⟩, List.mem_of_getElem? (i := 955) (by decide +kernel), List.mem_of_getElem? (i := 1309) (by decide +kernel), List.mem_of_getElem? (i := 1310) (by decide +kernel)⟩
theorem lw_p58 : lw_okq (⟨"MaypoleGreenModel", "stepOf", "(II)I"⟩, 61) := ⟨⟨by decide +kernel, by decide +kernel⟩, List.mem_of_getElem? (i := 955) (by decide +kernel), List.mem_of_getElem? (i := 1313) (by decide +kernel), List.mem_of_getElem? (i := 1314) (by decide +kernel)⟩
theorem lw_p59 : lw_okq (⟨"MaypoleGreenModel", "take", "(I)V"⟩, 61) := ⟨⟨by decide +kernel, by decide +kernel⟩, List.mem_of_getElem? (i := 955) (by decide +kernel), List.mem_of_getElem? (i := 1317) (by decide +kernel), List.mem_of_getElem? (i := 1318) (by decide +kernel)⟩
theorem lw_p60 : lw_okq (⟨"MaypoleGreenModel", "areFar", "(II)Z"⟩, 61) := ⟨⟨by decide +kernel, by decide +kernel⟩, List.mem_of_getElem? (i := 955) (by decide +kernel), List.mem_of_getElem? (i := 1321) (by decide +kernel), List.mem_of_getElem? (i := 1322) (by decide +kernel)⟩
theorem lw_p61 : lw_okq (⟨"MaypoleGreenModel", "abs", "(I)I"⟩, 61) := ⟨⟨by decide +kernel, by decide +kernel⟩, List.mem_of_getElem? (i := 955) (by decide +kernel), List.mem_of_getElem? (i := 1325) (by decide +kernel), List.mem_of_getElem? (i := 1326) (by decide +kernel)⟩
theorem lw_p62 : lw_okq (⟨"MaypoleGreenModel", "bringLeast", "(I)V"⟩, 61) := ⟨⟨by decide +kernel, by decide +kernel⟩, List.mem_of_getElem? (i := 955) (by decide +kernel), List.mem_of_getElem? (i := 1329) (by decide +kernel), List.mem_of_getElem? (i := 1330) (by decide +kernel)⟩
theorem lw_p63 : lw_okq (⟨"MaypoleGreenModel", "makes", "(III)Z"⟩, 61) := ⟨⟨by decide +kernel, by decide +kernel⟩, List.mem_of_getElem? (i := 955) (by decide +kernel), List.mem_of_getElem? (i := 1341) (by decide +kernel), List.mem_of_getElem? (i := 1342) (by decide +kernel)⟩
def lw_privs_4 : List (MethodName × Nat) := [(⟨"MaypoleGreenModel", "wrongWith", "([I)I"⟩, 61), (⟨"MaypoleGreenModel", "reads", "()Z"⟩, 61), (⟨"MaypoleGreenModel", "next", "()I"⟩, 61), (⟨"MaypoleGreenModel", "add", "(I)V"⟩, 61), (⟨"MaypoleGreenModel", "isFigure", "(I)Z"⟩, 61), (⟨"MaypoleGreenModel", "repeat", "(II)V"⟩, 61), (⟨"MaypoleGreenModel", "undo", "(I)V"⟩, 61), (⟨"MaypoleGreenModel", "undoing", "(I)I"⟩, 61), (⟨"MaypoleGreenModel", "findForm", "(I)Z"⟩, 61), (⟨"MaypoleGreenModel", "stepsOf", "(I)I"⟩, 61), (⟨"MaypoleGreenModel", "stepOf", "(II)I"⟩, 61), (⟨"MaypoleGreenModel", "take", "(I)V"⟩, 61), (⟨"MaypoleGreenModel", "areFar", "(II)Z"⟩, 61), (⟨"MaypoleGreenModel", "abs", "(I)I"⟩, 61), (⟨"MaypoleGreenModel", "bringLeast", "(I)V"⟩, 61), (⟨"MaypoleGreenModel", "makes", "(III)Z"⟩, 61)]
theorem lw_r4 : ∀ q ∈ lw_privs_4, lw_okq q := List.forall_mem_cons.mpr ⟨lw_p48, List.forall_mem_cons.mpr ⟨lw_p49, List.forall_mem_cons.mpr ⟨lw_p50, List.forall_mem_cons.mpr ⟨lw_p51, List.forall_mem_cons.mpr ⟨lw_p52, List.forall_mem_cons.mpr ⟨lw_p53, List.forall_mem_cons.mpr ⟨lw_p54, List.forall_mem_cons.mpr ⟨lw_p55, List.forall_mem_cons.mpr ⟨lw_p56, List.forall_mem_cons.mpr ⟨lw_p57, List.forall_mem_cons.mpr ⟨lw_p58, List.forall_mem_cons.mpr ⟨lw_p59, List.forall_mem_cons.mpr ⟨lw_p60, List.forall_mem_cons.mpr ⟨lw_p61, List.forall_mem_cons.mpr ⟨lw_p62, List.forall_mem_cons.mpr ⟨lw_p63, fun _ h => absurd h List.not_mem_nil⟩⟩⟩⟩⟩⟩⟩⟩⟩⟩⟩⟩⟩⟩⟩⟩
theorem lw_p64 : lw_okq (⟨"MaypoleGreenModel", "tryBegin", "()V"⟩, 61) := ⟨⟨by decide +kernel, by decide +kernel⟩, List.mem_of_getElem? (i := 955) (by decide +kernel), List.mem_of_getElem? (i := 1345) (by decide +kernel), List.mem_of_getElem? (i := 1346) (by decide +kernel)⟩
theorem lw_p65 : lw_okq (⟨"MaypoleGreenModel", "tryStep", "(I)Z"⟩, 61) := ⟨⟨by decide +kernel, by decide +kernel⟩, List.mem_of_getElem? (i := 955) (by decide +kernel), List.mem_of_getElem? (i := 1349) (by decide +kernel), List.mem_of_getElem? (i := 1350) (by decide +kernel)⟩
theorem lw_p66 : lw_okq (⟨"MaypoleGreenModel", "tryWalk", "(I)Z"⟩, 61) := ⟨⟨by decide +kernel, by decide +kernel⟩, List.mem_of_getElem? (i := 955) (by decide +kernel), List.mem_of_getElem? (i := 1353) (by decide +kernel), List.mem_of_getElem? (i := 1354) (by decide +kernel)⟩
theorem lw_p67 : lw_okq (⟨"MaypoleGreenModel", "tryPass", "(II)Z"⟩, 61) := ⟨⟨by decide +kernel, by decide +kernel⟩, List.mem_of_getElem? (i := 955) (by decide +kernel), List.mem_of_getElem? (i := 1357) (by decide +kernel), List.mem_of_getElem? (i := 1358) (by decide +kernel)⟩
theorem lw_p68 : lw_okq (⟨"MaypoleGreenModel", "isTape", "(I)Z"⟩, 61) := ⟨⟨by decide +kernel, by decide +kernel⟩, List.mem_of_getElem? (i := 955) (by decide +kernel), List.mem_of_getElem? (i := 1369) (by decide +kernel), List.mem_of_getElem? (i := 1370) (by decide +kernel)⟩
theorem lw_p69 : lw_okq (⟨"MaypoleGreenModel", "findFar", "()V"⟩, 61) := ⟨⟨by decide +kernel, by decide +kernel⟩, List.mem_of_getElem? (i := 955) (by decide +kernel), List.mem_of_getElem? (i := 1373) (by decide +kernel), List.mem_of_getElem? (i := 1374) (by decide +kernel)⟩
theorem lw_p70 : lw_okq (⟨"MaypoleGreenModel", "rank", "([I)I"⟩, 61) := ⟨⟨by decide +kernel, by decide +kernel⟩, List.mem_of_getElem? (i := 955) (by decide +kernel), List.mem_of_getElem? (i := 1377) (by decide +kernel), List.mem_of_getElem? (i := 1378) (by decide +kernel)⟩
theorem lw_p71 : lw_okq (⟨"MaypoleGreenModel", "unrank", "(I[I)V"⟩, 61) := ⟨⟨by decide +kernel, by decide +kernel⟩, List.mem_of_getElem? (i := 955) (by decide +kernel), List.mem_of_getElem? (i := 1381) (by decide +kernel), List.mem_of_getElem? (i := 1382) (by decide +kernel)⟩
theorem lw_p72 : lw_okq (⟨"MaypoleGreenModel", "swap", "([II)V"⟩, 61) := ⟨⟨by decide +kernel, by decide +kernel⟩, List.mem_of_getElem? (i := 955) (by decide +kernel), List.mem_of_getElem? (i := 1385) (by decide +kernel), List.mem_of_getElem? (i := 1386) (by decide +kernel)⟩
theorem lw_p73 : lw_okq (⟨"MaypoleGreenModel", "findSet", "(I)I"⟩, 61) := ⟨⟨by decide +kernel, by decide +kernel⟩, List.mem_of_getElem? (i := 955) (by decide +kernel), List.mem_of_getElem? (i := 1393) (by decide +kernel), List.mem_of_getElem? (i := 1394) (by decide +kernel)⟩
theorem lw_p74 : lw_okq (⟨"MaypoleGreenModel", "greetsOf", "(II)I"⟩, 61) := ⟨⟨by decide +kernel, by decide +kernel⟩, List.mem_of_getElem? (i := 955) (by decide +kernel), List.mem_of_getElem? (i := 1406) (by decide +kernel), List.mem_of_getElem? (i := 1407) (by decide +kernel)⟩
theorem lw_p75 : lw_okq (⟨"MaypoleGreenModel", "body", "(I)V"⟩, 61) := ⟨⟨by decide +kernel, by decide +kernel⟩, List.mem_of_getElem? (i := 955) (by decide +kernel), List.mem_of_getElem? (i := 1410) (by decide +kernel), List.mem_of_getElem? (i := 1411) (by decide +kernel)⟩
theorem lw_p76 : lw_okq (⟨"MaypoleGreenModel", "plainGreets", "(II)I"⟩, 61) := ⟨⟨by decide +kernel, by decide +kernel⟩, List.mem_of_getElem? (i := 955) (by decide +kernel), List.mem_of_getElem? (i := 1414) (by decide +kernel), List.mem_of_getElem? (i := 1415) (by decide +kernel)⟩
theorem lw_p77 : lw_okq (⟨"MaypoleGreenModel", "leadsOf", "(II)I"⟩, 61) := ⟨⟨by decide +kernel, by decide +kernel⟩, List.mem_of_getElem? (i := 955) (by decide +kernel), List.mem_of_getElem? (i := 1418) (by decide +kernel), List.mem_of_getElem? (i := 1419) (by decide +kernel)⟩
theorem lw_p78 : lw_okq (⟨"MaypoleGreenModel", "leaderLeads", "(II)I"⟩, 61) := ⟨⟨by decide +kernel, by decide +kernel⟩, List.mem_of_getElem? (i := 955) (by decide +kernel), List.mem_of_getElem? (i := 1422) (by decide +kernel), List.mem_of_getElem? (i := 1423) (by decide +kernel)⟩
theorem lw_p79 : lw_okq (⟨"MaypoleGreenModel", "plainLeads", "(II)I"⟩, 61) := ⟨⟨by decide +kernel, by decide +kernel⟩, List.mem_of_getElem? (i := 955) (by decide +kernel), List.mem_of_getElem? (i := 1426) (by decide +kernel), List.mem_of_getElem? (i := 1427) (by decide +kernel)⟩
def lw_privs_5 : List (MethodName × Nat) := [(⟨"MaypoleGreenModel", "tryBegin", "()V"⟩, 61), (⟨"MaypoleGreenModel", "tryStep", "(I)Z"⟩, 61), (⟨"MaypoleGreenModel", "tryWalk", "(I)Z"⟩, 61), (⟨"MaypoleGreenModel", "tryPass", "(II)Z"⟩, 61), (⟨"MaypoleGreenModel", "isTape", "(I)Z"⟩, 61), (⟨"MaypoleGreenModel", "findFar", "()V"⟩, 61), (⟨"MaypoleGreenModel", "rank", "([I)I"⟩, 61), (⟨"MaypoleGreenModel", "unrank", "(I[I)V"⟩, 61), (⟨"MaypoleGreenModel", "swap", "([II)V"⟩, 61), (⟨"MaypoleGreenModel", "findSet", "(I)I"⟩, 61), (⟨"MaypoleGreenModel", "greetsOf", "(II)I"⟩, 61), (⟨"MaypoleGreenModel", "body", "(I)V"⟩, 61), (⟨"MaypoleGreenModel", "plainGreets", "(II)I"⟩, 61), (⟨"MaypoleGreenModel", "leadsOf", "(II)I"⟩, 61), (⟨"MaypoleGreenModel", "leaderLeads", "(II)I"⟩, 61), (⟨"MaypoleGreenModel", "plainLeads", "(II)I"⟩, 61)]
theorem lw_r5 : ∀ q ∈ lw_privs_5, lw_okq q := List.forall_mem_cons.mpr ⟨lw_p64, List.forall_mem_cons.mpr ⟨lw_p65, List.forall_mem_cons.mpr ⟨lw_p66, List.forall_mem_cons.mpr ⟨lw_p67, List.forall_mem_cons.mpr ⟨lw_p68, List.forall_mem_cons.mpr ⟨lw_p69, List.forall_mem_cons.mpr ⟨lw_p70, List.forall_mem_cons.mpr ⟨lw_p71, List.forall_mem_cons.mpr ⟨lw_p72, List.forall_mem_cons.mpr ⟨lw_p73, List.forall_mem_cons.mpr ⟨lw_p74, List.forall_mem_cons.mpr ⟨lw_p75, List.forall_mem_cons.mpr ⟨lw_p76, List.forall_mem_cons.mpr ⟨lw_p77, List.forall_mem_cons.mpr ⟨lw_p78, List.forall_mem_cons.mpr ⟨lw_p79, fun _ h => absurd h List.not_mem_nil⟩⟩⟩⟩⟩⟩⟩⟩⟩⟩⟩⟩⟩⟩⟩⟩
theorem lw_p80 : lw_okq (⟨"MaypoleGreenModel", "restsOf", "(II)I"⟩, 61) := ⟨⟨by decide +kernel, by decide +kernel⟩, List.mem_of_getElem? (i := 955) (by decide +kernel), List.mem_of_getElem? (i := 1430) (by decide +kernel), List.mem_of_getElem? (i := 1431) (by decide +kernel)⟩
theorem lw_p81 : lw_okq (⟨"MaypoleGreenModel", "plainRests", "(II)I"⟩, 61) := ⟨⟨by decide +kernel, by decide +kernel⟩, List.mem_of_getElem? (i := 955) (by decide +kernel), List.mem_of_getElem? (i := 1434) (by decide +kernel), List.mem_of_getElem? (i := 1435) (by decide +kernel)⟩
theorem lw_p82 : lw_okq (⟨"MaypoleGreenModel", "narrow", "(II)I"⟩, 61) := ⟨⟨by decide +kernel, by decide +kernel⟩, List.mem_of_getElem? (i := 955) (by decide +kernel), List.mem_of_getElem? (i := 1458) (by decide +kernel), List.mem_of_getElem? (i := 1459) (by decide +kernel)⟩
def lw_privs_6 : List (MethodName × Nat) := [(⟨"MaypoleGreenModel", "restsOf", "(II)I"⟩, 61), (⟨"MaypoleGreenModel", "plainRests", "(II)I"⟩, 61), (⟨"MaypoleGreenModel", "narrow", "(II)I"⟩, 61)]
theorem lw_r6 : ∀ q ∈ lw_privs_6, lw_okq q := List.forall_mem_cons.mpr ⟨lw_p80, List.forall_mem_cons.mpr ⟨lw_p81, List.forall_mem_cons.mpr ⟨lw_p82, fun _ h => absurd h List.not_mem_nil⟩⟩⟩
def lw_privs : List (MethodName × Nat) := lw_privs_1 ++ (lw_privs_2 ++ (lw_privs_3 ++ (lw_privs_4 ++ (lw_privs_5 ++ (lw_privs_6)))))
def lw_tbl : List Cond := k2_sels lw_privs ++ tables_1
theorem lw_privs_ok : ∀ q ∈ lw_privs, lw_okq q := by
  show ∀ q ∈ lw_privs_1 ++ (lw_privs_2 ++ (lw_privs_3 ++ (lw_privs_4 ++ (lw_privs_5 ++ (lw_privs_6))))), lw_okq q
  exact List.forall_mem_append.mpr ⟨lw_r1, List.forall_mem_append.mpr ⟨lw_r2, List.forall_mem_append.mpr ⟨lw_r3, List.forall_mem_append.mpr ⟨lw_r4, List.forall_mem_append.mpr ⟨lw_r5, lw_r6⟩⟩⟩⟩⟩
end
section
def RX0 : String := "MaypoleGreen$Acts"
def TX0 : u_T := fun k => match k with
  | 0 => ("MaypoleGreen$Acts", "bodies", "[I", true)
  | _ => ("MaypoleGreen$Acts", "ran", "I", false)
def tyX0 : Nat → FieldType := fun k => match k with
  | 0 => .array .int
  | _ => .int
abbrev wsX00 : List Cond := u_ws RX0 TX0 2
theorem nmX0 : ∀ a, a < 2 → ∀ b, b < 2 → a ≠ b → (TX0 a).2.1 ≠ (TX0 b).2.1 := by decide +kernel
theorem tyX0_ok : ∀ k, k < 2 → parseFieldDescriptor (TX0 k).2.2.1 = some (tyX0 k) := by decide +kernel
abbrev cX0_init : ByteArray := prog_2_method_1_code
def yX0_init : MethodName := ⟨RX0, "<init>", "()V"⟩
abbrev cX0_traced : ByteArray := prog_2_method_2_code
def yX0_traced : MethodName := ⟨RX0, "traced", "(I)I"⟩
abbrev cX0_ask : ByteArray := prog_2_method_3_code
def yX0_ask : MethodName := ⟨RX0, "ask", "(LMaypoleGreen$Person;IIII)I"⟩
abbrev cX0_note : ByteArray := prog_2_method_4_code
def yX0_note : MethodName := ⟨RX0, "note", "(I)V"⟩
abbrev cX0_run : ByteArray := prog_2_method_5_code
def yX0_run : MethodName := ⟨RX0, "run", "(LMaypoleGreen$Person;IIII)I"⟩
def RX1 : String := "MaypoleGreen$Cloth"
def TX1 : u_T := fun k => match k with
  | 0 => ("MaypoleGreen$Cloth", "n", "I", false)
  | 1 => ("MaypoleGreen$Cloth", "rows", "I", false)
  | 2 => ("MaypoleGreen$Cloth", "ribbons", "[I", true)
  | 3 => ("MaypoleGreen$Cloth", "marks", "[I", true)
  | 4 => ("MaypoleGreen$Cloth", "tops", "[I", true)
  | _ => ("MaypoleGreen$Cloth", "colours", "[I", true)
def tyX1 : Nat → FieldType := fun k => match k with
  | 0 => .int
  | 1 => .int
  | 2 => .array .int
  | 3 => .array .int
  | 4 => .array .int
  | _ => .array .int
abbrev wsX10 : List Cond := u_ws RX1 TX1 6
theorem nmX1 : ∀ a, a < 6 → ∀ b, b < 6 → a ≠ b → (TX1 a).2.1 ≠ (TX1 b).2.1 := by decide +kernel
theorem tyX1_ok : ∀ k, k < 6 → parseFieldDescriptor (TX1 k).2.2.1 = some (tyX1 k) := by decide +kernel
abbrev cX1_init : ByteArray := prog_3_method_1_code
def yX1_init : MethodName := ⟨RX1, "<init>", "()V"⟩
abbrev cX1_open : ByteArray := prog_3_method_2_code
def yX1_open : MethodName := ⟨RX1, "open", "(I[I)V"⟩
abbrev cX1_has : ByteArray := prog_3_method_3_code
def yX1_has : MethodName := ⟨RX1, "has", "(II)Z"⟩
abbrev cX1_lay : ByteArray := prog_3_method_4_code
def yX1_lay : MethodName := ⟨RX1, "lay", "(LMaypoleGreen$Floor;)V"⟩
abbrev cX1_isRowOf : ByteArray := prog_3_method_5_code
def yX1_isRowOf : MethodName := ⟨RX1, "isRowOf", "(LMaypoleGreen$Floor;)Z"⟩
abbrev cX1_ribbonAt : ByteArray := prog_3_method_6_code
def yX1_ribbonAt : MethodName := ⟨RX1, "ribbonAt", "(II)I"⟩
abbrev cX1_markAt : ByteArray := prog_3_method_7_code
def yX1_markAt : MethodName := ⟨RX1, "markAt", "(II)I"⟩
abbrev cX1_ribbonOnTop : ByteArray := prog_3_method_8_code
def yX1_ribbonOnTop : MethodName := ⟨RX1, "ribbonOnTop", "(II)I"⟩
abbrev cX1_topRibbon : ByteArray := prog_3_method_9_code
def yX1_topRibbon : MethodName := ⟨RX1, "topRibbon", "(II)I"⟩
abbrev cX1_topAt : ByteArray := prog_3_method_10_code
def yX1_topAt : MethodName := ⟨RX1, "topAt", "(II)I"⟩
abbrev cX1_leastBeat : ByteArray := prog_3_method_11_code
def yX1_leastBeat : MethodName := ⟨RX1, "leastBeat", "()I"⟩
abbrev cX1_beatsBy : ByteArray := prog_3_method_12_code
def yX1_beatsBy : MethodName := ⟨RX1, "beatsBy", "(I)Z"⟩
abbrev cX1_areLike : ByteArray := prog_3_method_13_code
def yX1_areLike : MethodName := ⟨RX1, "areLike", "(II)Z"⟩
def RX2 : String := "MaypoleGreen$Floor"
def TX2 : u_T := fun k => match k with
  | 0 => ("MaypoleGreen$Floor", "n", "I", false)
  | 1 => ("MaypoleGreen$Floor", "steps", "I", false)
  | 2 => ("MaypoleGreen$Floor", "rows", "I", false)
  | 3 => ("MaypoleGreen$Floor", "order", "[I", true)
  | 4 => ("MaypoleGreen$Floor", "left", "[I", true)
  | 5 => ("MaypoleGreen$Floor", "marks", "[I", true)
  | _ => ("MaypoleGreen$Floor", "moved", "[I", true)
def tyX2 : Nat → FieldType := fun k => match k with
  | 0 => .int
  | 1 => .int
  | 2 => .int
  | 3 => .array .int
  | 4 => .array .int
  | 5 => .array .int
  | _ => .array .int
abbrev wsX20 : List Cond := u_ws RX2 TX2 7
theorem nmX2 : ∀ a, a < 7 → ∀ b, b < 7 → a ≠ b → (TX2 a).2.1 ≠ (TX2 b).2.1 := by decide +kernel
theorem tyX2_ok : ∀ k, k < 7 → parseFieldDescriptor (TX2 k).2.2.1 = some (tyX2 k) := by decide +kernel
abbrev cX2_init : ByteArray := prog_4_method_1_code
def yX2_init : MethodName := ⟨RX2, "<init>", "()V"⟩
abbrev cX2_lay : ByteArray := prog_4_method_2_code
def yX2_lay : MethodName := ⟨RX2, "lay", "(I)V"⟩
abbrev cX2_restart : ByteArray := prog_4_method_3_code
def yX2_restart : MethodName := ⟨RX2, "restart", "()V"⟩
abbrev cX2_callByPlaces : ByteArray := prog_4_method_4_code
def yX2_callByPlaces : MethodName := ⟨RX2, "callByPlaces", "()V"⟩
abbrev cX2_unmark : ByteArray := prog_4_method_5_code
def yX2_unmark : MethodName := ⟨RX2, "unmark", "()V"⟩
abbrev cX2_copy : ByteArray := prog_4_method_6_code
def yX2_copy : MethodName := ⟨RX2, "copy", "(LMaypoleGreen$Floor;)V"⟩
abbrev cX2_bringToPlaces : ByteArray := prog_4_method_7_code
def yX2_bringToPlaces : MethodName := ⟨RX2, "bringToPlaces", "([I)V"⟩
abbrev cX2_girthNow : ByteArray := prog_4_method_8_code
def yX2_girthNow : MethodName := ⟨RX2, "girthNow", "()I"⟩
abbrev cX2_take : ByteArray := prog_4_method_9_code
def yX2_take : MethodName := ⟨RX2, "take", "(I)I"⟩
abbrev cX2_takePass : ByteArray := prog_4_method_10_code
def yX2_takePass : MethodName := ⟨RX2, "takePass", "(II)I"⟩
abbrev cX2_takeWalk : ByteArray := prog_4_method_11_code
def yX2_takeWalk : MethodName := ⟨RX2, "takeWalk", "(Z)I"⟩
def RX3 : String := "MaypoleGreen$Form"
def TX3 : u_T := fun k => match k with
  | 0 => ("MaypoleGreen$Form", "turns", "I", false)
  | 1 => ("MaypoleGreen$Form", "count", "I", false)
  | 2 => ("MaypoleGreen$Form", "passes", "[I", true)
  | 3 => ("MaypoleGreen$Form", "word", "[I", true)
  | 4 => ("MaypoleGreen$Form", "wordLength", "I", false)
  | 5 => ("MaypoleGreen$Form", "link", "[I", true)
  | _ => ("MaypoleGreen$Form", "edge", "[I", true)
def tyX3 : Nat → FieldType := fun k => match k with
  | 0 => .int
  | 1 => .int
  | 2 => .array .int
  | 3 => .array .int
  | 4 => .int
  | 5 => .array .int
  | _ => .array .int
abbrev wsX30 : List Cond := u_ws RX3 TX3 7
theorem nmX3 : ∀ a, a < 7 → ∀ b, b < 7 → a ≠ b → (TX3 a).2.1 ≠ (TX3 b).2.1 := by decide +kernel
theorem tyX3_ok : ∀ k, k < 7 → parseFieldDescriptor (TX3 k).2.2.1 = some (tyX3 k) := by decide +kernel
abbrev cX3_init : ByteArray := prog_5_method_1_code
def yX3_init : MethodName := ⟨RX3, "<init>", "()V"⟩
abbrev cX3_cutDown : ByteArray := prog_5_method_2_code
def yX3_cutDown : MethodName := ⟨RX3, "cutDown", "(LMaypoleGreen$Steps;I)Z"⟩
abbrev cX3_meet : ByteArray := prog_5_method_3_code
def yX3_meet : MethodName := ⟨RX3, "meet", "(III)V"⟩
abbrev cX3_linkForward : ByteArray := prog_5_method_4_code
def yX3_linkForward : MethodName := ⟨RX3, "linkForward", "()V"⟩
abbrev cX3_putInOrder : ByteArray := prog_5_method_5_code
def yX3_putInOrder : MethodName := ⟨RX3, "putInOrder", "(I)V"⟩
abbrev cX3_leastFree : ByteArray := prog_5_method_6_code
def yX3_leastFree : MethodName := ⟨RX3, "leastFree", "(I)I"⟩
abbrev cX3_isLike : ByteArray := prog_5_method_7_code
def yX3_isLike : MethodName := ⟨RX3, "isLike", "(LMaypoleGreen$Form;)Z"⟩
def RX4 : String := "MaypoleGreen$Orders"
def TX4 : u_T := fun k => match k with
  | 0 => ("MaypoleGreen$Orders", "goal", "[I", true)
  | 1 => ("MaypoleGreen$Orders", "row", "[I", true)
  | 2 => ("MaypoleGreen$Orders", "way", "[I", true)
  | 3 => ("MaypoleGreen$Orders", "path", "[I", true)
  | _ => ("MaypoleGreen$Orders", "count", "I", false)
def tyX4 : Nat → FieldType := fun k => match k with
  | 0 => .array .int
  | 1 => .array .int
  | 2 => .array .int
  | 3 => .array .int
  | _ => .int
abbrev wsX40 : List Cond := u_ws RX4 TX4 5
theorem nmX4 : ∀ a, a < 5 → ∀ b, b < 5 → a ≠ b → (TX4 a).2.1 ≠ (TX4 b).2.1 := by decide +kernel
theorem tyX4_ok : ∀ k, k < 5 → parseFieldDescriptor (TX4 k).2.2.1 = some (tyX4 k) := by decide +kernel
abbrev cX4_init : ByteArray := prog_6_method_1_code
def yX4_init : MethodName := ⟨RX4, "<init>", "()V"⟩
abbrev cX4_ask : ByteArray := prog_6_method_2_code
def yX4_ask : MethodName := ⟨RX4, "ask", "(LMaypoleGreen$Floor;[I)Z"⟩
abbrev cX4_search : ByteArray := prog_6_method_3_code
def yX4_search : MethodName := ⟨RX4, "search", "(I)V"⟩
abbrev cX4_nearer : ByteArray := prog_6_method_4_code
def yX4_nearer : MethodName := ⟨RX4, "nearer", "(II)I"⟩
abbrev cX4_swap : ByteArray := prog_6_method_5_code
def yX4_swap : MethodName := ⟨RX4, "swap", "(II)V"⟩
abbrev cX4_passesLeft : ByteArray := prog_6_method_6_code
def yX4_passesLeft : MethodName := ⟨RX4, "passesLeft", "(I)I"⟩
abbrev cX4_settleWays : ByteArray := prog_6_method_7_code
def yX4_settleWays : MethodName := ⟨RX4, "settleWays", "(I)V"⟩
def RX5 : String := "MaypoleGreen$Person"
def TX5 : u_T := fun k => match k with
  | 0 => ("MaypoleGreen$Person", "number", "I", true)
  | 1 => ("MaypoleGreen$Person", "kind", "I", true)
  | 2 => ("MaypoleGreen$Person", "reach", "I", true)
  | _ => ("MaypoleGreen$Person", "pace", "I", true)
def tyX5 : Nat → FieldType := fun k => match k with
  | 0 => .int
  | 1 => .int
  | 2 => .int
  | _ => .int
abbrev wsX50 : List Cond := u_ws RX5 TX5 4
theorem nmX5 : ∀ a, a < 4 → ∀ b, b < 4 → a ≠ b → (TX5 a).2.1 ≠ (TX5 b).2.1 := by decide +kernel
theorem tyX5_ok : ∀ k, k < 4 → parseFieldDescriptor (TX5 k).2.2.1 = some (tyX5 k) := by decide +kernel
abbrev cX5_init : ByteArray := prog_7_method_1_code
def yX5_init : MethodName := ⟨RX5, "<init>", "(IIII)V"⟩
abbrev cX5_isOf : ByteArray := prog_7_method_2_code
def yX5_isOf : MethodName := ⟨RX5, "isOf", "(I)Z"⟩
def RX6 : String := "MaypoleGreen$Picture"
def TX6 : u_T := fun k => match k with
  | 0 => ("MaypoleGreen$Picture", "rows", "[I", true)
  | 1 => ("MaypoleGreen$Picture", "places", "[I", true)
  | 2 => ("MaypoleGreen$Picture", "colours", "[I", true)
  | 3 => ("MaypoleGreen$Picture", "count", "I", false)
  | 4 => ("MaypoleGreen$Picture", "asked", "[I", true)
  | 5 => ("MaypoleGreen$Picture", "chosen", "[I", true)
  | _ => ("MaypoleGreen$Picture", "leastWrong", "I", false)
def tyX6 : Nat → FieldType := fun k => match k with
  | 0 => .array .int
  | 1 => .array .int
  | 2 => .array .int
  | 3 => .int
  | 4 => .array .int
  | 5 => .array .int
  | _ => .int
abbrev wsX60 : List Cond := u_ws RX6 TX6 7
theorem nmX6 : ∀ a, a < 7 → ∀ b, b < 7 → a ≠ b → (TX6 a).2.1 ≠ (TX6 b).2.1 := by decide +kernel
theorem tyX6_ok : ∀ k, k < 7 → parseFieldDescriptor (TX6 k).2.2.1 = some (tyX6 k) := by decide +kernel
abbrev cX6_init : ByteArray := prog_8_method_1_code
def yX6_init : MethodName := ⟨RX6, "<init>", "()V"⟩
abbrev cX6_tell : ByteArray := prog_8_method_2_code
def yX6_tell : MethodName := ⟨RX6, "tell", "(III)Z"⟩
abbrev cX6_wrongOn : ByteArray := prog_8_method_3_code
def yX6_wrongOn : MethodName := ⟨RX6, "wrongOn", "(LMaypoleGreen$Cloth;)I"⟩
abbrev cX6_choose : ByteArray := prog_8_method_4_code
def yX6_choose : MethodName := ⟨RX6, "choose", "(LMaypoleGreen$Cloth;I)V"⟩
abbrev cX6_mostAsked : ByteArray := prog_8_method_5_code
def yX6_mostAsked : MethodName := ⟨RX6, "mostAsked", "(II)I"⟩
def RX7 : String := "MaypoleGreen$Reader"
def TX7 : u_T := fun k => match k with
  | 0 => ("MaypoleGreen$Reader", "figures", "[LMaypoleGreen$Steps;", true)
  | 1 => ("MaypoleGreen$Reader", "figureCount", "I", false)
  | 2 => ("MaypoleGreen$Reader", "text", "[I", true)
  | 3 => ("MaypoleGreen$Reader", "length", "I", false)
  | 4 => ("MaypoleGreen$Reader", "out", "LMaypoleGreen$Steps;", true)
  | 5 => ("MaypoleGreen$Reader", "tooLong", "Z", false)
  | 6 => ("MaypoleGreen$Reader", "opened", "[I", true)
  | _ => ("MaypoleGreen$Reader", "depth", "I", false)
def tyX7 : Nat → FieldType := fun k => match k with
  | 0 => .array (.object "MaypoleGreen$Steps")
  | 1 => .int
  | 2 => .array .int
  | 3 => .int
  | 4 => .object "MaypoleGreen$Steps"
  | 5 => .boolean
  | 6 => .array .int
  | _ => .int
abbrev wsX70 : List Cond := u_ws RX7 TX7 8
theorem nmX7 : ∀ a, a < 8 → ∀ b, b < 8 → a ≠ b → (TX7 a).2.1 ≠ (TX7 b).2.1 := by decide +kernel
theorem tyX7_ok : ∀ k, k < 8 → parseFieldDescriptor (TX7 k).2.2.1 = some (tyX7 k) := by decide +kernel
abbrev cX7_init : ByteArray := prog_9_method_1_code
def yX7_init : MethodName := ⟨RX7, "<init>", "()V"⟩
abbrev cX7_figureAt : ByteArray := prog_9_method_2_code
def yX7_figureAt : MethodName := ⟨RX7, "figureAt", "(I)LMaypoleGreen$Steps;"⟩
abbrev cX7_keep : ByteArray := prog_9_method_3_code
def yX7_keep : MethodName := ⟨RX7, "keep", "()I"⟩
abbrev cX7_take : ByteArray := prog_9_method_4_code
def yX7_take : MethodName := ⟨RX7, "take", "(II)Z"⟩
abbrev cX7_parse : ByteArray := prog_9_method_5_code
def yX7_parse : MethodName := ⟨RX7, "parse", "()I"⟩
abbrev cX7_open : ByteArray := prog_9_method_6_code
def yX7_open : MethodName := ⟨RX7, "open", "()I"⟩
abbrev cX7_close : ByteArray := prog_9_method_7_code
def yX7_close : MethodName := ⟨RX7, "close", "(IZ)I"⟩
abbrev cX7_single : ByteArray := prog_9_method_8_code
def yX7_single : MethodName := ⟨RX7, "single", "(I)I"⟩
abbrev cX7_signAt : ByteArray := prog_9_method_9_code
def yX7_signAt : MethodName := ⟨RX7, "signAt", "(I)I"⟩
abbrev cX7_put : ByteArray := prog_9_method_10_code
def yX7_put : MethodName := ⟨RX7, "put", "(I)V"⟩
abbrev cX7_putAll : ByteArray := prog_9_method_11_code
def yX7_putAll : MethodName := ⟨RX7, "putAll", "(LMaypoleGreen$Steps;)V"⟩
abbrev cX7_repeatFrom : ByteArray := prog_9_method_12_code
def yX7_repeatFrom : MethodName := ⟨RX7, "repeatFrom", "(II)V"⟩
abbrev cX7_undoFrom : ByteArray := prog_9_method_13_code
def yX7_undoFrom : MethodName := ⟨RX7, "undoFrom", "(I)V"⟩
def RX8 : String := "MaypoleGreen$Seating"
def TX8 : u_T := fun k => match k with
  | 0 => ("MaypoleGreen$Seating", "n", "I", false)
  | 1 => ("MaypoleGreen$Seating", "numbers", "[I", true)
  | 2 => ("MaypoleGreen$Seating", "reaches", "[I", true)
  | 3 => ("MaypoleGreen$Seating", "paces", "[I", true)
  | 4 => ("MaypoleGreen$Seating", "seated", "[Z", true)
  | 5 => ("MaypoleGreen$Seating", "row", "[I", true)
  | 6 => ("MaypoleGreen$Seating", "best", "[I", true)
  | 7 => ("MaypoleGreen$Seating", "moving", "[I", true)
  | _ => ("MaypoleGreen$Seating", "leastSum", "I", false)
def tyX8 : Nat → FieldType := fun k => match k with
  | 0 => .int
  | 1 => .array .int
  | 2 => .array .int
  | 3 => .array .int
  | 4 => .array .boolean
  | 5 => .array .int
  | 6 => .array .int
  | 7 => .array .int
  | _ => .int
abbrev wsX80 : List Cond := u_ws RX8 TX8 9
theorem nmX8 : ∀ a, a < 9 → ∀ b, b < 9 → a ≠ b → (TX8 a).2.1 ≠ (TX8 b).2.1 := by decide +kernel
theorem tyX8_ok : ∀ k, k < 9 → parseFieldDescriptor (TX8 k).2.2.1 = some (tyX8 k) := by decide +kernel
abbrev cX8_init : ByteArray := prog_10_method_1_code
def yX8_init : MethodName := ⟨RX8, "<init>", "()V"⟩
abbrev cX8_clear : ByteArray := prog_10_method_2_code
def yX8_clear : MethodName := ⟨RX8, "clear", "()V"⟩
abbrev cX8_add : ByteArray := prog_10_method_3_code
def yX8_add : MethodName := ⟨RX8, "add", "(LMaypoleGreen$Person;)V"⟩
abbrev cX8_seatAll : ByteArray := prog_10_method_4_code
def yX8_seatAll : MethodName := ⟨RX8, "seatAll", "()V"⟩
abbrev cX8_seatFrom : ByteArray := prog_10_method_5_code
def yX8_seatFrom : MethodName := ⟨RX8, "seatFrom", "(II)V"⟩
abbrev cX8_apart : ByteArray := prog_10_method_6_code
def yX8_apart : MethodName := ⟨RX8, "apart", "(II)I"⟩
abbrev cX8_numberAt : ByteArray := prog_10_method_7_code
def yX8_numberAt : MethodName := ⟨RX8, "numberAt", "(I)I"⟩
abbrev cX8_spentIn : ByteArray := prog_10_method_8_code
def yX8_spentIn : MethodName := ⟨RX8, "spentIn", "(LMaypoleGreen$Steps;)I"⟩
abbrev cX8_greatestPace : ByteArray := prog_10_method_9_code
def yX8_greatestPace : MethodName := ⟨RX8, "greatestPace", "()I"⟩
abbrev cX8_turn : ByteArray := prog_10_method_10_code
def yX8_turn : MethodName := ⟨RX8, "turn", "(Z)V"⟩
abbrev cX8_change : ByteArray := prog_10_method_11_code
def yX8_change : MethodName := ⟨RX8, "change", "(I)I"⟩
def RX9 : String := "MaypoleGreen$Steps"
def TX9 : u_T := fun k => match k with
  | 0 => ("MaypoleGreen$Steps", "codes", "[I", true)
  | _ => ("MaypoleGreen$Steps", "count", "I", false)
def tyX9 : Nat → FieldType := fun k => match k with
  | 0 => .array .int
  | _ => .int
abbrev wsX90 : List Cond := u_ws RX9 TX9 2
theorem nmX9 : ∀ a, a < 2 → ∀ b, b < 2 → a ≠ b → (TX9 a).2.1 ≠ (TX9 b).2.1 := by decide +kernel
theorem tyX9_ok : ∀ k, k < 2 → parseFieldDescriptor (TX9 k).2.2.1 = some (tyX9 k) := by decide +kernel
abbrev cX9_init : ByteArray := prog_11_method_1_code
def yX9_init : MethodName := ⟨RX9, "<init>", "(I)V"⟩
abbrev cX9_clear : ByteArray := prog_11_method_2_code
def yX9_clear : MethodName := ⟨RX9, "clear", "()V"⟩
abbrev cX9_add : ByteArray := prog_11_method_3_code
def yX9_add : MethodName := ⟨RX9, "add", "(I)Z"⟩
abbrev cX9_codeAt : ByteArray := prog_11_method_4_code
def yX9_codeAt : MethodName := ⟨RX9, "codeAt", "(I)I"⟩
abbrev cX9_walksIn : ByteArray := prog_11_method_5_code
def yX9_walksIn : MethodName := ⟨RX9, "walksIn", "()I"⟩
abbrev cX9_copied : ByteArray := prog_11_method_6_code
def yX9_copied : MethodName := ⟨RX9, "copied", "()LMaypoleGreen$Steps;"⟩
def RX10 : String := "MaypoleGreen$Tape"
def TX10 : u_T := fun k => match k with
  | 0 => ("MaypoleGreen$Tape", "sort", "I", false)
  | 1 => ("MaypoleGreen$Tape", "length", "I", false)
  | _ => ("MaypoleGreen$Tape", "items", "[I", true)
def tyX10 : Nat → FieldType := fun k => match k with
  | 0 => .int
  | 1 => .int
  | _ => .array .int
abbrev wsX100 : List Cond := u_ws RX10 TX10 3
theorem nmX10 : ∀ a, a < 3 → ∀ b, b < 3 → a ≠ b → (TX10 a).2.1 ≠ (TX10 b).2.1 := by decide +kernel
theorem tyX10_ok : ∀ k, k < 3 → parseFieldDescriptor (TX10 k).2.2.1 = some (tyX10 k) := by decide +kernel
abbrev cX10_init : ByteArray := prog_12_method_1_code
def yX10_init : MethodName := ⟨RX10, "<init>", "()V"⟩
abbrev cX10_empty : ByteArray := prog_12_method_2_code
def yX10_empty : MethodName := ⟨RX10, "empty", "()V"⟩
abbrev cX10_become : ByteArray := prog_12_method_3_code
def yX10_become : MethodName := ⟨RX10, "become", "(II)V"⟩
abbrev cX10_cut : ByteArray := prog_12_method_4_code
def yX10_cut : MethodName := ⟨RX10, "cut", "(I)I"⟩
abbrev cX10_holds : ByteArray := prog_12_method_5_code
def yX10_holds : MethodName := ⟨RX10, "holds", "(II)Z"⟩
def RX11 : String := "MaypoleGreen"
def TX11 : u_T := fun k => match k with
  | 0 => ("MaypoleGreen", "people", "[LMaypoleGreen$Person;", true)
  | 1 => ("MaypoleGreen", "peopleCount", "I", false)
  | 2 => ("MaypoleGreen", "acts", "LMaypoleGreen$Acts;", true)
  | 3 => ("MaypoleGreen", "who", "[I", true)
  | 4 => ("MaypoleGreen", "colour", "[I", true)
  | 5 => ("MaypoleGreen", "floor", "LMaypoleGreen$Floor;", true)
  | 6 => ("MaypoleGreen", "dancing", "Z", false)
  | 7 => ("MaypoleGreen", "danced", "LMaypoleGreen$Steps;", true)
  | 8 => ("MaypoleGreen", "cloth", "LMaypoleGreen$Cloth;", true)
  | 9 => ("MaypoleGreen", "picture", "LMaypoleGreen$Picture;", true)
  | 10 => ("MaypoleGreen", "start", "LMaypoleGreen$Floor;", true)
  | 11 => ("MaypoleGreen", "asTold", "LMaypoleGreen$Floor;", true)
  | 12 => ("MaypoleGreen", "trial", "LMaypoleGreen$Floor;", true)
  | 13 => ("MaypoleGreen", "reader", "LMaypoleGreen$Reader;", true)
  | 14 => ("MaypoleGreen", "form", "LMaypoleGreen$Form;", true)
  | 15 => ("MaypoleGreen", "otherForm", "LMaypoleGreen$Form;", true)
  | 16 => ("MaypoleGreen", "orders", "LMaypoleGreen$Orders;", true)
  | 17 => ("MaypoleGreen", "seating", "LMaypoleGreen$Seating;", true)
  | _ => ("MaypoleGreen", "tapes", "[LMaypoleGreen$Tape;", true)
def tyX11 : Nat → FieldType := fun k => match k with
  | 0 => .array (.object "MaypoleGreen$Person")
  | 1 => .int
  | 2 => .object "MaypoleGreen$Acts"
  | 3 => .array .int
  | 4 => .array .int
  | 5 => .object "MaypoleGreen$Floor"
  | 6 => .boolean
  | 7 => .object "MaypoleGreen$Steps"
  | 8 => .object "MaypoleGreen$Cloth"
  | 9 => .object "MaypoleGreen$Picture"
  | 10 => .object "MaypoleGreen$Floor"
  | 11 => .object "MaypoleGreen$Floor"
  | 12 => .object "MaypoleGreen$Floor"
  | 13 => .object "MaypoleGreen$Reader"
  | 14 => .object "MaypoleGreen$Form"
  | 15 => .object "MaypoleGreen$Form"
  | 16 => .object "MaypoleGreen$Orders"
  | 17 => .object "MaypoleGreen$Seating"
  | _ => .array (.object "MaypoleGreen$Tape")
abbrev wsX110 : List Cond := u_ws RX11 TX11 19
theorem nmX11 : ∀ a, a < 19 → ∀ b, b < 19 → a ≠ b → (TX11 a).2.1 ≠ (TX11 b).2.1 := by decide +kernel
theorem tyX11_ok : ∀ k, k < 19 → parseFieldDescriptor (TX11 k).2.2.1 = some (tyX11 k) := by decide +kernel
abbrev cX11_init : ByteArray := prog_1_method_1_code
def yX11_init : MethodName := ⟨RX11, "<init>", "()V"⟩
abbrev cX11_person : ByteArray := prog_1_method_2_code
def yX11_person : MethodName := ⟨RX11, "person", "(III)I"⟩
abbrev cX11_ring : ByteArray := prog_1_method_3_code
def yX11_ring : MethodName := ⟨RX11, "ring", "(I)I"⟩
abbrev cX11_stand : ByteArray := prog_1_method_4_code
def yX11_stand : MethodName := ⟨RX11, "stand", "(II)I"⟩
abbrev cX11_ribbon : ByteArray := prog_1_method_5_code
def yX11_ribbon : MethodName := ⟨RX11, "ribbon", "(III)I"⟩
abbrev cX11_at : ByteArray := prog_1_method_6_code
def yX11_at : MethodName := ⟨RX11, "at", "(II)I"⟩
abbrev cX11_begin : ByteArray := prog_1_method_7_code
def yX11_begin : MethodName := ⟨RX11, "begin", "()I"⟩
abbrev cX11_end : ByteArray := prog_1_method_8_code
def yX11_end : MethodName := ⟨RX11, "end", "()I"⟩
abbrev cX11_pass : ByteArray := prog_1_method_9_code
def yX11_pass : MethodName := ⟨RX11, "pass", "(II)I"⟩
abbrev cX11_walk : ByteArray := prog_1_method_10_code
def yX11_walk : MethodName := ⟨RX11, "walk", "(I)I"⟩
abbrev cX11_girth : ByteArray := prog_1_method_11_code
def yX11_girth : MethodName := ⟨RX11, "girth", "()I"⟩
abbrev cX11_step : ByteArray := prog_1_method_12_code
def yX11_step : MethodName := ⟨RX11, "step", "(I)I"⟩
abbrev cX11_rows : ByteArray := prog_1_method_13_code
def yX11_rows : MethodName := ⟨RX11, "rows", "()I"⟩
abbrev cX11_cloth : ByteArray := prog_1_method_14_code
def yX11_cloth : MethodName := ⟨RX11, "cloth", "(III)I"⟩
abbrev cX11_beat : ByteArray := prog_1_method_15_code
def yX11_beat : MethodName := ⟨RX11, "beat", "()I"⟩
abbrev cX11_picture : ByteArray := prog_1_method_16_code
def yX11_picture : MethodName := ⟨RX11, "picture", "(III)I"⟩
abbrev cX11_pictureless : ByteArray := prog_1_method_17_code
def yX11_pictureless : MethodName := ⟨RX11, "pictureless", "()I"⟩
abbrev cX11_wrong : ByteArray := prog_1_method_18_code
def yX11_wrong : MethodName := ⟨RX11, "wrong", "()I"⟩
abbrev cX11_colours : ByteArray := prog_1_method_19_code
def yX11_colours : MethodName := ⟨RX11, "colours", "(II)I"⟩
abbrev cX11_form : ByteArray := prog_1_method_20_code
def yX11_form : MethodName := ⟨RX11, "form", "(II)I"⟩
abbrev cX11_akin : ByteArray := prog_1_method_21_code
def yX11_akin : MethodName := ⟨RX11, "akin", "(II)I"⟩
abbrev cX11_feed : ByteArray := prog_1_method_22_code
def yX11_feed : MethodName := ⟨RX11, "feed", "(II)I"⟩
abbrev cX11_figure : ByteArray := prog_1_method_23_code
def yX11_figure : MethodName := ⟨RX11, "figure", "()I"⟩
abbrev cX11_told : ByteArray := prog_1_method_24_code
def yX11_told : MethodName := ⟨RX11, "told", "(II)I"⟩
abbrev cX11_dance : ByteArray := prog_1_method_25_code
def yX11_dance : MethodName := ⟨RX11, "dance", "(I)I"⟩
abbrev cX11_right : ByteArray := prog_1_method_26_code
def yX11_right : MethodName := ⟨RX11, "right", "(I)I"⟩
abbrev cX11_slips : ByteArray := prog_1_method_27_code
def yX11_slips : MethodName := ⟨RX11, "slips", "(II)I"⟩
abbrev cX11_fewest : ByteArray := prog_1_method_28_code
def yX11_fewest : MethodName := ⟨RX11, "fewest", "(II)I"⟩
abbrev cX11_set : ByteArray := prog_1_method_29_code
def yX11_set : MethodName := ⟨RX11, "set", "(II)I"⟩
abbrev cX11_spent : ByteArray := prog_1_method_30_code
def yX11_spent : MethodName := ⟨RX11, "spent", "(II)I"⟩
abbrev cX11_act : ByteArray := prog_1_method_31_code
def yX11_act : MethodName := ⟨RX11, "act", "(III)I"⟩
abbrev cX11_trace : ByteArray := prog_1_method_32_code
def yX11_trace : MethodName := ⟨RX11, "trace", "(I)I"⟩
abbrev cX11_taken : ByteArray := prog_1_method_33_code
def yX11_taken : MethodName := ⟨RX11, "taken", "(II)I"⟩
abbrev cX11_count : ByteArray := prog_1_method_34_code
def yX11_count : MethodName := ⟨RX11, "count", "(I)I"⟩
abbrev cX11_tape : ByteArray := prog_1_method_35_code
def yX11_tape : MethodName := ⟨RX11, "tape", "(III)I"⟩
abbrev cX11_item : ByteArray := prog_1_method_36_code
def yX11_item : MethodName := ⟨RX11, "item", "(III)I"⟩
abbrev cX11_read : ByteArray := prog_1_method_37_code
def yX11_read : MethodName := ⟨RX11, "read", "(II)I"⟩
abbrev cX11_shift : ByteArray := prog_1_method_38_code
def yX11_shift : MethodName := ⟨RX11, "shift", "(IIIII)I"⟩
abbrev cX11_isPlace : ByteArray := prog_1_method_39_code
def yX11_isPlace : MethodName := ⟨RX11, "isPlace", "(I)Z"⟩
abbrev cX11_behind : ByteArray := prog_1_method_40_code
def yX11_behind : MethodName := ⟨RX11, "behind", "(II)I"⟩
abbrev cX11_ahead : ByteArray := prog_1_method_41_code
def yX11_ahead : MethodName := ⟨RX11, "ahead", "(II)I"⟩
abbrev cX11_isColour : ByteArray := prog_1_method_42_code
def yX11_isColour : MethodName := ⟨RX11, "isColour", "(I)Z"⟩
abbrev cX11_personAt : ByteArray := prog_1_method_43_code
def yX11_personAt : MethodName := ⟨RX11, "personAt", "(I)LMaypoleGreen$Person;"⟩
abbrev cX11_figureOrDance : ByteArray := prog_1_method_44_code
def yX11_figureOrDance : MethodName := ⟨RX11, "figureOrDance", "(I)LMaypoleGreen$Steps;"⟩
abbrev cX11_tapeAt : ByteArray := prog_1_method_45_code
def yX11_tapeAt : MethodName := ⟨RX11, "tapeAt", "(I)LMaypoleGreen$Tape;"⟩
abbrev cX11_standsInRing : ByteArray := prog_1_method_46_code
def yX11_standsInRing : MethodName := ⟨RX11, "standsInRing", "(I)Z"⟩
abbrev cX11_doStep : ByteArray := prog_1_method_47_code
def yX11_doStep : MethodName := ⟨RX11, "doStep", "(I)I"⟩
abbrev cX11_weaves : ByteArray := prog_1_method_48_code
def yX11_weaves : MethodName := ⟨RX11, "weaves", "(LMaypoleGreen$Floor;I)Z"⟩
abbrev cX11_weavesOn : ByteArray := prog_1_method_49_code
def yX11_weavesOn : MethodName := ⟨RX11, "weavesOn", "(LMaypoleGreen$Floor;LMaypoleGreen$Steps;I)Z"⟩
abbrev cX11_weavesSlipped : ByteArray := prog_1_method_50_code
def yX11_weavesSlipped : MethodName := ⟨RX11, "weavesSlipped", "(LMaypoleGreen$Floor;II)Z"⟩
abbrev cX11_explained : ByteArray := prog_1_method_51_code
def yX11_explained : MethodName := ⟨RX11, "explained", "(LMaypoleGreen$Steps;I)I"⟩
abbrev cX11_seatPeople : ByteArray := prog_1_method_52_code
def yX11_seatPeople : MethodName := ⟨RX11, "seatPeople", "(I)I"⟩
def RX12 : String := "MaypoleGreenModel"
def TX12 : u_T := fun k => match k with
  | 0 => ("MaypoleGreenModel", "people", "I", false)
  | 1 => ("MaypoleGreenModel", "n", "I", false)
  | 2 => ("MaypoleGreenModel", "kind", "[I", true)
  | 3 => ("MaypoleGreenModel", "reach", "[I", true)
  | 4 => ("MaypoleGreenModel", "pace", "[I", true)
  | 5 => ("MaypoleGreenModel", "who", "[I", true)
  | 6 => ("MaypoleGreenModel", "hangs", "[I", true)
  | 7 => ("MaypoleGreenModel", "colour", "[I", true)
  | 8 => ("MaypoleGreenModel", "length", "[I", true)
  | 9 => ("MaypoleGreenModel", "begun", "[I", true)
  | 10 => ("MaypoleGreenModel", "clothColour", "[I", true)
  | 11 => ("MaypoleGreenModel", "isDance", "Z", false)
  | 12 => ("MaypoleGreenModel", "asideColour", "[I", true)
  | 13 => ("MaypoleGreenModel", "asideLength", "[I", true)
  | 14 => ("MaypoleGreenModel", "steps", "I", false)
  | 15 => ("MaypoleGreenModel", "rows", "I", false)
  | 16 => ("MaypoleGreenModel", "step", "[I", true)
  | 17 => ("MaypoleGreenModel", "mark", "[I", true)
  | 18 => ("MaypoleGreenModel", "clothRibbon", "[I", true)
  | 19 => ("MaypoleGreenModel", "clothMark", "[I", true)
  | 20 => ("MaypoleGreenModel", "things", "I", false)
  | 21 => ("MaypoleGreenModel", "thingRow", "[I", true)
  | 22 => ("MaypoleGreenModel", "thingPlace", "[I", true)
  | 23 => ("MaypoleGreenModel", "thingColour", "[I", true)
  | 24 => ("MaypoleGreenModel", "guess", "[I", true)
  | 25 => ("MaypoleGreenModel", "bestGuess", "[I", true)
  | 26 => ("MaypoleGreenModel", "figures", "I", false)
  | 27 => ("MaypoleGreenModel", "fed", "I", false)
  | 28 => ("MaypoleGreenModel", "many", "[I", true)
  | 29 => ("MaypoleGreenModel", "told", "[I", true)
  | 30 => ("MaypoleGreenModel", "text", "[I", true)
  | 31 => ("MaypoleGreenModel", "spot", "I", false)
  | 32 => ("MaypoleGreenModel", "isTooMany", "Z", false)
  | 33 => ("MaypoleGreenModel", "opened", "[I", true)
  | 34 => ("MaypoleGreenModel", "items", "[I", true)
  | 35 => ("MaypoleGreenModel", "form", "[I", true)
  | 36 => ("MaypoleGreenModel", "other", "[I", true)
  | 37 => ("MaypoleGreenModel", "formMany", "I", false)
  | 38 => ("MaypoleGreenModel", "turns", "I", false)
  | 39 => ("MaypoleGreenModel", "tryHangs", "[I", true)
  | 40 => ("MaypoleGreenModel", "tryLength", "[I", true)
  | 41 => ("MaypoleGreenModel", "tryMark", "[I", true)
  | 42 => ("MaypoleGreenModel", "tryRows", "I", false)
  | 43 => ("MaypoleGreenModel", "trySteps", "I", false)
  | 44 => ("MaypoleGreenModel", "order", "[I", true)
  | 45 => ("MaypoleGreenModel", "goal", "[I", true)
  | 46 => ("MaypoleGreenModel", "far", "[I", true)
  | 47 => ("MaypoleGreenModel", "line", "[I", true)
  | 48 => ("MaypoleGreenModel", "route", "[I", true)
  | 49 => ("MaypoleGreenModel", "routeMany", "I", false)
  | 50 => ("MaypoleGreenModel", "digits", "[I", true)
  | 51 => ("MaypoleGreenModel", "member", "[I", true)
  | 52 => ("MaypoleGreenModel", "seat", "[I", true)
  | 53 => ("MaypoleGreenModel", "bestSeat", "[I", true)
  | 54 => ("MaypoleGreenModel", "bestSum", "I", false)
  | 55 => ("MaypoleGreenModel", "ran", "I", false)
  | 56 => ("MaypoleGreenModel", "bodies", "[I", true)
  | 57 => ("MaypoleGreenModel", "sort", "[I", true)
  | 58 => ("MaypoleGreenModel", "size", "[I", true)
  | 59 => ("MaypoleGreenModel", "item", "[I", true)
  | _ => ("MaypoleGreenModel", "aside", "[I", true)
def tyX12 : Nat → FieldType := fun k => match k with
  | 0 => .int
  | 1 => .int
  | 2 => .array .int
  | 3 => .array .int
  | 4 => .array .int
  | 5 => .array .int
  | 6 => .array .int
  | 7 => .array .int
  | 8 => .array .int
  | 9 => .array .int
  | 10 => .array .int
  | 11 => .boolean
  | 12 => .array .int
  | 13 => .array .int
  | 14 => .int
  | 15 => .int
  | 16 => .array .int
  | 17 => .array .int
  | 18 => .array .int
  | 19 => .array .int
  | 20 => .int
  | 21 => .array .int
  | 22 => .array .int
  | 23 => .array .int
  | 24 => .array .int
  | 25 => .array .int
  | 26 => .int
  | 27 => .int
  | 28 => .array .int
  | 29 => .array .int
  | 30 => .array .int
  | 31 => .int
  | 32 => .boolean
  | 33 => .array .int
  | 34 => .array .int
  | 35 => .array .int
  | 36 => .array .int
  | 37 => .int
  | 38 => .int
  | 39 => .array .int
  | 40 => .array .int
  | 41 => .array .int
  | 42 => .int
  | 43 => .int
  | 44 => .array .int
  | 45 => .array .int
  | 46 => .array .int
  | 47 => .array .int
  | 48 => .array .int
  | 49 => .int
  | 50 => .array .int
  | 51 => .array .int
  | 52 => .array .int
  | 53 => .array .int
  | 54 => .int
  | 55 => .int
  | 56 => .array .int
  | 57 => .array .int
  | 58 => .array .int
  | 59 => .array .int
  | _ => .array .int
abbrev wsX120 : List Cond := u_ws RX12 TX12 61
theorem nmX12 : ∀ a, a < 61 → ∀ b, b < 61 → a ≠ b → (TX12 a).2.1 ≠ (TX12 b).2.1 := by decide +kernel
theorem tyX12_ok : ∀ k, k < 61 → parseFieldDescriptor (TX12 k).2.2.1 = some (tyX12 k) := by decide +kernel
abbrev cX12_init : ByteArray := prog_14_method_1_code
def yX12_init : MethodName := ⟨RX12, "<init>", "()V"⟩
abbrev cX12_in : ByteArray := prog_14_method_2_code
def yX12_in : MethodName := ⟨RX12, "in", "(III)Z"⟩
abbrev cX12_abs : ByteArray := prog_14_method_3_code
def yX12_abs : MethodName := ⟨RX12, "abs", "(I)I"⟩
abbrev cX12_isPerson : ByteArray := prog_14_method_4_code
def yX12_isPerson : MethodName := ⟨RX12, "isPerson", "(I)Z"⟩
abbrev cX12_isPlace : ByteArray := prog_14_method_5_code
def yX12_isPlace : MethodName := ⟨RX12, "isPlace", "(I)Z"⟩
abbrev cX12_person : ByteArray := prog_14_method_6_code
def yX12_person : MethodName := ⟨RX12, "person", "(III)I"⟩
abbrev cX12_ring : ByteArray := prog_14_method_7_code
def yX12_ring : MethodName := ⟨RX12, "ring", "(I)I"⟩
abbrev cX12_stand : ByteArray := prog_14_method_8_code
def yX12_stand : MethodName := ⟨RX12, "stand", "(II)I"⟩
abbrev cX12_ribbon : ByteArray := prog_14_method_9_code
def yX12_ribbon : MethodName := ⟨RX12, "ribbon", "(III)I"⟩
abbrev cX12_at : ByteArray := prog_14_method_10_code
def yX12_at : MethodName := ⟨RX12, "at", "(II)I"⟩
abbrev cX12_begin : ByteArray := prog_14_method_11_code
def yX12_begin : MethodName := ⟨RX12, "begin", "()I"⟩
abbrev cX12_end : ByteArray := prog_14_method_12_code
def yX12_end : MethodName := ⟨RX12, "end", "()I"⟩
abbrev cX12_after : ByteArray := prog_14_method_13_code
def yX12_after : MethodName := ⟨RX12, "after", "(I)I"⟩
abbrev cX12_ahead : ByteArray := prog_14_method_14_code
def yX12_ahead : MethodName := ⟨RX12, "ahead", "(I)I"⟩
abbrev cX12_girth : ByteArray := prog_14_method_15_code
def yX12_girth : MethodName := ⟨RX12, "girth", "()I"⟩
abbrev cX12_pass : ByteArray := prog_14_method_16_code
def yX12_pass : MethodName := ⟨RX12, "pass", "(II)I"⟩
abbrev cX12_turn : ByteArray := prog_14_method_17_code
def yX12_turn : MethodName := ⟨RX12, "turn", "([II)V"⟩
abbrev cX12_walk : ByteArray := prog_14_method_18_code
def yX12_walk : MethodName := ⟨RX12, "walk", "(I)I"⟩
abbrev cX12_step : ByteArray := prog_14_method_19_code
def yX12_step : MethodName := ⟨RX12, "step", "(I)I"⟩
abbrev cX12_rows : ByteArray := prog_14_method_20_code
def yX12_rows : MethodName := ⟨RX12, "rows", "()I"⟩
abbrev cX12_topRibbon : ByteArray := prog_14_method_21_code
def yX12_topRibbon : MethodName := ⟨RX12, "topRibbon", "(II)I"⟩
abbrev cX12_cloth : ByteArray := prog_14_method_22_code
def yX12_cloth : MethodName := ⟨RX12, "cloth", "(III)I"⟩
abbrev cX12_areLike : ByteArray := prog_14_method_23_code
def yX12_areLike : MethodName := ⟨RX12, "areLike", "(II)Z"⟩
abbrev cX12_beat : ByteArray := prog_14_method_24_code
def yX12_beat : MethodName := ⟨RX12, "beat", "()I"⟩
abbrev cX12_picture : ByteArray := prog_14_method_25_code
def yX12_picture : MethodName := ⟨RX12, "picture", "(III)I"⟩
abbrev cX12_pictureless : ByteArray := prog_14_method_26_code
def yX12_pictureless : MethodName := ⟨RX12, "pictureless", "()I"⟩
abbrev cX12_wrongWith : ByteArray := prog_14_method_27_code
def yX12_wrongWith : MethodName := ⟨RX12, "wrongWith", "([I)I"⟩
abbrev cX12_wrong : ByteArray := prog_14_method_28_code
def yX12_wrong : MethodName := ⟨RX12, "wrong", "()I"⟩
abbrev cX12_colours : ByteArray := prog_14_method_29_code
def yX12_colours : MethodName := ⟨RX12, "colours", "(II)I"⟩
abbrev cX12_isFigure : ByteArray := prog_14_method_30_code
def yX12_isFigure : MethodName := ⟨RX12, "isFigure", "(I)Z"⟩
abbrev cX12_feed : ByteArray := prog_14_method_31_code
def yX12_feed : MethodName := ⟨RX12, "feed", "(II)I"⟩
abbrev cX12_add : ByteArray := prog_14_method_32_code
def yX12_add : MethodName := ⟨RX12, "add", "(I)V"⟩
abbrev cX12_undoing : ByteArray := prog_14_method_33_code
def yX12_undoing : MethodName := ⟨RX12, "undoing", "(I)I"⟩
abbrev cX12_undo : ByteArray := prog_14_method_34_code
def yX12_undo : MethodName := ⟨RX12, "undo", "(I)V"⟩
abbrev cX12_repeat : ByteArray := prog_14_method_35_code
def yX12_repeat : MethodName := ⟨RX12, "repeat", "(II)V"⟩
abbrev cX12_next : ByteArray := prog_14_method_36_code
def yX12_next : MethodName := ⟨RX12, "next", "()I"⟩
abbrev cX12_reads : ByteArray := prog_14_method_37_code
def yX12_reads : MethodName := ⟨RX12, "reads", "()Z"⟩
abbrev cX12_figure : ByteArray := prog_14_method_38_code
def yX12_figure : MethodName := ⟨RX12, "figure", "()I"⟩
abbrev cX12_told : ByteArray := prog_14_method_39_code
def yX12_told : MethodName := ⟨RX12, "told", "(II)I"⟩
abbrev cX12_dance : ByteArray := prog_14_method_40_code
def yX12_dance : MethodName := ⟨RX12, "dance", "(I)I"⟩
abbrev cX12_stepOf : ByteArray := prog_14_method_41_code
def yX12_stepOf : MethodName := ⟨RX12, "stepOf", "(II)I"⟩
abbrev cX12_stepsOf : ByteArray := prog_14_method_42_code
def yX12_stepsOf : MethodName := ⟨RX12, "stepsOf", "(I)I"⟩
abbrev cX12_areFar : ByteArray := prog_14_method_43_code
def yX12_areFar : MethodName := ⟨RX12, "areFar", "(II)Z"⟩
abbrev cX12_findForm : ByteArray := prog_14_method_44_code
def yX12_findForm : MethodName := ⟨RX12, "findForm", "(I)Z"⟩
abbrev cX12_take : ByteArray := prog_14_method_45_code
def yX12_take : MethodName := ⟨RX12, "take", "(I)V"⟩
abbrev cX12_bringLeast : ByteArray := prog_14_method_46_code
def yX12_bringLeast : MethodName := ⟨RX12, "bringLeast", "(I)V"⟩
abbrev cX12_form : ByteArray := prog_14_method_47_code
def yX12_form : MethodName := ⟨RX12, "form", "(II)I"⟩
abbrev cX12_akin : ByteArray := prog_14_method_48_code
def yX12_akin : MethodName := ⟨RX12, "akin", "(II)I"⟩
abbrev cX12_tryBegin : ByteArray := prog_14_method_49_code
def yX12_tryBegin : MethodName := ⟨RX12, "tryBegin", "()V"⟩
abbrev cX12_tryPass : ByteArray := prog_14_method_50_code
def yX12_tryPass : MethodName := ⟨RX12, "tryPass", "(II)Z"⟩
abbrev cX12_tryWalk : ByteArray := prog_14_method_51_code
def yX12_tryWalk : MethodName := ⟨RX12, "tryWalk", "(I)Z"⟩
abbrev cX12_tryStep : ByteArray := prog_14_method_52_code
def yX12_tryStep : MethodName := ⟨RX12, "tryStep", "(I)Z"⟩
abbrev cX12_makes : ByteArray := prog_14_method_53_code
def yX12_makes : MethodName := ⟨RX12, "makes", "(III)Z"⟩
abbrev cX12_right : ByteArray := prog_14_method_54_code
def yX12_right : MethodName := ⟨RX12, "right", "(I)I"⟩
abbrev cX12_slips : ByteArray := prog_14_method_55_code
def yX12_slips : MethodName := ⟨RX12, "slips", "(II)I"⟩
abbrev cX12_rank : ByteArray := prog_14_method_56_code
def yX12_rank : MethodName := ⟨RX12, "rank", "([I)I"⟩
abbrev cX12_unrank : ByteArray := prog_14_method_57_code
def yX12_unrank : MethodName := ⟨RX12, "unrank", "(I[I)V"⟩
abbrev cX12_swap : ByteArray := prog_14_method_58_code
def yX12_swap : MethodName := ⟨RX12, "swap", "([II)V"⟩
abbrev cX12_findFar : ByteArray := prog_14_method_59_code
def yX12_findFar : MethodName := ⟨RX12, "findFar", "()V"⟩
abbrev cX12_fewest : ByteArray := prog_14_method_60_code
def yX12_fewest : MethodName := ⟨RX12, "fewest", "(II)I"⟩
abbrev cX12_findSet : ByteArray := prog_14_method_61_code
def yX12_findSet : MethodName := ⟨RX12, "findSet", "(I)I"⟩
abbrev cX12_set : ByteArray := prog_14_method_62_code
def yX12_set : MethodName := ⟨RX12, "set", "(II)I"⟩
abbrev cX12_spent : ByteArray := prog_14_method_63_code
def yX12_spent : MethodName := ⟨RX12, "spent", "(II)I"⟩
abbrev cX12_body : ByteArray := prog_14_method_64_code
def yX12_body : MethodName := ⟨RX12, "body", "(I)V"⟩
abbrev cX12_plainGreets : ByteArray := prog_14_method_65_code
def yX12_plainGreets : MethodName := ⟨RX12, "plainGreets", "(II)I"⟩
abbrev cX12_greetsOf : ByteArray := prog_14_method_66_code
def yX12_greetsOf : MethodName := ⟨RX12, "greetsOf", "(II)I"⟩
abbrev cX12_plainLeads : ByteArray := prog_14_method_67_code
def yX12_plainLeads : MethodName := ⟨RX12, "plainLeads", "(II)I"⟩
abbrev cX12_leaderLeads : ByteArray := prog_14_method_68_code
def yX12_leaderLeads : MethodName := ⟨RX12, "leaderLeads", "(II)I"⟩
abbrev cX12_leadsOf : ByteArray := prog_14_method_69_code
def yX12_leadsOf : MethodName := ⟨RX12, "leadsOf", "(II)I"⟩
abbrev cX12_plainRests : ByteArray := prog_14_method_70_code
def yX12_plainRests : MethodName := ⟨RX12, "plainRests", "(II)I"⟩
abbrev cX12_restsOf : ByteArray := prog_14_method_71_code
def yX12_restsOf : MethodName := ⟨RX12, "restsOf", "(II)I"⟩
abbrev cX12_act : ByteArray := prog_14_method_72_code
def yX12_act : MethodName := ⟨RX12, "act", "(III)I"⟩
abbrev cX12_trace : ByteArray := prog_14_method_73_code
def yX12_trace : MethodName := ⟨RX12, "trace", "(I)I"⟩
abbrev cX12_taken : ByteArray := prog_14_method_74_code
def yX12_taken : MethodName := ⟨RX12, "taken", "(II)I"⟩
abbrev cX12_count : ByteArray := prog_14_method_75_code
def yX12_count : MethodName := ⟨RX12, "count", "(I)I"⟩
abbrev cX12_isTape : ByteArray := prog_14_method_76_code
def yX12_isTape : MethodName := ⟨RX12, "isTape", "(I)Z"⟩
abbrev cX12_tape : ByteArray := prog_14_method_77_code
def yX12_tape : MethodName := ⟨RX12, "tape", "(III)I"⟩
abbrev cX12_narrow : ByteArray := prog_14_method_78_code
def yX12_narrow : MethodName := ⟨RX12, "narrow", "(II)I"⟩
abbrev cX12_item : ByteArray := prog_14_method_79_code
def yX12_item : MethodName := ⟨RX12, "item", "(III)I"⟩
abbrev cX12_read : ByteArray := prog_14_method_80_code
def yX12_read : MethodName := ⟨RX12, "read", "(II)I"⟩
abbrev cX12_shift : ByteArray := prog_14_method_81_code
def yX12_shift : MethodName := ⟨RX12, "shift", "(IIIII)I"⟩
def RJ6 : String := "java/lang/Integer"
def TJ6 : u_T := fun k => match k with
  | _ => ("", "", "", false)
def tyJ6 : Nat → FieldType := fun k => match k with
  | _ => .int
abbrev cJ6_bitCount_0f7a4 : ByteArray := prog_15_method_49_code
def yJ6_bitCount_0f7a4 : MethodName := ⟨RJ6, "bitCount", "(I)I"⟩
def RJ9 : String := "java/lang/Math"
def TJ9 : u_T := fun k => match k with
  | _ => ("", "", "", false)
def tyJ9 : Nat → FieldType := fun k => match k with
  | _ => .int
abbrev cJ9_floorDiv_7cf53 : ByteArray := prog_16_method_47_code
def yJ9_floorDiv_7cf53 : MethodName := ⟨RJ9, "floorDiv", "(II)I"⟩
abbrev cJ9_floorMod_7cf53 : ByteArray := prog_16_method_50_code
def yJ9_floorMod_7cf53 : MethodName := ⟨RJ9, "floorMod", "(II)I"⟩
abbrev cJ9_abs_0f7a4 : ByteArray := prog_16_method_59_code
def yJ9_abs_0f7a4 : MethodName := ⟨RJ9, "abs", "(I)I"⟩
abbrev cJ9_max_7cf53 : ByteArray := prog_16_method_65_code
def yJ9_max_7cf53 : MethodName := ⟨RJ9, "max", "(II)I"⟩
def RJ10 : String := "java/lang/System"
def TJ10 : u_T := fun k => match k with
  | _ => ("", "", "", false)
def tyJ10 : Nat → FieldType := fun k => match k with
  | _ => .int
def RJ7 : String := "java/util/Arrays"
def TJ7 : u_T := fun k => match k with
  | _ => ("", "", "", false)
def tyJ7 : Nat → FieldType := fun k => match k with
  | _ => .int
abbrev cJ7_fill_53178 : ByteArray := prog_18_method_103_code
def yJ7_fill_53178 : MethodName := ⟨RJ7, "fill", "([II)V"⟩
abbrev cJ7_fill_49daa : ByteArray := prog_18_method_111_code
def yJ7_fill_49daa : MethodName := ⟨RJ7, "fill", "([ZZ)V"⟩
def RL : String := "MaypoleGreenLaw"
abbrev cL_law : ByteArray := code
def yL_law : MethodName := ⟨RL, "law", "([I)Z"⟩
abbrev vwCl : List vw_C := [(RX0, TX0, 2), (RX1, TX1, 6), (RX2, TX2, 7), (RX3, TX3, 7), (RX4, TX4, 5), (RX5, TX5, 4), (RX6, TX6, 7), (RX7, TX7, 8), (RX8, TX8, 9), (RX9, TX9, 2), (RX10, TX10, 3), (RX11, TX11, 19), (RX12, TX12, 61)]
end
section
theorem dX0_init_0 : decode cX0_init 0 = .ok (.aload_n 0, 1) := by decide +kernel
theorem dX0_init_1 : decode cX0_init 1 = .ok (.invokespecial 3, 3) := by decide +kernel
theorem dX0_init_4 : decode cX0_init 4 = .ok (.aload_n 0, 1) := by decide +kernel
theorem dX0_init_5 : decode cX0_init 5 = .ok (.bipush 20, 2) := by decide +kernel
theorem dX0_init_7 : decode cX0_init 7 = .ok (.newarray .int, 2) := by decide +kernel
theorem dX0_init_9 : decode cX0_init 9 = .ok (.putfield 11, 3) := by decide +kernel
theorem dX0_init_12 : decode cX0_init 12 = .ok (.aload_n 0, 1) := by decide +kernel
theorem dX0_init_13 : decode cX0_init 13 = .ok (.iconst 0, 1) := by decide +kernel
theorem dX0_init_14 : decode cX0_init 14 = .ok (.putfield 15, 3) := by decide +kernel
theorem dX0_init_17 : decode cX0_init 17 = .ok (.return_, 1) := by decide +kernel
theorem dX0_traced_0 : decode cX0_traced 0 = .ok (.iload_n 1, 1) := by decide +kernel
theorem dX0_traced_1 : decode cX0_traced 1 = .ok (.ifCond .lt 26, 3) := by decide +kernel
theorem dX0_traced_4 : decode cX0_traced 4 = .ok (.iload_n 1, 1) := by decide +kernel
theorem dX0_traced_5 : decode cX0_traced 5 = .ok (.aload_n 0, 1) := by decide +kernel
theorem dX0_traced_6 : decode cX0_traced 6 = .ok (.getfield 15, 3) := by decide +kernel
theorem dX0_traced_9 : decode cX0_traced 9 = .ok (.if_icmp .ge 18, 3) := by decide +kernel
theorem dX0_traced_12 : decode cX0_traced 12 = .ok (.iload_n 1, 1) := by decide +kernel
theorem dX0_traced_13 : decode cX0_traced 13 = .ok (.bipush 20, 2) := by decide +kernel
theorem dX0_traced_15 : decode cX0_traced 15 = .ok (.if_icmp .ge 12, 3) := by decide +kernel
theorem dX0_traced_18 : decode cX0_traced 18 = .ok (.aload_n 0, 1) := by decide +kernel
theorem dX0_traced_19 : decode cX0_traced 19 = .ok (.getfield 11, 3) := by decide +kernel
theorem dX0_traced_22 : decode cX0_traced 22 = .ok (.iload_n 1, 1) := by decide +kernel
theorem dX0_traced_23 : decode cX0_traced 23 = .ok (.iaload, 1) := by decide +kernel
theorem dX0_traced_24 : decode cX0_traced 24 = .ok (.goto 4, 3) := by decide +kernel
theorem dX0_traced_27 : decode cX0_traced 27 = .ok (.iconst (-1), 1) := by decide +kernel
theorem dX0_traced_28 : decode cX0_traced 28 = .ok (.ireturn, 1) := by decide +kernel
theorem dX0_ask_0 : decode cX0_ask 0 = .ok (.iload_n 2, 1) := by decide +kernel
theorem dX0_ask_1 : decode cX0_ask 1 = .ok (.istore 6, 2) := by decide +kernel
theorem dX0_ask_3 : decode cX0_ask 3 = .ok (.iconst 0, 1) := by decide +kernel
theorem dX0_ask_4 : decode cX0_ask 4 = .ok (.istore 7, 2) := by decide +kernel
theorem dX0_ask_6 : decode cX0_ask 6 = .ok (.iload 7, 2) := by decide +kernel
theorem dX0_ask_8 : decode cX0_ask 8 = .ok (.iconst 5, 1) := by decide +kernel
theorem dX0_ask_9 : decode cX0_ask 9 = .ok (.if_icmp .ge 35, 3) := by decide +kernel
theorem dX0_ask_12 : decode cX0_ask 12 = .ok (.iload 6, 2) := by decide +kernel
theorem dX0_ask_14 : decode cX0_ask 14 = .ok (.ifCond .le 30, 3) := by decide +kernel
theorem dX0_ask_17 : decode cX0_ask 17 = .ok (.getstatic 19, 3) := by decide +kernel
theorem dX0_ask_20 : decode cX0_ask 20 = .ok (.iconst 3, 1) := by decide +kernel
theorem dX0_ask_21 : decode cX0_ask 21 = .ok (.iload 6, 2) := by decide +kernel
theorem dX0_ask_23 : decode cX0_ask 23 = .ok (.imul, 1) := by decide +kernel
theorem dX0_ask_24 : decode cX0_ask 24 = .ok (.iload_n 3, 1) := by decide +kernel
theorem dX0_ask_25 : decode cX0_ask 25 = .ok (.iadd, 1) := by decide +kernel
theorem dX0_ask_26 : decode cX0_ask 26 = .ok (.iaload, 1) := by decide +kernel
theorem dX0_ask_27 : decode cX0_ask 27 = .ok (.ifCond .ne 17, 3) := by decide +kernel
theorem dX0_ask_30 : decode cX0_ask 30 = .ok (.getstatic 22, 3) := by decide +kernel
theorem dX0_ask_33 : decode cX0_ask 33 = .ok (.iload 6, 2) := by decide +kernel
theorem dX0_ask_35 : decode cX0_ask 35 = .ok (.iaload, 1) := by decide +kernel
theorem dX0_ask_36 : decode cX0_ask 36 = .ok (.istore 6, 2) := by decide +kernel
theorem dX0_ask_38 : decode cX0_ask 38 = .ok (.iinc 7 1, 3) := by decide +kernel
theorem dX0_ask_41 : decode cX0_ask 41 = .ok (.goto (-35), 3) := by decide +kernel
theorem dX0_ask_44 : decode cX0_ask 44 = .ok (.iload 6, 2) := by decide +kernel
theorem dX0_ask_46 : decode cX0_ask 46 = .ok (.ifCond .lt 10, 3) := by decide +kernel
theorem dX0_ask_49 : decode cX0_ask 49 = .ok (.iload 5, 2) := by decide +kernel
theorem dX0_ask_51 : decode cX0_ask 51 = .ok (.bipush 40, 2) := by decide +kernel
theorem dX0_ask_53 : decode cX0_ask 53 = .ok (.if_icmp .le 5, 3) := by decide +kernel
theorem dX0_ask_56 : decode cX0_ask 56 = .ok (.iconst 0, 1) := by decide +kernel
theorem dX0_ask_57 : decode cX0_ask 57 = .ok (.ireturn, 1) := by decide +kernel
theorem dX0_ask_58 : decode cX0_ask 58 = .ok (.getstatic 19, 3) := by decide +kernel
theorem dX0_ask_61 : decode cX0_ask 61 = .ok (.iconst 3, 1) := by decide +kernel
theorem dX0_ask_62 : decode cX0_ask 62 = .ok (.iload 6, 2) := by decide +kernel
theorem dX0_ask_64 : decode cX0_ask 64 = .ok (.imul, 1) := by decide +kernel
theorem dX0_ask_65 : decode cX0_ask 65 = .ok (.iload_n 3, 1) := by decide +kernel
theorem dX0_ask_66 : decode cX0_ask 66 = .ok (.iadd, 1) := by decide +kernel
theorem dX0_ask_67 : decode cX0_ask 67 = .ok (.iaload, 1) := by decide +kernel
theorem dX0_ask_68 : decode cX0_ask 68 = .ok (.istore 7, 2) := by decide +kernel
theorem dX0_ask_70 : decode cX0_ask 70 = .ok (.aload_n 0, 1) := by decide +kernel
theorem dX0_ask_71 : decode cX0_ask 71 = .ok (.iload 7, 2) := by decide +kernel
theorem dX0_ask_73 : decode cX0_ask 73 = .ok (.invokevirtual 25, 3) := by decide +kernel
theorem dX0_ask_76 : decode cX0_ask 76 = .ok (.aload_n 0, 1) := by decide +kernel
theorem dX0_ask_77 : decode cX0_ask 77 = .ok (.aload_n 1, 1) := by decide +kernel
theorem dX0_ask_78 : decode cX0_ask 78 = .ok (.iload 7, 2) := by decide +kernel
theorem dX0_ask_80 : decode cX0_ask 80 = .ok (.getstatic 22, 3) := by decide +kernel
theorem dX0_ask_83 : decode cX0_ask 83 = .ok (.iload 6, 2) := by decide +kernel
theorem dX0_ask_85 : decode cX0_ask 85 = .ok (.iaload, 1) := by decide +kernel
theorem dX0_ask_86 : decode cX0_ask 86 = .ok (.iload 4, 2) := by decide +kernel
theorem dX0_ask_88 : decode cX0_ask 88 = .ok (.iload 5, 2) := by decide +kernel
theorem dX0_ask_90 : decode cX0_ask 90 = .ok (.iconst 1, 1) := by decide +kernel
theorem dX0_ask_91 : decode cX0_ask 91 = .ok (.iadd, 1) := by decide +kernel
theorem dX0_ask_92 : decode cX0_ask 92 = .ok (.invokevirtual 29, 3) := by decide +kernel
theorem dX0_ask_95 : decode cX0_ask 95 = .ok (.ireturn, 1) := by decide +kernel
theorem dX0_note_0 : decode cX0_note 0 = .ok (.aload_n 0, 1) := by decide +kernel
theorem dX0_note_1 : decode cX0_note 1 = .ok (.getfield 15, 3) := by decide +kernel
theorem dX0_note_4 : decode cX0_note 4 = .ok (.bipush 20, 2) := by decide +kernel
theorem dX0_note_6 : decode cX0_note 6 = .ok (.if_icmp .ge 13, 3) := by decide +kernel
theorem dX0_note_9 : decode cX0_note 9 = .ok (.aload_n 0, 1) := by decide +kernel
theorem dX0_note_10 : decode cX0_note 10 = .ok (.getfield 11, 3) := by decide +kernel
theorem dX0_note_13 : decode cX0_note 13 = .ok (.aload_n 0, 1) := by decide +kernel
theorem dX0_note_14 : decode cX0_note 14 = .ok (.getfield 15, 3) := by decide +kernel
theorem dX0_note_17 : decode cX0_note 17 = .ok (.iload_n 1, 1) := by decide +kernel
theorem dX0_note_18 : decode cX0_note 18 = .ok (.iastore, 1) := by decide +kernel
theorem dX0_note_19 : decode cX0_note 19 = .ok (.aload_n 0, 1) := by decide +kernel
theorem dX0_note_20 : decode cX0_note 20 = .ok (.dup, 1) := by decide +kernel
theorem dX0_note_21 : decode cX0_note 21 = .ok (.getfield 15, 3) := by decide +kernel
theorem dX0_note_24 : decode cX0_note 24 = .ok (.iconst 1, 1) := by decide +kernel
theorem dX0_note_25 : decode cX0_note 25 = .ok (.iadd, 1) := by decide +kernel
theorem dX0_note_26 : decode cX0_note 26 = .ok (.putfield 15, 3) := by decide +kernel
theorem dX0_note_29 : decode cX0_note 29 = .ok (.return_, 1) := by decide +kernel
theorem dX0_run_0 : decode cX0_run 0 = .ok (.aload_n 1, 1) := by decide +kernel
theorem dX0_run_1 : decode cX0_run 1 = .ok (.getfield 33, 3) := by decide +kernel
theorem dX0_run_4 : decode cX0_run 4 = .ok (.istore 6, 2) := by decide +kernel
theorem dX0_run_6 : decode cX0_run 6 = .ok (.iload_n 2, 1) := by decide +kernel
theorem dX0_run_7 : decode cX0_run 7 = .ok (.lookupswitch 175 #[(10, 65), (11, 73), (12, 91), (20, 109), (30, 123), (40, 148), (41, 162)], 65) := by decide +kernel
theorem dX0_run_72 : decode cX0_run 72 = .ok (.iload 4, 2) := by decide +kernel
theorem dX0_run_74 : decode cX0_run 74 = .ok (.aload_n 1, 1) := by decide +kernel
theorem dX0_run_75 : decode cX0_run 75 = .ok (.getfield 38, 3) := by decide +kernel
theorem dX0_run_78 : decode cX0_run 78 = .ok (.iadd, 1) := by decide +kernel
theorem dX0_run_79 : decode cX0_run 79 = .ok (.ireturn, 1) := by decide +kernel
theorem dX0_run_80 : decode cX0_run 80 = .ok (.aload_n 0, 1) := by decide +kernel
theorem dX0_run_81 : decode cX0_run 81 = .ok (.aload_n 1, 1) := by decide +kernel
theorem dX0_run_82 : decode cX0_run 82 = .ok (.iload 6, 2) := by decide +kernel
theorem dX0_run_84 : decode cX0_run 84 = .ok (.iconst 0, 1) := by decide +kernel
theorem dX0_run_85 : decode cX0_run 85 = .ok (.iload 4, 2) := by decide +kernel
theorem dX0_run_87 : decode cX0_run 87 = .ok (.iload 5, 2) := by decide +kernel
theorem dX0_run_89 : decode cX0_run 89 = .ok (.invokevirtual 41, 3) := by decide +kernel
theorem dX0_run_92 : decode cX0_run 92 = .ok (.aload_n 1, 1) := by decide +kernel
theorem dX0_run_93 : decode cX0_run 93 = .ok (.getfield 44, 3) := by decide +kernel
theorem dX0_run_96 : decode cX0_run 96 = .ok (.isub, 1) := by decide +kernel
theorem dX0_run_97 : decode cX0_run 97 = .ok (.ireturn, 1) := by decide +kernel
theorem dX0_run_98 : decode cX0_run 98 = .ok (.aload_n 0, 1) := by decide +kernel
theorem dX0_run_99 : decode cX0_run 99 = .ok (.aload_n 1, 1) := by decide +kernel
theorem dX0_run_100 : decode cX0_run 100 = .ok (.iload 6, 2) := by decide +kernel
theorem dX0_run_102 : decode cX0_run 102 = .ok (.iconst 1, 1) := by decide +kernel
theorem dX0_run_103 : decode cX0_run 103 = .ok (.iload 4, 2) := by decide +kernel
theorem dX0_run_105 : decode cX0_run 105 = .ok (.iload 5, 2) := by decide +kernel
theorem dX0_run_107 : decode cX0_run 107 = .ok (.invokevirtual 41, 3) := by decide +kernel
theorem dX0_run_110 : decode cX0_run 110 = .ok (.aload_n 1, 1) := by decide +kernel
theorem dX0_run_111 : decode cX0_run 111 = .ok (.getfield 47, 3) := by decide +kernel
theorem dX0_run_114 : decode cX0_run 114 = .ok (.ixor, 1) := by decide +kernel
theorem dX0_run_115 : decode cX0_run 115 = .ok (.ireturn, 1) := by decide +kernel
theorem dX0_run_116 : decode cX0_run 116 = .ok (.aload_n 0, 1) := by decide +kernel
theorem dX0_run_117 : decode cX0_run 117 = .ok (.aload_n 1, 1) := by decide +kernel
theorem dX0_run_118 : decode cX0_run 118 = .ok (.iload_n 3, 1) := by decide +kernel
theorem dX0_run_119 : decode cX0_run 119 = .ok (.iconst 0, 1) := by decide +kernel
theorem dX0_run_120 : decode cX0_run 120 = .ok (.iload 4, 2) := by decide +kernel
theorem dX0_run_122 : decode cX0_run 122 = .ok (.iload 5, 2) := by decide +kernel
theorem dX0_run_124 : decode cX0_run 124 = .ok (.invokevirtual 41, 3) := by decide +kernel
theorem dX0_run_127 : decode cX0_run 127 = .ok (.iconst 4, 1) := by decide +kernel
theorem dX0_run_128 : decode cX0_run 128 = .ok (.isub, 1) := by decide +kernel
theorem dX0_run_129 : decode cX0_run 129 = .ok (.ireturn, 1) := by decide +kernel
theorem dX0_run_130 : decode cX0_run 130 = .ok (.aload_n 0, 1) := by decide +kernel
theorem dX0_run_131 : decode cX0_run 131 = .ok (.aload_n 1, 1) := by decide +kernel
theorem dX0_run_132 : decode cX0_run 132 = .ok (.iload_n 3, 1) := by decide +kernel
theorem dX0_run_133 : decode cX0_run 133 = .ok (.iconst 1, 1) := by decide +kernel
theorem dX0_run_134 : decode cX0_run 134 = .ok (.iload 4, 2) := by decide +kernel
theorem dX0_run_136 : decode cX0_run 136 = .ok (.iload 5, 2) := by decide +kernel
theorem dX0_run_138 : decode cX0_run 138 = .ok (.invokevirtual 41, 3) := by decide +kernel
theorem dX0_run_141 : decode cX0_run 141 = .ok (.aload_n 0, 1) := by decide +kernel
theorem dX0_run_142 : decode cX0_run 142 = .ok (.aload_n 1, 1) := by decide +kernel
theorem dX0_run_143 : decode cX0_run 143 = .ok (.iload 6, 2) := by decide +kernel
theorem dX0_run_145 : decode cX0_run 145 = .ok (.iconst 0, 1) := by decide +kernel
theorem dX0_run_146 : decode cX0_run 146 = .ok (.iload 4, 2) := by decide +kernel
theorem dX0_run_148 : decode cX0_run 148 = .ok (.iload 5, 2) := by decide +kernel
theorem dX0_run_150 : decode cX0_run 150 = .ok (.invokevirtual 41, 3) := by decide +kernel
theorem dX0_run_153 : decode cX0_run 153 = .ok (.iadd, 1) := by decide +kernel
theorem dX0_run_154 : decode cX0_run 154 = .ok (.ireturn, 1) := by decide +kernel
theorem dX0_run_155 : decode cX0_run 155 = .ok (.aload_n 0, 1) := by decide +kernel
theorem dX0_run_156 : decode cX0_run 156 = .ok (.aload_n 1, 1) := by decide +kernel
theorem dX0_run_157 : decode cX0_run 157 = .ok (.iload_n 3, 1) := by decide +kernel
theorem dX0_run_158 : decode cX0_run 158 = .ok (.iconst 0, 1) := by decide +kernel
theorem dX0_run_159 : decode cX0_run 159 = .ok (.iload 4, 2) := by decide +kernel
theorem dX0_run_161 : decode cX0_run 161 = .ok (.iconst 3, 1) := by decide +kernel
theorem dX0_run_162 : decode cX0_run 162 = .ok (.imul, 1) := by decide +kernel
theorem dX0_run_163 : decode cX0_run 163 = .ok (.iload 5, 2) := by decide +kernel
theorem dX0_run_165 : decode cX0_run 165 = .ok (.invokevirtual 41, 3) := by decide +kernel
theorem dX0_run_168 : decode cX0_run 168 = .ok (.ireturn, 1) := by decide +kernel
theorem dX0_run_169 : decode cX0_run 169 = .ok (.aload_n 0, 1) := by decide +kernel
theorem dX0_run_170 : decode cX0_run 170 = .ok (.aload_n 1, 1) := by decide +kernel
theorem dX0_run_171 : decode cX0_run 171 = .ok (.iload_n 3, 1) := by decide +kernel
theorem dX0_run_172 : decode cX0_run 172 = .ok (.iconst 1, 1) := by decide +kernel
theorem dX0_run_173 : decode cX0_run 173 = .ok (.iload 4, 2) := by decide +kernel
theorem dX0_run_175 : decode cX0_run 175 = .ok (.iload 5, 2) := by decide +kernel
theorem dX0_run_177 : decode cX0_run 177 = .ok (.invokevirtual 41, 3) := by decide +kernel
theorem dX0_run_180 : decode cX0_run 180 = .ok (.ineg, 1) := by decide +kernel
theorem dX0_run_181 : decode cX0_run 181 = .ok (.ireturn, 1) := by decide +kernel
theorem dX0_run_182 : decode cX0_run 182 = .ok (.aload_n 0, 1) := by decide +kernel
theorem dX0_run_183 : decode cX0_run 183 = .ok (.aload_n 1, 1) := by decide +kernel
theorem dX0_run_184 : decode cX0_run 184 = .ok (.iload 6, 2) := by decide +kernel
theorem dX0_run_186 : decode cX0_run 186 = .ok (.iconst 1, 1) := by decide +kernel
theorem dX0_run_187 : decode cX0_run 187 = .ok (.iload 4, 2) := by decide +kernel
theorem dX0_run_189 : decode cX0_run 189 = .ok (.iload 5, 2) := by decide +kernel
theorem dX0_run_191 : decode cX0_run 191 = .ok (.invokevirtual 41, 3) := by decide +kernel
theorem dX0_run_194 : decode cX0_run 194 = .ok (.aload_n 0, 1) := by decide +kernel
theorem dX0_run_195 : decode cX0_run 195 = .ok (.aload_n 1, 1) := by decide +kernel
theorem dX0_run_196 : decode cX0_run 196 = .ok (.iload_n 3, 1) := by decide +kernel
theorem dX0_run_197 : decode cX0_run 197 = .ok (.iconst 2, 1) := by decide +kernel
theorem dX0_run_198 : decode cX0_run 198 = .ok (.iload 4, 2) := by decide +kernel
theorem dX0_run_200 : decode cX0_run 200 = .ok (.iconst 1, 1) := by decide +kernel
theorem dX0_run_201 : decode cX0_run 201 = .ok (.isub, 1) := by decide +kernel
theorem dX0_run_202 : decode cX0_run 202 = .ok (.iload 5, 2) := by decide +kernel
theorem dX0_run_204 : decode cX0_run 204 = .ok (.invokevirtual 41, 3) := by decide +kernel
theorem dX0_run_207 : decode cX0_run 207 = .ok (.iadd, 1) := by decide +kernel
theorem dX0_run_208 : decode cX0_run 208 = .ok (.ireturn, 1) := by decide +kernel
theorem dX1_init_0 : decode cX1_init 0 = .ok (.aload_n 0, 1) := by decide +kernel
theorem dX1_init_1 : decode cX1_init 1 = .ok (.invokespecial 3, 3) := by decide +kernel
theorem dX1_init_4 : decode cX1_init 4 = .ok (.aload_n 0, 1) := by decide +kernel
theorem dX1_init_5 : decode cX1_init 5 = .ok (.iconst 0, 1) := by decide +kernel
theorem dX1_init_6 : decode cX1_init 6 = .ok (.putfield 9, 3) := by decide +kernel
theorem dX1_init_9 : decode cX1_init 9 = .ok (.aload_n 0, 1) := by decide +kernel
theorem dX1_init_10 : decode cX1_init 10 = .ok (.iconst 0, 1) := by decide +kernel
theorem dX1_init_11 : decode cX1_init 11 = .ok (.putfield 15, 3) := by decide +kernel
theorem dX1_init_14 : decode cX1_init 14 = .ok (.aload_n 0, 1) := by decide +kernel
theorem dX1_init_15 : decode cX1_init 15 = .ok (.sipush 900, 3) := by decide +kernel
theorem dX1_init_18 : decode cX1_init 18 = .ok (.newarray .int, 2) := by decide +kernel
theorem dX1_init_20 : decode cX1_init 20 = .ok (.putfield 18, 3) := by decide +kernel
theorem dX1_init_23 : decode cX1_init 23 = .ok (.aload_n 0, 1) := by decide +kernel
theorem dX1_init_24 : decode cX1_init 24 = .ok (.sipush 900, 3) := by decide +kernel
theorem dX1_init_27 : decode cX1_init 27 = .ok (.newarray .int, 2) := by decide +kernel
theorem dX1_init_29 : decode cX1_init 29 = .ok (.putfield 22, 3) := by decide +kernel
theorem dX1_init_32 : decode cX1_init 32 = .ok (.aload_n 0, 1) := by decide +kernel
theorem dX1_init_33 : decode cX1_init 33 = .ok (.sipush 900, 3) := by decide +kernel
theorem dX1_init_36 : decode cX1_init 36 = .ok (.newarray .int, 2) := by decide +kernel
theorem dX1_init_38 : decode cX1_init 38 = .ok (.putfield 25, 3) := by decide +kernel
theorem dX1_init_41 : decode cX1_init 41 = .ok (.aload_n 0, 1) := by decide +kernel
theorem dX1_init_42 : decode cX1_init 42 = .ok (.bipush 9, 2) := by decide +kernel
theorem dX1_init_44 : decode cX1_init 44 = .ok (.newarray .int, 2) := by decide +kernel
theorem dX1_init_46 : decode cX1_init 46 = .ok (.putfield 28, 3) := by decide +kernel
theorem dX1_init_49 : decode cX1_init 49 = .ok (.return_, 1) := by decide +kernel
theorem dX1_open_0 : decode cX1_open 0 = .ok (.aload_n 0, 1) := by decide +kernel
theorem dX1_open_1 : decode cX1_open 1 = .ok (.iload_n 1, 1) := by decide +kernel
theorem dX1_open_2 : decode cX1_open 2 = .ok (.putfield 9, 3) := by decide +kernel
theorem dX1_open_5 : decode cX1_open 5 = .ok (.aload_n 0, 1) := by decide +kernel
theorem dX1_open_6 : decode cX1_open 6 = .ok (.iconst 0, 1) := by decide +kernel
theorem dX1_open_7 : decode cX1_open 7 = .ok (.putfield 15, 3) := by decide +kernel
theorem dX1_open_10 : decode cX1_open 10 = .ok (.aload_n 2, 1) := by decide +kernel
theorem dX1_open_11 : decode cX1_open 11 = .ok (.iconst 0, 1) := by decide +kernel
theorem dX1_open_12 : decode cX1_open 12 = .ok (.aload_n 0, 1) := by decide +kernel
theorem dX1_open_13 : decode cX1_open 13 = .ok (.getfield 28, 3) := by decide +kernel
theorem dX1_open_16 : decode cX1_open 16 = .ok (.iconst 0, 1) := by decide +kernel
theorem dX1_open_17 : decode cX1_open 17 = .ok (.bipush 9, 2) := by decide +kernel
theorem dX1_open_19 : decode cX1_open 19 = .ok (.invokestatic 31, 3) := by decide +kernel
theorem dX1_open_22 : decode cX1_open 22 = .ok (.return_, 1) := by decide +kernel
theorem dX1_has_0 : decode cX1_has 0 = .ok (.iload_n 1, 1) := by decide +kernel
theorem dX1_has_1 : decode cX1_has 1 = .ok (.ifCond .lt 27, 3) := by decide +kernel
theorem dX1_has_4 : decode cX1_has 4 = .ok (.iload_n 1, 1) := by decide +kernel
theorem dX1_has_5 : decode cX1_has 5 = .ok (.aload_n 0, 1) := by decide +kernel
theorem dX1_has_6 : decode cX1_has 6 = .ok (.getfield 15, 3) := by decide +kernel
theorem dX1_has_9 : decode cX1_has 9 = .ok (.if_icmp .ge 19, 3) := by decide +kernel
theorem dX1_has_12 : decode cX1_has 12 = .ok (.iload_n 2, 1) := by decide +kernel
theorem dX1_has_13 : decode cX1_has 13 = .ok (.ifCond .lt 15, 3) := by decide +kernel
theorem dX1_has_16 : decode cX1_has 16 = .ok (.iload_n 2, 1) := by decide +kernel
theorem dX1_has_17 : decode cX1_has 17 = .ok (.aload_n 0, 1) := by decide +kernel
theorem dX1_has_18 : decode cX1_has 18 = .ok (.getfield 9, 3) := by decide +kernel
theorem dX1_has_21 : decode cX1_has 21 = .ok (.if_icmp .ge 7, 3) := by decide +kernel
theorem dX1_has_24 : decode cX1_has 24 = .ok (.iconst 1, 1) := by decide +kernel
theorem dX1_has_25 : decode cX1_has 25 = .ok (.goto 4, 3) := by decide +kernel
theorem dX1_has_28 : decode cX1_has 28 = .ok (.iconst 0, 1) := by decide +kernel
theorem dX1_has_29 : decode cX1_has 29 = .ok (.ireturn, 1) := by decide +kernel
theorem dX1_lay_0 : decode cX1_lay 0 = .ok (.aload_n 0, 1) := by decide +kernel
theorem dX1_lay_1 : decode cX1_lay 1 = .ok (.getfield 15, 3) := by decide +kernel
theorem dX1_lay_4 : decode cX1_lay 4 = .ok (.bipush 100, 2) := by decide +kernel
theorem dX1_lay_6 : decode cX1_lay 6 = .ok (.if_icmp .lt 4, 3) := by decide +kernel
theorem dX1_lay_9 : decode cX1_lay 9 = .ok (.return_, 1) := by decide +kernel
theorem dX1_lay_10 : decode cX1_lay 10 = .ok (.aload_n 1, 1) := by decide +kernel
theorem dX1_lay_11 : decode cX1_lay 11 = .ok (.getfield 37, 3) := by decide +kernel
theorem dX1_lay_14 : decode cX1_lay 14 = .ok (.iconst 0, 1) := by decide +kernel
theorem dX1_lay_15 : decode cX1_lay 15 = .ok (.aload_n 0, 1) := by decide +kernel
theorem dX1_lay_16 : decode cX1_lay 16 = .ok (.getfield 18, 3) := by decide +kernel
theorem dX1_lay_19 : decode cX1_lay 19 = .ok (.bipush 9, 2) := by decide +kernel
theorem dX1_lay_21 : decode cX1_lay 21 = .ok (.aload_n 0, 1) := by decide +kernel
theorem dX1_lay_22 : decode cX1_lay 22 = .ok (.getfield 15, 3) := by decide +kernel
theorem dX1_lay_25 : decode cX1_lay 25 = .ok (.imul, 1) := by decide +kernel
theorem dX1_lay_26 : decode cX1_lay 26 = .ok (.aload_n 0, 1) := by decide +kernel
theorem dX1_lay_27 : decode cX1_lay 27 = .ok (.getfield 9, 3) := by decide +kernel
theorem dX1_lay_30 : decode cX1_lay 30 = .ok (.invokestatic 31, 3) := by decide +kernel
theorem dX1_lay_33 : decode cX1_lay 33 = .ok (.aload_n 1, 1) := by decide +kernel
theorem dX1_lay_34 : decode cX1_lay 34 = .ok (.getfield 42, 3) := by decide +kernel
theorem dX1_lay_37 : decode cX1_lay 37 = .ok (.iconst 0, 1) := by decide +kernel
theorem dX1_lay_38 : decode cX1_lay 38 = .ok (.aload_n 0, 1) := by decide +kernel
theorem dX1_lay_39 : decode cX1_lay 39 = .ok (.getfield 22, 3) := by decide +kernel
theorem dX1_lay_42 : decode cX1_lay 42 = .ok (.bipush 9, 2) := by decide +kernel
theorem dX1_lay_44 : decode cX1_lay 44 = .ok (.aload_n 0, 1) := by decide +kernel
theorem dX1_lay_45 : decode cX1_lay 45 = .ok (.getfield 15, 3) := by decide +kernel
theorem dX1_lay_48 : decode cX1_lay 48 = .ok (.imul, 1) := by decide +kernel
theorem dX1_lay_49 : decode cX1_lay 49 = .ok (.aload_n 0, 1) := by decide +kernel
theorem dX1_lay_50 : decode cX1_lay 50 = .ok (.getfield 9, 3) := by decide +kernel
theorem dX1_lay_53 : decode cX1_lay 53 = .ok (.invokestatic 31, 3) := by decide +kernel
theorem dX1_lay_56 : decode cX1_lay 56 = .ok (.iconst 0, 1) := by decide +kernel
theorem dX1_lay_57 : decode cX1_lay 57 = .ok (.istore_n 2, 1) := by decide +kernel
theorem dX1_lay_58 : decode cX1_lay 58 = .ok (.iload_n 2, 1) := by decide +kernel
theorem dX1_lay_59 : decode cX1_lay 59 = .ok (.aload_n 0, 1) := by decide +kernel
theorem dX1_lay_60 : decode cX1_lay 60 = .ok (.getfield 9, 3) := by decide +kernel
theorem dX1_lay_63 : decode cX1_lay 63 = .ok (.if_icmp .ge 32, 3) := by decide +kernel
theorem dX1_lay_66 : decode cX1_lay 66 = .ok (.aload_n 0, 1) := by decide +kernel
theorem dX1_lay_67 : decode cX1_lay 67 = .ok (.getfield 25, 3) := by decide +kernel
theorem dX1_lay_70 : decode cX1_lay 70 = .ok (.bipush 9, 2) := by decide +kernel
theorem dX1_lay_72 : decode cX1_lay 72 = .ok (.aload_n 0, 1) := by decide +kernel
theorem dX1_lay_73 : decode cX1_lay 73 = .ok (.getfield 15, 3) := by decide +kernel
theorem dX1_lay_76 : decode cX1_lay 76 = .ok (.imul, 1) := by decide +kernel
theorem dX1_lay_77 : decode cX1_lay 77 = .ok (.iload_n 2, 1) := by decide +kernel
theorem dX1_lay_78 : decode cX1_lay 78 = .ok (.iadd, 1) := by decide +kernel
theorem dX1_lay_79 : decode cX1_lay 79 = .ok (.aload_n 0, 1) := by decide +kernel
theorem dX1_lay_80 : decode cX1_lay 80 = .ok (.aload_n 0, 1) := by decide +kernel
theorem dX1_lay_81 : decode cX1_lay 81 = .ok (.getfield 15, 3) := by decide +kernel
theorem dX1_lay_84 : decode cX1_lay 84 = .ok (.iload_n 2, 1) := by decide +kernel
theorem dX1_lay_85 : decode cX1_lay 85 = .ok (.invokevirtual 43, 3) := by decide +kernel
theorem dX1_lay_88 : decode cX1_lay 88 = .ok (.iastore, 1) := by decide +kernel
theorem dX1_lay_89 : decode cX1_lay 89 = .ok (.iinc 2 1, 3) := by decide +kernel
theorem dX1_lay_92 : decode cX1_lay 92 = .ok (.goto (-34), 3) := by decide +kernel
theorem dX1_lay_95 : decode cX1_lay 95 = .ok (.aload_n 0, 1) := by decide +kernel
theorem dX1_lay_96 : decode cX1_lay 96 = .ok (.dup, 1) := by decide +kernel
theorem dX1_lay_97 : decode cX1_lay 97 = .ok (.getfield 15, 3) := by decide +kernel
theorem dX1_lay_100 : decode cX1_lay 100 = .ok (.iconst 1, 1) := by decide +kernel
theorem dX1_lay_101 : decode cX1_lay 101 = .ok (.iadd, 1) := by decide +kernel
theorem dX1_lay_102 : decode cX1_lay 102 = .ok (.putfield 15, 3) := by decide +kernel
theorem dX1_lay_105 : decode cX1_lay 105 = .ok (.return_, 1) := by decide +kernel
theorem dX1_isRowOf_0 : decode cX1_isRowOf 0 = .ok (.aload_n 1, 1) := by decide +kernel
theorem dX1_isRowOf_1 : decode cX1_isRowOf 1 = .ok (.getfield 47, 3) := by decide +kernel
theorem dX1_isRowOf_4 : decode cX1_isRowOf 4 = .ok (.iconst 1, 1) := by decide +kernel
theorem dX1_isRowOf_5 : decode cX1_isRowOf 5 = .ok (.isub, 1) := by decide +kernel
theorem dX1_isRowOf_6 : decode cX1_isRowOf 6 = .ok (.istore_n 2, 1) := by decide +kernel
theorem dX1_isRowOf_7 : decode cX1_isRowOf 7 = .ok (.iload_n 2, 1) := by decide +kernel
theorem dX1_isRowOf_8 : decode cX1_isRowOf 8 = .ok (.ifCond .lt 11, 3) := by decide +kernel
theorem dX1_isRowOf_11 : decode cX1_isRowOf 11 = .ok (.iload_n 2, 1) := by decide +kernel
theorem dX1_isRowOf_12 : decode cX1_isRowOf 12 = .ok (.aload_n 0, 1) := by decide +kernel
theorem dX1_isRowOf_13 : decode cX1_isRowOf 13 = .ok (.getfield 15, 3) := by decide +kernel
theorem dX1_isRowOf_16 : decode cX1_isRowOf 16 = .ok (.if_icmp .lt 5, 3) := by decide +kernel
theorem dX1_isRowOf_19 : decode cX1_isRowOf 19 = .ok (.iconst 0, 1) := by decide +kernel
theorem dX1_isRowOf_20 : decode cX1_isRowOf 20 = .ok (.ireturn, 1) := by decide +kernel
theorem dX1_isRowOf_21 : decode cX1_isRowOf 21 = .ok (.iconst 0, 1) := by decide +kernel
theorem dX1_isRowOf_22 : decode cX1_isRowOf 22 = .ok (.istore_n 3, 1) := by decide +kernel
theorem dX1_isRowOf_23 : decode cX1_isRowOf 23 = .ok (.iload_n 3, 1) := by decide +kernel
theorem dX1_isRowOf_24 : decode cX1_isRowOf 24 = .ok (.aload_n 0, 1) := by decide +kernel
theorem dX1_isRowOf_25 : decode cX1_isRowOf 25 = .ok (.getfield 9, 3) := by decide +kernel
theorem dX1_isRowOf_28 : decode cX1_isRowOf 28 = .ok (.if_icmp .ge 41, 3) := by decide +kernel
theorem dX1_isRowOf_31 : decode cX1_isRowOf 31 = .ok (.aload_n 0, 1) := by decide +kernel
theorem dX1_isRowOf_32 : decode cX1_isRowOf 32 = .ok (.iload_n 2, 1) := by decide +kernel
theorem dX1_isRowOf_33 : decode cX1_isRowOf 33 = .ok (.iload_n 3, 1) := by decide +kernel
theorem dX1_isRowOf_34 : decode cX1_isRowOf 34 = .ok (.invokevirtual 48, 3) := by decide +kernel
theorem dX1_isRowOf_37 : decode cX1_isRowOf 37 = .ok (.aload_n 1, 1) := by decide +kernel
theorem dX1_isRowOf_38 : decode cX1_isRowOf 38 = .ok (.getfield 37, 3) := by decide +kernel
theorem dX1_isRowOf_41 : decode cX1_isRowOf 41 = .ok (.iload_n 3, 1) := by decide +kernel
theorem dX1_isRowOf_42 : decode cX1_isRowOf 42 = .ok (.iaload, 1) := by decide +kernel
theorem dX1_isRowOf_43 : decode cX1_isRowOf 43 = .ok (.if_icmp .ne 18, 3) := by decide +kernel
theorem dX1_isRowOf_46 : decode cX1_isRowOf 46 = .ok (.aload_n 0, 1) := by decide +kernel
theorem dX1_isRowOf_47 : decode cX1_isRowOf 47 = .ok (.iload_n 2, 1) := by decide +kernel
theorem dX1_isRowOf_48 : decode cX1_isRowOf 48 = .ok (.iload_n 3, 1) := by decide +kernel
theorem dX1_isRowOf_49 : decode cX1_isRowOf 49 = .ok (.invokevirtual 51, 3) := by decide +kernel
theorem dX1_isRowOf_52 : decode cX1_isRowOf 52 = .ok (.aload_n 1, 1) := by decide +kernel
theorem dX1_isRowOf_53 : decode cX1_isRowOf 53 = .ok (.getfield 42, 3) := by decide +kernel
theorem dX1_isRowOf_56 : decode cX1_isRowOf 56 = .ok (.iload_n 3, 1) := by decide +kernel
theorem dX1_isRowOf_57 : decode cX1_isRowOf 57 = .ok (.iaload, 1) := by decide +kernel
theorem dX1_isRowOf_58 : decode cX1_isRowOf 58 = .ok (.if_icmp .eq 5, 3) := by decide +kernel
theorem dX1_isRowOf_61 : decode cX1_isRowOf 61 = .ok (.iconst 0, 1) := by decide +kernel
theorem dX1_isRowOf_62 : decode cX1_isRowOf 62 = .ok (.ireturn, 1) := by decide +kernel
theorem dX1_isRowOf_63 : decode cX1_isRowOf 63 = .ok (.iinc 3 1, 3) := by decide +kernel
theorem dX1_isRowOf_66 : decode cX1_isRowOf 66 = .ok (.goto (-43), 3) := by decide +kernel
theorem dX1_isRowOf_69 : decode cX1_isRowOf 69 = .ok (.iconst 1, 1) := by decide +kernel
theorem dX1_isRowOf_70 : decode cX1_isRowOf 70 = .ok (.ireturn, 1) := by decide +kernel
theorem dX1_ribbonAt_0 : decode cX1_ribbonAt 0 = .ok (.aload_n 0, 1) := by decide +kernel
theorem dX1_ribbonAt_1 : decode cX1_ribbonAt 1 = .ok (.getfield 18, 3) := by decide +kernel
theorem dX1_ribbonAt_4 : decode cX1_ribbonAt 4 = .ok (.bipush 9, 2) := by decide +kernel
theorem dX1_ribbonAt_6 : decode cX1_ribbonAt 6 = .ok (.iload_n 1, 1) := by decide +kernel
theorem dX1_ribbonAt_7 : decode cX1_ribbonAt 7 = .ok (.imul, 1) := by decide +kernel
theorem dX1_ribbonAt_8 : decode cX1_ribbonAt 8 = .ok (.iload_n 2, 1) := by decide +kernel
theorem dX1_ribbonAt_9 : decode cX1_ribbonAt 9 = .ok (.iadd, 1) := by decide +kernel
theorem dX1_ribbonAt_10 : decode cX1_ribbonAt 10 = .ok (.iaload, 1) := by decide +kernel
theorem dX1_ribbonAt_11 : decode cX1_ribbonAt 11 = .ok (.ireturn, 1) := by decide +kernel
theorem dX1_markAt_0 : decode cX1_markAt 0 = .ok (.aload_n 0, 1) := by decide +kernel
theorem dX1_markAt_1 : decode cX1_markAt 1 = .ok (.getfield 22, 3) := by decide +kernel
theorem dX1_markAt_4 : decode cX1_markAt 4 = .ok (.bipush 9, 2) := by decide +kernel
theorem dX1_markAt_6 : decode cX1_markAt 6 = .ok (.iload_n 1, 1) := by decide +kernel
theorem dX1_markAt_7 : decode cX1_markAt 7 = .ok (.imul, 1) := by decide +kernel
theorem dX1_markAt_8 : decode cX1_markAt 8 = .ok (.iload_n 2, 1) := by decide +kernel
theorem dX1_markAt_9 : decode cX1_markAt 9 = .ok (.iadd, 1) := by decide +kernel
theorem dX1_markAt_10 : decode cX1_markAt 10 = .ok (.iaload, 1) := by decide +kernel
theorem dX1_markAt_11 : decode cX1_markAt 11 = .ok (.ireturn, 1) := by decide +kernel
theorem dX1_ribbonOnTop_0 : decode cX1_ribbonOnTop 0 = .ok (.aload_n 0, 1) := by decide +kernel
theorem dX1_ribbonOnTop_1 : decode cX1_ribbonOnTop 1 = .ok (.iload_n 1, 1) := by decide +kernel
theorem dX1_ribbonOnTop_2 : decode cX1_ribbonOnTop 2 = .ok (.iload_n 2, 1) := by decide +kernel
theorem dX1_ribbonOnTop_3 : decode cX1_ribbonOnTop 3 = .ok (.invokevirtual 51, 3) := by decide +kernel
theorem dX1_ribbonOnTop_6 : decode cX1_ribbonOnTop 6 = .ok (.iconst 1, 1) := by decide +kernel
theorem dX1_ribbonOnTop_7 : decode cX1_ribbonOnTop 7 = .ok (.if_icmp .ne 24, 3) := by decide +kernel
theorem dX1_ribbonOnTop_10 : decode cX1_ribbonOnTop 10 = .ok (.aload_n 0, 1) := by decide +kernel
theorem dX1_ribbonOnTop_11 : decode cX1_ribbonOnTop 11 = .ok (.iload_n 1, 1) := by decide +kernel
theorem dX1_ribbonOnTop_12 : decode cX1_ribbonOnTop 12 = .ok (.iload_n 2, 1) := by decide +kernel
theorem dX1_ribbonOnTop_13 : decode cX1_ribbonOnTop 13 = .ok (.aload_n 0, 1) := by decide +kernel
theorem dX1_ribbonOnTop_14 : decode cX1_ribbonOnTop 14 = .ok (.getfield 9, 3) := by decide +kernel
theorem dX1_ribbonOnTop_17 : decode cX1_ribbonOnTop 17 = .ok (.invokestatic 54, 3) := by decide +kernel
theorem dX1_ribbonOnTop_20 : decode cX1_ribbonOnTop 20 = .ok (.invokevirtual 51, 3) := by decide +kernel
theorem dX1_ribbonOnTop_23 : decode cX1_ribbonOnTop 23 = .ok (.iconst 2, 1) := by decide +kernel
theorem dX1_ribbonOnTop_24 : decode cX1_ribbonOnTop 24 = .ok (.if_icmp .eq 7, 3) := by decide +kernel
theorem dX1_ribbonOnTop_27 : decode cX1_ribbonOnTop 27 = .ok (.iconst 1, 1) := by decide +kernel
theorem dX1_ribbonOnTop_28 : decode cX1_ribbonOnTop 28 = .ok (.goto 4, 3) := by decide +kernel
theorem dX1_ribbonOnTop_31 : decode cX1_ribbonOnTop 31 = .ok (.iconst 0, 1) := by decide +kernel
theorem dX1_ribbonOnTop_32 : decode cX1_ribbonOnTop 32 = .ok (.istore_n 3, 1) := by decide +kernel
theorem dX1_ribbonOnTop_33 : decode cX1_ribbonOnTop 33 = .ok (.aload_n 0, 1) := by decide +kernel
theorem dX1_ribbonOnTop_34 : decode cX1_ribbonOnTop 34 = .ok (.iload_n 1, 1) := by decide +kernel
theorem dX1_ribbonOnTop_35 : decode cX1_ribbonOnTop 35 = .ok (.iload_n 3, 1) := by decide +kernel
theorem dX1_ribbonOnTop_36 : decode cX1_ribbonOnTop 36 = .ok (.ifCond .eq 14, 3) := by decide +kernel
theorem dX1_ribbonOnTop_39 : decode cX1_ribbonOnTop 39 = .ok (.iload_n 2, 1) := by decide +kernel
theorem dX1_ribbonOnTop_40 : decode cX1_ribbonOnTop 40 = .ok (.aload_n 0, 1) := by decide +kernel
theorem dX1_ribbonOnTop_41 : decode cX1_ribbonOnTop 41 = .ok (.getfield 9, 3) := by decide +kernel
theorem dX1_ribbonOnTop_44 : decode cX1_ribbonOnTop 44 = .ok (.invokestatic 57, 3) := by decide +kernel
theorem dX1_ribbonOnTop_47 : decode cX1_ribbonOnTop 47 = .ok (.goto 4, 3) := by decide +kernel
theorem dX1_ribbonOnTop_50 : decode cX1_ribbonOnTop 50 = .ok (.iload_n 2, 1) := by decide +kernel
theorem dX1_ribbonOnTop_51 : decode cX1_ribbonOnTop 51 = .ok (.invokevirtual 48, 3) := by decide +kernel
theorem dX1_ribbonOnTop_54 : decode cX1_ribbonOnTop 54 = .ok (.ireturn, 1) := by decide +kernel
theorem dX1_topRibbon_0 : decode cX1_topRibbon 0 = .ok (.aload_n 0, 1) := by decide +kernel
theorem dX1_topRibbon_1 : decode cX1_topRibbon 1 = .ok (.getfield 25, 3) := by decide +kernel
theorem dX1_topRibbon_4 : decode cX1_topRibbon 4 = .ok (.bipush 9, 2) := by decide +kernel
theorem dX1_topRibbon_6 : decode cX1_topRibbon 6 = .ok (.iload_n 1, 1) := by decide +kernel
theorem dX1_topRibbon_7 : decode cX1_topRibbon 7 = .ok (.imul, 1) := by decide +kernel
theorem dX1_topRibbon_8 : decode cX1_topRibbon 8 = .ok (.iload_n 2, 1) := by decide +kernel
theorem dX1_topRibbon_9 : decode cX1_topRibbon 9 = .ok (.iadd, 1) := by decide +kernel
theorem dX1_topRibbon_10 : decode cX1_topRibbon 10 = .ok (.iaload, 1) := by decide +kernel
theorem dX1_topRibbon_11 : decode cX1_topRibbon 11 = .ok (.ireturn, 1) := by decide +kernel
theorem dX1_topAt_0 : decode cX1_topAt 0 = .ok (.aload_n 0, 1) := by decide +kernel
theorem dX1_topAt_1 : decode cX1_topAt 1 = .ok (.getfield 28, 3) := by decide +kernel
theorem dX1_topAt_4 : decode cX1_topAt 4 = .ok (.aload_n 0, 1) := by decide +kernel
theorem dX1_topAt_5 : decode cX1_topAt 5 = .ok (.iload_n 1, 1) := by decide +kernel
theorem dX1_topAt_6 : decode cX1_topAt 6 = .ok (.iload_n 2, 1) := by decide +kernel
theorem dX1_topAt_7 : decode cX1_topAt 7 = .ok (.invokevirtual 60, 3) := by decide +kernel
theorem dX1_topAt_10 : decode cX1_topAt 10 = .ok (.iaload, 1) := by decide +kernel
theorem dX1_topAt_11 : decode cX1_topAt 11 = .ok (.ireturn, 1) := by decide +kernel
theorem dX1_leastBeat_0 : decode cX1_leastBeat 0 = .ok (.iconst 1, 1) := by decide +kernel
theorem dX1_leastBeat_1 : decode cX1_leastBeat 1 = .ok (.istore_n 1, 1) := by decide +kernel
theorem dX1_leastBeat_2 : decode cX1_leastBeat 2 = .ok (.iload_n 1, 1) := by decide +kernel
theorem dX1_leastBeat_3 : decode cX1_leastBeat 3 = .ok (.aload_n 0, 1) := by decide +kernel
theorem dX1_leastBeat_4 : decode cX1_leastBeat 4 = .ok (.getfield 15, 3) := by decide +kernel
theorem dX1_leastBeat_7 : decode cX1_leastBeat 7 = .ok (.if_icmp .ge 19, 3) := by decide +kernel
theorem dX1_leastBeat_10 : decode cX1_leastBeat 10 = .ok (.aload_n 0, 1) := by decide +kernel
theorem dX1_leastBeat_11 : decode cX1_leastBeat 11 = .ok (.iload_n 1, 1) := by decide +kernel
theorem dX1_leastBeat_12 : decode cX1_leastBeat 12 = .ok (.invokevirtual 63, 3) := by decide +kernel
theorem dX1_leastBeat_15 : decode cX1_leastBeat 15 = .ok (.ifCond .eq 5, 3) := by decide +kernel
theorem dX1_leastBeat_18 : decode cX1_leastBeat 18 = .ok (.iload_n 1, 1) := by decide +kernel
theorem dX1_leastBeat_19 : decode cX1_leastBeat 19 = .ok (.ireturn, 1) := by decide +kernel
theorem dX1_leastBeat_20 : decode cX1_leastBeat 20 = .ok (.iinc 1 1, 3) := by decide +kernel
theorem dX1_leastBeat_23 : decode cX1_leastBeat 23 = .ok (.goto (-21), 3) := by decide +kernel
theorem dX1_leastBeat_26 : decode cX1_leastBeat 26 = .ok (.aload_n 0, 1) := by decide +kernel
theorem dX1_leastBeat_27 : decode cX1_leastBeat 27 = .ok (.getfield 15, 3) := by decide +kernel
theorem dX1_leastBeat_30 : decode cX1_leastBeat 30 = .ok (.ireturn, 1) := by decide +kernel
theorem dX1_beatsBy_0 : decode cX1_beatsBy 0 = .ok (.iload_n 1, 1) := by decide +kernel
theorem dX1_beatsBy_1 : decode cX1_beatsBy 1 = .ok (.istore_n 2, 1) := by decide +kernel
theorem dX1_beatsBy_2 : decode cX1_beatsBy 2 = .ok (.iload_n 2, 1) := by decide +kernel
theorem dX1_beatsBy_3 : decode cX1_beatsBy 3 = .ok (.aload_n 0, 1) := by decide +kernel
theorem dX1_beatsBy_4 : decode cX1_beatsBy 4 = .ok (.getfield 15, 3) := by decide +kernel
theorem dX1_beatsBy_7 : decode cX1_beatsBy 7 = .ok (.if_icmp .ge 22, 3) := by decide +kernel
theorem dX1_beatsBy_10 : decode cX1_beatsBy 10 = .ok (.aload_n 0, 1) := by decide +kernel
theorem dX1_beatsBy_11 : decode cX1_beatsBy 11 = .ok (.iload_n 2, 1) := by decide +kernel
theorem dX1_beatsBy_12 : decode cX1_beatsBy 12 = .ok (.iload_n 2, 1) := by decide +kernel
theorem dX1_beatsBy_13 : decode cX1_beatsBy 13 = .ok (.iload_n 1, 1) := by decide +kernel
theorem dX1_beatsBy_14 : decode cX1_beatsBy 14 = .ok (.isub, 1) := by decide +kernel
theorem dX1_beatsBy_15 : decode cX1_beatsBy 15 = .ok (.invokevirtual 67, 3) := by decide +kernel
theorem dX1_beatsBy_18 : decode cX1_beatsBy 18 = .ok (.ifCond .ne 5, 3) := by decide +kernel
theorem dX1_beatsBy_21 : decode cX1_beatsBy 21 = .ok (.iconst 0, 1) := by decide +kernel
theorem dX1_beatsBy_22 : decode cX1_beatsBy 22 = .ok (.ireturn, 1) := by decide +kernel
theorem dX1_beatsBy_23 : decode cX1_beatsBy 23 = .ok (.iinc 2 1, 3) := by decide +kernel
theorem dX1_beatsBy_26 : decode cX1_beatsBy 26 = .ok (.goto (-24), 3) := by decide +kernel
theorem dX1_beatsBy_29 : decode cX1_beatsBy 29 = .ok (.iconst 1, 1) := by decide +kernel
theorem dX1_beatsBy_30 : decode cX1_beatsBy 30 = .ok (.ireturn, 1) := by decide +kernel
theorem dX1_areLike_0 : decode cX1_areLike 0 = .ok (.iconst 0, 1) := by decide +kernel
theorem dX1_areLike_1 : decode cX1_areLike 1 = .ok (.istore_n 3, 1) := by decide +kernel
theorem dX1_areLike_2 : decode cX1_areLike 2 = .ok (.iload_n 3, 1) := by decide +kernel
theorem dX1_areLike_3 : decode cX1_areLike 3 = .ok (.aload_n 0, 1) := by decide +kernel
theorem dX1_areLike_4 : decode cX1_areLike 4 = .ok (.getfield 9, 3) := by decide +kernel
theorem dX1_areLike_7 : decode cX1_areLike 7 = .ok (.if_icmp .ge 26, 3) := by decide +kernel
theorem dX1_areLike_10 : decode cX1_areLike 10 = .ok (.aload_n 0, 1) := by decide +kernel
theorem dX1_areLike_11 : decode cX1_areLike 11 = .ok (.iload_n 1, 1) := by decide +kernel
theorem dX1_areLike_12 : decode cX1_areLike 12 = .ok (.iload_n 3, 1) := by decide +kernel
theorem dX1_areLike_13 : decode cX1_areLike 13 = .ok (.invokevirtual 71, 3) := by decide +kernel
theorem dX1_areLike_16 : decode cX1_areLike 16 = .ok (.aload_n 0, 1) := by decide +kernel
theorem dX1_areLike_17 : decode cX1_areLike 17 = .ok (.iload_n 2, 1) := by decide +kernel
theorem dX1_areLike_18 : decode cX1_areLike 18 = .ok (.iload_n 3, 1) := by decide +kernel
theorem dX1_areLike_19 : decode cX1_areLike 19 = .ok (.invokevirtual 71, 3) := by decide +kernel
theorem dX1_areLike_22 : decode cX1_areLike 22 = .ok (.if_icmp .eq 5, 3) := by decide +kernel
theorem dX1_areLike_25 : decode cX1_areLike 25 = .ok (.iconst 0, 1) := by decide +kernel
theorem dX1_areLike_26 : decode cX1_areLike 26 = .ok (.ireturn, 1) := by decide +kernel
theorem dX1_areLike_27 : decode cX1_areLike 27 = .ok (.iinc 3 1, 3) := by decide +kernel
theorem dX1_areLike_30 : decode cX1_areLike 30 = .ok (.goto (-28), 3) := by decide +kernel
theorem dX1_areLike_33 : decode cX1_areLike 33 = .ok (.iconst 1, 1) := by decide +kernel
theorem dX1_areLike_34 : decode cX1_areLike 34 = .ok (.ireturn, 1) := by decide +kernel
theorem dX2_init_0 : decode cX2_init 0 = .ok (.aload_n 0, 1) := by decide +kernel
theorem dX2_init_1 : decode cX2_init 1 = .ok (.invokespecial 3, 3) := by decide +kernel
theorem dX2_init_4 : decode cX2_init 4 = .ok (.aload_n 0, 1) := by decide +kernel
theorem dX2_init_5 : decode cX2_init 5 = .ok (.iconst 0, 1) := by decide +kernel
theorem dX2_init_6 : decode cX2_init 6 = .ok (.putfield 9, 3) := by decide +kernel
theorem dX2_init_9 : decode cX2_init 9 = .ok (.aload_n 0, 1) := by decide +kernel
theorem dX2_init_10 : decode cX2_init 10 = .ok (.iconst 0, 1) := by decide +kernel
theorem dX2_init_11 : decode cX2_init 11 = .ok (.putfield 15, 3) := by decide +kernel
theorem dX2_init_14 : decode cX2_init 14 = .ok (.aload_n 0, 1) := by decide +kernel
theorem dX2_init_15 : decode cX2_init 15 = .ok (.iconst 0, 1) := by decide +kernel
theorem dX2_init_16 : decode cX2_init 16 = .ok (.putfield 18, 3) := by decide +kernel
theorem dX2_init_19 : decode cX2_init 19 = .ok (.aload_n 0, 1) := by decide +kernel
theorem dX2_init_20 : decode cX2_init 20 = .ok (.bipush 9, 2) := by decide +kernel
theorem dX2_init_22 : decode cX2_init 22 = .ok (.newarray .int, 2) := by decide +kernel
theorem dX2_init_24 : decode cX2_init 24 = .ok (.putfield 21, 3) := by decide +kernel
theorem dX2_init_27 : decode cX2_init 27 = .ok (.aload_n 0, 1) := by decide +kernel
theorem dX2_init_28 : decode cX2_init 28 = .ok (.bipush 9, 2) := by decide +kernel
theorem dX2_init_30 : decode cX2_init 30 = .ok (.newarray .int, 2) := by decide +kernel
theorem dX2_init_32 : decode cX2_init 32 = .ok (.putfield 25, 3) := by decide +kernel
theorem dX2_init_35 : decode cX2_init 35 = .ok (.aload_n 0, 1) := by decide +kernel
theorem dX2_init_36 : decode cX2_init 36 = .ok (.bipush 9, 2) := by decide +kernel
theorem dX2_init_38 : decode cX2_init 38 = .ok (.newarray .int, 2) := by decide +kernel
theorem dX2_init_40 : decode cX2_init 40 = .ok (.putfield 28, 3) := by decide +kernel
theorem dX2_init_43 : decode cX2_init 43 = .ok (.aload_n 0, 1) := by decide +kernel
theorem dX2_init_44 : decode cX2_init 44 = .ok (.bipush 9, 2) := by decide +kernel
theorem dX2_init_46 : decode cX2_init 46 = .ok (.newarray .int, 2) := by decide +kernel
theorem dX2_init_48 : decode cX2_init 48 = .ok (.putfield 31, 3) := by decide +kernel
theorem dX2_init_51 : decode cX2_init 51 = .ok (.return_, 1) := by decide +kernel
theorem dX2_lay_0 : decode cX2_lay 0 = .ok (.aload_n 0, 1) := by decide +kernel
theorem dX2_lay_1 : decode cX2_lay 1 = .ok (.iload_n 1, 1) := by decide +kernel
theorem dX2_lay_2 : decode cX2_lay 2 = .ok (.putfield 9, 3) := by decide +kernel
theorem dX2_lay_5 : decode cX2_lay 5 = .ok (.aload_n 0, 1) := by decide +kernel
theorem dX2_lay_6 : decode cX2_lay 6 = .ok (.getfield 25, 3) := by decide +kernel
theorem dX2_lay_9 : decode cX2_lay 9 = .ok (.iconst 0, 1) := by decide +kernel
theorem dX2_lay_10 : decode cX2_lay 10 = .ok (.invokestatic 34, 3) := by decide +kernel
theorem dX2_lay_13 : decode cX2_lay 13 = .ok (.aload_n 0, 1) := by decide +kernel
theorem dX2_lay_14 : decode cX2_lay 14 = .ok (.invokevirtual 40, 3) := by decide +kernel
theorem dX2_lay_17 : decode cX2_lay 17 = .ok (.return_, 1) := by decide +kernel
theorem dX2_restart_0 : decode cX2_restart 0 = .ok (.aload_n 0, 1) := by decide +kernel
theorem dX2_restart_1 : decode cX2_restart 1 = .ok (.iconst 0, 1) := by decide +kernel
theorem dX2_restart_2 : decode cX2_restart 2 = .ok (.putfield 15, 3) := by decide +kernel
theorem dX2_restart_5 : decode cX2_restart 5 = .ok (.aload_n 0, 1) := by decide +kernel
theorem dX2_restart_6 : decode cX2_restart 6 = .ok (.iconst 0, 1) := by decide +kernel
theorem dX2_restart_7 : decode cX2_restart 7 = .ok (.putfield 18, 3) := by decide +kernel
theorem dX2_restart_10 : decode cX2_restart 10 = .ok (.aload_n 0, 1) := by decide +kernel
theorem dX2_restart_11 : decode cX2_restart 11 = .ok (.invokevirtual 43, 3) := by decide +kernel
theorem dX2_restart_14 : decode cX2_restart 14 = .ok (.aload_n 0, 1) := by decide +kernel
theorem dX2_restart_15 : decode cX2_restart 15 = .ok (.invokevirtual 46, 3) := by decide +kernel
theorem dX2_restart_18 : decode cX2_restart 18 = .ok (.return_, 1) := by decide +kernel
theorem dX2_callByPlaces_0 : decode cX2_callByPlaces 0 = .ok (.iconst 0, 1) := by decide +kernel
theorem dX2_callByPlaces_1 : decode cX2_callByPlaces 1 = .ok (.istore_n 1, 1) := by decide +kernel
theorem dX2_callByPlaces_2 : decode cX2_callByPlaces 2 = .ok (.iload_n 1, 1) := by decide +kernel
theorem dX2_callByPlaces_3 : decode cX2_callByPlaces 3 = .ok (.bipush 9, 2) := by decide +kernel
theorem dX2_callByPlaces_5 : decode cX2_callByPlaces 5 = .ok (.if_icmp .ge 16, 3) := by decide +kernel
theorem dX2_callByPlaces_8 : decode cX2_callByPlaces 8 = .ok (.aload_n 0, 1) := by decide +kernel
theorem dX2_callByPlaces_9 : decode cX2_callByPlaces 9 = .ok (.getfield 21, 3) := by decide +kernel
theorem dX2_callByPlaces_12 : decode cX2_callByPlaces 12 = .ok (.iload_n 1, 1) := by decide +kernel
theorem dX2_callByPlaces_13 : decode cX2_callByPlaces 13 = .ok (.iload_n 1, 1) := by decide +kernel
theorem dX2_callByPlaces_14 : decode cX2_callByPlaces 14 = .ok (.iastore, 1) := by decide +kernel
theorem dX2_callByPlaces_15 : decode cX2_callByPlaces 15 = .ok (.iinc 1 1, 3) := by decide +kernel
theorem dX2_callByPlaces_18 : decode cX2_callByPlaces 18 = .ok (.goto (-16), 3) := by decide +kernel
theorem dX2_callByPlaces_21 : decode cX2_callByPlaces 21 = .ok (.return_, 1) := by decide +kernel
theorem dX2_unmark_0 : decode cX2_unmark 0 = .ok (.aload_n 0, 1) := by decide +kernel
theorem dX2_unmark_1 : decode cX2_unmark 1 = .ok (.getfield 28, 3) := by decide +kernel
theorem dX2_unmark_4 : decode cX2_unmark 4 = .ok (.iconst 0, 1) := by decide +kernel
theorem dX2_unmark_5 : decode cX2_unmark 5 = .ok (.invokestatic 34, 3) := by decide +kernel
theorem dX2_unmark_8 : decode cX2_unmark 8 = .ok (.return_, 1) := by decide +kernel
theorem dX2_copy_0 : decode cX2_copy 0 = .ok (.aload_n 0, 1) := by decide +kernel
theorem dX2_copy_1 : decode cX2_copy 1 = .ok (.aload_n 1, 1) := by decide +kernel
theorem dX2_copy_2 : decode cX2_copy 2 = .ok (.getfield 9, 3) := by decide +kernel
theorem dX2_copy_5 : decode cX2_copy 5 = .ok (.putfield 9, 3) := by decide +kernel
theorem dX2_copy_8 : decode cX2_copy 8 = .ok (.aload_n 0, 1) := by decide +kernel
theorem dX2_copy_9 : decode cX2_copy 9 = .ok (.aload_n 1, 1) := by decide +kernel
theorem dX2_copy_10 : decode cX2_copy 10 = .ok (.getfield 15, 3) := by decide +kernel
theorem dX2_copy_13 : decode cX2_copy 13 = .ok (.putfield 15, 3) := by decide +kernel
theorem dX2_copy_16 : decode cX2_copy 16 = .ok (.aload_n 0, 1) := by decide +kernel
theorem dX2_copy_17 : decode cX2_copy 17 = .ok (.aload_n 1, 1) := by decide +kernel
theorem dX2_copy_18 : decode cX2_copy 18 = .ok (.getfield 18, 3) := by decide +kernel
theorem dX2_copy_21 : decode cX2_copy 21 = .ok (.putfield 18, 3) := by decide +kernel
theorem dX2_copy_24 : decode cX2_copy 24 = .ok (.aload_n 1, 1) := by decide +kernel
theorem dX2_copy_25 : decode cX2_copy 25 = .ok (.getfield 21, 3) := by decide +kernel
theorem dX2_copy_28 : decode cX2_copy 28 = .ok (.iconst 0, 1) := by decide +kernel
theorem dX2_copy_29 : decode cX2_copy 29 = .ok (.aload_n 0, 1) := by decide +kernel
theorem dX2_copy_30 : decode cX2_copy 30 = .ok (.getfield 21, 3) := by decide +kernel
theorem dX2_copy_33 : decode cX2_copy 33 = .ok (.iconst 0, 1) := by decide +kernel
theorem dX2_copy_34 : decode cX2_copy 34 = .ok (.bipush 9, 2) := by decide +kernel
theorem dX2_copy_36 : decode cX2_copy 36 = .ok (.invokestatic 49, 3) := by decide +kernel
theorem dX2_copy_39 : decode cX2_copy 39 = .ok (.aload_n 1, 1) := by decide +kernel
theorem dX2_copy_40 : decode cX2_copy 40 = .ok (.getfield 25, 3) := by decide +kernel
theorem dX2_copy_43 : decode cX2_copy 43 = .ok (.iconst 0, 1) := by decide +kernel
theorem dX2_copy_44 : decode cX2_copy 44 = .ok (.aload_n 0, 1) := by decide +kernel
theorem dX2_copy_45 : decode cX2_copy 45 = .ok (.getfield 25, 3) := by decide +kernel
theorem dX2_copy_48 : decode cX2_copy 48 = .ok (.iconst 0, 1) := by decide +kernel
theorem dX2_copy_49 : decode cX2_copy 49 = .ok (.bipush 9, 2) := by decide +kernel
theorem dX2_copy_51 : decode cX2_copy 51 = .ok (.invokestatic 49, 3) := by decide +kernel
theorem dX2_copy_54 : decode cX2_copy 54 = .ok (.aload_n 1, 1) := by decide +kernel
theorem dX2_copy_55 : decode cX2_copy 55 = .ok (.getfield 28, 3) := by decide +kernel
theorem dX2_copy_58 : decode cX2_copy 58 = .ok (.iconst 0, 1) := by decide +kernel
theorem dX2_copy_59 : decode cX2_copy 59 = .ok (.aload_n 0, 1) := by decide +kernel
theorem dX2_copy_60 : decode cX2_copy 60 = .ok (.getfield 28, 3) := by decide +kernel
theorem dX2_copy_63 : decode cX2_copy 63 = .ok (.iconst 0, 1) := by decide +kernel
theorem dX2_copy_64 : decode cX2_copy 64 = .ok (.bipush 9, 2) := by decide +kernel
theorem dX2_copy_66 : decode cX2_copy 66 = .ok (.invokestatic 49, 3) := by decide +kernel
theorem dX2_copy_69 : decode cX2_copy 69 = .ok (.return_, 1) := by decide +kernel
theorem dX2_bringToPlaces_0 : decode cX2_bringToPlaces 0 = .ok (.iconst 0, 1) := by decide +kernel
theorem dX2_bringToPlaces_1 : decode cX2_bringToPlaces 1 = .ok (.istore_n 2, 1) := by decide +kernel
theorem dX2_bringToPlaces_2 : decode cX2_bringToPlaces 2 = .ok (.iload_n 2, 1) := by decide +kernel
theorem dX2_bringToPlaces_3 : decode cX2_bringToPlaces 3 = .ok (.aload_n 0, 1) := by decide +kernel
theorem dX2_bringToPlaces_4 : decode cX2_bringToPlaces 4 = .ok (.getfield 9, 3) := by decide +kernel
theorem dX2_bringToPlaces_7 : decode cX2_bringToPlaces 7 = .ok (.if_icmp .ge 23, 3) := by decide +kernel
theorem dX2_bringToPlaces_10 : decode cX2_bringToPlaces 10 = .ok (.aload_n 0, 1) := by decide +kernel
theorem dX2_bringToPlaces_11 : decode cX2_bringToPlaces 11 = .ok (.getfield 31, 3) := by decide +kernel
theorem dX2_bringToPlaces_14 : decode cX2_bringToPlaces 14 = .ok (.iload_n 2, 1) := by decide +kernel
theorem dX2_bringToPlaces_15 : decode cX2_bringToPlaces 15 = .ok (.aload_n 1, 1) := by decide +kernel
theorem dX2_bringToPlaces_16 : decode cX2_bringToPlaces 16 = .ok (.aload_n 0, 1) := by decide +kernel
theorem dX2_bringToPlaces_17 : decode cX2_bringToPlaces 17 = .ok (.getfield 21, 3) := by decide +kernel
theorem dX2_bringToPlaces_20 : decode cX2_bringToPlaces 20 = .ok (.iload_n 2, 1) := by decide +kernel
theorem dX2_bringToPlaces_21 : decode cX2_bringToPlaces 21 = .ok (.iaload, 1) := by decide +kernel
theorem dX2_bringToPlaces_22 : decode cX2_bringToPlaces 22 = .ok (.iaload, 1) := by decide +kernel
theorem dX2_bringToPlaces_23 : decode cX2_bringToPlaces 23 = .ok (.iastore, 1) := by decide +kernel
theorem dX2_bringToPlaces_24 : decode cX2_bringToPlaces 24 = .ok (.iinc 2 1, 3) := by decide +kernel
theorem dX2_bringToPlaces_27 : decode cX2_bringToPlaces 27 = .ok (.goto (-25), 3) := by decide +kernel
theorem dX2_bringToPlaces_30 : decode cX2_bringToPlaces 30 = .ok (.aload_n 0, 1) := by decide +kernel
theorem dX2_bringToPlaces_31 : decode cX2_bringToPlaces 31 = .ok (.getfield 31, 3) := by decide +kernel
theorem dX2_bringToPlaces_34 : decode cX2_bringToPlaces 34 = .ok (.iconst 0, 1) := by decide +kernel
theorem dX2_bringToPlaces_35 : decode cX2_bringToPlaces 35 = .ok (.aload_n 1, 1) := by decide +kernel
theorem dX2_bringToPlaces_36 : decode cX2_bringToPlaces 36 = .ok (.iconst 0, 1) := by decide +kernel
theorem dX2_bringToPlaces_37 : decode cX2_bringToPlaces 37 = .ok (.aload_n 0, 1) := by decide +kernel
theorem dX2_bringToPlaces_38 : decode cX2_bringToPlaces 38 = .ok (.getfield 9, 3) := by decide +kernel
theorem dX2_bringToPlaces_41 : decode cX2_bringToPlaces 41 = .ok (.invokestatic 49, 3) := by decide +kernel
theorem dX2_bringToPlaces_44 : decode cX2_bringToPlaces 44 = .ok (.return_, 1) := by decide +kernel
theorem dX2_girthNow_0 : decode cX2_girthNow 0 = .ok (.bipush 10, 2) := by decide +kernel
theorem dX2_girthNow_2 : decode cX2_girthNow 2 = .ok (.aload_n 0, 1) := by decide +kernel
theorem dX2_girthNow_3 : decode cX2_girthNow 3 = .ok (.getfield 18, 3) := by decide +kernel
theorem dX2_girthNow_6 : decode cX2_girthNow 6 = .ok (.iconst 3, 1) := by decide +kernel
theorem dX2_girthNow_7 : decode cX2_girthNow 7 = .ok (.idiv, 1) := by decide +kernel
theorem dX2_girthNow_8 : decode cX2_girthNow 8 = .ok (.iadd, 1) := by decide +kernel
theorem dX2_girthNow_9 : decode cX2_girthNow 9 = .ok (.ireturn, 1) := by decide +kernel
theorem dX2_take_0 : decode cX2_take 0 = .ok (.iload_n 1, 1) := by decide +kernel
theorem dX2_take_1 : decode cX2_take 1 = .ok (.bipush 100, 2) := by decide +kernel
theorem dX2_take_3 : decode cX2_take 3 = .ok (.if_icmp .lt 19, 3) := by decide +kernel
theorem dX2_take_6 : decode cX2_take 6 = .ok (.aload_n 0, 1) := by decide +kernel
theorem dX2_take_7 : decode cX2_take 7 = .ok (.iload_n 1, 1) := by decide +kernel
theorem dX2_take_8 : decode cX2_take 8 = .ok (.bipush 100, 2) := by decide +kernel
theorem dX2_take_10 : decode cX2_take 10 = .ok (.if_icmp .ne 7, 3) := by decide +kernel
theorem dX2_take_13 : decode cX2_take 13 = .ok (.iconst 1, 1) := by decide +kernel
theorem dX2_take_14 : decode cX2_take 14 = .ok (.goto 4, 3) := by decide +kernel
theorem dX2_take_17 : decode cX2_take 17 = .ok (.iconst 0, 1) := by decide +kernel
theorem dX2_take_18 : decode cX2_take 18 = .ok (.invokevirtual 55, 3) := by decide +kernel
theorem dX2_take_21 : decode cX2_take 21 = .ok (.ireturn, 1) := by decide +kernel
theorem dX2_take_22 : decode cX2_take 22 = .ok (.aload_n 0, 1) := by decide +kernel
theorem dX2_take_23 : decode cX2_take 23 = .ok (.iload_n 1, 1) := by decide +kernel
theorem dX2_take_24 : decode cX2_take 24 = .ok (.bipush 10, 2) := by decide +kernel
theorem dX2_take_26 : decode cX2_take 26 = .ok (.idiv, 1) := by decide +kernel
theorem dX2_take_27 : decode cX2_take 27 = .ok (.iload_n 1, 1) := by decide +kernel
theorem dX2_take_28 : decode cX2_take 28 = .ok (.bipush 10, 2) := by decide +kernel
theorem dX2_take_30 : decode cX2_take 30 = .ok (.irem, 1) := by decide +kernel
theorem dX2_take_31 : decode cX2_take 31 = .ok (.invokevirtual 59, 3) := by decide +kernel
theorem dX2_take_34 : decode cX2_take 34 = .ok (.ireturn, 1) := by decide +kernel
theorem dX2_takePass_0 : decode cX2_takePass 0 = .ok (.iload_n 1, 1) := by decide +kernel
theorem dX2_takePass_1 : decode cX2_takePass 1 = .ok (.ifCond .lt 11, 3) := by decide +kernel
theorem dX2_takePass_4 : decode cX2_takePass 4 = .ok (.iload_n 1, 1) := by decide +kernel
theorem dX2_takePass_5 : decode cX2_takePass 5 = .ok (.aload_n 0, 1) := by decide +kernel
theorem dX2_takePass_6 : decode cX2_takePass 6 = .ok (.getfield 9, 3) := by decide +kernel
theorem dX2_takePass_9 : decode cX2_takePass 9 = .ok (.if_icmp .lt 6, 3) := by decide +kernel
theorem dX2_takePass_12 : decode cX2_takePass 12 = .ok (.bipush (-3), 2) := by decide +kernel
theorem dX2_takePass_14 : decode cX2_takePass 14 = .ok (.ireturn, 1) := by decide +kernel
theorem dX2_takePass_15 : decode cX2_takePass 15 = .ok (.iload_n 1, 1) := by decide +kernel
theorem dX2_takePass_16 : decode cX2_takePass 16 = .ok (.aload_n 0, 1) := by decide +kernel
theorem dX2_takePass_17 : decode cX2_takePass 17 = .ok (.getfield 9, 3) := by decide +kernel
theorem dX2_takePass_20 : decode cX2_takePass 20 = .ok (.invokestatic 63, 3) := by decide +kernel
theorem dX2_takePass_23 : decode cX2_takePass 23 = .ok (.istore_n 3, 1) := by decide +kernel
theorem dX2_takePass_24 : decode cX2_takePass 24 = .ok (.aload_n 0, 1) := by decide +kernel
theorem dX2_takePass_25 : decode cX2_takePass 25 = .ok (.getfield 21, 3) := by decide +kernel
theorem dX2_takePass_28 : decode cX2_takePass 28 = .ok (.iload_n 1, 1) := by decide +kernel
theorem dX2_takePass_29 : decode cX2_takePass 29 = .ok (.iaload, 1) := by decide +kernel
theorem dX2_takePass_30 : decode cX2_takePass 30 = .ok (.istore 4, 2) := by decide +kernel
theorem dX2_takePass_32 : decode cX2_takePass 32 = .ok (.aload_n 0, 1) := by decide +kernel
theorem dX2_takePass_33 : decode cX2_takePass 33 = .ok (.getfield 21, 3) := by decide +kernel
theorem dX2_takePass_36 : decode cX2_takePass 36 = .ok (.iload_n 3, 1) := by decide +kernel
theorem dX2_takePass_37 : decode cX2_takePass 37 = .ok (.iaload, 1) := by decide +kernel
theorem dX2_takePass_38 : decode cX2_takePass 38 = .ok (.istore 5, 2) := by decide +kernel
theorem dX2_takePass_40 : decode cX2_takePass 40 = .ok (.iload_n 2, 1) := by decide +kernel
theorem dX2_takePass_41 : decode cX2_takePass 41 = .ok (.ifCond .ne 7, 3) := by decide +kernel
theorem dX2_takePass_44 : decode cX2_takePass 44 = .ok (.iconst 1, 1) := by decide +kernel
theorem dX2_takePass_45 : decode cX2_takePass 45 = .ok (.goto 4, 3) := by decide +kernel
theorem dX2_takePass_48 : decode cX2_takePass 48 = .ok (.iconst 2, 1) := by decide +kernel
theorem dX2_takePass_49 : decode cX2_takePass 49 = .ok (.istore 6, 2) := by decide +kernel
theorem dX2_takePass_51 : decode cX2_takePass 51 = .ok (.iconst 3, 1) := by decide +kernel
theorem dX2_takePass_52 : decode cX2_takePass 52 = .ok (.iload 6, 2) := by decide +kernel
theorem dX2_takePass_54 : decode cX2_takePass 54 = .ok (.isub, 1) := by decide +kernel
theorem dX2_takePass_55 : decode cX2_takePass 55 = .ok (.istore 7, 2) := by decide +kernel
theorem dX2_takePass_57 : decode cX2_takePass 57 = .ok (.aload_n 0, 1) := by decide +kernel
theorem dX2_takePass_58 : decode cX2_takePass 58 = .ok (.getfield 25, 3) := by decide +kernel
theorem dX2_takePass_61 : decode cX2_takePass 61 = .ok (.iload 4, 2) := by decide +kernel
theorem dX2_takePass_63 : decode cX2_takePass 63 = .ok (.iaload, 1) := by decide +kernel
theorem dX2_takePass_64 : decode cX2_takePass 64 = .ok (.iload 6, 2) := by decide +kernel
theorem dX2_takePass_66 : decode cX2_takePass 66 = .ok (.if_icmp .lt 15, 3) := by decide +kernel
theorem dX2_takePass_69 : decode cX2_takePass 69 = .ok (.aload_n 0, 1) := by decide +kernel
theorem dX2_takePass_70 : decode cX2_takePass 70 = .ok (.getfield 25, 3) := by decide +kernel
theorem dX2_takePass_73 : decode cX2_takePass 73 = .ok (.iload 5, 2) := by decide +kernel
theorem dX2_takePass_75 : decode cX2_takePass 75 = .ok (.iaload, 1) := by decide +kernel
theorem dX2_takePass_76 : decode cX2_takePass 76 = .ok (.iload 7, 2) := by decide +kernel
theorem dX2_takePass_78 : decode cX2_takePass 78 = .ok (.if_icmp .ge 6, 3) := by decide +kernel
theorem dX2_takePass_81 : decode cX2_takePass 81 = .ok (.bipush (-3), 2) := by decide +kernel
theorem dX2_takePass_83 : decode cX2_takePass 83 = .ok (.ireturn, 1) := by decide +kernel
theorem dX2_takePass_84 : decode cX2_takePass 84 = .ok (.aload_n 0, 1) := by decide +kernel
theorem dX2_takePass_85 : decode cX2_takePass 85 = .ok (.getfield 15, 3) := by decide +kernel
theorem dX2_takePass_88 : decode cX2_takePass 88 = .ok (.sipush 300, 3) := by decide +kernel
theorem dX2_takePass_91 : decode cX2_takePass 91 = .ok (.if_icmp .lt 6, 3) := by decide +kernel
theorem dX2_takePass_94 : decode cX2_takePass 94 = .ok (.bipush (-4), 2) := by decide +kernel
theorem dX2_takePass_96 : decode cX2_takePass 96 = .ok (.ireturn, 1) := by decide +kernel
theorem dX2_takePass_97 : decode cX2_takePass 97 = .ok (.aload_n 0, 1) := by decide +kernel
theorem dX2_takePass_98 : decode cX2_takePass 98 = .ok (.dup, 1) := by decide +kernel
theorem dX2_takePass_99 : decode cX2_takePass 99 = .ok (.getfield 15, 3) := by decide +kernel
theorem dX2_takePass_102 : decode cX2_takePass 102 = .ok (.iconst 1, 1) := by decide +kernel
theorem dX2_takePass_103 : decode cX2_takePass 103 = .ok (.iadd, 1) := by decide +kernel
theorem dX2_takePass_104 : decode cX2_takePass 104 = .ok (.putfield 15, 3) := by decide +kernel
theorem dX2_takePass_107 : decode cX2_takePass 107 = .ok (.aload_n 0, 1) := by decide +kernel
theorem dX2_takePass_108 : decode cX2_takePass 108 = .ok (.getfield 25, 3) := by decide +kernel
theorem dX2_takePass_111 : decode cX2_takePass 111 = .ok (.iload 4, 2) := by decide +kernel
theorem dX2_takePass_113 : decode cX2_takePass 113 = .ok (.dup2, 1) := by decide +kernel
theorem dX2_takePass_114 : decode cX2_takePass 114 = .ok (.iaload, 1) := by decide +kernel
theorem dX2_takePass_115 : decode cX2_takePass 115 = .ok (.iload 6, 2) := by decide +kernel
theorem dX2_takePass_117 : decode cX2_takePass 117 = .ok (.isub, 1) := by decide +kernel
theorem dX2_takePass_118 : decode cX2_takePass 118 = .ok (.iastore, 1) := by decide +kernel
theorem dX2_takePass_119 : decode cX2_takePass 119 = .ok (.aload_n 0, 1) := by decide +kernel
theorem dX2_takePass_120 : decode cX2_takePass 120 = .ok (.getfield 25, 3) := by decide +kernel
theorem dX2_takePass_123 : decode cX2_takePass 123 = .ok (.iload 5, 2) := by decide +kernel
theorem dX2_takePass_125 : decode cX2_takePass 125 = .ok (.dup2, 1) := by decide +kernel
theorem dX2_takePass_126 : decode cX2_takePass 126 = .ok (.iaload, 1) := by decide +kernel
theorem dX2_takePass_127 : decode cX2_takePass 127 = .ok (.iload 7, 2) := by decide +kernel
theorem dX2_takePass_129 : decode cX2_takePass 129 = .ok (.isub, 1) := by decide +kernel
theorem dX2_takePass_130 : decode cX2_takePass 130 = .ok (.iastore, 1) := by decide +kernel
theorem dX2_takePass_131 : decode cX2_takePass 131 = .ok (.aload_n 0, 1) := by decide +kernel
theorem dX2_takePass_132 : decode cX2_takePass 132 = .ok (.getfield 21, 3) := by decide +kernel
theorem dX2_takePass_135 : decode cX2_takePass 135 = .ok (.iload_n 1, 1) := by decide +kernel
theorem dX2_takePass_136 : decode cX2_takePass 136 = .ok (.iload 5, 2) := by decide +kernel
theorem dX2_takePass_138 : decode cX2_takePass 138 = .ok (.iastore, 1) := by decide +kernel
theorem dX2_takePass_139 : decode cX2_takePass 139 = .ok (.aload_n 0, 1) := by decide +kernel
theorem dX2_takePass_140 : decode cX2_takePass 140 = .ok (.getfield 21, 3) := by decide +kernel
theorem dX2_takePass_143 : decode cX2_takePass 143 = .ok (.iload_n 3, 1) := by decide +kernel
theorem dX2_takePass_144 : decode cX2_takePass 144 = .ok (.iload 4, 2) := by decide +kernel
theorem dX2_takePass_146 : decode cX2_takePass 146 = .ok (.iastore, 1) := by decide +kernel
theorem dX2_takePass_147 : decode cX2_takePass 147 = .ok (.aload_n 0, 1) := by decide +kernel
theorem dX2_takePass_148 : decode cX2_takePass 148 = .ok (.getfield 28, 3) := by decide +kernel
theorem dX2_takePass_151 : decode cX2_takePass 151 = .ok (.iload_n 1, 1) := by decide +kernel
theorem dX2_takePass_152 : decode cX2_takePass 152 = .ok (.iload_n 2, 1) := by decide +kernel
theorem dX2_takePass_153 : decode cX2_takePass 153 = .ok (.iconst 1, 1) := by decide +kernel
theorem dX2_takePass_154 : decode cX2_takePass 154 = .ok (.iadd, 1) := by decide +kernel
theorem dX2_takePass_155 : decode cX2_takePass 155 = .ok (.iastore, 1) := by decide +kernel
theorem dX2_takePass_156 : decode cX2_takePass 156 = .ok (.iconst 0, 1) := by decide +kernel
theorem dX2_takePass_157 : decode cX2_takePass 157 = .ok (.ireturn, 1) := by decide +kernel
theorem dX2_takeWalk_0 : decode cX2_takeWalk 0 = .ok (.aload_n 0, 1) := by decide +kernel
theorem dX2_takeWalk_1 : decode cX2_takeWalk 1 = .ok (.invokevirtual 66, 3) := by decide +kernel
theorem dX2_takeWalk_4 : decode cX2_takeWalk 4 = .ok (.istore_n 2, 1) := by decide +kernel
theorem dX2_takeWalk_5 : decode cX2_takeWalk 5 = .ok (.iconst 0, 1) := by decide +kernel
theorem dX2_takeWalk_6 : decode cX2_takeWalk 6 = .ok (.istore_n 3, 1) := by decide +kernel
theorem dX2_takeWalk_7 : decode cX2_takeWalk 7 = .ok (.iload_n 3, 1) := by decide +kernel
theorem dX2_takeWalk_8 : decode cX2_takeWalk 8 = .ok (.aload_n 0, 1) := by decide +kernel
theorem dX2_takeWalk_9 : decode cX2_takeWalk 9 = .ok (.getfield 9, 3) := by decide +kernel
theorem dX2_takeWalk_12 : decode cX2_takeWalk 12 = .ok (.if_icmp .ge 22, 3) := by decide +kernel
theorem dX2_takeWalk_15 : decode cX2_takeWalk 15 = .ok (.aload_n 0, 1) := by decide +kernel
theorem dX2_takeWalk_16 : decode cX2_takeWalk 16 = .ok (.getfield 25, 3) := by decide +kernel
theorem dX2_takeWalk_19 : decode cX2_takeWalk 19 = .ok (.iload_n 3, 1) := by decide +kernel
theorem dX2_takeWalk_20 : decode cX2_takeWalk 20 = .ok (.iaload, 1) := by decide +kernel
theorem dX2_takeWalk_21 : decode cX2_takeWalk 21 = .ok (.iload_n 2, 1) := by decide +kernel
theorem dX2_takeWalk_22 : decode cX2_takeWalk 22 = .ok (.if_icmp .ge 6, 3) := by decide +kernel
theorem dX2_takeWalk_25 : decode cX2_takeWalk 25 = .ok (.bipush (-3), 2) := by decide +kernel
theorem dX2_takeWalk_27 : decode cX2_takeWalk 27 = .ok (.ireturn, 1) := by decide +kernel
theorem dX2_takeWalk_28 : decode cX2_takeWalk 28 = .ok (.iinc 3 1, 3) := by decide +kernel
theorem dX2_takeWalk_31 : decode cX2_takeWalk 31 = .ok (.goto (-24), 3) := by decide +kernel
theorem dX2_takeWalk_34 : decode cX2_takeWalk 34 = .ok (.aload_n 0, 1) := by decide +kernel
theorem dX2_takeWalk_35 : decode cX2_takeWalk 35 = .ok (.getfield 15, 3) := by decide +kernel
theorem dX2_takeWalk_38 : decode cX2_takeWalk 38 = .ok (.sipush 300, 3) := by decide +kernel
theorem dX2_takeWalk_41 : decode cX2_takeWalk 41 = .ok (.if_icmp .ge 12, 3) := by decide +kernel
theorem dX2_takeWalk_44 : decode cX2_takeWalk 44 = .ok (.aload_n 0, 1) := by decide +kernel
theorem dX2_takeWalk_45 : decode cX2_takeWalk 45 = .ok (.getfield 18, 3) := by decide +kernel
theorem dX2_takeWalk_48 : decode cX2_takeWalk 48 = .ok (.bipush 100, 2) := by decide +kernel
theorem dX2_takeWalk_50 : decode cX2_takeWalk 50 = .ok (.if_icmp .lt 6, 3) := by decide +kernel
theorem dX2_takeWalk_53 : decode cX2_takeWalk 53 = .ok (.bipush (-4), 2) := by decide +kernel
theorem dX2_takeWalk_55 : decode cX2_takeWalk 55 = .ok (.ireturn, 1) := by decide +kernel
theorem dX2_takeWalk_56 : decode cX2_takeWalk 56 = .ok (.aload_n 0, 1) := by decide +kernel
theorem dX2_takeWalk_57 : decode cX2_takeWalk 57 = .ok (.dup, 1) := by decide +kernel
theorem dX2_takeWalk_58 : decode cX2_takeWalk 58 = .ok (.getfield 15, 3) := by decide +kernel
theorem dX2_takeWalk_61 : decode cX2_takeWalk 61 = .ok (.iconst 1, 1) := by decide +kernel
theorem dX2_takeWalk_62 : decode cX2_takeWalk 62 = .ok (.iadd, 1) := by decide +kernel
theorem dX2_takeWalk_63 : decode cX2_takeWalk 63 = .ok (.putfield 15, 3) := by decide +kernel
theorem dX2_takeWalk_66 : decode cX2_takeWalk 66 = .ok (.aload_n 0, 1) := by decide +kernel
theorem dX2_takeWalk_67 : decode cX2_takeWalk 67 = .ok (.dup, 1) := by decide +kernel
theorem dX2_takeWalk_68 : decode cX2_takeWalk 68 = .ok (.getfield 18, 3) := by decide +kernel
theorem dX2_takeWalk_71 : decode cX2_takeWalk 71 = .ok (.iconst 1, 1) := by decide +kernel
theorem dX2_takeWalk_72 : decode cX2_takeWalk 72 = .ok (.iadd, 1) := by decide +kernel
theorem dX2_takeWalk_73 : decode cX2_takeWalk 73 = .ok (.putfield 18, 3) := by decide +kernel
theorem dX2_takeWalk_76 : decode cX2_takeWalk 76 = .ok (.iconst 0, 1) := by decide +kernel
theorem dX2_takeWalk_77 : decode cX2_takeWalk 77 = .ok (.istore_n 3, 1) := by decide +kernel
theorem dX2_takeWalk_78 : decode cX2_takeWalk 78 = .ok (.iload_n 3, 1) := by decide +kernel
theorem dX2_takeWalk_79 : decode cX2_takeWalk 79 = .ok (.aload_n 0, 1) := by decide +kernel
theorem dX2_takeWalk_80 : decode cX2_takeWalk 80 = .ok (.getfield 9, 3) := by decide +kernel
theorem dX2_takeWalk_83 : decode cX2_takeWalk 83 = .ok (.if_icmp .ge 64, 3) := by decide +kernel
theorem dX2_takeWalk_86 : decode cX2_takeWalk 86 = .ok (.aload_n 0, 1) := by decide +kernel
theorem dX2_takeWalk_87 : decode cX2_takeWalk 87 = .ok (.getfield 25, 3) := by decide +kernel
theorem dX2_takeWalk_90 : decode cX2_takeWalk 90 = .ok (.iload_n 3, 1) := by decide +kernel
theorem dX2_takeWalk_91 : decode cX2_takeWalk 91 = .ok (.dup2, 1) := by decide +kernel
theorem dX2_takeWalk_92 : decode cX2_takeWalk 92 = .ok (.iaload, 1) := by decide +kernel
theorem dX2_takeWalk_93 : decode cX2_takeWalk 93 = .ok (.iload_n 2, 1) := by decide +kernel
theorem dX2_takeWalk_94 : decode cX2_takeWalk 94 = .ok (.isub, 1) := by decide +kernel
theorem dX2_takeWalk_95 : decode cX2_takeWalk 95 = .ok (.iastore, 1) := by decide +kernel
theorem dX2_takeWalk_96 : decode cX2_takeWalk 96 = .ok (.iload_n 1, 1) := by decide +kernel
theorem dX2_takeWalk_97 : decode cX2_takeWalk 97 = .ok (.ifCond .eq 25, 3) := by decide +kernel
theorem dX2_takeWalk_100 : decode cX2_takeWalk 100 = .ok (.aload_n 0, 1) := by decide +kernel
theorem dX2_takeWalk_101 : decode cX2_takeWalk 101 = .ok (.getfield 31, 3) := by decide +kernel
theorem dX2_takeWalk_104 : decode cX2_takeWalk 104 = .ok (.iload_n 3, 1) := by decide +kernel
theorem dX2_takeWalk_105 : decode cX2_takeWalk 105 = .ok (.aload_n 0, 1) := by decide +kernel
theorem dX2_takeWalk_106 : decode cX2_takeWalk 106 = .ok (.getfield 9, 3) := by decide +kernel
theorem dX2_takeWalk_109 : decode cX2_takeWalk 109 = .ok (.invokestatic 63, 3) := by decide +kernel
theorem dX2_takeWalk_112 : decode cX2_takeWalk 112 = .ok (.aload_n 0, 1) := by decide +kernel
theorem dX2_takeWalk_113 : decode cX2_takeWalk 113 = .ok (.getfield 21, 3) := by decide +kernel
theorem dX2_takeWalk_116 : decode cX2_takeWalk 116 = .ok (.iload_n 3, 1) := by decide +kernel
theorem dX2_takeWalk_117 : decode cX2_takeWalk 117 = .ok (.iaload, 1) := by decide +kernel
theorem dX2_takeWalk_118 : decode cX2_takeWalk 118 = .ok (.iastore, 1) := by decide +kernel
theorem dX2_takeWalk_119 : decode cX2_takeWalk 119 = .ok (.goto 22, 3) := by decide +kernel
theorem dX2_takeWalk_122 : decode cX2_takeWalk 122 = .ok (.aload_n 0, 1) := by decide +kernel
theorem dX2_takeWalk_123 : decode cX2_takeWalk 123 = .ok (.getfield 31, 3) := by decide +kernel
theorem dX2_takeWalk_126 : decode cX2_takeWalk 126 = .ok (.iload_n 3, 1) := by decide +kernel
theorem dX2_takeWalk_127 : decode cX2_takeWalk 127 = .ok (.aload_n 0, 1) := by decide +kernel
theorem dX2_takeWalk_128 : decode cX2_takeWalk 128 = .ok (.getfield 21, 3) := by decide +kernel
theorem dX2_takeWalk_131 : decode cX2_takeWalk 131 = .ok (.iload_n 3, 1) := by decide +kernel
theorem dX2_takeWalk_132 : decode cX2_takeWalk 132 = .ok (.aload_n 0, 1) := by decide +kernel
theorem dX2_takeWalk_133 : decode cX2_takeWalk 133 = .ok (.getfield 9, 3) := by decide +kernel
theorem dX2_takeWalk_136 : decode cX2_takeWalk 136 = .ok (.invokestatic 63, 3) := by decide +kernel
theorem dX2_takeWalk_139 : decode cX2_takeWalk 139 = .ok (.iaload, 1) := by decide +kernel
theorem dX2_takeWalk_140 : decode cX2_takeWalk 140 = .ok (.iastore, 1) := by decide +kernel
theorem dX2_takeWalk_141 : decode cX2_takeWalk 141 = .ok (.iinc 3 1, 3) := by decide +kernel
theorem dX2_takeWalk_144 : decode cX2_takeWalk 144 = .ok (.goto (-66), 3) := by decide +kernel
theorem dX2_takeWalk_147 : decode cX2_takeWalk 147 = .ok (.aload_n 0, 1) := by decide +kernel
theorem dX2_takeWalk_148 : decode cX2_takeWalk 148 = .ok (.getfield 31, 3) := by decide +kernel
theorem dX2_takeWalk_151 : decode cX2_takeWalk 151 = .ok (.iconst 0, 1) := by decide +kernel
theorem dX2_takeWalk_152 : decode cX2_takeWalk 152 = .ok (.aload_n 0, 1) := by decide +kernel
theorem dX2_takeWalk_153 : decode cX2_takeWalk 153 = .ok (.getfield 21, 3) := by decide +kernel
theorem dX2_takeWalk_156 : decode cX2_takeWalk 156 = .ok (.iconst 0, 1) := by decide +kernel
theorem dX2_takeWalk_157 : decode cX2_takeWalk 157 = .ok (.aload_n 0, 1) := by decide +kernel
theorem dX2_takeWalk_158 : decode cX2_takeWalk 158 = .ok (.getfield 9, 3) := by decide +kernel
theorem dX2_takeWalk_161 : decode cX2_takeWalk 161 = .ok (.invokestatic 49, 3) := by decide +kernel
theorem dX2_takeWalk_164 : decode cX2_takeWalk 164 = .ok (.iconst 0, 1) := by decide +kernel
theorem dX2_takeWalk_165 : decode cX2_takeWalk 165 = .ok (.ireturn, 1) := by decide +kernel
theorem dX3_init_0 : decode cX3_init 0 = .ok (.aload_n 0, 1) := by decide +kernel
theorem dX3_init_1 : decode cX3_init 1 = .ok (.invokespecial 3, 3) := by decide +kernel
theorem dX3_init_4 : decode cX3_init 4 = .ok (.aload_n 0, 1) := by decide +kernel
theorem dX3_init_5 : decode cX3_init 5 = .ok (.iconst 0, 1) := by decide +kernel
theorem dX3_init_6 : decode cX3_init 6 = .ok (.putfield 9, 3) := by decide +kernel
theorem dX3_init_9 : decode cX3_init 9 = .ok (.aload_n 0, 1) := by decide +kernel
theorem dX3_init_10 : decode cX3_init 10 = .ok (.iconst 0, 1) := by decide +kernel
theorem dX3_init_11 : decode cX3_init 11 = .ok (.putfield 15, 3) := by decide +kernel
theorem dX3_init_14 : decode cX3_init 14 = .ok (.aload_n 0, 1) := by decide +kernel
theorem dX3_init_15 : decode cX3_init 15 = .ok (.sipush 300, 3) := by decide +kernel
theorem dX3_init_18 : decode cX3_init 18 = .ok (.newarray .int, 2) := by decide +kernel
theorem dX3_init_20 : decode cX3_init 20 = .ok (.putfield 18, 3) := by decide +kernel
theorem dX3_init_23 : decode cX3_init 23 = .ok (.aload_n 0, 1) := by decide +kernel
theorem dX3_init_24 : decode cX3_init 24 = .ok (.sipush 300, 3) := by decide +kernel
theorem dX3_init_27 : decode cX3_init 27 = .ok (.newarray .int, 2) := by decide +kernel
theorem dX3_init_29 : decode cX3_init 29 = .ok (.putfield 22, 3) := by decide +kernel
theorem dX3_init_32 : decode cX3_init 32 = .ok (.aload_n 0, 1) := by decide +kernel
theorem dX3_init_33 : decode cX3_init 33 = .ok (.iconst 0, 1) := by decide +kernel
theorem dX3_init_34 : decode cX3_init 34 = .ok (.putfield 25, 3) := by decide +kernel
theorem dX3_init_37 : decode cX3_init 37 = .ok (.aload_n 0, 1) := by decide +kernel
theorem dX3_init_38 : decode cX3_init 38 = .ok (.sipush 300, 3) := by decide +kernel
theorem dX3_init_41 : decode cX3_init 41 = .ok (.newarray .int, 2) := by decide +kernel
theorem dX3_init_43 : decode cX3_init 43 = .ok (.putfield 28, 3) := by decide +kernel
theorem dX3_init_46 : decode cX3_init 46 = .ok (.aload_n 0, 1) := by decide +kernel
theorem dX3_init_47 : decode cX3_init 47 = .ok (.bipush 9, 2) := by decide +kernel
theorem dX3_init_49 : decode cX3_init 49 = .ok (.newarray .int, 2) := by decide +kernel
theorem dX3_init_51 : decode cX3_init 51 = .ok (.putfield 31, 3) := by decide +kernel
theorem dX3_init_54 : decode cX3_init 54 = .ok (.return_, 1) := by decide +kernel
theorem dX3_cutDown_0 : decode cX3_cutDown 0 = .ok (.aload_n 0, 1) := by decide +kernel
theorem dX3_cutDown_1 : decode cX3_cutDown 1 = .ok (.iconst 0, 1) := by decide +kernel
theorem dX3_cutDown_2 : decode cX3_cutDown 2 = .ok (.putfield 9, 3) := by decide +kernel
theorem dX3_cutDown_5 : decode cX3_cutDown 5 = .ok (.aload_n 0, 1) := by decide +kernel
theorem dX3_cutDown_6 : decode cX3_cutDown 6 = .ok (.iconst 0, 1) := by decide +kernel
theorem dX3_cutDown_7 : decode cX3_cutDown 7 = .ok (.putfield 25, 3) := by decide +kernel
theorem dX3_cutDown_10 : decode cX3_cutDown 10 = .ok (.aload_n 0, 1) := by decide +kernel
theorem dX3_cutDown_11 : decode cX3_cutDown 11 = .ok (.getfield 31, 3) := by decide +kernel
theorem dX3_cutDown_14 : decode cX3_cutDown 14 = .ok (.iconst (-1), 1) := by decide +kernel
theorem dX3_cutDown_15 : decode cX3_cutDown 15 = .ok (.invokestatic 34, 3) := by decide +kernel
theorem dX3_cutDown_18 : decode cX3_cutDown 18 = .ok (.iconst 0, 1) := by decide +kernel
theorem dX3_cutDown_19 : decode cX3_cutDown 19 = .ok (.istore_n 3, 1) := by decide +kernel
theorem dX3_cutDown_20 : decode cX3_cutDown 20 = .ok (.iload_n 3, 1) := by decide +kernel
theorem dX3_cutDown_21 : decode cX3_cutDown 21 = .ok (.aload_n 1, 1) := by decide +kernel
theorem dX3_cutDown_22 : decode cX3_cutDown 22 = .ok (.getfield 40, 3) := by decide +kernel
theorem dX3_cutDown_25 : decode cX3_cutDown 25 = .ok (.if_icmp .ge 86, 3) := by decide +kernel
theorem dX3_cutDown_28 : decode cX3_cutDown 28 = .ok (.aload_n 1, 1) := by decide +kernel
theorem dX3_cutDown_29 : decode cX3_cutDown 29 = .ok (.getfield 43, 3) := by decide +kernel
theorem dX3_cutDown_32 : decode cX3_cutDown 32 = .ok (.iload_n 3, 1) := by decide +kernel
theorem dX3_cutDown_33 : decode cX3_cutDown 33 = .ok (.iaload, 1) := by decide +kernel
theorem dX3_cutDown_34 : decode cX3_cutDown 34 = .ok (.istore 4, 2) := by decide +kernel
theorem dX3_cutDown_36 : decode cX3_cutDown 36 = .ok (.iload 4, 2) := by decide +kernel
theorem dX3_cutDown_38 : decode cX3_cutDown 38 = .ok (.bipush 100, 2) := by decide +kernel
theorem dX3_cutDown_40 : decode cX3_cutDown 40 = .ok (.if_icmp .lt 27, 3) := by decide +kernel
theorem dX3_cutDown_43 : decode cX3_cutDown 43 = .ok (.aload_n 0, 1) := by decide +kernel
theorem dX3_cutDown_44 : decode cX3_cutDown 44 = .ok (.dup, 1) := by decide +kernel
theorem dX3_cutDown_45 : decode cX3_cutDown 45 = .ok (.getfield 9, 3) := by decide +kernel
theorem dX3_cutDown_48 : decode cX3_cutDown 48 = .ok (.iload 4, 2) := by decide +kernel
theorem dX3_cutDown_50 : decode cX3_cutDown 50 = .ok (.bipush 100, 2) := by decide +kernel
theorem dX3_cutDown_52 : decode cX3_cutDown 52 = .ok (.if_icmp .ne 7, 3) := by decide +kernel
theorem dX3_cutDown_55 : decode cX3_cutDown 55 = .ok (.iconst 1, 1) := by decide +kernel
theorem dX3_cutDown_56 : decode cX3_cutDown 56 = .ok (.goto 4, 3) := by decide +kernel
theorem dX3_cutDown_59 : decode cX3_cutDown 59 = .ok (.iconst (-1), 1) := by decide +kernel
theorem dX3_cutDown_60 : decode cX3_cutDown 60 = .ok (.iadd, 1) := by decide +kernel
theorem dX3_cutDown_61 : decode cX3_cutDown 61 = .ok (.putfield 9, 3) := by decide +kernel
theorem dX3_cutDown_64 : decode cX3_cutDown 64 = .ok (.goto 41, 3) := by decide +kernel
theorem dX3_cutDown_67 : decode cX3_cutDown 67 = .ok (.iload 4, 2) := by decide +kernel
theorem dX3_cutDown_69 : decode cX3_cutDown 69 = .ok (.bipush 10, 2) := by decide +kernel
theorem dX3_cutDown_71 : decode cX3_cutDown 71 = .ok (.idiv, 1) := by decide +kernel
theorem dX3_cutDown_72 : decode cX3_cutDown 72 = .ok (.iload_n 2, 1) := by decide +kernel
theorem dX3_cutDown_73 : decode cX3_cutDown 73 = .ok (.if_icmp .ge 30, 3) := by decide +kernel
theorem dX3_cutDown_76 : decode cX3_cutDown 76 = .ok (.aload_n 0, 1) := by decide +kernel
theorem dX3_cutDown_77 : decode cX3_cutDown 77 = .ok (.iload 4, 2) := by decide +kernel
theorem dX3_cutDown_79 : decode cX3_cutDown 79 = .ok (.bipush 10, 2) := by decide +kernel
theorem dX3_cutDown_81 : decode cX3_cutDown 81 = .ok (.idiv, 1) := by decide +kernel
theorem dX3_cutDown_82 : decode cX3_cutDown 82 = .ok (.aload_n 0, 1) := by decide +kernel
theorem dX3_cutDown_83 : decode cX3_cutDown 83 = .ok (.getfield 9, 3) := by decide +kernel
theorem dX3_cutDown_86 : decode cX3_cutDown 86 = .ok (.isub, 1) := by decide +kernel
theorem dX3_cutDown_87 : decode cX3_cutDown 87 = .ok (.iload_n 2, 1) := by decide +kernel
theorem dX3_cutDown_88 : decode cX3_cutDown 88 = .ok (.invokestatic 46, 3) := by decide +kernel
theorem dX3_cutDown_91 : decode cX3_cutDown 91 = .ok (.iload 4, 2) := by decide +kernel
theorem dX3_cutDown_93 : decode cX3_cutDown 93 = .ok (.bipush 10, 2) := by decide +kernel
theorem dX3_cutDown_95 : decode cX3_cutDown 95 = .ok (.irem, 1) := by decide +kernel
theorem dX3_cutDown_96 : decode cX3_cutDown 96 = .ok (.iload_n 2, 1) := by decide +kernel
theorem dX3_cutDown_97 : decode cX3_cutDown 97 = .ok (.invokevirtual 52, 3) := by decide +kernel
theorem dX3_cutDown_100 : decode cX3_cutDown 100 = .ok (.goto 5, 3) := by decide +kernel
theorem dX3_cutDown_103 : decode cX3_cutDown 103 = .ok (.iconst 0, 1) := by decide +kernel
theorem dX3_cutDown_104 : decode cX3_cutDown 104 = .ok (.ireturn, 1) := by decide +kernel
theorem dX3_cutDown_105 : decode cX3_cutDown 105 = .ok (.iinc 3 1, 3) := by decide +kernel
theorem dX3_cutDown_108 : decode cX3_cutDown 108 = .ok (.goto (-88), 3) := by decide +kernel
theorem dX3_cutDown_111 : decode cX3_cutDown 111 = .ok (.aload_n 0, 1) := by decide +kernel
theorem dX3_cutDown_112 : decode cX3_cutDown 112 = .ok (.invokevirtual 56, 3) := by decide +kernel
theorem dX3_cutDown_115 : decode cX3_cutDown 115 = .ok (.aload_n 0, 1) := by decide +kernel
theorem dX3_cutDown_116 : decode cX3_cutDown 116 = .ok (.iload_n 2, 1) := by decide +kernel
theorem dX3_cutDown_117 : decode cX3_cutDown 117 = .ok (.invokevirtual 59, 3) := by decide +kernel
theorem dX3_cutDown_120 : decode cX3_cutDown 120 = .ok (.iconst 1, 1) := by decide +kernel
theorem dX3_cutDown_121 : decode cX3_cutDown 121 = .ok (.ireturn, 1) := by decide +kernel
theorem dX3_meet_0 : decode cX3_meet 0 = .ok (.aload_n 0, 1) := by decide +kernel
theorem dX3_meet_1 : decode cX3_meet 1 = .ok (.getfield 31, 3) := by decide +kernel
theorem dX3_meet_4 : decode cX3_meet 4 = .ok (.iload_n 1, 1) := by decide +kernel
theorem dX3_meet_5 : decode cX3_meet 5 = .ok (.iaload, 1) := by decide +kernel
theorem dX3_meet_6 : decode cX3_meet 6 = .ok (.istore 4, 2) := by decide +kernel
theorem dX3_meet_8 : decode cX3_meet 8 = .ok (.iload 4, 2) := by decide +kernel
theorem dX3_meet_10 : decode cX3_meet 10 = .ok (.ifCond .lt 69, 3) := by decide +kernel
theorem dX3_meet_13 : decode cX3_meet 13 = .ok (.aload_n 0, 1) := by decide +kernel
theorem dX3_meet_14 : decode cX3_meet 14 = .ok (.getfield 22, 3) := by decide +kernel
theorem dX3_meet_17 : decode cX3_meet 17 = .ok (.iload 4, 2) := by decide +kernel
theorem dX3_meet_19 : decode cX3_meet 19 = .ok (.iaload, 1) := by decide +kernel
theorem dX3_meet_20 : decode cX3_meet 20 = .ok (.bipush 10, 2) := by decide +kernel
theorem dX3_meet_22 : decode cX3_meet 22 = .ok (.irem, 1) := by decide +kernel
theorem dX3_meet_23 : decode cX3_meet 23 = .ok (.iload_n 2, 1) := by decide +kernel
theorem dX3_meet_24 : decode cX3_meet 24 = .ok (.if_icmp .eq 55, 3) := by decide +kernel
theorem dX3_meet_27 : decode cX3_meet 27 = .ok (.aload_n 0, 1) := by decide +kernel
theorem dX3_meet_28 : decode cX3_meet 28 = .ok (.getfield 31, 3) := by decide +kernel
theorem dX3_meet_31 : decode cX3_meet 31 = .ok (.iload_n 1, 1) := by decide +kernel
theorem dX3_meet_32 : decode cX3_meet 32 = .ok (.iload_n 3, 1) := by decide +kernel
theorem dX3_meet_33 : decode cX3_meet 33 = .ok (.invokestatic 63, 3) := by decide +kernel
theorem dX3_meet_36 : decode cX3_meet 36 = .ok (.iaload, 1) := by decide +kernel
theorem dX3_meet_37 : decode cX3_meet 37 = .ok (.iload 4, 2) := by decide +kernel
theorem dX3_meet_39 : decode cX3_meet 39 = .ok (.if_icmp .ge 40, 3) := by decide +kernel
theorem dX3_meet_42 : decode cX3_meet 42 = .ok (.aload_n 0, 1) := by decide +kernel
theorem dX3_meet_43 : decode cX3_meet 43 = .ok (.getfield 31, 3) := by decide +kernel
theorem dX3_meet_46 : decode cX3_meet 46 = .ok (.iload_n 1, 1) := by decide +kernel
theorem dX3_meet_47 : decode cX3_meet 47 = .ok (.iload_n 3, 1) := by decide +kernel
theorem dX3_meet_48 : decode cX3_meet 48 = .ok (.invokestatic 66, 3) := by decide +kernel
theorem dX3_meet_51 : decode cX3_meet 51 = .ok (.iaload, 1) := by decide +kernel
theorem dX3_meet_52 : decode cX3_meet 52 = .ok (.iload 4, 2) := by decide +kernel
theorem dX3_meet_54 : decode cX3_meet 54 = .ok (.if_icmp .ge 25, 3) := by decide +kernel
theorem dX3_meet_57 : decode cX3_meet 57 = .ok (.aload_n 0, 1) := by decide +kernel
theorem dX3_meet_58 : decode cX3_meet 58 = .ok (.getfield 31, 3) := by decide +kernel
theorem dX3_meet_61 : decode cX3_meet 61 = .ok (.iload_n 1, 1) := by decide +kernel
theorem dX3_meet_62 : decode cX3_meet 62 = .ok (.aload_n 0, 1) := by decide +kernel
theorem dX3_meet_63 : decode cX3_meet 63 = .ok (.getfield 28, 3) := by decide +kernel
theorem dX3_meet_66 : decode cX3_meet 66 = .ok (.iload 4, 2) := by decide +kernel
theorem dX3_meet_68 : decode cX3_meet 68 = .ok (.iaload, 1) := by decide +kernel
theorem dX3_meet_69 : decode cX3_meet 69 = .ok (.iastore, 1) := by decide +kernel
theorem dX3_meet_70 : decode cX3_meet 70 = .ok (.aload_n 0, 1) := by decide +kernel
theorem dX3_meet_71 : decode cX3_meet 71 = .ok (.getfield 22, 3) := by decide +kernel
theorem dX3_meet_74 : decode cX3_meet 74 = .ok (.iload 4, 2) := by decide +kernel
theorem dX3_meet_76 : decode cX3_meet 76 = .ok (.iconst (-1), 1) := by decide +kernel
theorem dX3_meet_77 : decode cX3_meet 77 = .ok (.iastore, 1) := by decide +kernel
theorem dX3_meet_78 : decode cX3_meet 78 = .ok (.return_, 1) := by decide +kernel
theorem dX3_meet_79 : decode cX3_meet 79 = .ok (.aload_n 0, 1) := by decide +kernel
theorem dX3_meet_80 : decode cX3_meet 80 = .ok (.getfield 22, 3) := by decide +kernel
theorem dX3_meet_83 : decode cX3_meet 83 = .ok (.aload_n 0, 1) := by decide +kernel
theorem dX3_meet_84 : decode cX3_meet 84 = .ok (.getfield 25, 3) := by decide +kernel
theorem dX3_meet_87 : decode cX3_meet 87 = .ok (.bipush 10, 2) := by decide +kernel
theorem dX3_meet_89 : decode cX3_meet 89 = .ok (.iload_n 1, 1) := by decide +kernel
theorem dX3_meet_90 : decode cX3_meet 90 = .ok (.imul, 1) := by decide +kernel
theorem dX3_meet_91 : decode cX3_meet 91 = .ok (.iload_n 2, 1) := by decide +kernel
theorem dX3_meet_92 : decode cX3_meet 92 = .ok (.iadd, 1) := by decide +kernel
theorem dX3_meet_93 : decode cX3_meet 93 = .ok (.iastore, 1) := by decide +kernel
theorem dX3_meet_94 : decode cX3_meet 94 = .ok (.aload_n 0, 1) := by decide +kernel
theorem dX3_meet_95 : decode cX3_meet 95 = .ok (.getfield 28, 3) := by decide +kernel
theorem dX3_meet_98 : decode cX3_meet 98 = .ok (.aload_n 0, 1) := by decide +kernel
theorem dX3_meet_99 : decode cX3_meet 99 = .ok (.getfield 25, 3) := by decide +kernel
theorem dX3_meet_102 : decode cX3_meet 102 = .ok (.iload 4, 2) := by decide +kernel
theorem dX3_meet_104 : decode cX3_meet 104 = .ok (.iastore, 1) := by decide +kernel
theorem dX3_meet_105 : decode cX3_meet 105 = .ok (.aload_n 0, 1) := by decide +kernel
theorem dX3_meet_106 : decode cX3_meet 106 = .ok (.getfield 31, 3) := by decide +kernel
theorem dX3_meet_109 : decode cX3_meet 109 = .ok (.iload_n 1, 1) := by decide +kernel
theorem dX3_meet_110 : decode cX3_meet 110 = .ok (.aload_n 0, 1) := by decide +kernel
theorem dX3_meet_111 : decode cX3_meet 111 = .ok (.getfield 25, 3) := by decide +kernel
theorem dX3_meet_114 : decode cX3_meet 114 = .ok (.iastore, 1) := by decide +kernel
theorem dX3_meet_115 : decode cX3_meet 115 = .ok (.aload_n 0, 1) := by decide +kernel
theorem dX3_meet_116 : decode cX3_meet 116 = .ok (.dup, 1) := by decide +kernel
theorem dX3_meet_117 : decode cX3_meet 117 = .ok (.getfield 25, 3) := by decide +kernel
theorem dX3_meet_120 : decode cX3_meet 120 = .ok (.iconst 1, 1) := by decide +kernel
theorem dX3_meet_121 : decode cX3_meet 121 = .ok (.iadd, 1) := by decide +kernel
theorem dX3_meet_122 : decode cX3_meet 122 = .ok (.putfield 25, 3) := by decide +kernel
theorem dX3_meet_125 : decode cX3_meet 125 = .ok (.return_, 1) := by decide +kernel
theorem dX3_linkForward_0 : decode cX3_linkForward 0 = .ok (.aload_n 0, 1) := by decide +kernel
theorem dX3_linkForward_1 : decode cX3_linkForward 1 = .ok (.getfield 31, 3) := by decide +kernel
theorem dX3_linkForward_4 : decode cX3_linkForward 4 = .ok (.sipush 300, 3) := by decide +kernel
theorem dX3_linkForward_7 : decode cX3_linkForward 7 = .ok (.invokestatic 34, 3) := by decide +kernel
theorem dX3_linkForward_10 : decode cX3_linkForward 10 = .ok (.aload_n 0, 1) := by decide +kernel
theorem dX3_linkForward_11 : decode cX3_linkForward 11 = .ok (.getfield 25, 3) := by decide +kernel
theorem dX3_linkForward_14 : decode cX3_linkForward 14 = .ok (.iconst 1, 1) := by decide +kernel
theorem dX3_linkForward_15 : decode cX3_linkForward 15 = .ok (.isub, 1) := by decide +kernel
theorem dX3_linkForward_16 : decode cX3_linkForward 16 = .ok (.istore_n 1, 1) := by decide +kernel
theorem dX3_linkForward_17 : decode cX3_linkForward 17 = .ok (.iload_n 1, 1) := by decide +kernel
theorem dX3_linkForward_18 : decode cX3_linkForward 18 = .ok (.ifCond .lt 47, 3) := by decide +kernel
theorem dX3_linkForward_21 : decode cX3_linkForward 21 = .ok (.aload_n 0, 1) := by decide +kernel
theorem dX3_linkForward_22 : decode cX3_linkForward 22 = .ok (.getfield 22, 3) := by decide +kernel
theorem dX3_linkForward_25 : decode cX3_linkForward 25 = .ok (.iload_n 1, 1) := by decide +kernel
theorem dX3_linkForward_26 : decode cX3_linkForward 26 = .ok (.iaload, 1) := by decide +kernel
theorem dX3_linkForward_27 : decode cX3_linkForward 27 = .ok (.ifCond .lt 32, 3) := by decide +kernel
theorem dX3_linkForward_30 : decode cX3_linkForward 30 = .ok (.aload_n 0, 1) := by decide +kernel
theorem dX3_linkForward_31 : decode cX3_linkForward 31 = .ok (.getfield 22, 3) := by decide +kernel
theorem dX3_linkForward_34 : decode cX3_linkForward 34 = .ok (.iload_n 1, 1) := by decide +kernel
theorem dX3_linkForward_35 : decode cX3_linkForward 35 = .ok (.iaload, 1) := by decide +kernel
theorem dX3_linkForward_36 : decode cX3_linkForward 36 = .ok (.bipush 10, 2) := by decide +kernel
theorem dX3_linkForward_38 : decode cX3_linkForward 38 = .ok (.idiv, 1) := by decide +kernel
theorem dX3_linkForward_39 : decode cX3_linkForward 39 = .ok (.istore_n 2, 1) := by decide +kernel
theorem dX3_linkForward_40 : decode cX3_linkForward 40 = .ok (.aload_n 0, 1) := by decide +kernel
theorem dX3_linkForward_41 : decode cX3_linkForward 41 = .ok (.getfield 28, 3) := by decide +kernel
theorem dX3_linkForward_44 : decode cX3_linkForward 44 = .ok (.iload_n 1, 1) := by decide +kernel
theorem dX3_linkForward_45 : decode cX3_linkForward 45 = .ok (.aload_n 0, 1) := by decide +kernel
theorem dX3_linkForward_46 : decode cX3_linkForward 46 = .ok (.getfield 31, 3) := by decide +kernel
theorem dX3_linkForward_49 : decode cX3_linkForward 49 = .ok (.iload_n 2, 1) := by decide +kernel
theorem dX3_linkForward_50 : decode cX3_linkForward 50 = .ok (.iaload, 1) := by decide +kernel
theorem dX3_linkForward_51 : decode cX3_linkForward 51 = .ok (.iastore, 1) := by decide +kernel
theorem dX3_linkForward_52 : decode cX3_linkForward 52 = .ok (.aload_n 0, 1) := by decide +kernel
theorem dX3_linkForward_53 : decode cX3_linkForward 53 = .ok (.getfield 31, 3) := by decide +kernel
theorem dX3_linkForward_56 : decode cX3_linkForward 56 = .ok (.iload_n 2, 1) := by decide +kernel
theorem dX3_linkForward_57 : decode cX3_linkForward 57 = .ok (.iload_n 1, 1) := by decide +kernel
theorem dX3_linkForward_58 : decode cX3_linkForward 58 = .ok (.iastore, 1) := by decide +kernel
theorem dX3_linkForward_59 : decode cX3_linkForward 59 = .ok (.iinc 1 (-1), 3) := by decide +kernel
theorem dX3_linkForward_62 : decode cX3_linkForward 62 = .ok (.goto (-45), 3) := by decide +kernel
theorem dX3_linkForward_65 : decode cX3_linkForward 65 = .ok (.return_, 1) := by decide +kernel
theorem dX3_putInOrder_0 : decode cX3_putInOrder 0 = .ok (.aload_n 0, 1) := by decide +kernel
theorem dX3_putInOrder_1 : decode cX3_putInOrder 1 = .ok (.iconst 0, 1) := by decide +kernel
theorem dX3_putInOrder_2 : decode cX3_putInOrder 2 = .ok (.putfield 15, 3) := by decide +kernel
theorem dX3_putInOrder_5 : decode cX3_putInOrder 5 = .ok (.iconst 0, 1) := by decide +kernel
theorem dX3_putInOrder_6 : decode cX3_putInOrder 6 = .ok (.istore_n 2, 1) := by decide +kernel
theorem dX3_putInOrder_7 : decode cX3_putInOrder 7 = .ok (.iload_n 2, 1) := by decide +kernel
theorem dX3_putInOrder_8 : decode cX3_putInOrder 8 = .ok (.aload_n 0, 1) := by decide +kernel
theorem dX3_putInOrder_9 : decode cX3_putInOrder 9 = .ok (.getfield 25, 3) := by decide +kernel
theorem dX3_putInOrder_12 : decode cX3_putInOrder 12 = .ok (.if_icmp .ge 68, 3) := by decide +kernel
theorem dX3_putInOrder_15 : decode cX3_putInOrder 15 = .ok (.aload_n 0, 1) := by decide +kernel
theorem dX3_putInOrder_16 : decode cX3_putInOrder 16 = .ok (.iload_n 1, 1) := by decide +kernel
theorem dX3_putInOrder_17 : decode cX3_putInOrder 17 = .ok (.invokevirtual 69, 3) := by decide +kernel
theorem dX3_putInOrder_20 : decode cX3_putInOrder 20 = .ok (.istore_n 3, 1) := by decide +kernel
theorem dX3_putInOrder_21 : decode cX3_putInOrder 21 = .ok (.iload_n 3, 1) := by decide +kernel
theorem dX3_putInOrder_22 : decode cX3_putInOrder 22 = .ok (.iload_n 1, 1) := by decide +kernel
theorem dX3_putInOrder_23 : decode cX3_putInOrder 23 = .ok (.if_icmp .lt 4, 3) := by decide +kernel
theorem dX3_putInOrder_26 : decode cX3_putInOrder 26 = .ok (.return_, 1) := by decide +kernel
theorem dX3_putInOrder_27 : decode cX3_putInOrder 27 = .ok (.aload_n 0, 1) := by decide +kernel
theorem dX3_putInOrder_28 : decode cX3_putInOrder 28 = .ok (.getfield 31, 3) := by decide +kernel
theorem dX3_putInOrder_31 : decode cX3_putInOrder 31 = .ok (.iload_n 3, 1) := by decide +kernel
theorem dX3_putInOrder_32 : decode cX3_putInOrder 32 = .ok (.iaload, 1) := by decide +kernel
theorem dX3_putInOrder_33 : decode cX3_putInOrder 33 = .ok (.istore 4, 2) := by decide +kernel
theorem dX3_putInOrder_35 : decode cX3_putInOrder 35 = .ok (.aload_n 0, 1) := by decide +kernel
theorem dX3_putInOrder_36 : decode cX3_putInOrder 36 = .ok (.getfield 18, 3) := by decide +kernel
theorem dX3_putInOrder_39 : decode cX3_putInOrder 39 = .ok (.aload_n 0, 1) := by decide +kernel
theorem dX3_putInOrder_40 : decode cX3_putInOrder 40 = .ok (.getfield 15, 3) := by decide +kernel
theorem dX3_putInOrder_43 : decode cX3_putInOrder 43 = .ok (.aload_n 0, 1) := by decide +kernel
theorem dX3_putInOrder_44 : decode cX3_putInOrder 44 = .ok (.getfield 22, 3) := by decide +kernel
theorem dX3_putInOrder_47 : decode cX3_putInOrder 47 = .ok (.iload 4, 2) := by decide +kernel
theorem dX3_putInOrder_49 : decode cX3_putInOrder 49 = .ok (.iaload, 1) := by decide +kernel
theorem dX3_putInOrder_50 : decode cX3_putInOrder 50 = .ok (.iastore, 1) := by decide +kernel
theorem dX3_putInOrder_51 : decode cX3_putInOrder 51 = .ok (.aload_n 0, 1) := by decide +kernel
theorem dX3_putInOrder_52 : decode cX3_putInOrder 52 = .ok (.dup, 1) := by decide +kernel
theorem dX3_putInOrder_53 : decode cX3_putInOrder 53 = .ok (.getfield 15, 3) := by decide +kernel
theorem dX3_putInOrder_56 : decode cX3_putInOrder 56 = .ok (.iconst 1, 1) := by decide +kernel
theorem dX3_putInOrder_57 : decode cX3_putInOrder 57 = .ok (.iadd, 1) := by decide +kernel
theorem dX3_putInOrder_58 : decode cX3_putInOrder 58 = .ok (.putfield 15, 3) := by decide +kernel
theorem dX3_putInOrder_61 : decode cX3_putInOrder 61 = .ok (.aload_n 0, 1) := by decide +kernel
theorem dX3_putInOrder_62 : decode cX3_putInOrder 62 = .ok (.getfield 31, 3) := by decide +kernel
theorem dX3_putInOrder_65 : decode cX3_putInOrder 65 = .ok (.iload_n 3, 1) := by decide +kernel
theorem dX3_putInOrder_66 : decode cX3_putInOrder 66 = .ok (.aload_n 0, 1) := by decide +kernel
theorem dX3_putInOrder_67 : decode cX3_putInOrder 67 = .ok (.getfield 28, 3) := by decide +kernel
theorem dX3_putInOrder_70 : decode cX3_putInOrder 70 = .ok (.iload 4, 2) := by decide +kernel
theorem dX3_putInOrder_72 : decode cX3_putInOrder 72 = .ok (.iaload, 1) := by decide +kernel
theorem dX3_putInOrder_73 : decode cX3_putInOrder 73 = .ok (.iastore, 1) := by decide +kernel
theorem dX3_putInOrder_74 : decode cX3_putInOrder 74 = .ok (.iinc 2 1, 3) := by decide +kernel
theorem dX3_putInOrder_77 : decode cX3_putInOrder 77 = .ok (.goto (-70), 3) := by decide +kernel
theorem dX3_putInOrder_80 : decode cX3_putInOrder 80 = .ok (.return_, 1) := by decide +kernel
theorem dX3_leastFree_0 : decode cX3_leastFree 0 = .ok (.iconst 0, 1) := by decide +kernel
theorem dX3_leastFree_1 : decode cX3_leastFree 1 = .ok (.istore_n 2, 1) := by decide +kernel
theorem dX3_leastFree_2 : decode cX3_leastFree 2 = .ok (.iload_n 2, 1) := by decide +kernel
theorem dX3_leastFree_3 : decode cX3_leastFree 3 = .ok (.iload_n 1, 1) := by decide +kernel
theorem dX3_leastFree_4 : decode cX3_leastFree 4 = .ok (.if_icmp .ge 53, 3) := by decide +kernel
theorem dX3_leastFree_7 : decode cX3_leastFree 7 = .ok (.aload_n 0, 1) := by decide +kernel
theorem dX3_leastFree_8 : decode cX3_leastFree 8 = .ok (.getfield 31, 3) := by decide +kernel
theorem dX3_leastFree_11 : decode cX3_leastFree 11 = .ok (.iload_n 2, 1) := by decide +kernel
theorem dX3_leastFree_12 : decode cX3_leastFree 12 = .ok (.iaload, 1) := by decide +kernel
theorem dX3_leastFree_13 : decode cX3_leastFree 13 = .ok (.istore_n 3, 1) := by decide +kernel
theorem dX3_leastFree_14 : decode cX3_leastFree 14 = .ok (.iload_n 3, 1) := by decide +kernel
theorem dX3_leastFree_15 : decode cX3_leastFree 15 = .ok (.sipush 300, 3) := by decide +kernel
theorem dX3_leastFree_18 : decode cX3_leastFree 18 = .ok (.if_icmp .ge 33, 3) := by decide +kernel
theorem dX3_leastFree_21 : decode cX3_leastFree 21 = .ok (.aload_n 0, 1) := by decide +kernel
theorem dX3_leastFree_22 : decode cX3_leastFree 22 = .ok (.getfield 31, 3) := by decide +kernel
theorem dX3_leastFree_25 : decode cX3_leastFree 25 = .ok (.iload_n 2, 1) := by decide +kernel
theorem dX3_leastFree_26 : decode cX3_leastFree 26 = .ok (.iload_n 1, 1) := by decide +kernel
theorem dX3_leastFree_27 : decode cX3_leastFree 27 = .ok (.invokestatic 63, 3) := by decide +kernel
theorem dX3_leastFree_30 : decode cX3_leastFree 30 = .ok (.iaload, 1) := by decide +kernel
theorem dX3_leastFree_31 : decode cX3_leastFree 31 = .ok (.iload_n 3, 1) := by decide +kernel
theorem dX3_leastFree_32 : decode cX3_leastFree 32 = .ok (.if_icmp .le 19, 3) := by decide +kernel
theorem dX3_leastFree_35 : decode cX3_leastFree 35 = .ok (.aload_n 0, 1) := by decide +kernel
theorem dX3_leastFree_36 : decode cX3_leastFree 36 = .ok (.getfield 31, 3) := by decide +kernel
theorem dX3_leastFree_39 : decode cX3_leastFree 39 = .ok (.iload_n 2, 1) := by decide +kernel
theorem dX3_leastFree_40 : decode cX3_leastFree 40 = .ok (.iload_n 1, 1) := by decide +kernel
theorem dX3_leastFree_41 : decode cX3_leastFree 41 = .ok (.invokestatic 66, 3) := by decide +kernel
theorem dX3_leastFree_44 : decode cX3_leastFree 44 = .ok (.iaload, 1) := by decide +kernel
theorem dX3_leastFree_45 : decode cX3_leastFree 45 = .ok (.iload_n 3, 1) := by decide +kernel
theorem dX3_leastFree_46 : decode cX3_leastFree 46 = .ok (.if_icmp .le 5, 3) := by decide +kernel
theorem dX3_leastFree_49 : decode cX3_leastFree 49 = .ok (.iload_n 2, 1) := by decide +kernel
theorem dX3_leastFree_50 : decode cX3_leastFree 50 = .ok (.ireturn, 1) := by decide +kernel
theorem dX3_leastFree_51 : decode cX3_leastFree 51 = .ok (.iinc 2 1, 3) := by decide +kernel
theorem dX3_leastFree_54 : decode cX3_leastFree 54 = .ok (.goto (-52), 3) := by decide +kernel
theorem dX3_leastFree_57 : decode cX3_leastFree 57 = .ok (.iload_n 1, 1) := by decide +kernel
theorem dX3_leastFree_58 : decode cX3_leastFree 58 = .ok (.ireturn, 1) := by decide +kernel
theorem dX3_isLike_0 : decode cX3_isLike 0 = .ok (.aload_n 0, 1) := by decide +kernel
theorem dX3_isLike_1 : decode cX3_isLike 1 = .ok (.getfield 9, 3) := by decide +kernel
theorem dX3_isLike_4 : decode cX3_isLike 4 = .ok (.aload_n 1, 1) := by decide +kernel
theorem dX3_isLike_5 : decode cX3_isLike 5 = .ok (.getfield 9, 3) := by decide +kernel
theorem dX3_isLike_8 : decode cX3_isLike 8 = .ok (.if_icmp .ne 14, 3) := by decide +kernel
theorem dX3_isLike_11 : decode cX3_isLike 11 = .ok (.aload_n 0, 1) := by decide +kernel
theorem dX3_isLike_12 : decode cX3_isLike 12 = .ok (.getfield 15, 3) := by decide +kernel
theorem dX3_isLike_15 : decode cX3_isLike 15 = .ok (.aload_n 1, 1) := by decide +kernel
theorem dX3_isLike_16 : decode cX3_isLike 16 = .ok (.getfield 15, 3) := by decide +kernel
theorem dX3_isLike_19 : decode cX3_isLike 19 = .ok (.if_icmp .eq 5, 3) := by decide +kernel
theorem dX3_isLike_22 : decode cX3_isLike 22 = .ok (.iconst 0, 1) := by decide +kernel
theorem dX3_isLike_23 : decode cX3_isLike 23 = .ok (.ireturn, 1) := by decide +kernel
theorem dX3_isLike_24 : decode cX3_isLike 24 = .ok (.iconst 0, 1) := by decide +kernel
theorem dX3_isLike_25 : decode cX3_isLike 25 = .ok (.istore_n 2, 1) := by decide +kernel
theorem dX3_isLike_26 : decode cX3_isLike 26 = .ok (.iload_n 2, 1) := by decide +kernel
theorem dX3_isLike_27 : decode cX3_isLike 27 = .ok (.aload_n 0, 1) := by decide +kernel
theorem dX3_isLike_28 : decode cX3_isLike 28 = .ok (.getfield 15, 3) := by decide +kernel
theorem dX3_isLike_31 : decode cX3_isLike 31 = .ok (.if_icmp .ge 26, 3) := by decide +kernel
theorem dX3_isLike_34 : decode cX3_isLike 34 = .ok (.aload_n 0, 1) := by decide +kernel
theorem dX3_isLike_35 : decode cX3_isLike 35 = .ok (.getfield 18, 3) := by decide +kernel
theorem dX3_isLike_38 : decode cX3_isLike 38 = .ok (.iload_n 2, 1) := by decide +kernel
theorem dX3_isLike_39 : decode cX3_isLike 39 = .ok (.iaload, 1) := by decide +kernel
theorem dX3_isLike_40 : decode cX3_isLike 40 = .ok (.aload_n 1, 1) := by decide +kernel
theorem dX3_isLike_41 : decode cX3_isLike 41 = .ok (.getfield 18, 3) := by decide +kernel
theorem dX3_isLike_44 : decode cX3_isLike 44 = .ok (.iload_n 2, 1) := by decide +kernel
theorem dX3_isLike_45 : decode cX3_isLike 45 = .ok (.iaload, 1) := by decide +kernel
theorem dX3_isLike_46 : decode cX3_isLike 46 = .ok (.if_icmp .eq 5, 3) := by decide +kernel
theorem dX3_isLike_49 : decode cX3_isLike 49 = .ok (.iconst 0, 1) := by decide +kernel
theorem dX3_isLike_50 : decode cX3_isLike 50 = .ok (.ireturn, 1) := by decide +kernel
theorem dX3_isLike_51 : decode cX3_isLike 51 = .ok (.iinc 2 1, 3) := by decide +kernel
theorem dX3_isLike_54 : decode cX3_isLike 54 = .ok (.goto (-28), 3) := by decide +kernel
theorem dX3_isLike_57 : decode cX3_isLike 57 = .ok (.iconst 1, 1) := by decide +kernel
theorem dX3_isLike_58 : decode cX3_isLike 58 = .ok (.ireturn, 1) := by decide +kernel
theorem dX4_init_0 : decode cX4_init 0 = .ok (.aload_n 0, 1) := by decide +kernel
theorem dX4_init_1 : decode cX4_init 1 = .ok (.invokespecial 3, 3) := by decide +kernel
theorem dX4_init_4 : decode cX4_init 4 = .ok (.aload_n 0, 1) := by decide +kernel
theorem dX4_init_5 : decode cX4_init 5 = .ok (.bipush 9, 2) := by decide +kernel
theorem dX4_init_7 : decode cX4_init 7 = .ok (.newarray .int, 2) := by decide +kernel
theorem dX4_init_9 : decode cX4_init 9 = .ok (.putfield 9, 3) := by decide +kernel
theorem dX4_init_12 : decode cX4_init 12 = .ok (.aload_n 0, 1) := by decide +kernel
theorem dX4_init_13 : decode cX4_init 13 = .ok (.bipush 9, 2) := by decide +kernel
theorem dX4_init_15 : decode cX4_init 15 = .ok (.newarray .int, 2) := by decide +kernel
theorem dX4_init_17 : decode cX4_init 17 = .ok (.putfield 15, 3) := by decide +kernel
theorem dX4_init_20 : decode cX4_init 20 = .ok (.aload_n 0, 1) := by decide +kernel
theorem dX4_init_21 : decode cX4_init 21 = .ok (.bipush 9, 2) := by decide +kernel
theorem dX4_init_23 : decode cX4_init 23 = .ok (.newarray .int, 2) := by decide +kernel
theorem dX4_init_25 : decode cX4_init 25 = .ok (.putfield 18, 3) := by decide +kernel
theorem dX4_init_28 : decode cX4_init 28 = .ok (.aload_n 0, 1) := by decide +kernel
theorem dX4_init_29 : decode cX4_init 29 = .ok (.bipush 40, 2) := by decide +kernel
theorem dX4_init_31 : decode cX4_init 31 = .ok (.newarray .int, 2) := by decide +kernel
theorem dX4_init_33 : decode cX4_init 33 = .ok (.putfield 21, 3) := by decide +kernel
theorem dX4_init_36 : decode cX4_init 36 = .ok (.aload_n 0, 1) := by decide +kernel
theorem dX4_init_37 : decode cX4_init 37 = .ok (.iconst 0, 1) := by decide +kernel
theorem dX4_init_38 : decode cX4_init 38 = .ok (.putfield 24, 3) := by decide +kernel
theorem dX4_init_41 : decode cX4_init 41 = .ok (.return_, 1) := by decide +kernel
theorem dX4_ask_0 : decode cX4_ask 0 = .ok (.aload_n 0, 1) := by decide +kernel
theorem dX4_ask_1 : decode cX4_ask 1 = .ok (.getfield 9, 3) := by decide +kernel
theorem dX4_ask_4 : decode cX4_ask 4 = .ok (.iconst (-1), 1) := by decide +kernel
theorem dX4_ask_5 : decode cX4_ask 5 = .ok (.invokestatic 28, 3) := by decide +kernel
theorem dX4_ask_8 : decode cX4_ask 8 = .ok (.iconst 0, 1) := by decide +kernel
theorem dX4_ask_9 : decode cX4_ask 9 = .ok (.istore_n 3, 1) := by decide +kernel
theorem dX4_ask_10 : decode cX4_ask 10 = .ok (.iload_n 3, 1) := by decide +kernel
theorem dX4_ask_11 : decode cX4_ask 11 = .ok (.aload_n 1, 1) := by decide +kernel
theorem dX4_ask_12 : decode cX4_ask 12 = .ok (.getfield 34, 3) := by decide +kernel
theorem dX4_ask_15 : decode cX4_ask 15 = .ok (.if_icmp .ge 49, 3) := by decide +kernel
theorem dX4_ask_18 : decode cX4_ask 18 = .ok (.aload_n 2, 1) := by decide +kernel
theorem dX4_ask_19 : decode cX4_ask 19 = .ok (.iload_n 3, 1) := by decide +kernel
theorem dX4_ask_20 : decode cX4_ask 20 = .ok (.iaload, 1) := by decide +kernel
theorem dX4_ask_21 : decode cX4_ask 21 = .ok (.istore 4, 2) := by decide +kernel
theorem dX4_ask_23 : decode cX4_ask 23 = .ok (.iload 4, 2) := by decide +kernel
theorem dX4_ask_25 : decode cX4_ask 25 = .ok (.ifCond .lt 23, 3) := by decide +kernel
theorem dX4_ask_28 : decode cX4_ask 28 = .ok (.iload 4, 2) := by decide +kernel
theorem dX4_ask_30 : decode cX4_ask 30 = .ok (.aload_n 1, 1) := by decide +kernel
theorem dX4_ask_31 : decode cX4_ask 31 = .ok (.getfield 34, 3) := by decide +kernel
theorem dX4_ask_34 : decode cX4_ask 34 = .ok (.if_icmp .ge 14, 3) := by decide +kernel
theorem dX4_ask_37 : decode cX4_ask 37 = .ok (.aload_n 0, 1) := by decide +kernel
theorem dX4_ask_38 : decode cX4_ask 38 = .ok (.getfield 9, 3) := by decide +kernel
theorem dX4_ask_41 : decode cX4_ask 41 = .ok (.iload 4, 2) := by decide +kernel
theorem dX4_ask_43 : decode cX4_ask 43 = .ok (.iaload, 1) := by decide +kernel
theorem dX4_ask_44 : decode cX4_ask 44 = .ok (.iconst (-1), 1) := by decide +kernel
theorem dX4_ask_45 : decode cX4_ask 45 = .ok (.if_icmp .eq 5, 3) := by decide +kernel
theorem dX4_ask_48 : decode cX4_ask 48 = .ok (.iconst 0, 1) := by decide +kernel
theorem dX4_ask_49 : decode cX4_ask 49 = .ok (.ireturn, 1) := by decide +kernel
theorem dX4_ask_50 : decode cX4_ask 50 = .ok (.aload_n 0, 1) := by decide +kernel
theorem dX4_ask_51 : decode cX4_ask 51 = .ok (.getfield 9, 3) := by decide +kernel
theorem dX4_ask_54 : decode cX4_ask 54 = .ok (.iload 4, 2) := by decide +kernel
theorem dX4_ask_56 : decode cX4_ask 56 = .ok (.iload_n 3, 1) := by decide +kernel
theorem dX4_ask_57 : decode cX4_ask 57 = .ok (.iastore, 1) := by decide +kernel
theorem dX4_ask_58 : decode cX4_ask 58 = .ok (.iinc 3 1, 3) := by decide +kernel
theorem dX4_ask_61 : decode cX4_ask 61 = .ok (.goto (-51), 3) := by decide +kernel
theorem dX4_ask_64 : decode cX4_ask 64 = .ok (.iconst 0, 1) := by decide +kernel
theorem dX4_ask_65 : decode cX4_ask 65 = .ok (.istore_n 3, 1) := by decide +kernel
theorem dX4_ask_66 : decode cX4_ask 66 = .ok (.iload_n 3, 1) := by decide +kernel
end
section
theorem dX4_ask_67 : decode cX4_ask 67 = .ok (.aload_n 1, 1) := by decide +kernel
theorem dX4_ask_68 : decode cX4_ask 68 = .ok (.getfield 34, 3) := by decide +kernel
theorem dX4_ask_71 : decode cX4_ask 71 = .ok (.if_icmp .ge 26, 3) := by decide +kernel
theorem dX4_ask_74 : decode cX4_ask 74 = .ok (.aload_n 0, 1) := by decide +kernel
theorem dX4_ask_75 : decode cX4_ask 75 = .ok (.getfield 15, 3) := by decide +kernel
theorem dX4_ask_78 : decode cX4_ask 78 = .ok (.iload_n 3, 1) := by decide +kernel
theorem dX4_ask_79 : decode cX4_ask 79 = .ok (.aload_n 0, 1) := by decide +kernel
theorem dX4_ask_80 : decode cX4_ask 80 = .ok (.getfield 9, 3) := by decide +kernel
theorem dX4_ask_83 : decode cX4_ask 83 = .ok (.aload_n 1, 1) := by decide +kernel
theorem dX4_ask_84 : decode cX4_ask 84 = .ok (.getfield 39, 3) := by decide +kernel
theorem dX4_ask_87 : decode cX4_ask 87 = .ok (.iload_n 3, 1) := by decide +kernel
theorem dX4_ask_88 : decode cX4_ask 88 = .ok (.iaload, 1) := by decide +kernel
theorem dX4_ask_89 : decode cX4_ask 89 = .ok (.iaload, 1) := by decide +kernel
theorem dX4_ask_90 : decode cX4_ask 90 = .ok (.iastore, 1) := by decide +kernel
theorem dX4_ask_91 : decode cX4_ask 91 = .ok (.iinc 3 1, 3) := by decide +kernel
theorem dX4_ask_94 : decode cX4_ask 94 = .ok (.goto (-28), 3) := by decide +kernel
theorem dX4_ask_97 : decode cX4_ask 97 = .ok (.iconst 1, 1) := by decide +kernel
theorem dX4_ask_98 : decode cX4_ask 98 = .ok (.ireturn, 1) := by decide +kernel
theorem dX4_search_0 : decode cX4_search 0 = .ok (.aload_n 0, 1) := by decide +kernel
theorem dX4_search_1 : decode cX4_search 1 = .ok (.iconst 0, 1) := by decide +kernel
theorem dX4_search_2 : decode cX4_search 2 = .ok (.putfield 24, 3) := by decide +kernel
theorem dX4_search_5 : decode cX4_search 5 = .ok (.aload_n 0, 1) := by decide +kernel
theorem dX4_search_6 : decode cX4_search 6 = .ok (.iload_n 1, 1) := by decide +kernel
theorem dX4_search_7 : decode cX4_search 7 = .ok (.invokevirtual 42, 3) := by decide +kernel
theorem dX4_search_10 : decode cX4_search 10 = .ok (.istore_n 2, 1) := by decide +kernel
theorem dX4_search_11 : decode cX4_search 11 = .ok (.iload_n 2, 1) := by decide +kernel
theorem dX4_search_12 : decode cX4_search 12 = .ok (.ifCond .le 43, 3) := by decide +kernel
theorem dX4_search_15 : decode cX4_search 15 = .ok (.aload_n 0, 1) := by decide +kernel
theorem dX4_search_16 : decode cX4_search 16 = .ok (.getfield 24, 3) := by decide +kernel
theorem dX4_search_19 : decode cX4_search 19 = .ok (.bipush 40, 2) := by decide +kernel
theorem dX4_search_21 : decode cX4_search 21 = .ok (.if_icmp .ge 34, 3) := by decide +kernel
theorem dX4_search_24 : decode cX4_search 24 = .ok (.iinc 2 (-1), 3) := by decide +kernel
theorem dX4_search_27 : decode cX4_search 27 = .ok (.aload_n 0, 1) := by decide +kernel
theorem dX4_search_28 : decode cX4_search 28 = .ok (.getfield 21, 3) := by decide +kernel
theorem dX4_search_31 : decode cX4_search 31 = .ok (.aload_n 0, 1) := by decide +kernel
theorem dX4_search_32 : decode cX4_search 32 = .ok (.getfield 24, 3) := by decide +kernel
theorem dX4_search_35 : decode cX4_search 35 = .ok (.aload_n 0, 1) := by decide +kernel
theorem dX4_search_36 : decode cX4_search 36 = .ok (.iload_n 2, 1) := by decide +kernel
theorem dX4_search_37 : decode cX4_search 37 = .ok (.iload_n 1, 1) := by decide +kernel
theorem dX4_search_38 : decode cX4_search 38 = .ok (.invokevirtual 46, 3) := by decide +kernel
theorem dX4_search_41 : decode cX4_search 41 = .ok (.iastore, 1) := by decide +kernel
theorem dX4_search_42 : decode cX4_search 42 = .ok (.aload_n 0, 1) := by decide +kernel
theorem dX4_search_43 : decode cX4_search 43 = .ok (.dup, 1) := by decide +kernel
theorem dX4_search_44 : decode cX4_search 44 = .ok (.getfield 24, 3) := by decide +kernel
theorem dX4_search_47 : decode cX4_search 47 = .ok (.iconst 1, 1) := by decide +kernel
theorem dX4_search_48 : decode cX4_search 48 = .ok (.iadd, 1) := by decide +kernel
theorem dX4_search_49 : decode cX4_search 49 = .ok (.putfield 24, 3) := by decide +kernel
theorem dX4_search_52 : decode cX4_search 52 = .ok (.goto (-41), 3) := by decide +kernel
theorem dX4_search_55 : decode cX4_search 55 = .ok (.return_, 1) := by decide +kernel
theorem dX4_nearer_0 : decode cX4_nearer 0 = .ok (.iconst 0, 1) := by decide +kernel
theorem dX4_nearer_1 : decode cX4_nearer 1 = .ok (.istore_n 3, 1) := by decide +kernel
theorem dX4_nearer_2 : decode cX4_nearer 2 = .ok (.iload_n 3, 1) := by decide +kernel
theorem dX4_nearer_3 : decode cX4_nearer 3 = .ok (.iload_n 2, 1) := by decide +kernel
theorem dX4_nearer_4 : decode cX4_nearer 4 = .ok (.if_icmp .ge 32, 3) := by decide +kernel
theorem dX4_nearer_7 : decode cX4_nearer 7 = .ok (.aload_n 0, 1) := by decide +kernel
theorem dX4_nearer_8 : decode cX4_nearer 8 = .ok (.iload_n 3, 1) := by decide +kernel
theorem dX4_nearer_9 : decode cX4_nearer 9 = .ok (.iload_n 2, 1) := by decide +kernel
theorem dX4_nearer_10 : decode cX4_nearer 10 = .ok (.invokevirtual 50, 3) := by decide +kernel
theorem dX4_nearer_13 : decode cX4_nearer 13 = .ok (.aload_n 0, 1) := by decide +kernel
theorem dX4_nearer_14 : decode cX4_nearer 14 = .ok (.iload_n 2, 1) := by decide +kernel
theorem dX4_nearer_15 : decode cX4_nearer 15 = .ok (.invokevirtual 42, 3) := by decide +kernel
theorem dX4_nearer_18 : decode cX4_nearer 18 = .ok (.iload_n 1, 1) := by decide +kernel
theorem dX4_nearer_19 : decode cX4_nearer 19 = .ok (.if_icmp .ne 5, 3) := by decide +kernel
theorem dX4_nearer_22 : decode cX4_nearer 22 = .ok (.iload_n 3, 1) := by decide +kernel
theorem dX4_nearer_23 : decode cX4_nearer 23 = .ok (.ireturn, 1) := by decide +kernel
theorem dX4_nearer_24 : decode cX4_nearer 24 = .ok (.aload_n 0, 1) := by decide +kernel
theorem dX4_nearer_25 : decode cX4_nearer 25 = .ok (.iload_n 3, 1) := by decide +kernel
theorem dX4_nearer_26 : decode cX4_nearer 26 = .ok (.iload_n 2, 1) := by decide +kernel
theorem dX4_nearer_27 : decode cX4_nearer 27 = .ok (.invokevirtual 50, 3) := by decide +kernel
theorem dX4_nearer_30 : decode cX4_nearer 30 = .ok (.iinc 3 1, 3) := by decide +kernel
theorem dX4_nearer_33 : decode cX4_nearer 33 = .ok (.goto (-31), 3) := by decide +kernel
theorem dX4_nearer_36 : decode cX4_nearer 36 = .ok (.iconst (-1), 1) := by decide +kernel
theorem dX4_nearer_37 : decode cX4_nearer 37 = .ok (.ireturn, 1) := by decide +kernel
theorem dX4_swap_0 : decode cX4_swap 0 = .ok (.iload_n 1, 1) := by decide +kernel
theorem dX4_swap_1 : decode cX4_swap 1 = .ok (.iload_n 2, 1) := by decide +kernel
theorem dX4_swap_2 : decode cX4_swap 2 = .ok (.invokestatic 54, 3) := by decide +kernel
theorem dX4_swap_5 : decode cX4_swap 5 = .ok (.istore_n 3, 1) := by decide +kernel
theorem dX4_swap_6 : decode cX4_swap 6 = .ok (.aload_n 0, 1) := by decide +kernel
theorem dX4_swap_7 : decode cX4_swap 7 = .ok (.getfield 15, 3) := by decide +kernel
theorem dX4_swap_10 : decode cX4_swap 10 = .ok (.iload_n 1, 1) := by decide +kernel
theorem dX4_swap_11 : decode cX4_swap 11 = .ok (.iaload, 1) := by decide +kernel
theorem dX4_swap_12 : decode cX4_swap 12 = .ok (.istore 4, 2) := by decide +kernel
theorem dX4_swap_14 : decode cX4_swap 14 = .ok (.aload_n 0, 1) := by decide +kernel
theorem dX4_swap_15 : decode cX4_swap 15 = .ok (.getfield 15, 3) := by decide +kernel
theorem dX4_swap_18 : decode cX4_swap 18 = .ok (.iload_n 1, 1) := by decide +kernel
theorem dX4_swap_19 : decode cX4_swap 19 = .ok (.aload_n 0, 1) := by decide +kernel
theorem dX4_swap_20 : decode cX4_swap 20 = .ok (.getfield 15, 3) := by decide +kernel
theorem dX4_swap_23 : decode cX4_swap 23 = .ok (.iload_n 3, 1) := by decide +kernel
theorem dX4_swap_24 : decode cX4_swap 24 = .ok (.iaload, 1) := by decide +kernel
theorem dX4_swap_25 : decode cX4_swap 25 = .ok (.iastore, 1) := by decide +kernel
theorem dX4_swap_26 : decode cX4_swap 26 = .ok (.aload_n 0, 1) := by decide +kernel
theorem dX4_swap_27 : decode cX4_swap 27 = .ok (.getfield 15, 3) := by decide +kernel
theorem dX4_swap_30 : decode cX4_swap 30 = .ok (.iload_n 3, 1) := by decide +kernel
theorem dX4_swap_31 : decode cX4_swap 31 = .ok (.iload 4, 2) := by decide +kernel
theorem dX4_swap_33 : decode cX4_swap 33 = .ok (.iastore, 1) := by decide +kernel
theorem dX4_swap_34 : decode cX4_swap 34 = .ok (.return_, 1) := by decide +kernel
theorem dX4_passesLeft_0 : decode cX4_passesLeft 0 = .ok (.aload_n 0, 1) := by decide +kernel
theorem dX4_passesLeft_1 : decode cX4_passesLeft 1 = .ok (.iload_n 1, 1) := by decide +kernel
theorem dX4_passesLeft_2 : decode cX4_passesLeft 2 = .ok (.invokevirtual 57, 3) := by decide +kernel
theorem dX4_passesLeft_5 : decode cX4_passesLeft 5 = .ok (.iconst 0, 1) := by decide +kernel
theorem dX4_passesLeft_6 : decode cX4_passesLeft 6 = .ok (.istore_n 2, 1) := by decide +kernel
theorem dX4_passesLeft_7 : decode cX4_passesLeft 7 = .ok (.iconst 0, 1) := by decide +kernel
theorem dX4_passesLeft_8 : decode cX4_passesLeft 8 = .ok (.istore_n 3, 1) := by decide +kernel
theorem dX4_passesLeft_9 : decode cX4_passesLeft 9 = .ok (.iload_n 3, 1) := by decide +kernel
theorem dX4_passesLeft_10 : decode cX4_passesLeft 10 = .ok (.iload_n 1, 1) := by decide +kernel
theorem dX4_passesLeft_11 : decode cX4_passesLeft 11 = .ok (.if_icmp .ge 55, 3) := by decide +kernel
theorem dX4_passesLeft_14 : decode cX4_passesLeft 14 = .ok (.iload_n 3, 1) := by decide +kernel
theorem dX4_passesLeft_15 : decode cX4_passesLeft 15 = .ok (.iconst 1, 1) := by decide +kernel
theorem dX4_passesLeft_16 : decode cX4_passesLeft 16 = .ok (.iadd, 1) := by decide +kernel
theorem dX4_passesLeft_17 : decode cX4_passesLeft 17 = .ok (.istore 4, 2) := by decide +kernel
theorem dX4_passesLeft_19 : decode cX4_passesLeft 19 = .ok (.iload 4, 2) := by decide +kernel
theorem dX4_passesLeft_21 : decode cX4_passesLeft 21 = .ok (.iload_n 1, 1) := by decide +kernel
theorem dX4_passesLeft_22 : decode cX4_passesLeft 22 = .ok (.if_icmp .ge 38, 3) := by decide +kernel
theorem dX4_passesLeft_25 : decode cX4_passesLeft 25 = .ok (.iload_n 2, 1) := by decide +kernel
theorem dX4_passesLeft_26 : decode cX4_passesLeft 26 = .ok (.iload 4, 2) := by decide +kernel
theorem dX4_passesLeft_28 : decode cX4_passesLeft 28 = .ok (.aload_n 0, 1) := by decide +kernel
theorem dX4_passesLeft_29 : decode cX4_passesLeft 29 = .ok (.getfield 18, 3) := by decide +kernel
theorem dX4_passesLeft_32 : decode cX4_passesLeft 32 = .ok (.iload 4, 2) := by decide +kernel
theorem dX4_passesLeft_34 : decode cX4_passesLeft 34 = .ok (.iaload, 1) := by decide +kernel
theorem dX4_passesLeft_35 : decode cX4_passesLeft 35 = .ok (.iadd, 1) := by decide +kernel
theorem dX4_passesLeft_36 : decode cX4_passesLeft 36 = .ok (.iload_n 3, 1) := by decide +kernel
theorem dX4_passesLeft_37 : decode cX4_passesLeft 37 = .ok (.isub, 1) := by decide +kernel
theorem dX4_passesLeft_38 : decode cX4_passesLeft 38 = .ok (.aload_n 0, 1) := by decide +kernel
theorem dX4_passesLeft_39 : decode cX4_passesLeft 39 = .ok (.getfield 18, 3) := by decide +kernel
theorem dX4_passesLeft_42 : decode cX4_passesLeft 42 = .ok (.iload_n 3, 1) := by decide +kernel
theorem dX4_passesLeft_43 : decode cX4_passesLeft 43 = .ok (.iaload, 1) := by decide +kernel
theorem dX4_passesLeft_44 : decode cX4_passesLeft 44 = .ok (.isub, 1) := by decide +kernel
theorem dX4_passesLeft_45 : decode cX4_passesLeft 45 = .ok (.iload_n 1, 1) := by decide +kernel
theorem dX4_passesLeft_46 : decode cX4_passesLeft 46 = .ok (.invokestatic 61, 3) := by decide +kernel
theorem dX4_passesLeft_49 : decode cX4_passesLeft 49 = .ok (.invokestatic 66, 3) := by decide +kernel
theorem dX4_passesLeft_52 : decode cX4_passesLeft 52 = .ok (.iadd, 1) := by decide +kernel
theorem dX4_passesLeft_53 : decode cX4_passesLeft 53 = .ok (.istore_n 2, 1) := by decide +kernel
theorem dX4_passesLeft_54 : decode cX4_passesLeft 54 = .ok (.iinc 4 1, 3) := by decide +kernel
theorem dX4_passesLeft_57 : decode cX4_passesLeft 57 = .ok (.goto (-38), 3) := by decide +kernel
theorem dX4_passesLeft_60 : decode cX4_passesLeft 60 = .ok (.iinc 3 1, 3) := by decide +kernel
theorem dX4_passesLeft_63 : decode cX4_passesLeft 63 = .ok (.goto (-54), 3) := by decide +kernel
theorem dX4_passesLeft_66 : decode cX4_passesLeft 66 = .ok (.iload_n 2, 1) := by decide +kernel
theorem dX4_passesLeft_67 : decode cX4_passesLeft 67 = .ok (.ireturn, 1) := by decide +kernel
theorem dX4_settleWays_0 : decode cX4_settleWays 0 = .ok (.iconst 0, 1) := by decide +kernel
theorem dX4_settleWays_1 : decode cX4_settleWays 1 = .ok (.istore_n 2, 1) := by decide +kernel
theorem dX4_settleWays_2 : decode cX4_settleWays 2 = .ok (.iload_n 2, 1) := by decide +kernel
theorem dX4_settleWays_3 : decode cX4_settleWays 3 = .ok (.iload_n 1, 1) := by decide +kernel
theorem dX4_settleWays_4 : decode cX4_settleWays 4 = .ok (.if_icmp .ge 23, 3) := by decide +kernel
theorem dX4_settleWays_7 : decode cX4_settleWays 7 = .ok (.aload_n 0, 1) := by decide +kernel
theorem dX4_settleWays_8 : decode cX4_settleWays 8 = .ok (.getfield 18, 3) := by decide +kernel
theorem dX4_settleWays_11 : decode cX4_settleWays 11 = .ok (.iload_n 2, 1) := by decide +kernel
theorem dX4_settleWays_12 : decode cX4_settleWays 12 = .ok (.aload_n 0, 1) := by decide +kernel
theorem dX4_settleWays_13 : decode cX4_settleWays 13 = .ok (.getfield 15, 3) := by decide +kernel
theorem dX4_settleWays_16 : decode cX4_settleWays 16 = .ok (.iload_n 2, 1) := by decide +kernel
theorem dX4_settleWays_17 : decode cX4_settleWays 17 = .ok (.iaload, 1) := by decide +kernel
theorem dX4_settleWays_18 : decode cX4_settleWays 18 = .ok (.iload_n 2, 1) := by decide +kernel
theorem dX4_settleWays_19 : decode cX4_settleWays 19 = .ok (.isub, 1) := by decide +kernel
theorem dX4_settleWays_20 : decode cX4_settleWays 20 = .ok (.iastore, 1) := by decide +kernel
theorem dX4_settleWays_21 : decode cX4_settleWays 21 = .ok (.iinc 2 1, 3) := by decide +kernel
theorem dX4_settleWays_24 : decode cX4_settleWays 24 = .ok (.goto (-22), 3) := by decide +kernel
theorem dX4_settleWays_27 : decode cX4_settleWays 27 = .ok (.iconst 0, 1) := by decide +kernel
theorem dX4_settleWays_28 : decode cX4_settleWays 28 = .ok (.istore_n 2, 1) := by decide +kernel
theorem dX4_settleWays_29 : decode cX4_settleWays 29 = .ok (.iload_n 2, 1) := by decide +kernel
theorem dX4_settleWays_30 : decode cX4_settleWays 30 = .ok (.iload_n 1, 1) := by decide +kernel
theorem dX4_settleWays_31 : decode cX4_settleWays 31 = .ok (.if_icmp .ge 118, 3) := by decide +kernel
theorem dX4_settleWays_34 : decode cX4_settleWays 34 = .ok (.iconst 0, 1) := by decide +kernel
theorem dX4_settleWays_35 : decode cX4_settleWays 35 = .ok (.istore_n 3, 1) := by decide +kernel
theorem dX4_settleWays_36 : decode cX4_settleWays 36 = .ok (.iconst 0, 1) := by decide +kernel
theorem dX4_settleWays_37 : decode cX4_settleWays 37 = .ok (.istore 4, 2) := by decide +kernel
theorem dX4_settleWays_39 : decode cX4_settleWays 39 = .ok (.iconst 1, 1) := by decide +kernel
theorem dX4_settleWays_40 : decode cX4_settleWays 40 = .ok (.istore 5, 2) := by decide +kernel
theorem dX4_settleWays_42 : decode cX4_settleWays 42 = .ok (.iload 5, 2) := by decide +kernel
theorem dX4_settleWays_44 : decode cX4_settleWays 44 = .ok (.iload_n 1, 1) := by decide +kernel
theorem dX4_settleWays_45 : decode cX4_settleWays 45 = .ok (.if_icmp .ge 58, 3) := by decide +kernel
theorem dX4_settleWays_48 : decode cX4_settleWays 48 = .ok (.aload_n 0, 1) := by decide +kernel
theorem dX4_settleWays_49 : decode cX4_settleWays 49 = .ok (.getfield 18, 3) := by decide +kernel
theorem dX4_settleWays_52 : decode cX4_settleWays 52 = .ok (.iload 5, 2) := by decide +kernel
theorem dX4_settleWays_54 : decode cX4_settleWays 54 = .ok (.iaload, 1) := by decide +kernel
theorem dX4_settleWays_55 : decode cX4_settleWays 55 = .ok (.aload_n 0, 1) := by decide +kernel
theorem dX4_settleWays_56 : decode cX4_settleWays 56 = .ok (.getfield 18, 3) := by decide +kernel
theorem dX4_settleWays_59 : decode cX4_settleWays 59 = .ok (.iload_n 3, 1) := by decide +kernel
theorem dX4_settleWays_60 : decode cX4_settleWays 60 = .ok (.iaload, 1) := by decide +kernel
theorem dX4_settleWays_61 : decode cX4_settleWays 61 = .ok (.if_icmp .le 8, 3) := by decide +kernel
theorem dX4_settleWays_64 : decode cX4_settleWays 64 = .ok (.iload 5, 2) := by decide +kernel
theorem dX4_settleWays_66 : decode cX4_settleWays 66 = .ok (.goto 4, 3) := by decide +kernel
theorem dX4_settleWays_69 : decode cX4_settleWays 69 = .ok (.iload_n 3, 1) := by decide +kernel
theorem dX4_settleWays_70 : decode cX4_settleWays 70 = .ok (.istore_n 3, 1) := by decide +kernel
theorem dX4_settleWays_71 : decode cX4_settleWays 71 = .ok (.aload_n 0, 1) := by decide +kernel
theorem dX4_settleWays_72 : decode cX4_settleWays 72 = .ok (.getfield 18, 3) := by decide +kernel
theorem dX4_settleWays_75 : decode cX4_settleWays 75 = .ok (.iload 5, 2) := by decide +kernel
theorem dX4_settleWays_77 : decode cX4_settleWays 77 = .ok (.iaload, 1) := by decide +kernel
theorem dX4_settleWays_78 : decode cX4_settleWays 78 = .ok (.aload_n 0, 1) := by decide +kernel
theorem dX4_settleWays_79 : decode cX4_settleWays 79 = .ok (.getfield 18, 3) := by decide +kernel
theorem dX4_settleWays_82 : decode cX4_settleWays 82 = .ok (.iload 4, 2) := by decide +kernel
theorem dX4_settleWays_84 : decode cX4_settleWays 84 = .ok (.iaload, 1) := by decide +kernel
theorem dX4_settleWays_85 : decode cX4_settleWays 85 = .ok (.if_icmp .ge 8, 3) := by decide +kernel
theorem dX4_settleWays_88 : decode cX4_settleWays 88 = .ok (.iload 5, 2) := by decide +kernel
theorem dX4_settleWays_90 : decode cX4_settleWays 90 = .ok (.goto 5, 3) := by decide +kernel
theorem dX4_settleWays_93 : decode cX4_settleWays 93 = .ok (.iload 4, 2) := by decide +kernel
theorem dX4_settleWays_95 : decode cX4_settleWays 95 = .ok (.istore 4, 2) := by decide +kernel
theorem dX4_settleWays_97 : decode cX4_settleWays 97 = .ok (.iinc 5 1, 3) := by decide +kernel
theorem dX4_settleWays_100 : decode cX4_settleWays 100 = .ok (.goto (-58), 3) := by decide +kernel
theorem dX4_settleWays_103 : decode cX4_settleWays 103 = .ok (.aload_n 0, 1) := by decide +kernel
theorem dX4_settleWays_104 : decode cX4_settleWays 104 = .ok (.getfield 18, 3) := by decide +kernel
theorem dX4_settleWays_107 : decode cX4_settleWays 107 = .ok (.iload_n 3, 1) := by decide +kernel
theorem dX4_settleWays_108 : decode cX4_settleWays 108 = .ok (.iaload, 1) := by decide +kernel
theorem dX4_settleWays_109 : decode cX4_settleWays 109 = .ok (.aload_n 0, 1) := by decide +kernel
theorem dX4_settleWays_110 : decode cX4_settleWays 110 = .ok (.getfield 18, 3) := by decide +kernel
theorem dX4_settleWays_113 : decode cX4_settleWays 113 = .ok (.iload 4, 2) := by decide +kernel
theorem dX4_settleWays_115 : decode cX4_settleWays 115 = .ok (.iaload, 1) := by decide +kernel
theorem dX4_settleWays_116 : decode cX4_settleWays 116 = .ok (.isub, 1) := by decide +kernel
theorem dX4_settleWays_117 : decode cX4_settleWays 117 = .ok (.iload_n 1, 1) := by decide +kernel
theorem dX4_settleWays_118 : decode cX4_settleWays 118 = .ok (.if_icmp .gt 4, 3) := by decide +kernel
theorem dX4_settleWays_121 : decode cX4_settleWays 121 = .ok (.return_, 1) := by decide +kernel
theorem dX4_settleWays_122 : decode cX4_settleWays 122 = .ok (.aload_n 0, 1) := by decide +kernel
theorem dX4_settleWays_123 : decode cX4_settleWays 123 = .ok (.getfield 18, 3) := by decide +kernel
theorem dX4_settleWays_126 : decode cX4_settleWays 126 = .ok (.iload_n 3, 1) := by decide +kernel
theorem dX4_settleWays_127 : decode cX4_settleWays 127 = .ok (.dup2, 1) := by decide +kernel
theorem dX4_settleWays_128 : decode cX4_settleWays 128 = .ok (.iaload, 1) := by decide +kernel
theorem dX4_settleWays_129 : decode cX4_settleWays 129 = .ok (.iload_n 1, 1) := by decide +kernel
theorem dX4_settleWays_130 : decode cX4_settleWays 130 = .ok (.isub, 1) := by decide +kernel
theorem dX4_settleWays_131 : decode cX4_settleWays 131 = .ok (.iastore, 1) := by decide +kernel
theorem dX4_settleWays_132 : decode cX4_settleWays 132 = .ok (.aload_n 0, 1) := by decide +kernel
theorem dX4_settleWays_133 : decode cX4_settleWays 133 = .ok (.getfield 18, 3) := by decide +kernel
theorem dX4_settleWays_136 : decode cX4_settleWays 136 = .ok (.iload 4, 2) := by decide +kernel
theorem dX4_settleWays_138 : decode cX4_settleWays 138 = .ok (.dup2, 1) := by decide +kernel
theorem dX4_settleWays_139 : decode cX4_settleWays 139 = .ok (.iaload, 1) := by decide +kernel
theorem dX4_settleWays_140 : decode cX4_settleWays 140 = .ok (.iload_n 1, 1) := by decide +kernel
theorem dX4_settleWays_141 : decode cX4_settleWays 141 = .ok (.iadd, 1) := by decide +kernel
theorem dX4_settleWays_142 : decode cX4_settleWays 142 = .ok (.iastore, 1) := by decide +kernel
theorem dX4_settleWays_143 : decode cX4_settleWays 143 = .ok (.iinc 2 1, 3) := by decide +kernel
theorem dX4_settleWays_146 : decode cX4_settleWays 146 = .ok (.goto (-117), 3) := by decide +kernel
theorem dX4_settleWays_149 : decode cX4_settleWays 149 = .ok (.return_, 1) := by decide +kernel
theorem dX5_init_0 : decode cX5_init 0 = .ok (.aload_n 0, 1) := by decide +kernel
theorem dX5_init_1 : decode cX5_init 1 = .ok (.invokespecial 3, 3) := by decide +kernel
theorem dX5_init_4 : decode cX5_init 4 = .ok (.aload_n 0, 1) := by decide +kernel
theorem dX5_init_5 : decode cX5_init 5 = .ok (.iload_n 1, 1) := by decide +kernel
theorem dX5_init_6 : decode cX5_init 6 = .ok (.putfield 9, 3) := by decide +kernel
theorem dX5_init_9 : decode cX5_init 9 = .ok (.aload_n 0, 1) := by decide +kernel
theorem dX5_init_10 : decode cX5_init 10 = .ok (.iload_n 2, 1) := by decide +kernel
theorem dX5_init_11 : decode cX5_init 11 = .ok (.putfield 15, 3) := by decide +kernel
theorem dX5_init_14 : decode cX5_init 14 = .ok (.aload_n 0, 1) := by decide +kernel
theorem dX5_init_15 : decode cX5_init 15 = .ok (.iload_n 3, 1) := by decide +kernel
theorem dX5_init_16 : decode cX5_init 16 = .ok (.putfield 18, 3) := by decide +kernel
theorem dX5_init_19 : decode cX5_init 19 = .ok (.aload_n 0, 1) := by decide +kernel
theorem dX5_init_20 : decode cX5_init 20 = .ok (.iload 4, 2) := by decide +kernel
theorem dX5_init_22 : decode cX5_init 22 = .ok (.putfield 21, 3) := by decide +kernel
theorem dX5_init_25 : decode cX5_init 25 = .ok (.return_, 1) := by decide +kernel
theorem dX5_isOf_0 : decode cX5_isOf 0 = .ok (.aload_n 0, 1) := by decide +kernel
theorem dX5_isOf_1 : decode cX5_isOf 1 = .ok (.getfield 15, 3) := by decide +kernel
theorem dX5_isOf_4 : decode cX5_isOf 4 = .ok (.istore_n 2, 1) := by decide +kernel
theorem dX5_isOf_5 : decode cX5_isOf 5 = .ok (.iconst 0, 1) := by decide +kernel
theorem dX5_isOf_6 : decode cX5_isOf 6 = .ok (.istore_n 3, 1) := by decide +kernel
theorem dX5_isOf_7 : decode cX5_isOf 7 = .ok (.iload_n 3, 1) := by decide +kernel
theorem dX5_isOf_8 : decode cX5_isOf 8 = .ok (.iconst 5, 1) := by decide +kernel
theorem dX5_isOf_9 : decode cX5_isOf 9 = .ok (.if_icmp .ge 24, 3) := by decide +kernel
theorem dX5_isOf_12 : decode cX5_isOf 12 = .ok (.iload_n 2, 1) := by decide +kernel
theorem dX5_isOf_13 : decode cX5_isOf 13 = .ok (.ifCond .le 20, 3) := by decide +kernel
theorem dX5_isOf_16 : decode cX5_isOf 16 = .ok (.iload_n 2, 1) := by decide +kernel
theorem dX5_isOf_17 : decode cX5_isOf 17 = .ok (.iload_n 1, 1) := by decide +kernel
theorem dX5_isOf_18 : decode cX5_isOf 18 = .ok (.if_icmp .eq 15, 3) := by decide +kernel
theorem dX5_isOf_21 : decode cX5_isOf 21 = .ok (.getstatic 24, 3) := by decide +kernel
theorem dX5_isOf_24 : decode cX5_isOf 24 = .ok (.iload_n 2, 1) := by decide +kernel
theorem dX5_isOf_25 : decode cX5_isOf 25 = .ok (.iaload, 1) := by decide +kernel
theorem dX5_isOf_26 : decode cX5_isOf 26 = .ok (.istore_n 2, 1) := by decide +kernel
theorem dX5_isOf_27 : decode cX5_isOf 27 = .ok (.iinc 3 1, 3) := by decide +kernel
theorem dX5_isOf_30 : decode cX5_isOf 30 = .ok (.goto (-23), 3) := by decide +kernel
theorem dX5_isOf_33 : decode cX5_isOf 33 = .ok (.iload_n 2, 1) := by decide +kernel
theorem dX5_isOf_34 : decode cX5_isOf 34 = .ok (.iload_n 1, 1) := by decide +kernel
theorem dX5_isOf_35 : decode cX5_isOf 35 = .ok (.if_icmp .ne 7, 3) := by decide +kernel
theorem dX5_isOf_38 : decode cX5_isOf 38 = .ok (.iconst 1, 1) := by decide +kernel
theorem dX5_isOf_39 : decode cX5_isOf 39 = .ok (.goto 4, 3) := by decide +kernel
theorem dX5_isOf_42 : decode cX5_isOf 42 = .ok (.iconst 0, 1) := by decide +kernel
theorem dX5_isOf_43 : decode cX5_isOf 43 = .ok (.ireturn, 1) := by decide +kernel
theorem dX6_init_0 : decode cX6_init 0 = .ok (.aload_n 0, 1) := by decide +kernel
theorem dX6_init_1 : decode cX6_init 1 = .ok (.invokespecial 3, 3) := by decide +kernel
theorem dX6_init_4 : decode cX6_init 4 = .ok (.aload_n 0, 1) := by decide +kernel
theorem dX6_init_5 : decode cX6_init 5 = .ok (.bipush 40, 2) := by decide +kernel
theorem dX6_init_7 : decode cX6_init 7 = .ok (.newarray .int, 2) := by decide +kernel
theorem dX6_init_9 : decode cX6_init 9 = .ok (.putfield 9, 3) := by decide +kernel
theorem dX6_init_12 : decode cX6_init 12 = .ok (.aload_n 0, 1) := by decide +kernel
theorem dX6_init_13 : decode cX6_init 13 = .ok (.bipush 40, 2) := by decide +kernel
theorem dX6_init_15 : decode cX6_init 15 = .ok (.newarray .int, 2) := by decide +kernel
theorem dX6_init_17 : decode cX6_init 17 = .ok (.putfield 15, 3) := by decide +kernel
theorem dX6_init_20 : decode cX6_init 20 = .ok (.aload_n 0, 1) := by decide +kernel
theorem dX6_init_21 : decode cX6_init 21 = .ok (.bipush 40, 2) := by decide +kernel
theorem dX6_init_23 : decode cX6_init 23 = .ok (.newarray .int, 2) := by decide +kernel
theorem dX6_init_25 : decode cX6_init 25 = .ok (.putfield 18, 3) := by decide +kernel
theorem dX6_init_28 : decode cX6_init 28 = .ok (.aload_n 0, 1) := by decide +kernel
theorem dX6_init_29 : decode cX6_init 29 = .ok (.iconst 0, 1) := by decide +kernel
theorem dX6_init_30 : decode cX6_init 30 = .ok (.putfield 21, 3) := by decide +kernel
theorem dX6_init_33 : decode cX6_init 33 = .ok (.aload_n 0, 1) := by decide +kernel
theorem dX6_init_34 : decode cX6_init 34 = .ok (.bipush 72, 2) := by decide +kernel
theorem dX6_init_36 : decode cX6_init 36 = .ok (.newarray .int, 2) := by decide +kernel
theorem dX6_init_38 : decode cX6_init 38 = .ok (.putfield 25, 3) := by decide +kernel
theorem dX6_init_41 : decode cX6_init 41 = .ok (.aload_n 0, 1) := by decide +kernel
theorem dX6_init_42 : decode cX6_init 42 = .ok (.bipush 9, 2) := by decide +kernel
theorem dX6_init_44 : decode cX6_init 44 = .ok (.newarray .int, 2) := by decide +kernel
theorem dX6_init_46 : decode cX6_init 46 = .ok (.putfield 28, 3) := by decide +kernel
theorem dX6_init_49 : decode cX6_init 49 = .ok (.aload_n 0, 1) := by decide +kernel
theorem dX6_init_50 : decode cX6_init 50 = .ok (.iconst 0, 1) := by decide +kernel
theorem dX6_init_51 : decode cX6_init 51 = .ok (.putfield 31, 3) := by decide +kernel
theorem dX6_init_54 : decode cX6_init 54 = .ok (.return_, 1) := by decide +kernel
theorem dX6_tell_0 : decode cX6_tell 0 = .ok (.aload_n 0, 1) := by decide +kernel
theorem dX6_tell_1 : decode cX6_tell 1 = .ok (.getfield 21, 3) := by decide +kernel
theorem dX6_tell_4 : decode cX6_tell 4 = .ok (.bipush 40, 2) := by decide +kernel
theorem dX6_tell_6 : decode cX6_tell 6 = .ok (.if_icmp .lt 5, 3) := by decide +kernel
theorem dX6_tell_9 : decode cX6_tell 9 = .ok (.iconst 0, 1) := by decide +kernel
theorem dX6_tell_10 : decode cX6_tell 10 = .ok (.ireturn, 1) := by decide +kernel
theorem dX6_tell_11 : decode cX6_tell 11 = .ok (.aload_n 0, 1) := by decide +kernel
theorem dX6_tell_12 : decode cX6_tell 12 = .ok (.getfield 9, 3) := by decide +kernel
theorem dX6_tell_15 : decode cX6_tell 15 = .ok (.aload_n 0, 1) := by decide +kernel
theorem dX6_tell_16 : decode cX6_tell 16 = .ok (.getfield 21, 3) := by decide +kernel
theorem dX6_tell_19 : decode cX6_tell 19 = .ok (.iload_n 1, 1) := by decide +kernel
theorem dX6_tell_20 : decode cX6_tell 20 = .ok (.iastore, 1) := by decide +kernel
theorem dX6_tell_21 : decode cX6_tell 21 = .ok (.aload_n 0, 1) := by decide +kernel
theorem dX6_tell_22 : decode cX6_tell 22 = .ok (.getfield 15, 3) := by decide +kernel
theorem dX6_tell_25 : decode cX6_tell 25 = .ok (.aload_n 0, 1) := by decide +kernel
theorem dX6_tell_26 : decode cX6_tell 26 = .ok (.getfield 21, 3) := by decide +kernel
theorem dX6_tell_29 : decode cX6_tell 29 = .ok (.iload_n 2, 1) := by decide +kernel
theorem dX6_tell_30 : decode cX6_tell 30 = .ok (.iastore, 1) := by decide +kernel
theorem dX6_tell_31 : decode cX6_tell 31 = .ok (.aload_n 0, 1) := by decide +kernel
theorem dX6_tell_32 : decode cX6_tell 32 = .ok (.getfield 18, 3) := by decide +kernel
theorem dX6_tell_35 : decode cX6_tell 35 = .ok (.aload_n 0, 1) := by decide +kernel
theorem dX6_tell_36 : decode cX6_tell 36 = .ok (.getfield 21, 3) := by decide +kernel
theorem dX6_tell_39 : decode cX6_tell 39 = .ok (.iload_n 3, 1) := by decide +kernel
theorem dX6_tell_40 : decode cX6_tell 40 = .ok (.iastore, 1) := by decide +kernel
theorem dX6_tell_41 : decode cX6_tell 41 = .ok (.aload_n 0, 1) := by decide +kernel
theorem dX6_tell_42 : decode cX6_tell 42 = .ok (.dup, 1) := by decide +kernel
theorem dX6_tell_43 : decode cX6_tell 43 = .ok (.getfield 21, 3) := by decide +kernel
theorem dX6_tell_46 : decode cX6_tell 46 = .ok (.iconst 1, 1) := by decide +kernel
theorem dX6_tell_47 : decode cX6_tell 47 = .ok (.iadd, 1) := by decide +kernel
theorem dX6_tell_48 : decode cX6_tell 48 = .ok (.putfield 21, 3) := by decide +kernel
theorem dX6_tell_51 : decode cX6_tell 51 = .ok (.iconst 1, 1) := by decide +kernel
theorem dX6_tell_52 : decode cX6_tell 52 = .ok (.ireturn, 1) := by decide +kernel
theorem dX6_wrongOn_0 : decode cX6_wrongOn 0 = .ok (.iconst 0, 1) := by decide +kernel
theorem dX6_wrongOn_1 : decode cX6_wrongOn 1 = .ok (.istore_n 2, 1) := by decide +kernel
theorem dX6_wrongOn_2 : decode cX6_wrongOn 2 = .ok (.iconst 0, 1) := by decide +kernel
theorem dX6_wrongOn_3 : decode cX6_wrongOn 3 = .ok (.istore_n 3, 1) := by decide +kernel
theorem dX6_wrongOn_4 : decode cX6_wrongOn 4 = .ok (.iload_n 3, 1) := by decide +kernel
theorem dX6_wrongOn_5 : decode cX6_wrongOn 5 = .ok (.aload_n 0, 1) := by decide +kernel
theorem dX6_wrongOn_6 : decode cX6_wrongOn 6 = .ok (.getfield 21, 3) := by decide +kernel
theorem dX6_wrongOn_9 : decode cX6_wrongOn 9 = .ok (.if_icmp .ge 56, 3) := by decide +kernel
theorem dX6_wrongOn_12 : decode cX6_wrongOn 12 = .ok (.aload_n 1, 1) := by decide +kernel
theorem dX6_wrongOn_13 : decode cX6_wrongOn 13 = .ok (.aload_n 0, 1) := by decide +kernel
theorem dX6_wrongOn_14 : decode cX6_wrongOn 14 = .ok (.getfield 9, 3) := by decide +kernel
theorem dX6_wrongOn_17 : decode cX6_wrongOn 17 = .ok (.iload_n 3, 1) := by decide +kernel
theorem dX6_wrongOn_18 : decode cX6_wrongOn 18 = .ok (.iaload, 1) := by decide +kernel
theorem dX6_wrongOn_19 : decode cX6_wrongOn 19 = .ok (.aload_n 0, 1) := by decide +kernel
theorem dX6_wrongOn_20 : decode cX6_wrongOn 20 = .ok (.getfield 15, 3) := by decide +kernel
theorem dX6_wrongOn_23 : decode cX6_wrongOn 23 = .ok (.iload_n 3, 1) := by decide +kernel
theorem dX6_wrongOn_24 : decode cX6_wrongOn 24 = .ok (.iaload, 1) := by decide +kernel
theorem dX6_wrongOn_25 : decode cX6_wrongOn 25 = .ok (.invokevirtual 34, 3) := by decide +kernel
theorem dX6_wrongOn_28 : decode cX6_wrongOn 28 = .ok (.ifCond .eq 28, 3) := by decide +kernel
theorem dX6_wrongOn_31 : decode cX6_wrongOn 31 = .ok (.aload_n 1, 1) := by decide +kernel
theorem dX6_wrongOn_32 : decode cX6_wrongOn 32 = .ok (.aload_n 0, 1) := by decide +kernel
theorem dX6_wrongOn_33 : decode cX6_wrongOn 33 = .ok (.getfield 9, 3) := by decide +kernel
theorem dX6_wrongOn_36 : decode cX6_wrongOn 36 = .ok (.iload_n 3, 1) := by decide +kernel
theorem dX6_wrongOn_37 : decode cX6_wrongOn 37 = .ok (.iaload, 1) := by decide +kernel
theorem dX6_wrongOn_38 : decode cX6_wrongOn 38 = .ok (.aload_n 0, 1) := by decide +kernel
theorem dX6_wrongOn_39 : decode cX6_wrongOn 39 = .ok (.getfield 15, 3) := by decide +kernel
theorem dX6_wrongOn_42 : decode cX6_wrongOn 42 = .ok (.iload_n 3, 1) := by decide +kernel
theorem dX6_wrongOn_43 : decode cX6_wrongOn 43 = .ok (.iaload, 1) := by decide +kernel
theorem dX6_wrongOn_44 : decode cX6_wrongOn 44 = .ok (.invokevirtual 40, 3) := by decide +kernel
theorem dX6_wrongOn_47 : decode cX6_wrongOn 47 = .ok (.aload_n 0, 1) := by decide +kernel
theorem dX6_wrongOn_48 : decode cX6_wrongOn 48 = .ok (.getfield 18, 3) := by decide +kernel
theorem dX6_wrongOn_51 : decode cX6_wrongOn 51 = .ok (.iload_n 3, 1) := by decide +kernel
theorem dX6_wrongOn_52 : decode cX6_wrongOn 52 = .ok (.iaload, 1) := by decide +kernel
theorem dX6_wrongOn_53 : decode cX6_wrongOn 53 = .ok (.if_icmp .eq 6, 3) := by decide +kernel
theorem dX6_wrongOn_56 : decode cX6_wrongOn 56 = .ok (.iinc 2 1, 3) := by decide +kernel
theorem dX6_wrongOn_59 : decode cX6_wrongOn 59 = .ok (.iinc 3 1, 3) := by decide +kernel
theorem dX6_wrongOn_62 : decode cX6_wrongOn 62 = .ok (.goto (-58), 3) := by decide +kernel
theorem dX6_wrongOn_65 : decode cX6_wrongOn 65 = .ok (.iload_n 2, 1) := by decide +kernel
theorem dX6_wrongOn_66 : decode cX6_wrongOn 66 = .ok (.ireturn, 1) := by decide +kernel
theorem dX6_choose_0 : decode cX6_choose 0 = .ok (.aload_n 0, 1) := by decide +kernel
theorem dX6_choose_1 : decode cX6_choose 1 = .ok (.getfield 25, 3) := by decide +kernel
theorem dX6_choose_4 : decode cX6_choose 4 = .ok (.iconst 0, 1) := by decide +kernel
theorem dX6_choose_5 : decode cX6_choose 5 = .ok (.invokestatic 44, 3) := by decide +kernel
theorem dX6_choose_8 : decode cX6_choose 8 = .ok (.iconst 0, 1) := by decide +kernel
theorem dX6_choose_9 : decode cX6_choose 9 = .ok (.istore_n 3, 1) := by decide +kernel
theorem dX6_choose_10 : decode cX6_choose 10 = .ok (.iload_n 3, 1) := by decide +kernel
theorem dX6_choose_11 : decode cX6_choose 11 = .ok (.aload_n 0, 1) := by decide +kernel
theorem dX6_choose_12 : decode cX6_choose 12 = .ok (.getfield 21, 3) := by decide +kernel
theorem dX6_choose_15 : decode cX6_choose 15 = .ok (.if_icmp .ge 63, 3) := by decide +kernel
theorem dX6_choose_18 : decode cX6_choose 18 = .ok (.aload_n 1, 1) := by decide +kernel
theorem dX6_choose_19 : decode cX6_choose 19 = .ok (.aload_n 0, 1) := by decide +kernel
theorem dX6_choose_20 : decode cX6_choose 20 = .ok (.getfield 9, 3) := by decide +kernel
theorem dX6_choose_23 : decode cX6_choose 23 = .ok (.iload_n 3, 1) := by decide +kernel
theorem dX6_choose_24 : decode cX6_choose 24 = .ok (.iaload, 1) := by decide +kernel
theorem dX6_choose_25 : decode cX6_choose 25 = .ok (.aload_n 0, 1) := by decide +kernel
theorem dX6_choose_26 : decode cX6_choose 26 = .ok (.getfield 15, 3) := by decide +kernel
theorem dX6_choose_29 : decode cX6_choose 29 = .ok (.iload_n 3, 1) := by decide +kernel
theorem dX6_choose_30 : decode cX6_choose 30 = .ok (.iaload, 1) := by decide +kernel
theorem dX6_choose_31 : decode cX6_choose 31 = .ok (.invokevirtual 34, 3) := by decide +kernel
theorem dX6_choose_34 : decode cX6_choose 34 = .ok (.ifCond .eq 38, 3) := by decide +kernel
theorem dX6_choose_37 : decode cX6_choose 37 = .ok (.aload_n 0, 1) := by decide +kernel
theorem dX6_choose_38 : decode cX6_choose 38 = .ok (.getfield 25, 3) := by decide +kernel
theorem dX6_choose_41 : decode cX6_choose 41 = .ok (.bipush 8, 2) := by decide +kernel
theorem dX6_choose_43 : decode cX6_choose 43 = .ok (.aload_n 1, 1) := by decide +kernel
theorem dX6_choose_44 : decode cX6_choose 44 = .ok (.aload_n 0, 1) := by decide +kernel
theorem dX6_choose_45 : decode cX6_choose 45 = .ok (.getfield 9, 3) := by decide +kernel
theorem dX6_choose_48 : decode cX6_choose 48 = .ok (.iload_n 3, 1) := by decide +kernel
theorem dX6_choose_49 : decode cX6_choose 49 = .ok (.iaload, 1) := by decide +kernel
theorem dX6_choose_50 : decode cX6_choose 50 = .ok (.aload_n 0, 1) := by decide +kernel
theorem dX6_choose_51 : decode cX6_choose 51 = .ok (.getfield 15, 3) := by decide +kernel
theorem dX6_choose_54 : decode cX6_choose 54 = .ok (.iload_n 3, 1) := by decide +kernel
theorem dX6_choose_55 : decode cX6_choose 55 = .ok (.iaload, 1) := by decide +kernel
theorem dX6_choose_56 : decode cX6_choose 56 = .ok (.invokevirtual 50, 3) := by decide +kernel
theorem dX6_choose_59 : decode cX6_choose 59 = .ok (.imul, 1) := by decide +kernel
theorem dX6_choose_60 : decode cX6_choose 60 = .ok (.aload_n 0, 1) := by decide +kernel
theorem dX6_choose_61 : decode cX6_choose 61 = .ok (.getfield 18, 3) := by decide +kernel
theorem dX6_choose_64 : decode cX6_choose 64 = .ok (.iload_n 3, 1) := by decide +kernel
theorem dX6_choose_65 : decode cX6_choose 65 = .ok (.iaload, 1) := by decide +kernel
theorem dX6_choose_66 : decode cX6_choose 66 = .ok (.iadd, 1) := by decide +kernel
theorem dX6_choose_67 : decode cX6_choose 67 = .ok (.dup2, 1) := by decide +kernel
theorem dX6_choose_68 : decode cX6_choose 68 = .ok (.iaload, 1) := by decide +kernel
theorem dX6_choose_69 : decode cX6_choose 69 = .ok (.iconst 1, 1) := by decide +kernel
theorem dX6_choose_70 : decode cX6_choose 70 = .ok (.iadd, 1) := by decide +kernel
theorem dX6_choose_71 : decode cX6_choose 71 = .ok (.iastore, 1) := by decide +kernel
theorem dX6_choose_72 : decode cX6_choose 72 = .ok (.iinc 3 1, 3) := by decide +kernel
theorem dX6_choose_75 : decode cX6_choose 75 = .ok (.goto (-65), 3) := by decide +kernel
theorem dX6_choose_78 : decode cX6_choose 78 = .ok (.aload_n 0, 1) := by decide +kernel
theorem dX6_choose_79 : decode cX6_choose 79 = .ok (.aload_n 0, 1) := by decide +kernel
theorem dX6_choose_80 : decode cX6_choose 80 = .ok (.getfield 21, 3) := by decide +kernel
theorem dX6_choose_83 : decode cX6_choose 83 = .ok (.putfield 31, 3) := by decide +kernel
theorem dX6_choose_86 : decode cX6_choose 86 = .ok (.iconst 0, 1) := by decide +kernel
theorem dX6_choose_87 : decode cX6_choose 87 = .ok (.istore_n 3, 1) := by decide +kernel
theorem dX6_choose_88 : decode cX6_choose 88 = .ok (.iload_n 3, 1) := by decide +kernel
theorem dX6_choose_89 : decode cX6_choose 89 = .ok (.aload_n 1, 1) := by decide +kernel
theorem dX6_choose_90 : decode cX6_choose 90 = .ok (.getfield 53, 3) := by decide +kernel
theorem dX6_choose_93 : decode cX6_choose 93 = .ok (.if_icmp .ge 46, 3) := by decide +kernel
theorem dX6_choose_96 : decode cX6_choose 96 = .ok (.aload_n 0, 1) := by decide +kernel
theorem dX6_choose_97 : decode cX6_choose 97 = .ok (.getfield 28, 3) := by decide +kernel
theorem dX6_choose_100 : decode cX6_choose 100 = .ok (.iload_n 3, 1) := by decide +kernel
theorem dX6_choose_101 : decode cX6_choose 101 = .ok (.aload_n 0, 1) := by decide +kernel
theorem dX6_choose_102 : decode cX6_choose 102 = .ok (.iload_n 3, 1) := by decide +kernel
theorem dX6_choose_103 : decode cX6_choose 103 = .ok (.iload_n 2, 1) := by decide +kernel
theorem dX6_choose_104 : decode cX6_choose 104 = .ok (.invokevirtual 56, 3) := by decide +kernel
theorem dX6_choose_107 : decode cX6_choose 107 = .ok (.iastore, 1) := by decide +kernel
theorem dX6_choose_108 : decode cX6_choose 108 = .ok (.aload_n 0, 1) := by decide +kernel
theorem dX6_choose_109 : decode cX6_choose 109 = .ok (.dup, 1) := by decide +kernel
theorem dX6_choose_110 : decode cX6_choose 110 = .ok (.getfield 31, 3) := by decide +kernel
theorem dX6_choose_113 : decode cX6_choose 113 = .ok (.aload_n 0, 1) := by decide +kernel
theorem dX6_choose_114 : decode cX6_choose 114 = .ok (.getfield 25, 3) := by decide +kernel
theorem dX6_choose_117 : decode cX6_choose 117 = .ok (.bipush 8, 2) := by decide +kernel
theorem dX6_choose_119 : decode cX6_choose 119 = .ok (.iload_n 3, 1) := by decide +kernel
theorem dX6_choose_120 : decode cX6_choose 120 = .ok (.imul, 1) := by decide +kernel
theorem dX6_choose_121 : decode cX6_choose 121 = .ok (.aload_n 0, 1) := by decide +kernel
theorem dX6_choose_122 : decode cX6_choose 122 = .ok (.getfield 28, 3) := by decide +kernel
theorem dX6_choose_125 : decode cX6_choose 125 = .ok (.iload_n 3, 1) := by decide +kernel
theorem dX6_choose_126 : decode cX6_choose 126 = .ok (.iaload, 1) := by decide +kernel
theorem dX6_choose_127 : decode cX6_choose 127 = .ok (.iadd, 1) := by decide +kernel
theorem dX6_choose_128 : decode cX6_choose 128 = .ok (.iaload, 1) := by decide +kernel
theorem dX6_choose_129 : decode cX6_choose 129 = .ok (.isub, 1) := by decide +kernel
theorem dX6_choose_130 : decode cX6_choose 130 = .ok (.putfield 31, 3) := by decide +kernel
theorem dX6_choose_133 : decode cX6_choose 133 = .ok (.iinc 3 1, 3) := by decide +kernel
theorem dX6_choose_136 : decode cX6_choose 136 = .ok (.goto (-48), 3) := by decide +kernel
theorem dX6_choose_139 : decode cX6_choose 139 = .ok (.return_, 1) := by decide +kernel
theorem dX6_mostAsked_0 : decode cX6_mostAsked 0 = .ok (.iconst 0, 1) := by decide +kernel
theorem dX6_mostAsked_1 : decode cX6_mostAsked 1 = .ok (.istore_n 3, 1) := by decide +kernel
theorem dX6_mostAsked_2 : decode cX6_mostAsked 2 = .ok (.iconst 1, 1) := by decide +kernel
theorem dX6_mostAsked_3 : decode cX6_mostAsked 3 = .ok (.istore 4, 2) := by decide +kernel
theorem dX6_mostAsked_5 : decode cX6_mostAsked 5 = .ok (.iload 4, 2) := by decide +kernel
theorem dX6_mostAsked_7 : decode cX6_mostAsked 7 = .ok (.iload_n 2, 1) := by decide +kernel
theorem dX6_mostAsked_8 : decode cX6_mostAsked 8 = .ok (.if_icmp .ge 38, 3) := by decide +kernel
theorem dX6_mostAsked_11 : decode cX6_mostAsked 11 = .ok (.aload_n 0, 1) := by decide +kernel
theorem dX6_mostAsked_12 : decode cX6_mostAsked 12 = .ok (.getfield 25, 3) := by decide +kernel
theorem dX6_mostAsked_15 : decode cX6_mostAsked 15 = .ok (.bipush 8, 2) := by decide +kernel
theorem dX6_mostAsked_17 : decode cX6_mostAsked 17 = .ok (.iload_n 1, 1) := by decide +kernel
theorem dX6_mostAsked_18 : decode cX6_mostAsked 18 = .ok (.imul, 1) := by decide +kernel
theorem dX6_mostAsked_19 : decode cX6_mostAsked 19 = .ok (.iload 4, 2) := by decide +kernel
theorem dX6_mostAsked_21 : decode cX6_mostAsked 21 = .ok (.iadd, 1) := by decide +kernel
theorem dX6_mostAsked_22 : decode cX6_mostAsked 22 = .ok (.iaload, 1) := by decide +kernel
theorem dX6_mostAsked_23 : decode cX6_mostAsked 23 = .ok (.aload_n 0, 1) := by decide +kernel
theorem dX6_mostAsked_24 : decode cX6_mostAsked 24 = .ok (.getfield 25, 3) := by decide +kernel
theorem dX6_mostAsked_27 : decode cX6_mostAsked 27 = .ok (.bipush 8, 2) := by decide +kernel
theorem dX6_mostAsked_29 : decode cX6_mostAsked 29 = .ok (.iload_n 1, 1) := by decide +kernel
theorem dX6_mostAsked_30 : decode cX6_mostAsked 30 = .ok (.imul, 1) := by decide +kernel
theorem dX6_mostAsked_31 : decode cX6_mostAsked 31 = .ok (.iload_n 3, 1) := by decide +kernel
theorem dX6_mostAsked_32 : decode cX6_mostAsked 32 = .ok (.iadd, 1) := by decide +kernel
theorem dX6_mostAsked_33 : decode cX6_mostAsked 33 = .ok (.iaload, 1) := by decide +kernel
theorem dX6_mostAsked_34 : decode cX6_mostAsked 34 = .ok (.if_icmp .le 6, 3) := by decide +kernel
theorem dX6_mostAsked_37 : decode cX6_mostAsked 37 = .ok (.iload 4, 2) := by decide +kernel
theorem dX6_mostAsked_39 : decode cX6_mostAsked 39 = .ok (.istore_n 3, 1) := by decide +kernel
theorem dX6_mostAsked_40 : decode cX6_mostAsked 40 = .ok (.iinc 4 1, 3) := by decide +kernel
theorem dX6_mostAsked_43 : decode cX6_mostAsked 43 = .ok (.goto (-38), 3) := by decide +kernel
theorem dX6_mostAsked_46 : decode cX6_mostAsked 46 = .ok (.iload_n 3, 1) := by decide +kernel
theorem dX6_mostAsked_47 : decode cX6_mostAsked 47 = .ok (.ireturn, 1) := by decide +kernel
theorem dX7_init_0 : decode cX7_init 0 = .ok (.aload_n 0, 1) := by decide +kernel
theorem dX7_init_1 : decode cX7_init 1 = .ok (.invokespecial 3, 3) := by decide +kernel
theorem dX7_init_4 : decode cX7_init 4 = .ok (.aload_n 0, 1) := by decide +kernel
theorem dX7_init_5 : decode cX7_init 5 = .ok (.bipush 10, 2) := by decide +kernel
theorem dX7_init_7 : decode cX7_init 7 = .ok (.anewarray 9, 3) := by decide +kernel
theorem dX7_init_10 : decode cX7_init 10 = .ok (.putfield 11, 3) := by decide +kernel
theorem dX7_init_13 : decode cX7_init 13 = .ok (.aload_n 0, 1) := by decide +kernel
theorem dX7_init_14 : decode cX7_init 14 = .ok (.iconst 0, 1) := by decide +kernel
theorem dX7_init_15 : decode cX7_init 15 = .ok (.putfield 17, 3) := by decide +kernel
theorem dX7_init_18 : decode cX7_init 18 = .ok (.aload_n 0, 1) := by decide +kernel
theorem dX7_init_19 : decode cX7_init 19 = .ok (.bipush 80, 2) := by decide +kernel
theorem dX7_init_21 : decode cX7_init 21 = .ok (.newarray .int, 2) := by decide +kernel
theorem dX7_init_23 : decode cX7_init 23 = .ok (.putfield 21, 3) := by decide +kernel
theorem dX7_init_26 : decode cX7_init 26 = .ok (.aload_n 0, 1) := by decide +kernel
theorem dX7_init_27 : decode cX7_init 27 = .ok (.iconst 0, 1) := by decide +kernel
theorem dX7_init_28 : decode cX7_init 28 = .ok (.putfield 25, 3) := by decide +kernel
theorem dX7_init_31 : decode cX7_init 31 = .ok (.aload_n 0, 1) := by decide +kernel
theorem dX7_init_32 : decode cX7_init 32 = .ok (.new 9, 3) := by decide +kernel
theorem dX7_init_35 : decode cX7_init 35 = .ok (.dup, 1) := by decide +kernel
theorem dX7_init_36 : decode cX7_init 36 = .ok (.sipush 300, 3) := by decide +kernel
theorem dX7_init_39 : decode cX7_init 39 = .ok (.invokespecial 28, 3) := by decide +kernel
theorem dX7_init_42 : decode cX7_init 42 = .ok (.putfield 31, 3) := by decide +kernel
theorem dX7_init_45 : decode cX7_init 45 = .ok (.aload_n 0, 1) := by decide +kernel
theorem dX7_init_46 : decode cX7_init 46 = .ok (.iconst 0, 1) := by decide +kernel
theorem dX7_init_47 : decode cX7_init 47 = .ok (.putfield 35, 3) := by decide +kernel
theorem dX7_init_50 : decode cX7_init 50 = .ok (.aload_n 0, 1) := by decide +kernel
theorem dX7_init_51 : decode cX7_init 51 = .ok (.iconst 4, 1) := by decide +kernel
theorem dX7_init_52 : decode cX7_init 52 = .ok (.newarray .int, 2) := by decide +kernel
theorem dX7_init_54 : decode cX7_init 54 = .ok (.putfield 39, 3) := by decide +kernel
theorem dX7_init_57 : decode cX7_init 57 = .ok (.aload_n 0, 1) := by decide +kernel
theorem dX7_init_58 : decode cX7_init 58 = .ok (.iconst 0, 1) := by decide +kernel
theorem dX7_init_59 : decode cX7_init 59 = .ok (.putfield 42, 3) := by decide +kernel
theorem dX7_init_62 : decode cX7_init 62 = .ok (.return_, 1) := by decide +kernel
theorem dX7_figureAt_0 : decode cX7_figureAt 0 = .ok (.iload_n 1, 1) := by decide +kernel
theorem dX7_figureAt_1 : decode cX7_figureAt 1 = .ok (.ifCond .lt 20, 3) := by decide +kernel
theorem dX7_figureAt_4 : decode cX7_figureAt 4 = .ok (.iload_n 1, 1) := by decide +kernel
theorem dX7_figureAt_5 : decode cX7_figureAt 5 = .ok (.aload_n 0, 1) := by decide +kernel
theorem dX7_figureAt_6 : decode cX7_figureAt 6 = .ok (.getfield 17, 3) := by decide +kernel
theorem dX7_figureAt_9 : decode cX7_figureAt 9 = .ok (.if_icmp .ge 12, 3) := by decide +kernel
theorem dX7_figureAt_12 : decode cX7_figureAt 12 = .ok (.aload_n 0, 1) := by decide +kernel
theorem dX7_figureAt_13 : decode cX7_figureAt 13 = .ok (.getfield 11, 3) := by decide +kernel
theorem dX7_figureAt_16 : decode cX7_figureAt 16 = .ok (.iload_n 1, 1) := by decide +kernel
theorem dX7_figureAt_17 : decode cX7_figureAt 17 = .ok (.aaload, 1) := by decide +kernel
theorem dX7_figureAt_18 : decode cX7_figureAt 18 = .ok (.goto 4, 3) := by decide +kernel
theorem dX7_figureAt_21 : decode cX7_figureAt 21 = .ok (.aconst_null, 1) := by decide +kernel
theorem dX7_figureAt_22 : decode cX7_figureAt 22 = .ok (.areturn, 1) := by decide +kernel
theorem dX7_keep_0 : decode cX7_keep 0 = .ok (.aload_n 0, 1) := by decide +kernel
theorem dX7_keep_1 : decode cX7_keep 1 = .ok (.getfield 17, 3) := by decide +kernel
theorem dX7_keep_4 : decode cX7_keep 4 = .ok (.bipush 10, 2) := by decide +kernel
theorem dX7_keep_6 : decode cX7_keep 6 = .ok (.if_icmp .lt 6, 3) := by decide +kernel
theorem dX7_keep_9 : decode cX7_keep 9 = .ok (.bipush (-4), 2) := by decide +kernel
theorem dX7_keep_11 : decode cX7_keep 11 = .ok (.ireturn, 1) := by decide +kernel
theorem dX7_keep_12 : decode cX7_keep 12 = .ok (.aload_n 0, 1) := by decide +kernel
theorem dX7_keep_13 : decode cX7_keep 13 = .ok (.getfield 17, 3) := by decide +kernel
theorem dX7_keep_16 : decode cX7_keep 16 = .ok (.istore_n 1, 1) := by decide +kernel
theorem dX7_keep_17 : decode cX7_keep 17 = .ok (.aload_n 0, 1) := by decide +kernel
theorem dX7_keep_18 : decode cX7_keep 18 = .ok (.getfield 11, 3) := by decide +kernel
theorem dX7_keep_21 : decode cX7_keep 21 = .ok (.iload_n 1, 1) := by decide +kernel
theorem dX7_keep_22 : decode cX7_keep 22 = .ok (.aload_n 0, 1) := by decide +kernel
theorem dX7_keep_23 : decode cX7_keep 23 = .ok (.getfield 31, 3) := by decide +kernel
theorem dX7_keep_26 : decode cX7_keep 26 = .ok (.invokevirtual 45, 3) := by decide +kernel
theorem dX7_keep_29 : decode cX7_keep 29 = .ok (.aastore, 1) := by decide +kernel
theorem dX7_keep_30 : decode cX7_keep 30 = .ok (.aload_n 0, 1) := by decide +kernel
theorem dX7_keep_31 : decode cX7_keep 31 = .ok (.dup, 1) := by decide +kernel
theorem dX7_keep_32 : decode cX7_keep 32 = .ok (.getfield 17, 3) := by decide +kernel
theorem dX7_keep_35 : decode cX7_keep 35 = .ok (.iconst 1, 1) := by decide +kernel
theorem dX7_keep_36 : decode cX7_keep 36 = .ok (.iadd, 1) := by decide +kernel
theorem dX7_keep_37 : decode cX7_keep 37 = .ok (.putfield 17, 3) := by decide +kernel
theorem dX7_keep_40 : decode cX7_keep 40 = .ok (.iload_n 1, 1) := by decide +kernel
theorem dX7_keep_41 : decode cX7_keep 41 = .ok (.ireturn, 1) := by decide +kernel
theorem dX7_take_0 : decode cX7_take 0 = .ok (.aload_n 0, 1) := by decide +kernel
theorem dX7_take_1 : decode cX7_take 1 = .ok (.getfield 25, 3) := by decide +kernel
theorem dX7_take_4 : decode cX7_take 4 = .ok (.iload_n 2, 1) := by decide +kernel
theorem dX7_take_5 : decode cX7_take 5 = .ok (.iadd, 1) := by decide +kernel
theorem dX7_take_6 : decode cX7_take 6 = .ok (.bipush 80, 2) := by decide +kernel
theorem dX7_take_8 : decode cX7_take 8 = .ok (.if_icmp .le 5, 3) := by decide +kernel
theorem dX7_take_11 : decode cX7_take 11 = .ok (.iconst 0, 1) := by decide +kernel
theorem dX7_take_12 : decode cX7_take 12 = .ok (.ireturn, 1) := by decide +kernel
theorem dX7_take_13 : decode cX7_take 13 = .ok (.iload_n 2, 1) := by decide +kernel
theorem dX7_take_14 : decode cX7_take 14 = .ok (.iconst 1, 1) := by decide +kernel
theorem dX7_take_15 : decode cX7_take 15 = .ok (.isub, 1) := by decide +kernel
theorem dX7_take_16 : decode cX7_take 16 = .ok (.istore_n 3, 1) := by decide +kernel
theorem dX7_take_17 : decode cX7_take 17 = .ok (.iload_n 3, 1) := by decide +kernel
theorem dX7_take_18 : decode cX7_take 18 = .ok (.ifCond .lt 38, 3) := by decide +kernel
theorem dX7_take_21 : decode cX7_take 21 = .ok (.aload_n 0, 1) := by decide +kernel
theorem dX7_take_22 : decode cX7_take 22 = .ok (.getfield 21, 3) := by decide +kernel
theorem dX7_take_25 : decode cX7_take 25 = .ok (.aload_n 0, 1) := by decide +kernel
theorem dX7_take_26 : decode cX7_take 26 = .ok (.getfield 25, 3) := by decide +kernel
theorem dX7_take_29 : decode cX7_take 29 = .ok (.iload_n 1, 1) := by decide +kernel
theorem dX7_take_30 : decode cX7_take 30 = .ok (.bipush 8, 2) := by decide +kernel
theorem dX7_take_32 : decode cX7_take 32 = .ok (.iload_n 3, 1) := by decide +kernel
theorem dX7_take_33 : decode cX7_take 33 = .ok (.imul, 1) := by decide +kernel
theorem dX7_take_34 : decode cX7_take 34 = .ok (.iushr, 1) := by decide +kernel
theorem dX7_take_35 : decode cX7_take 35 = .ok (.sipush 255, 3) := by decide +kernel
theorem dX7_take_38 : decode cX7_take 38 = .ok (.iand, 1) := by decide +kernel
theorem dX7_take_39 : decode cX7_take 39 = .ok (.iastore, 1) := by decide +kernel
theorem dX7_take_40 : decode cX7_take 40 = .ok (.aload_n 0, 1) := by decide +kernel
theorem dX7_take_41 : decode cX7_take 41 = .ok (.dup, 1) := by decide +kernel
theorem dX7_take_42 : decode cX7_take 42 = .ok (.getfield 25, 3) := by decide +kernel
theorem dX7_take_45 : decode cX7_take 45 = .ok (.iconst 1, 1) := by decide +kernel
theorem dX7_take_46 : decode cX7_take 46 = .ok (.iadd, 1) := by decide +kernel
theorem dX7_take_47 : decode cX7_take 47 = .ok (.putfield 25, 3) := by decide +kernel
theorem dX7_take_50 : decode cX7_take 50 = .ok (.iinc 3 (-1), 3) := by decide +kernel
theorem dX7_take_53 : decode cX7_take 53 = .ok (.goto (-36), 3) := by decide +kernel
theorem dX7_take_56 : decode cX7_take 56 = .ok (.iconst 1, 1) := by decide +kernel
theorem dX7_take_57 : decode cX7_take 57 = .ok (.ireturn, 1) := by decide +kernel
theorem dX7_parse_0 : decode cX7_parse 0 = .ok (.aload_n 0, 1) := by decide +kernel
theorem dX7_parse_1 : decode cX7_parse 1 = .ok (.getfield 31, 3) := by decide +kernel
theorem dX7_parse_4 : decode cX7_parse 4 = .ok (.invokevirtual 49, 3) := by decide +kernel
theorem dX7_parse_7 : decode cX7_parse 7 = .ok (.aload_n 0, 1) := by decide +kernel
theorem dX7_parse_8 : decode cX7_parse 8 = .ok (.iconst 0, 1) := by decide +kernel
theorem dX7_parse_9 : decode cX7_parse 9 = .ok (.putfield 35, 3) := by decide +kernel
theorem dX7_parse_12 : decode cX7_parse 12 = .ok (.aload_n 0, 1) := by decide +kernel
theorem dX7_parse_13 : decode cX7_parse 13 = .ok (.iconst 0, 1) := by decide +kernel
theorem dX7_parse_14 : decode cX7_parse 14 = .ok (.putfield 42, 3) := by decide +kernel
theorem dX7_parse_17 : decode cX7_parse 17 = .ok (.iconst 0, 1) := by decide +kernel
theorem dX7_parse_18 : decode cX7_parse 18 = .ok (.istore_n 1, 1) := by decide +kernel
theorem dX7_parse_19 : decode cX7_parse 19 = .ok (.iconst 0, 1) := by decide +kernel
theorem dX7_parse_20 : decode cX7_parse 20 = .ok (.istore_n 2, 1) := by decide +kernel
theorem dX7_parse_21 : decode cX7_parse 21 = .ok (.iload_n 2, 1) := by decide +kernel
theorem dX7_parse_22 : decode cX7_parse 22 = .ok (.aload_n 0, 1) := by decide +kernel
theorem dX7_parse_23 : decode cX7_parse 23 = .ok (.getfield 25, 3) := by decide +kernel
theorem dX7_parse_26 : decode cX7_parse 26 = .ok (.if_icmp .ge 86, 3) := by decide +kernel
theorem dX7_parse_29 : decode cX7_parse 29 = .ok (.aload_n 0, 1) := by decide +kernel
theorem dX7_parse_30 : decode cX7_parse 30 = .ok (.getfield 21, 3) := by decide +kernel
theorem dX7_parse_33 : decode cX7_parse 33 = .ok (.iload_n 2, 1) := by decide +kernel
theorem dX7_parse_34 : decode cX7_parse 34 = .ok (.iaload, 1) := by decide +kernel
theorem dX7_parse_35 : decode cX7_parse 35 = .ok (.istore_n 3, 1) := by decide +kernel
theorem dX7_parse_36 : decode cX7_parse 36 = .ok (.iload_n 3, 1) := by decide +kernel
theorem dX7_parse_37 : decode cX7_parse 37 = .ok (.bipush 40, 2) := by decide +kernel
theorem dX7_parse_39 : decode cX7_parse 39 = .ok (.if_icmp .ne 7, 3) := by decide +kernel
theorem dX7_parse_42 : decode cX7_parse 42 = .ok (.iconst 1, 1) := by decide +kernel
theorem dX7_parse_43 : decode cX7_parse 43 = .ok (.goto 4, 3) := by decide +kernel
theorem dX7_parse_46 : decode cX7_parse 46 = .ok (.iconst 0, 1) := by decide +kernel
theorem dX7_parse_47 : decode cX7_parse 47 = .ok (.istore 4, 2) := by decide +kernel
theorem dX7_parse_49 : decode cX7_parse 49 = .ok (.iload 4, 2) := by decide +kernel
theorem dX7_parse_51 : decode cX7_parse 51 = .ok (.ifCond .eq 10, 3) := by decide +kernel
theorem dX7_parse_54 : decode cX7_parse 54 = .ok (.aload_n 0, 1) := by decide +kernel
theorem dX7_parse_55 : decode cX7_parse 55 = .ok (.invokevirtual 52, 3) := by decide +kernel
theorem dX7_parse_58 : decode cX7_parse 58 = .ok (.goto 23, 3) := by decide +kernel
theorem dX7_parse_61 : decode cX7_parse 61 = .ok (.iload_n 3, 1) := by decide +kernel
theorem dX7_parse_62 : decode cX7_parse 62 = .ok (.bipush 41, 2) := by decide +kernel
theorem dX7_parse_64 : decode cX7_parse 64 = .ok (.if_icmp .ne 12, 3) := by decide +kernel
theorem dX7_parse_67 : decode cX7_parse 67 = .ok (.aload_n 0, 1) := by decide +kernel
theorem dX7_parse_68 : decode cX7_parse 68 = .ok (.iload_n 2, 1) := by decide +kernel
theorem dX7_parse_69 : decode cX7_parse 69 = .ok (.iload_n 1, 1) := by decide +kernel
theorem dX7_parse_70 : decode cX7_parse 70 = .ok (.invokevirtual 56, 3) := by decide +kernel
theorem dX7_parse_73 : decode cX7_parse 73 = .ok (.goto 8, 3) := by decide +kernel
theorem dX7_parse_76 : decode cX7_parse 76 = .ok (.aload_n 0, 1) := by decide +kernel
theorem dX7_parse_77 : decode cX7_parse 77 = .ok (.iload_n 2, 1) := by decide +kernel
theorem dX7_parse_78 : decode cX7_parse 78 = .ok (.invokevirtual 60, 3) := by decide +kernel
theorem dX7_parse_81 : decode cX7_parse 81 = .ok (.istore 5, 2) := by decide +kernel
theorem dX7_parse_83 : decode cX7_parse 83 = .ok (.iload 5, 2) := by decide +kernel
theorem dX7_parse_85 : decode cX7_parse 85 = .ok (.ifCond .gt 8, 3) := by decide +kernel
theorem dX7_parse_88 : decode cX7_parse 88 = .ok (.iload_n 2, 1) := by decide +kernel
theorem dX7_parse_89 : decode cX7_parse 89 = .ok (.iload 5, 2) := by decide +kernel
theorem dX7_parse_91 : decode cX7_parse 91 = .ok (.isub, 1) := by decide +kernel
theorem dX7_parse_92 : decode cX7_parse 92 = .ok (.ireturn, 1) := by decide +kernel
theorem dX7_parse_93 : decode cX7_parse 93 = .ok (.iload 4, 2) := by decide +kernel
theorem dX7_parse_95 : decode cX7_parse 95 = .ok (.ifCond .ne 7, 3) := by decide +kernel
theorem dX7_parse_98 : decode cX7_parse 98 = .ok (.iconst 1, 1) := by decide +kernel
theorem dX7_parse_99 : decode cX7_parse 99 = .ok (.goto 4, 3) := by decide +kernel
theorem dX7_parse_102 : decode cX7_parse 102 = .ok (.iconst 0, 1) := by decide +kernel
theorem dX7_parse_103 : decode cX7_parse 103 = .ok (.istore_n 1, 1) := by decide +kernel
theorem dX7_parse_104 : decode cX7_parse 104 = .ok (.iload_n 2, 1) := by decide +kernel
theorem dX7_parse_105 : decode cX7_parse 105 = .ok (.iload 5, 2) := by decide +kernel
theorem dX7_parse_107 : decode cX7_parse 107 = .ok (.iadd, 1) := by decide +kernel
theorem dX7_parse_108 : decode cX7_parse 108 = .ok (.istore_n 2, 1) := by decide +kernel
theorem dX7_parse_109 : decode cX7_parse 109 = .ok (.goto (-88), 3) := by decide +kernel
theorem dX7_parse_112 : decode cX7_parse 112 = .ok (.iload_n 1, 1) := by decide +kernel
theorem dX7_parse_113 : decode cX7_parse 113 = .ok (.ifCond .eq 14, 3) := by decide +kernel
theorem dX7_parse_116 : decode cX7_parse 116 = .ok (.aload_n 0, 1) := by decide +kernel
theorem dX7_parse_117 : decode cX7_parse 117 = .ok (.getfield 42, 3) := by decide +kernel
theorem dX7_parse_120 : decode cX7_parse 120 = .ok (.ifCond .ne 7, 3) := by decide +kernel
theorem dX7_parse_123 : decode cX7_parse 123 = .ok (.iconst (-1), 1) := by decide +kernel
theorem dX7_parse_124 : decode cX7_parse 124 = .ok (.goto 7, 3) := by decide +kernel
theorem dX7_parse_127 : decode cX7_parse 127 = .ok (.aload_n 0, 1) := by decide +kernel
theorem dX7_parse_128 : decode cX7_parse 128 = .ok (.getfield 25, 3) := by decide +kernel
theorem dX7_parse_131 : decode cX7_parse 131 = .ok (.ireturn, 1) := by decide +kernel
theorem dX7_open_0 : decode cX7_open 0 = .ok (.aload_n 0, 1) := by decide +kernel
theorem dX7_open_1 : decode cX7_open 1 = .ok (.getfield 42, 3) := by decide +kernel
theorem dX7_open_4 : decode cX7_open 4 = .ok (.iconst 4, 1) := by decide +kernel
theorem dX7_open_5 : decode cX7_open 5 = .ok (.if_icmp .lt 5, 3) := by decide +kernel
theorem dX7_open_8 : decode cX7_open 8 = .ok (.iconst 0, 1) := by decide +kernel
theorem dX7_open_9 : decode cX7_open 9 = .ok (.ireturn, 1) := by decide +kernel
theorem dX7_open_10 : decode cX7_open 10 = .ok (.aload_n 0, 1) := by decide +kernel
theorem dX7_open_11 : decode cX7_open 11 = .ok (.getfield 39, 3) := by decide +kernel
theorem dX7_open_14 : decode cX7_open 14 = .ok (.aload_n 0, 1) := by decide +kernel
theorem dX7_open_15 : decode cX7_open 15 = .ok (.getfield 42, 3) := by decide +kernel
theorem dX7_open_18 : decode cX7_open 18 = .ok (.aload_n 0, 1) := by decide +kernel
theorem dX7_open_19 : decode cX7_open 19 = .ok (.getfield 31, 3) := by decide +kernel
theorem dX7_open_22 : decode cX7_open 22 = .ok (.getfield 64, 3) := by decide +kernel
theorem dX7_open_25 : decode cX7_open 25 = .ok (.iastore, 1) := by decide +kernel
theorem dX7_open_26 : decode cX7_open 26 = .ok (.aload_n 0, 1) := by decide +kernel
theorem dX7_open_27 : decode cX7_open 27 = .ok (.dup, 1) := by decide +kernel
theorem dX7_open_28 : decode cX7_open 28 = .ok (.getfield 42, 3) := by decide +kernel
theorem dX7_open_31 : decode cX7_open 31 = .ok (.iconst 1, 1) := by decide +kernel
theorem dX7_open_32 : decode cX7_open 32 = .ok (.iadd, 1) := by decide +kernel
theorem dX7_open_33 : decode cX7_open 33 = .ok (.putfield 42, 3) := by decide +kernel
theorem dX7_open_36 : decode cX7_open 36 = .ok (.iconst 1, 1) := by decide +kernel
theorem dX7_open_37 : decode cX7_open 37 = .ok (.ireturn, 1) := by decide +kernel
theorem dX7_close_0 : decode cX7_close 0 = .ok (.aload_n 0, 1) := by decide +kernel
theorem dX7_close_1 : decode cX7_close 1 = .ok (.getfield 42, 3) := by decide +kernel
theorem dX7_close_4 : decode cX7_close 4 = .ok (.ifCond .eq 7, 3) := by decide +kernel
theorem dX7_close_7 : decode cX7_close 7 = .ok (.iload_n 2, 1) := by decide +kernel
theorem dX7_close_8 : decode cX7_close 8 = .ok (.ifCond .ne 5, 3) := by decide +kernel
theorem dX7_close_11 : decode cX7_close 11 = .ok (.iconst 0, 1) := by decide +kernel
theorem dX7_close_12 : decode cX7_close 12 = .ok (.ireturn, 1) := by decide +kernel
theorem dX7_close_13 : decode cX7_close 13 = .ok (.aload_n 0, 1) := by decide +kernel
theorem dX7_close_14 : decode cX7_close 14 = .ok (.iload_n 1, 1) := by decide +kernel
theorem dX7_close_15 : decode cX7_close 15 = .ok (.iconst 1, 1) := by decide +kernel
theorem dX7_close_16 : decode cX7_close 16 = .ok (.iadd, 1) := by decide +kernel
theorem dX7_close_17 : decode cX7_close 17 = .ok (.invokevirtual 67, 3) := by decide +kernel
theorem dX7_close_20 : decode cX7_close 20 = .ok (.istore_n 3, 1) := by decide +kernel
theorem dX7_close_21 : decode cX7_close 21 = .ok (.iload_n 3, 1) := by decide +kernel
theorem dX7_close_22 : decode cX7_close 22 = .ok (.bipush 45, 2) := by decide +kernel
theorem dX7_close_24 : decode cX7_close 24 = .ok (.if_icmp .eq 17, 3) := by decide +kernel
theorem dX7_close_27 : decode cX7_close 27 = .ok (.iload_n 3, 1) := by decide +kernel
theorem dX7_close_28 : decode cX7_close 28 = .ok (.bipush 50, 2) := by decide +kernel
theorem dX7_close_30 : decode cX7_close 30 = .ok (.if_icmp .lt 9, 3) := by decide +kernel
theorem dX7_close_33 : decode cX7_close 33 = .ok (.iload_n 3, 1) := by decide +kernel
theorem dX7_close_34 : decode cX7_close 34 = .ok (.bipush 57, 2) := by decide +kernel
theorem dX7_close_36 : decode cX7_close 36 = .ok (.if_icmp .le 5, 3) := by decide +kernel
theorem dX7_close_39 : decode cX7_close 39 = .ok (.iconst (-1), 1) := by decide +kernel
theorem dX7_close_40 : decode cX7_close 40 = .ok (.ireturn, 1) := by decide +kernel
theorem dX7_close_41 : decode cX7_close 41 = .ok (.aload_n 0, 1) := by decide +kernel
theorem dX7_close_42 : decode cX7_close 42 = .ok (.dup, 1) := by decide +kernel
theorem dX7_close_43 : decode cX7_close 43 = .ok (.getfield 42, 3) := by decide +kernel
theorem dX7_close_46 : decode cX7_close 46 = .ok (.iconst 1, 1) := by decide +kernel
theorem dX7_close_47 : decode cX7_close 47 = .ok (.isub, 1) := by decide +kernel
theorem dX7_close_48 : decode cX7_close 48 = .ok (.putfield 42, 3) := by decide +kernel
theorem dX7_close_51 : decode cX7_close 51 = .ok (.iload_n 3, 1) := by decide +kernel
theorem dX7_close_52 : decode cX7_close 52 = .ok (.bipush 45, 2) := by decide +kernel
theorem dX7_close_54 : decode cX7_close 54 = .ok (.if_icmp .ne 19, 3) := by decide +kernel
theorem dX7_close_57 : decode cX7_close 57 = .ok (.aload_n 0, 1) := by decide +kernel
theorem dX7_close_58 : decode cX7_close 58 = .ok (.aload_n 0, 1) := by decide +kernel
theorem dX7_close_59 : decode cX7_close 59 = .ok (.getfield 39, 3) := by decide +kernel
theorem dX7_close_62 : decode cX7_close 62 = .ok (.aload_n 0, 1) := by decide +kernel
theorem dX7_close_63 : decode cX7_close 63 = .ok (.getfield 42, 3) := by decide +kernel
theorem dX7_close_66 : decode cX7_close 66 = .ok (.iaload, 1) := by decide +kernel
theorem dX7_close_67 : decode cX7_close 67 = .ok (.invokevirtual 70, 3) := by decide +kernel
theorem dX7_close_70 : decode cX7_close 70 = .ok (.goto 20, 3) := by decide +kernel
theorem dX7_close_73 : decode cX7_close 73 = .ok (.aload_n 0, 1) := by decide +kernel
theorem dX7_close_74 : decode cX7_close 74 = .ok (.aload_n 0, 1) := by decide +kernel
theorem dX7_close_75 : decode cX7_close 75 = .ok (.getfield 39, 3) := by decide +kernel
theorem dX7_close_78 : decode cX7_close 78 = .ok (.aload_n 0, 1) := by decide +kernel
theorem dX7_close_79 : decode cX7_close 79 = .ok (.getfield 42, 3) := by decide +kernel
theorem dX7_close_82 : decode cX7_close 82 = .ok (.iaload, 1) := by decide +kernel
theorem dX7_close_83 : decode cX7_close 83 = .ok (.iload_n 3, 1) := by decide +kernel
theorem dX7_close_84 : decode cX7_close 84 = .ok (.bipush 48, 2) := by decide +kernel
theorem dX7_close_86 : decode cX7_close 86 = .ok (.isub, 1) := by decide +kernel
theorem dX7_close_87 : decode cX7_close 87 = .ok (.invokevirtual 73, 3) := by decide +kernel
theorem dX7_close_90 : decode cX7_close 90 = .ok (.iconst 2, 1) := by decide +kernel
theorem dX7_close_91 : decode cX7_close 91 = .ok (.ireturn, 1) := by decide +kernel
theorem dX7_single_0 : decode cX7_single 0 = .ok (.aload_n 0, 1) := by decide +kernel
theorem dX7_single_1 : decode cX7_single 1 = .ok (.getfield 21, 3) := by decide +kernel
theorem dX7_single_4 : decode cX7_single 4 = .ok (.iload_n 1, 1) := by decide +kernel
theorem dX7_single_5 : decode cX7_single 5 = .ok (.iaload, 1) := by decide +kernel
theorem dX7_single_6 : decode cX7_single 6 = .ok (.istore_n 2, 1) := by decide +kernel
theorem dX7_single_7 : decode cX7_single 7 = .ok (.iload_n 2, 1) := by decide +kernel
theorem dX7_single_8 : decode cX7_single 8 = .ok (.bipush 48, 2) := by decide +kernel
theorem dX7_single_10 : decode cX7_single 10 = .ok (.if_icmp .lt 56, 3) := by decide +kernel
theorem dX7_single_13 : decode cX7_single 13 = .ok (.iload_n 2, 1) := by decide +kernel
theorem dX7_single_14 : decode cX7_single 14 = .ok (.bipush 57, 2) := by decide +kernel
theorem dX7_single_16 : decode cX7_single 16 = .ok (.if_icmp .gt 50, 3) := by decide +kernel
theorem dX7_single_19 : decode cX7_single 19 = .ok (.aload_n 0, 1) := by decide +kernel
theorem dX7_single_20 : decode cX7_single 20 = .ok (.iload_n 1, 1) := by decide +kernel
theorem dX7_single_21 : decode cX7_single 21 = .ok (.iconst 1, 1) := by decide +kernel
theorem dX7_single_22 : decode cX7_single 22 = .ok (.iadd, 1) := by decide +kernel
theorem dX7_single_23 : decode cX7_single 23 = .ok (.invokevirtual 67, 3) := by decide +kernel
theorem dX7_single_26 : decode cX7_single 26 = .ok (.istore_n 3, 1) := by decide +kernel
theorem dX7_single_27 : decode cX7_single 27 = .ok (.iload_n 3, 1) := by decide +kernel
theorem dX7_single_28 : decode cX7_single 28 = .ok (.bipush 60, 2) := by decide +kernel
theorem dX7_single_30 : decode cX7_single 30 = .ok (.if_icmp .eq 11, 3) := by decide +kernel
theorem dX7_single_33 : decode cX7_single 33 = .ok (.iload_n 3, 1) := by decide +kernel
theorem dX7_single_34 : decode cX7_single 34 = .ok (.bipush 62, 2) := by decide +kernel
theorem dX7_single_36 : decode cX7_single 36 = .ok (.if_icmp .eq 5, 3) := by decide +kernel
theorem dX7_single_39 : decode cX7_single 39 = .ok (.iconst (-1), 1) := by decide +kernel
theorem dX7_single_40 : decode cX7_single 40 = .ok (.ireturn, 1) := by decide +kernel
theorem dX7_single_41 : decode cX7_single 41 = .ok (.aload_n 0, 1) := by decide +kernel
theorem dX7_single_42 : decode cX7_single 42 = .ok (.bipush 10, 2) := by decide +kernel
theorem dX7_single_44 : decode cX7_single 44 = .ok (.iload_n 2, 1) := by decide +kernel
theorem dX7_single_45 : decode cX7_single 45 = .ok (.bipush 48, 2) := by decide +kernel
theorem dX7_single_47 : decode cX7_single 47 = .ok (.isub, 1) := by decide +kernel
theorem dX7_single_48 : decode cX7_single 48 = .ok (.imul, 1) := by decide +kernel
theorem dX7_single_49 : decode cX7_single 49 = .ok (.iload_n 3, 1) := by decide +kernel
theorem dX7_single_50 : decode cX7_single 50 = .ok (.bipush 60, 2) := by decide +kernel
theorem dX7_single_52 : decode cX7_single 52 = .ok (.if_icmp .ne 7, 3) := by decide +kernel
theorem dX7_single_55 : decode cX7_single 55 = .ok (.iconst 0, 1) := by decide +kernel
theorem dX7_single_56 : decode cX7_single 56 = .ok (.goto 4, 3) := by decide +kernel
theorem dX7_single_59 : decode cX7_single 59 = .ok (.iconst 1, 1) := by decide +kernel
theorem dX7_single_60 : decode cX7_single 60 = .ok (.iadd, 1) := by decide +kernel
theorem dX7_single_61 : decode cX7_single 61 = .ok (.invokevirtual 77, 3) := by decide +kernel
theorem dX7_single_64 : decode cX7_single 64 = .ok (.iconst 2, 1) := by decide +kernel
theorem dX7_single_65 : decode cX7_single 65 = .ok (.ireturn, 1) := by decide +kernel
theorem dX7_single_66 : decode cX7_single 66 = .ok (.iload_n 2, 1) := by decide +kernel
theorem dX7_single_67 : decode cX7_single 67 = .ok (.bipush 119, 2) := by decide +kernel
theorem dX7_single_69 : decode cX7_single 69 = .ok (.if_icmp .eq 9, 3) := by decide +kernel
theorem dX7_single_72 : decode cX7_single 72 = .ok (.iload_n 2, 1) := by decide +kernel
theorem dX7_single_73 : decode cX7_single 73 = .ok (.bipush 118, 2) := by decide +kernel
theorem dX7_single_75 : decode cX7_single 75 = .ok (.if_icmp .ne 22, 3) := by decide +kernel
theorem dX7_single_78 : decode cX7_single 78 = .ok (.aload_n 0, 1) := by decide +kernel
theorem dX7_single_79 : decode cX7_single 79 = .ok (.iload_n 2, 1) := by decide +kernel
theorem dX7_single_80 : decode cX7_single 80 = .ok (.bipush 119, 2) := by decide +kernel
theorem dX7_single_82 : decode cX7_single 82 = .ok (.if_icmp .ne 8, 3) := by decide +kernel
theorem dX7_single_85 : decode cX7_single 85 = .ok (.bipush 100, 2) := by decide +kernel
theorem dX7_single_87 : decode cX7_single 87 = .ok (.goto 5, 3) := by decide +kernel
theorem dX7_single_90 : decode cX7_single 90 = .ok (.bipush 101, 2) := by decide +kernel
theorem dX7_single_92 : decode cX7_single 92 = .ok (.invokevirtual 77, 3) := by decide +kernel
theorem dX7_single_95 : decode cX7_single 95 = .ok (.iconst 1, 1) := by decide +kernel
theorem dX7_single_96 : decode cX7_single 96 = .ok (.ireturn, 1) := by decide +kernel
theorem dX7_single_97 : decode cX7_single 97 = .ok (.aload_n 0, 1) := by decide +kernel
theorem dX7_single_98 : decode cX7_single 98 = .ok (.iload_n 2, 1) := by decide +kernel
theorem dX7_single_99 : decode cX7_single 99 = .ok (.bipush 65, 2) := by decide +kernel
theorem dX7_single_101 : decode cX7_single 101 = .ok (.isub, 1) := by decide +kernel
theorem dX7_single_102 : decode cX7_single 102 = .ok (.invokevirtual 80, 3) := by decide +kernel
theorem dX7_single_105 : decode cX7_single 105 = .ok (.astore_n 3, 1) := by decide +kernel
theorem dX7_single_106 : decode cX7_single 106 = .ok (.aload_n 3, 1) := by decide +kernel
theorem dX7_single_107 : decode cX7_single 107 = .ok (.ifnonnull 5, 3) := by decide +kernel
theorem dX7_single_110 : decode cX7_single 110 = .ok (.iconst 0, 1) := by decide +kernel
theorem dX7_single_111 : decode cX7_single 111 = .ok (.ireturn, 1) := by decide +kernel
theorem dX7_single_112 : decode cX7_single 112 = .ok (.aload_n 0, 1) := by decide +kernel
theorem dX7_single_113 : decode cX7_single 113 = .ok (.aload_n 3, 1) := by decide +kernel
theorem dX7_single_114 : decode cX7_single 114 = .ok (.invokevirtual 84, 3) := by decide +kernel
theorem dX7_single_117 : decode cX7_single 117 = .ok (.iconst 1, 1) := by decide +kernel
theorem dX7_single_118 : decode cX7_single 118 = .ok (.ireturn, 1) := by decide +kernel
theorem dX7_signAt_0 : decode cX7_signAt 0 = .ok (.iload_n 1, 1) := by decide +kernel
theorem dX7_signAt_1 : decode cX7_signAt 1 = .ok (.aload_n 0, 1) := by decide +kernel
theorem dX7_signAt_2 : decode cX7_signAt 2 = .ok (.getfield 25, 3) := by decide +kernel
theorem dX7_signAt_5 : decode cX7_signAt 5 = .ok (.if_icmp .ge 12, 3) := by decide +kernel
theorem dX7_signAt_8 : decode cX7_signAt 8 = .ok (.aload_n 0, 1) := by decide +kernel
theorem dX7_signAt_9 : decode cX7_signAt 9 = .ok (.getfield 21, 3) := by decide +kernel
theorem dX7_signAt_12 : decode cX7_signAt 12 = .ok (.iload_n 1, 1) := by decide +kernel
theorem dX7_signAt_13 : decode cX7_signAt 13 = .ok (.iaload, 1) := by decide +kernel
theorem dX7_signAt_14 : decode cX7_signAt 14 = .ok (.goto 4, 3) := by decide +kernel
theorem dX7_signAt_17 : decode cX7_signAt 17 = .ok (.iconst (-1), 1) := by decide +kernel
theorem dX7_signAt_18 : decode cX7_signAt 18 = .ok (.ireturn, 1) := by decide +kernel
theorem dX7_put_0 : decode cX7_put 0 = .ok (.aload_n 0, 1) := by decide +kernel
theorem dX7_put_1 : decode cX7_put 1 = .ok (.getfield 31, 3) := by decide +kernel
theorem dX7_put_4 : decode cX7_put 4 = .ok (.iload_n 1, 1) := by decide +kernel
theorem dX7_put_5 : decode cX7_put 5 = .ok (.invokevirtual 88, 3) := by decide +kernel
theorem dX7_put_8 : decode cX7_put 8 = .ok (.ifCond .ne 8, 3) := by decide +kernel
theorem dX7_put_11 : decode cX7_put 11 = .ok (.aload_n 0, 1) := by decide +kernel
theorem dX7_put_12 : decode cX7_put 12 = .ok (.iconst 1, 1) := by decide +kernel
theorem dX7_put_13 : decode cX7_put 13 = .ok (.putfield 35, 3) := by decide +kernel
theorem dX7_put_16 : decode cX7_put 16 = .ok (.return_, 1) := by decide +kernel
theorem dX7_putAll_0 : decode cX7_putAll 0 = .ok (.iconst 0, 1) := by decide +kernel
theorem dX7_putAll_1 : decode cX7_putAll 1 = .ok (.istore_n 2, 1) := by decide +kernel
theorem dX7_putAll_2 : decode cX7_putAll 2 = .ok (.iload_n 2, 1) := by decide +kernel
theorem dX7_putAll_3 : decode cX7_putAll 3 = .ok (.aload_n 1, 1) := by decide +kernel
theorem dX7_putAll_4 : decode cX7_putAll 4 = .ok (.getfield 64, 3) := by decide +kernel
theorem dX7_putAll_7 : decode cX7_putAll 7 = .ok (.if_icmp .ge 19, 3) := by decide +kernel
theorem dX7_putAll_10 : decode cX7_putAll 10 = .ok (.aload_n 0, 1) := by decide +kernel
theorem dX7_putAll_11 : decode cX7_putAll 11 = .ok (.aload_n 1, 1) := by decide +kernel
theorem dX7_putAll_12 : decode cX7_putAll 12 = .ok (.getfield 92, 3) := by decide +kernel
theorem dX7_putAll_15 : decode cX7_putAll 15 = .ok (.iload_n 2, 1) := by decide +kernel
theorem dX7_putAll_16 : decode cX7_putAll 16 = .ok (.iaload, 1) := by decide +kernel
theorem dX7_putAll_17 : decode cX7_putAll 17 = .ok (.invokevirtual 77, 3) := by decide +kernel
theorem dX7_putAll_20 : decode cX7_putAll 20 = .ok (.iinc 2 1, 3) := by decide +kernel
theorem dX7_putAll_23 : decode cX7_putAll 23 = .ok (.goto (-21), 3) := by decide +kernel
theorem dX7_putAll_26 : decode cX7_putAll 26 = .ok (.return_, 1) := by decide +kernel
theorem dX7_repeatFrom_0 : decode cX7_repeatFrom 0 = .ok (.aload_n 0, 1) := by decide +kernel
theorem dX7_repeatFrom_1 : decode cX7_repeatFrom 1 = .ok (.getfield 31, 3) := by decide +kernel
theorem dX7_repeatFrom_4 : decode cX7_repeatFrom 4 = .ok (.getfield 64, 3) := by decide +kernel
theorem dX7_repeatFrom_7 : decode cX7_repeatFrom 7 = .ok (.istore_n 3, 1) := by decide +kernel
theorem dX7_repeatFrom_8 : decode cX7_repeatFrom 8 = .ok (.iconst 1, 1) := by decide +kernel
theorem dX7_repeatFrom_9 : decode cX7_repeatFrom 9 = .ok (.istore 4, 2) := by decide +kernel
theorem dX7_repeatFrom_11 : decode cX7_repeatFrom 11 = .ok (.iload 4, 2) := by decide +kernel
theorem dX7_repeatFrom_13 : decode cX7_repeatFrom 13 = .ok (.iload_n 2, 1) := by decide +kernel
theorem dX7_repeatFrom_14 : decode cX7_repeatFrom 14 = .ok (.if_icmp .ge 45, 3) := by decide +kernel
theorem dX7_repeatFrom_17 : decode cX7_repeatFrom 17 = .ok (.aload_n 0, 1) := by decide +kernel
theorem dX7_repeatFrom_18 : decode cX7_repeatFrom 18 = .ok (.getfield 35, 3) := by decide +kernel
theorem dX7_repeatFrom_21 : decode cX7_repeatFrom 21 = .ok (.ifCond .ne 38, 3) := by decide +kernel
theorem dX7_repeatFrom_24 : decode cX7_repeatFrom 24 = .ok (.iload_n 1, 1) := by decide +kernel
theorem dX7_repeatFrom_25 : decode cX7_repeatFrom 25 = .ok (.istore 5, 2) := by decide +kernel
theorem dX7_repeatFrom_27 : decode cX7_repeatFrom 27 = .ok (.iload 5, 2) := by decide +kernel
theorem dX7_repeatFrom_29 : decode cX7_repeatFrom 29 = .ok (.iload_n 3, 1) := by decide +kernel
theorem dX7_repeatFrom_30 : decode cX7_repeatFrom 30 = .ok (.if_icmp .ge 23, 3) := by decide +kernel
theorem dX7_repeatFrom_33 : decode cX7_repeatFrom 33 = .ok (.aload_n 0, 1) := by decide +kernel
theorem dX7_repeatFrom_34 : decode cX7_repeatFrom 34 = .ok (.aload_n 0, 1) := by decide +kernel
theorem dX7_repeatFrom_35 : decode cX7_repeatFrom 35 = .ok (.getfield 31, 3) := by decide +kernel
theorem dX7_repeatFrom_38 : decode cX7_repeatFrom 38 = .ok (.getfield 92, 3) := by decide +kernel
theorem dX7_repeatFrom_41 : decode cX7_repeatFrom 41 = .ok (.iload 5, 2) := by decide +kernel
theorem dX7_repeatFrom_43 : decode cX7_repeatFrom 43 = .ok (.iaload, 1) := by decide +kernel
theorem dX7_repeatFrom_44 : decode cX7_repeatFrom 44 = .ok (.invokevirtual 77, 3) := by decide +kernel
theorem dX7_repeatFrom_47 : decode cX7_repeatFrom 47 = .ok (.iinc 5 1, 3) := by decide +kernel
theorem dX7_repeatFrom_50 : decode cX7_repeatFrom 50 = .ok (.goto (-23), 3) := by decide +kernel
theorem dX7_repeatFrom_53 : decode cX7_repeatFrom 53 = .ok (.iinc 4 1, 3) := by decide +kernel
theorem dX7_repeatFrom_56 : decode cX7_repeatFrom 56 = .ok (.goto (-45), 3) := by decide +kernel
theorem dX7_repeatFrom_59 : decode cX7_repeatFrom 59 = .ok (.return_, 1) := by decide +kernel
theorem dX7_undoFrom_0 : decode cX7_undoFrom 0 = .ok (.iload_n 1, 1) := by decide +kernel
theorem dX7_undoFrom_1 : decode cX7_undoFrom 1 = .ok (.istore_n 2, 1) := by decide +kernel
theorem dX7_undoFrom_2 : decode cX7_undoFrom 2 = .ok (.aload_n 0, 1) := by decide +kernel
theorem dX7_undoFrom_3 : decode cX7_undoFrom 3 = .ok (.getfield 31, 3) := by decide +kernel
theorem dX7_undoFrom_6 : decode cX7_undoFrom 6 = .ok (.getfield 64, 3) := by decide +kernel
theorem dX7_undoFrom_9 : decode cX7_undoFrom 9 = .ok (.iconst 1, 1) := by decide +kernel
theorem dX7_undoFrom_10 : decode cX7_undoFrom 10 = .ok (.isub, 1) := by decide +kernel
theorem dX7_undoFrom_11 : decode cX7_undoFrom 11 = .ok (.istore_n 3, 1) := by decide +kernel
theorem dX7_undoFrom_12 : decode cX7_undoFrom 12 = .ok (.iload_n 2, 1) := by decide +kernel
theorem dX7_undoFrom_13 : decode cX7_undoFrom 13 = .ok (.iload_n 3, 1) := by decide +kernel
theorem dX7_undoFrom_14 : decode cX7_undoFrom 14 = .ok (.if_icmp .gt 56, 3) := by decide +kernel
theorem dX7_undoFrom_17 : decode cX7_undoFrom 17 = .ok (.aload_n 0, 1) := by decide +kernel
theorem dX7_undoFrom_18 : decode cX7_undoFrom 18 = .ok (.getfield 31, 3) := by decide +kernel
theorem dX7_undoFrom_21 : decode cX7_undoFrom 21 = .ok (.getfield 92, 3) := by decide +kernel
theorem dX7_undoFrom_24 : decode cX7_undoFrom 24 = .ok (.iload_n 2, 1) := by decide +kernel
theorem dX7_undoFrom_25 : decode cX7_undoFrom 25 = .ok (.iaload, 1) := by decide +kernel
theorem dX7_undoFrom_26 : decode cX7_undoFrom 26 = .ok (.istore 4, 2) := by decide +kernel
theorem dX7_undoFrom_28 : decode cX7_undoFrom 28 = .ok (.aload_n 0, 1) := by decide +kernel
theorem dX7_undoFrom_29 : decode cX7_undoFrom 29 = .ok (.getfield 31, 3) := by decide +kernel
theorem dX7_undoFrom_32 : decode cX7_undoFrom 32 = .ok (.getfield 92, 3) := by decide +kernel
theorem dX7_undoFrom_35 : decode cX7_undoFrom 35 = .ok (.iload_n 2, 1) := by decide +kernel
theorem dX7_undoFrom_36 : decode cX7_undoFrom 36 = .ok (.aload_n 0, 1) := by decide +kernel
theorem dX7_undoFrom_37 : decode cX7_undoFrom 37 = .ok (.getfield 31, 3) := by decide +kernel
theorem dX7_undoFrom_40 : decode cX7_undoFrom 40 = .ok (.getfield 92, 3) := by decide +kernel
theorem dX7_undoFrom_43 : decode cX7_undoFrom 43 = .ok (.iload_n 3, 1) := by decide +kernel
theorem dX7_undoFrom_44 : decode cX7_undoFrom 44 = .ok (.iaload, 1) := by decide +kernel
theorem dX7_undoFrom_45 : decode cX7_undoFrom 45 = .ok (.iconst 1, 1) := by decide +kernel
theorem dX7_undoFrom_46 : decode cX7_undoFrom 46 = .ok (.ixor, 1) := by decide +kernel
theorem dX7_undoFrom_47 : decode cX7_undoFrom 47 = .ok (.iastore, 1) := by decide +kernel
theorem dX7_undoFrom_48 : decode cX7_undoFrom 48 = .ok (.aload_n 0, 1) := by decide +kernel
theorem dX7_undoFrom_49 : decode cX7_undoFrom 49 = .ok (.getfield 31, 3) := by decide +kernel
theorem dX7_undoFrom_52 : decode cX7_undoFrom 52 = .ok (.getfield 92, 3) := by decide +kernel
theorem dX7_undoFrom_55 : decode cX7_undoFrom 55 = .ok (.iload_n 3, 1) := by decide +kernel
theorem dX7_undoFrom_56 : decode cX7_undoFrom 56 = .ok (.iload 4, 2) := by decide +kernel
theorem dX7_undoFrom_58 : decode cX7_undoFrom 58 = .ok (.iconst 1, 1) := by decide +kernel
theorem dX7_undoFrom_59 : decode cX7_undoFrom 59 = .ok (.ixor, 1) := by decide +kernel
theorem dX7_undoFrom_60 : decode cX7_undoFrom 60 = .ok (.iastore, 1) := by decide +kernel
theorem dX7_undoFrom_61 : decode cX7_undoFrom 61 = .ok (.iinc 2 1, 3) := by decide +kernel
theorem dX7_undoFrom_64 : decode cX7_undoFrom 64 = .ok (.iinc 3 (-1), 3) := by decide +kernel
theorem dX7_undoFrom_67 : decode cX7_undoFrom 67 = .ok (.goto (-55), 3) := by decide +kernel
theorem dX7_undoFrom_70 : decode cX7_undoFrom 70 = .ok (.return_, 1) := by decide +kernel
theorem dX8_init_0 : decode cX8_init 0 = .ok (.aload_n 0, 1) := by decide +kernel
theorem dX8_init_1 : decode cX8_init 1 = .ok (.invokespecial 3, 3) := by decide +kernel
theorem dX8_init_4 : decode cX8_init 4 = .ok (.aload_n 0, 1) := by decide +kernel
theorem dX8_init_5 : decode cX8_init 5 = .ok (.iconst 0, 1) := by decide +kernel
theorem dX8_init_6 : decode cX8_init 6 = .ok (.putfield 9, 3) := by decide +kernel
theorem dX8_init_9 : decode cX8_init 9 = .ok (.aload_n 0, 1) := by decide +kernel
theorem dX8_init_10 : decode cX8_init 10 = .ok (.bipush 7, 2) := by decide +kernel
theorem dX8_init_12 : decode cX8_init 12 = .ok (.newarray .int, 2) := by decide +kernel
theorem dX8_init_14 : decode cX8_init 14 = .ok (.putfield 15, 3) := by decide +kernel
theorem dX8_init_17 : decode cX8_init 17 = .ok (.aload_n 0, 1) := by decide +kernel
theorem dX8_init_18 : decode cX8_init 18 = .ok (.bipush 7, 2) := by decide +kernel
theorem dX8_init_20 : decode cX8_init 20 = .ok (.newarray .int, 2) := by decide +kernel
theorem dX8_init_22 : decode cX8_init 22 = .ok (.putfield 19, 3) := by decide +kernel
theorem dX8_init_25 : decode cX8_init 25 = .ok (.aload_n 0, 1) := by decide +kernel
theorem dX8_init_26 : decode cX8_init 26 = .ok (.bipush 7, 2) := by decide +kernel
theorem dX8_init_28 : decode cX8_init 28 = .ok (.newarray .int, 2) := by decide +kernel
theorem dX8_init_30 : decode cX8_init 30 = .ok (.putfield 22, 3) := by decide +kernel
theorem dX8_init_33 : decode cX8_init 33 = .ok (.aload_n 0, 1) := by decide +kernel
theorem dX8_init_34 : decode cX8_init 34 = .ok (.bipush 7, 2) := by decide +kernel
theorem dX8_init_36 : decode cX8_init 36 = .ok (.newarray .boolean, 2) := by decide +kernel
theorem dX8_init_38 : decode cX8_init 38 = .ok (.putfield 25, 3) := by decide +kernel
theorem dX8_init_41 : decode cX8_init 41 = .ok (.aload_n 0, 1) := by decide +kernel
theorem dX8_init_42 : decode cX8_init 42 = .ok (.bipush 7, 2) := by decide +kernel
theorem dX8_init_44 : decode cX8_init 44 = .ok (.newarray .int, 2) := by decide +kernel
theorem dX8_init_46 : decode cX8_init 46 = .ok (.putfield 29, 3) := by decide +kernel
theorem dX8_init_49 : decode cX8_init 49 = .ok (.aload_n 0, 1) := by decide +kernel
theorem dX8_init_50 : decode cX8_init 50 = .ok (.bipush 7, 2) := by decide +kernel
theorem dX8_init_52 : decode cX8_init 52 = .ok (.newarray .int, 2) := by decide +kernel
theorem dX8_init_54 : decode cX8_init 54 = .ok (.putfield 32, 3) := by decide +kernel
theorem dX8_init_57 : decode cX8_init 57 = .ok (.aload_n 0, 1) := by decide +kernel
theorem dX8_init_58 : decode cX8_init 58 = .ok (.bipush 7, 2) := by decide +kernel
theorem dX8_init_60 : decode cX8_init 60 = .ok (.newarray .int, 2) := by decide +kernel
theorem dX8_init_62 : decode cX8_init 62 = .ok (.putfield 35, 3) := by decide +kernel
theorem dX8_init_65 : decode cX8_init 65 = .ok (.aload_n 0, 1) := by decide +kernel
theorem dX8_init_66 : decode cX8_init 66 = .ok (.iconst 0, 1) := by decide +kernel
theorem dX8_init_67 : decode cX8_init 67 = .ok (.putfield 38, 3) := by decide +kernel
theorem dX8_init_70 : decode cX8_init 70 = .ok (.return_, 1) := by decide +kernel
theorem dX8_clear_0 : decode cX8_clear 0 = .ok (.aload_n 0, 1) := by decide +kernel
theorem dX8_clear_1 : decode cX8_clear 1 = .ok (.iconst 0, 1) := by decide +kernel
theorem dX8_clear_2 : decode cX8_clear 2 = .ok (.putfield 9, 3) := by decide +kernel
theorem dX8_clear_5 : decode cX8_clear 5 = .ok (.return_, 1) := by decide +kernel
theorem dX8_add_0 : decode cX8_add 0 = .ok (.aload_n 0, 1) := by decide +kernel
theorem dX8_add_1 : decode cX8_add 1 = .ok (.getfield 9, 3) := by decide +kernel
theorem dX8_add_4 : decode cX8_add 4 = .ok (.bipush 7, 2) := by decide +kernel
theorem dX8_add_6 : decode cX8_add 6 = .ok (.if_icmp .ge 52, 3) := by decide +kernel
theorem dX8_add_9 : decode cX8_add 9 = .ok (.aload_n 0, 1) := by decide +kernel
theorem dX8_add_10 : decode cX8_add 10 = .ok (.getfield 15, 3) := by decide +kernel
theorem dX8_add_13 : decode cX8_add 13 = .ok (.aload_n 0, 1) := by decide +kernel
theorem dX8_add_14 : decode cX8_add 14 = .ok (.getfield 9, 3) := by decide +kernel
theorem dX8_add_17 : decode cX8_add 17 = .ok (.aload_n 1, 1) := by decide +kernel
theorem dX8_add_18 : decode cX8_add 18 = .ok (.getfield 41, 3) := by decide +kernel
theorem dX8_add_21 : decode cX8_add 21 = .ok (.iastore, 1) := by decide +kernel
theorem dX8_add_22 : decode cX8_add 22 = .ok (.aload_n 0, 1) := by decide +kernel
theorem dX8_add_23 : decode cX8_add 23 = .ok (.getfield 19, 3) := by decide +kernel
theorem dX8_add_26 : decode cX8_add 26 = .ok (.aload_n 0, 1) := by decide +kernel
theorem dX8_add_27 : decode cX8_add 27 = .ok (.getfield 9, 3) := by decide +kernel
theorem dX8_add_30 : decode cX8_add 30 = .ok (.aload_n 1, 1) := by decide +kernel
theorem dX8_add_31 : decode cX8_add 31 = .ok (.getfield 46, 3) := by decide +kernel
theorem dX8_add_34 : decode cX8_add 34 = .ok (.iastore, 1) := by decide +kernel
theorem dX8_add_35 : decode cX8_add 35 = .ok (.aload_n 0, 1) := by decide +kernel
theorem dX8_add_36 : decode cX8_add 36 = .ok (.getfield 22, 3) := by decide +kernel
theorem dX8_add_39 : decode cX8_add 39 = .ok (.aload_n 0, 1) := by decide +kernel
theorem dX8_add_40 : decode cX8_add 40 = .ok (.getfield 9, 3) := by decide +kernel
theorem dX8_add_43 : decode cX8_add 43 = .ok (.aload_n 1, 1) := by decide +kernel
theorem dX8_add_44 : decode cX8_add 44 = .ok (.getfield 49, 3) := by decide +kernel
theorem dX8_add_47 : decode cX8_add 47 = .ok (.iastore, 1) := by decide +kernel
theorem dX8_add_48 : decode cX8_add 48 = .ok (.aload_n 0, 1) := by decide +kernel
theorem dX8_add_49 : decode cX8_add 49 = .ok (.dup, 1) := by decide +kernel
theorem dX8_add_50 : decode cX8_add 50 = .ok (.getfield 9, 3) := by decide +kernel
theorem dX8_add_53 : decode cX8_add 53 = .ok (.iconst 1, 1) := by decide +kernel
theorem dX8_add_54 : decode cX8_add 54 = .ok (.iadd, 1) := by decide +kernel
theorem dX8_add_55 : decode cX8_add 55 = .ok (.putfield 9, 3) := by decide +kernel
theorem dX8_add_58 : decode cX8_add 58 = .ok (.return_, 1) := by decide +kernel
theorem dX8_seatAll_0 : decode cX8_seatAll 0 = .ok (.aload_n 0, 1) := by decide +kernel
theorem dX8_seatAll_1 : decode cX8_seatAll 1 = .ok (.ldc 52, 2) := by decide +kernel
theorem dX8_seatAll_3 : decode cX8_seatAll 3 = .ok (.putfield 38, 3) := by decide +kernel
theorem dX8_seatAll_6 : decode cX8_seatAll 6 = .ok (.aload_n 0, 1) := by decide +kernel
theorem dX8_seatAll_7 : decode cX8_seatAll 7 = .ok (.getfield 25, 3) := by decide +kernel
theorem dX8_seatAll_10 : decode cX8_seatAll 10 = .ok (.iconst 0, 1) := by decide +kernel
theorem dX8_seatAll_11 : decode cX8_seatAll 11 = .ok (.invokestatic 53, 3) := by decide +kernel
theorem dX8_seatAll_14 : decode cX8_seatAll 14 = .ok (.aload_n 0, 1) := by decide +kernel
theorem dX8_seatAll_15 : decode cX8_seatAll 15 = .ok (.getfield 25, 3) := by decide +kernel
theorem dX8_seatAll_18 : decode cX8_seatAll 18 = .ok (.iconst 0, 1) := by decide +kernel
theorem dX8_seatAll_19 : decode cX8_seatAll 19 = .ok (.iconst 1, 1) := by decide +kernel
theorem dX8_seatAll_20 : decode cX8_seatAll 20 = .ok (.bastore, 1) := by decide +kernel
theorem dX8_seatAll_21 : decode cX8_seatAll 21 = .ok (.aload_n 0, 1) := by decide +kernel
theorem dX8_seatAll_22 : decode cX8_seatAll 22 = .ok (.getfield 29, 3) := by decide +kernel
theorem dX8_seatAll_25 : decode cX8_seatAll 25 = .ok (.iconst 0, 1) := by decide +kernel
theorem dX8_seatAll_26 : decode cX8_seatAll 26 = .ok (.iconst 0, 1) := by decide +kernel
theorem dX8_seatAll_27 : decode cX8_seatAll 27 = .ok (.iastore, 1) := by decide +kernel
theorem dX8_seatAll_28 : decode cX8_seatAll 28 = .ok (.aload_n 0, 1) := by decide +kernel
theorem dX8_seatAll_29 : decode cX8_seatAll 29 = .ok (.iconst 1, 1) := by decide +kernel
theorem dX8_seatAll_30 : decode cX8_seatAll 30 = .ok (.iconst 0, 1) := by decide +kernel
theorem dX8_seatAll_31 : decode cX8_seatAll 31 = .ok (.invokevirtual 59, 3) := by decide +kernel
theorem dX8_seatAll_34 : decode cX8_seatAll 34 = .ok (.return_, 1) := by decide +kernel
theorem dX8_seatFrom_0 : decode cX8_seatFrom 0 = .ok (.iload_n 1, 1) := by decide +kernel
theorem dX8_seatFrom_1 : decode cX8_seatFrom 1 = .ok (.aload_n 0, 1) := by decide +kernel
theorem dX8_seatFrom_2 : decode cX8_seatFrom 2 = .ok (.getfield 9, 3) := by decide +kernel
theorem dX8_seatFrom_5 : decode cX8_seatFrom 5 = .ok (.if_icmp .lt 45, 3) := by decide +kernel
theorem dX8_seatFrom_8 : decode cX8_seatFrom 8 = .ok (.aload_n 0, 1) := by decide +kernel
theorem dX8_seatFrom_9 : decode cX8_seatFrom 9 = .ok (.iload_n 2, 1) := by decide +kernel
theorem dX8_seatFrom_10 : decode cX8_seatFrom 10 = .ok (.aload_n 0, 1) := by decide +kernel
theorem dX8_seatFrom_11 : decode cX8_seatFrom 11 = .ok (.aload_n 0, 1) := by decide +kernel
theorem dX8_seatFrom_12 : decode cX8_seatFrom 12 = .ok (.getfield 29, 3) := by decide +kernel
theorem dX8_seatFrom_15 : decode cX8_seatFrom 15 = .ok (.iload_n 1, 1) := by decide +kernel
theorem dX8_seatFrom_16 : decode cX8_seatFrom 16 = .ok (.iconst 1, 1) := by decide +kernel
theorem dX8_seatFrom_17 : decode cX8_seatFrom 17 = .ok (.isub, 1) := by decide +kernel
theorem dX8_seatFrom_18 : decode cX8_seatFrom 18 = .ok (.iaload, 1) := by decide +kernel
theorem dX8_seatFrom_19 : decode cX8_seatFrom 19 = .ok (.aload_n 0, 1) := by decide +kernel
theorem dX8_seatFrom_20 : decode cX8_seatFrom 20 = .ok (.getfield 29, 3) := by decide +kernel
theorem dX8_seatFrom_23 : decode cX8_seatFrom 23 = .ok (.iconst 0, 1) := by decide +kernel
theorem dX8_seatFrom_24 : decode cX8_seatFrom 24 = .ok (.iaload, 1) := by decide +kernel
theorem dX8_seatFrom_25 : decode cX8_seatFrom 25 = .ok (.invokevirtual 63, 3) := by decide +kernel
theorem dX8_seatFrom_28 : decode cX8_seatFrom 28 = .ok (.iadd, 1) := by decide +kernel
theorem dX8_seatFrom_29 : decode cX8_seatFrom 29 = .ok (.putfield 38, 3) := by decide +kernel
theorem dX8_seatFrom_32 : decode cX8_seatFrom 32 = .ok (.aload_n 0, 1) := by decide +kernel
theorem dX8_seatFrom_33 : decode cX8_seatFrom 33 = .ok (.getfield 29, 3) := by decide +kernel
theorem dX8_seatFrom_36 : decode cX8_seatFrom 36 = .ok (.iconst 0, 1) := by decide +kernel
theorem dX8_seatFrom_37 : decode cX8_seatFrom 37 = .ok (.aload_n 0, 1) := by decide +kernel
theorem dX8_seatFrom_38 : decode cX8_seatFrom 38 = .ok (.getfield 32, 3) := by decide +kernel
theorem dX8_seatFrom_41 : decode cX8_seatFrom 41 = .ok (.iconst 0, 1) := by decide +kernel
theorem dX8_seatFrom_42 : decode cX8_seatFrom 42 = .ok (.aload_n 0, 1) := by decide +kernel
theorem dX8_seatFrom_43 : decode cX8_seatFrom 43 = .ok (.getfield 9, 3) := by decide +kernel
theorem dX8_seatFrom_46 : decode cX8_seatFrom 46 = .ok (.invokestatic 67, 3) := by decide +kernel
theorem dX8_seatFrom_49 : decode cX8_seatFrom 49 = .ok (.return_, 1) := by decide +kernel
theorem dX8_seatFrom_50 : decode cX8_seatFrom 50 = .ok (.iconst 1, 1) := by decide +kernel
theorem dX8_seatFrom_51 : decode cX8_seatFrom 51 = .ok (.istore_n 3, 1) := by decide +kernel
theorem dX8_seatFrom_52 : decode cX8_seatFrom 52 = .ok (.iload_n 3, 1) := by decide +kernel
theorem dX8_seatFrom_53 : decode cX8_seatFrom 53 = .ok (.aload_n 0, 1) := by decide +kernel
theorem dX8_seatFrom_54 : decode cX8_seatFrom 54 = .ok (.getfield 9, 3) := by decide +kernel
theorem dX8_seatFrom_57 : decode cX8_seatFrom 57 = .ok (.if_icmp .ge 86, 3) := by decide +kernel
theorem dX8_seatFrom_60 : decode cX8_seatFrom 60 = .ok (.iload_n 2, 1) := by decide +kernel
theorem dX8_seatFrom_61 : decode cX8_seatFrom 61 = .ok (.aload_n 0, 1) := by decide +kernel
theorem dX8_seatFrom_62 : decode cX8_seatFrom 62 = .ok (.aload_n 0, 1) := by decide +kernel
theorem dX8_seatFrom_63 : decode cX8_seatFrom 63 = .ok (.getfield 29, 3) := by decide +kernel
theorem dX8_seatFrom_66 : decode cX8_seatFrom 66 = .ok (.iload_n 1, 1) := by decide +kernel
theorem dX8_seatFrom_67 : decode cX8_seatFrom 67 = .ok (.iconst 1, 1) := by decide +kernel
theorem dX8_seatFrom_68 : decode cX8_seatFrom 68 = .ok (.isub, 1) := by decide +kernel
theorem dX8_seatFrom_69 : decode cX8_seatFrom 69 = .ok (.iaload, 1) := by decide +kernel
theorem dX8_seatFrom_70 : decode cX8_seatFrom 70 = .ok (.iload_n 3, 1) := by decide +kernel
theorem dX8_seatFrom_71 : decode cX8_seatFrom 71 = .ok (.invokevirtual 63, 3) := by decide +kernel
theorem dX8_seatFrom_74 : decode cX8_seatFrom 74 = .ok (.iadd, 1) := by decide +kernel
theorem dX8_seatFrom_75 : decode cX8_seatFrom 75 = .ok (.istore 4, 2) := by decide +kernel
theorem dX8_seatFrom_77 : decode cX8_seatFrom 77 = .ok (.aload_n 0, 1) := by decide +kernel
theorem dX8_seatFrom_78 : decode cX8_seatFrom 78 = .ok (.getfield 25, 3) := by decide +kernel
theorem dX8_seatFrom_81 : decode cX8_seatFrom 81 = .ok (.iload_n 3, 1) := by decide +kernel
theorem dX8_seatFrom_82 : decode cX8_seatFrom 82 = .ok (.baload, 1) := by decide +kernel
theorem dX8_seatFrom_83 : decode cX8_seatFrom 83 = .ok (.ifCond .ne 54, 3) := by decide +kernel
theorem dX8_seatFrom_86 : decode cX8_seatFrom 86 = .ok (.iload 4, 2) := by decide +kernel
theorem dX8_seatFrom_88 : decode cX8_seatFrom 88 = .ok (.aload_n 0, 1) := by decide +kernel
theorem dX8_seatFrom_89 : decode cX8_seatFrom 89 = .ok (.iload_n 3, 1) := by decide +kernel
theorem dX8_seatFrom_90 : decode cX8_seatFrom 90 = .ok (.aload_n 0, 1) := by decide +kernel
theorem dX8_seatFrom_91 : decode cX8_seatFrom 91 = .ok (.getfield 29, 3) := by decide +kernel
theorem dX8_seatFrom_94 : decode cX8_seatFrom 94 = .ok (.iconst 0, 1) := by decide +kernel
theorem dX8_seatFrom_95 : decode cX8_seatFrom 95 = .ok (.iaload, 1) := by decide +kernel
theorem dX8_seatFrom_96 : decode cX8_seatFrom 96 = .ok (.invokevirtual 63, 3) := by decide +kernel
theorem dX8_seatFrom_99 : decode cX8_seatFrom 99 = .ok (.iadd, 1) := by decide +kernel
theorem dX8_seatFrom_100 : decode cX8_seatFrom 100 = .ok (.aload_n 0, 1) := by decide +kernel
theorem dX8_seatFrom_101 : decode cX8_seatFrom 101 = .ok (.getfield 38, 3) := by decide +kernel
theorem dX8_seatFrom_104 : decode cX8_seatFrom 104 = .ok (.if_icmp .ge 33, 3) := by decide +kernel
theorem dX8_seatFrom_107 : decode cX8_seatFrom 107 = .ok (.aload_n 0, 1) := by decide +kernel
theorem dX8_seatFrom_108 : decode cX8_seatFrom 108 = .ok (.getfield 25, 3) := by decide +kernel
theorem dX8_seatFrom_111 : decode cX8_seatFrom 111 = .ok (.iload_n 3, 1) := by decide +kernel
theorem dX8_seatFrom_112 : decode cX8_seatFrom 112 = .ok (.iconst 1, 1) := by decide +kernel
theorem dX8_seatFrom_113 : decode cX8_seatFrom 113 = .ok (.bastore, 1) := by decide +kernel
theorem dX8_seatFrom_114 : decode cX8_seatFrom 114 = .ok (.aload_n 0, 1) := by decide +kernel
theorem dX8_seatFrom_115 : decode cX8_seatFrom 115 = .ok (.getfield 29, 3) := by decide +kernel
theorem dX8_seatFrom_118 : decode cX8_seatFrom 118 = .ok (.iload_n 1, 1) := by decide +kernel
theorem dX8_seatFrom_119 : decode cX8_seatFrom 119 = .ok (.iload_n 3, 1) := by decide +kernel
theorem dX8_seatFrom_120 : decode cX8_seatFrom 120 = .ok (.iastore, 1) := by decide +kernel
theorem dX8_seatFrom_121 : decode cX8_seatFrom 121 = .ok (.aload_n 0, 1) := by decide +kernel
theorem dX8_seatFrom_122 : decode cX8_seatFrom 122 = .ok (.iload_n 1, 1) := by decide +kernel
theorem dX8_seatFrom_123 : decode cX8_seatFrom 123 = .ok (.iconst 1, 1) := by decide +kernel
theorem dX8_seatFrom_124 : decode cX8_seatFrom 124 = .ok (.iadd, 1) := by decide +kernel
theorem dX8_seatFrom_125 : decode cX8_seatFrom 125 = .ok (.iload 4, 2) := by decide +kernel
theorem dX8_seatFrom_127 : decode cX8_seatFrom 127 = .ok (.invokevirtual 59, 3) := by decide +kernel
theorem dX8_seatFrom_130 : decode cX8_seatFrom 130 = .ok (.aload_n 0, 1) := by decide +kernel
theorem dX8_seatFrom_131 : decode cX8_seatFrom 131 = .ok (.getfield 25, 3) := by decide +kernel
theorem dX8_seatFrom_134 : decode cX8_seatFrom 134 = .ok (.iload_n 3, 1) := by decide +kernel
theorem dX8_seatFrom_135 : decode cX8_seatFrom 135 = .ok (.iconst 0, 1) := by decide +kernel
theorem dX8_seatFrom_136 : decode cX8_seatFrom 136 = .ok (.bastore, 1) := by decide +kernel
theorem dX8_seatFrom_137 : decode cX8_seatFrom 137 = .ok (.iinc 3 1, 3) := by decide +kernel
theorem dX8_seatFrom_140 : decode cX8_seatFrom 140 = .ok (.goto (-88), 3) := by decide +kernel
theorem dX8_seatFrom_143 : decode cX8_seatFrom 143 = .ok (.return_, 1) := by decide +kernel
theorem dX8_apart_0 : decode cX8_apart 0 = .ok (.aload_n 0, 1) := by decide +kernel
theorem dX8_apart_1 : decode cX8_apart 1 = .ok (.getfield 19, 3) := by decide +kernel
theorem dX8_apart_4 : decode cX8_apart 4 = .ok (.iload_n 1, 1) := by decide +kernel
theorem dX8_apart_5 : decode cX8_apart 5 = .ok (.iaload, 1) := by decide +kernel
theorem dX8_apart_6 : decode cX8_apart 6 = .ok (.aload_n 0, 1) := by decide +kernel
theorem dX8_apart_7 : decode cX8_apart 7 = .ok (.getfield 19, 3) := by decide +kernel
theorem dX8_apart_10 : decode cX8_apart 10 = .ok (.iload_n 2, 1) := by decide +kernel
theorem dX8_apart_11 : decode cX8_apart 11 = .ok (.iaload, 1) := by decide +kernel
theorem dX8_apart_12 : decode cX8_apart 12 = .ok (.isub, 1) := by decide +kernel
theorem dX8_apart_13 : decode cX8_apart 13 = .ok (.invokestatic 73, 3) := by decide +kernel
theorem dX8_apart_16 : decode cX8_apart 16 = .ok (.ireturn, 1) := by decide +kernel
theorem dX8_numberAt_0 : decode cX8_numberAt 0 = .ok (.aload_n 0, 1) := by decide +kernel
theorem dX8_numberAt_1 : decode cX8_numberAt 1 = .ok (.getfield 15, 3) := by decide +kernel
theorem dX8_numberAt_4 : decode cX8_numberAt 4 = .ok (.aload_n 0, 1) := by decide +kernel
theorem dX8_numberAt_5 : decode cX8_numberAt 5 = .ok (.getfield 32, 3) := by decide +kernel
theorem dX8_numberAt_8 : decode cX8_numberAt 8 = .ok (.iload_n 1, 1) := by decide +kernel
theorem dX8_numberAt_9 : decode cX8_numberAt 9 = .ok (.iaload, 1) := by decide +kernel
theorem dX8_numberAt_10 : decode cX8_numberAt 10 = .ok (.iaload, 1) := by decide +kernel
theorem dX8_numberAt_11 : decode cX8_numberAt 11 = .ok (.ireturn, 1) := by decide +kernel
theorem dX8_spentIn_0 : decode cX8_spentIn 0 = .ok (.iconst 0, 1) := by decide +kernel
theorem dX8_spentIn_1 : decode cX8_spentIn 1 = .ok (.istore_n 2, 1) := by decide +kernel
theorem dX8_spentIn_2 : decode cX8_spentIn 2 = .ok (.iload_n 2, 1) := by decide +kernel
theorem dX8_spentIn_3 : decode cX8_spentIn 3 = .ok (.aload_n 0, 1) := by decide +kernel
theorem dX8_spentIn_4 : decode cX8_spentIn 4 = .ok (.getfield 9, 3) := by decide +kernel
theorem dX8_spentIn_7 : decode cX8_spentIn 7 = .ok (.if_icmp .ge 26, 3) := by decide +kernel
theorem dX8_spentIn_10 : decode cX8_spentIn 10 = .ok (.aload_n 0, 1) := by decide +kernel
theorem dX8_spentIn_11 : decode cX8_spentIn 11 = .ok (.getfield 35, 3) := by decide +kernel
theorem dX8_spentIn_14 : decode cX8_spentIn 14 = .ok (.iload_n 2, 1) := by decide +kernel
theorem dX8_spentIn_15 : decode cX8_spentIn 15 = .ok (.aload_n 0, 1) := by decide +kernel
theorem dX8_spentIn_16 : decode cX8_spentIn 16 = .ok (.getfield 22, 3) := by decide +kernel
theorem dX8_spentIn_19 : decode cX8_spentIn 19 = .ok (.aload_n 0, 1) := by decide +kernel
theorem dX8_spentIn_20 : decode cX8_spentIn 20 = .ok (.getfield 32, 3) := by decide +kernel
theorem dX8_spentIn_23 : decode cX8_spentIn 23 = .ok (.iload_n 2, 1) := by decide +kernel
theorem dX8_spentIn_24 : decode cX8_spentIn 24 = .ok (.iaload, 1) := by decide +kernel
theorem dX8_spentIn_25 : decode cX8_spentIn 25 = .ok (.iaload, 1) := by decide +kernel
theorem dX8_spentIn_26 : decode cX8_spentIn 26 = .ok (.iastore, 1) := by decide +kernel
theorem dX8_spentIn_27 : decode cX8_spentIn 27 = .ok (.iinc 2 1, 3) := by decide +kernel
theorem dX8_spentIn_30 : decode cX8_spentIn 30 = .ok (.goto (-28), 3) := by decide +kernel
theorem dX8_spentIn_33 : decode cX8_spentIn 33 = .ok (.iconst 0, 1) := by decide +kernel
theorem dX8_spentIn_34 : decode cX8_spentIn 34 = .ok (.istore_n 2, 1) := by decide +kernel
theorem dX8_spentIn_35 : decode cX8_spentIn 35 = .ok (.iconst 0, 1) := by decide +kernel
theorem dX8_spentIn_36 : decode cX8_spentIn 36 = .ok (.istore_n 3, 1) := by decide +kernel
theorem dX8_spentIn_37 : decode cX8_spentIn 37 = .ok (.iload_n 3, 1) := by decide +kernel
theorem dX8_spentIn_38 : decode cX8_spentIn 38 = .ok (.aload_n 1, 1) := by decide +kernel
theorem dX8_spentIn_39 : decode cX8_spentIn 39 = .ok (.getfield 79, 3) := by decide +kernel
theorem dX8_spentIn_42 : decode cX8_spentIn 42 = .ok (.if_icmp .ge 80, 3) := by decide +kernel
theorem dX8_spentIn_45 : decode cX8_spentIn 45 = .ok (.aload_n 1, 1) := by decide +kernel
theorem dX8_spentIn_46 : decode cX8_spentIn 46 = .ok (.getfield 84, 3) := by decide +kernel
theorem dX8_spentIn_49 : decode cX8_spentIn 49 = .ok (.iload_n 3, 1) := by decide +kernel
theorem dX8_spentIn_50 : decode cX8_spentIn 50 = .ok (.iaload, 1) := by decide +kernel
theorem dX8_spentIn_51 : decode cX8_spentIn 51 = .ok (.istore 4, 2) := by decide +kernel
theorem dX8_spentIn_53 : decode cX8_spentIn 53 = .ok (.iload 4, 2) := by decide +kernel
theorem dX8_spentIn_55 : decode cX8_spentIn 55 = .ok (.bipush 100, 2) := by decide +kernel
theorem dX8_spentIn_57 : decode cX8_spentIn 57 = .ok (.if_icmp .lt 29, 3) := by decide +kernel
theorem dX8_spentIn_60 : decode cX8_spentIn 60 = .ok (.iload_n 2, 1) := by decide +kernel
theorem dX8_spentIn_61 : decode cX8_spentIn 61 = .ok (.aload_n 0, 1) := by decide +kernel
theorem dX8_spentIn_62 : decode cX8_spentIn 62 = .ok (.invokevirtual 87, 3) := by decide +kernel
theorem dX8_spentIn_65 : decode cX8_spentIn 65 = .ok (.iadd, 1) := by decide +kernel
theorem dX8_spentIn_66 : decode cX8_spentIn 66 = .ok (.istore_n 2, 1) := by decide +kernel
theorem dX8_spentIn_67 : decode cX8_spentIn 67 = .ok (.aload_n 0, 1) := by decide +kernel
theorem dX8_spentIn_68 : decode cX8_spentIn 68 = .ok (.iload 4, 2) := by decide +kernel
theorem dX8_spentIn_70 : decode cX8_spentIn 70 = .ok (.bipush 100, 2) := by decide +kernel
theorem dX8_spentIn_72 : decode cX8_spentIn 72 = .ok (.if_icmp .ne 7, 3) := by decide +kernel
theorem dX8_spentIn_75 : decode cX8_spentIn 75 = .ok (.iconst 1, 1) := by decide +kernel
theorem dX8_spentIn_76 : decode cX8_spentIn 76 = .ok (.goto 4, 3) := by decide +kernel
theorem dX8_spentIn_79 : decode cX8_spentIn 79 = .ok (.iconst 0, 1) := by decide +kernel
theorem dX8_spentIn_80 : decode cX8_spentIn 80 = .ok (.invokevirtual 91, 3) := by decide +kernel
theorem dX8_spentIn_83 : decode cX8_spentIn 83 = .ok (.goto 33, 3) := by decide +kernel
theorem dX8_spentIn_86 : decode cX8_spentIn 86 = .ok (.iload 4, 2) := by decide +kernel
theorem dX8_spentIn_88 : decode cX8_spentIn 88 = .ok (.bipush 10, 2) := by decide +kernel
theorem dX8_spentIn_90 : decode cX8_spentIn 90 = .ok (.idiv, 1) := by decide +kernel
theorem dX8_spentIn_91 : decode cX8_spentIn 91 = .ok (.aload_n 0, 1) := by decide +kernel
theorem dX8_spentIn_92 : decode cX8_spentIn 92 = .ok (.getfield 9, 3) := by decide +kernel
theorem dX8_spentIn_95 : decode cX8_spentIn 95 = .ok (.if_icmp .ge 18, 3) := by decide +kernel
theorem dX8_spentIn_98 : decode cX8_spentIn 98 = .ok (.iload_n 2, 1) := by decide +kernel
theorem dX8_spentIn_99 : decode cX8_spentIn 99 = .ok (.aload_n 0, 1) := by decide +kernel
theorem dX8_spentIn_100 : decode cX8_spentIn 100 = .ok (.iload 4, 2) := by decide +kernel
theorem dX8_spentIn_102 : decode cX8_spentIn 102 = .ok (.bipush 10, 2) := by decide +kernel
theorem dX8_spentIn_104 : decode cX8_spentIn 104 = .ok (.idiv, 1) := by decide +kernel
theorem dX8_spentIn_105 : decode cX8_spentIn 105 = .ok (.invokevirtual 95, 3) := by decide +kernel
theorem dX8_spentIn_108 : decode cX8_spentIn 108 = .ok (.iadd, 1) := by decide +kernel
theorem dX8_spentIn_109 : decode cX8_spentIn 109 = .ok (.istore_n 2, 1) := by decide +kernel
theorem dX8_spentIn_110 : decode cX8_spentIn 110 = .ok (.goto 6, 3) := by decide +kernel
theorem dX8_spentIn_113 : decode cX8_spentIn 113 = .ok (.bipush (-3), 2) := by decide +kernel
theorem dX8_spentIn_115 : decode cX8_spentIn 115 = .ok (.ireturn, 1) := by decide +kernel
theorem dX8_spentIn_116 : decode cX8_spentIn 116 = .ok (.iinc 3 1, 3) := by decide +kernel
theorem dX8_spentIn_119 : decode cX8_spentIn 119 = .ok (.goto (-82), 3) := by decide +kernel
theorem dX8_spentIn_122 : decode cX8_spentIn 122 = .ok (.iload_n 2, 1) := by decide +kernel
theorem dX8_spentIn_123 : decode cX8_spentIn 123 = .ok (.ireturn, 1) := by decide +kernel
theorem dX8_greatestPace_0 : decode cX8_greatestPace 0 = .ok (.iconst 0, 1) := by decide +kernel
theorem dX8_greatestPace_1 : decode cX8_greatestPace 1 = .ok (.istore_n 1, 1) := by decide +kernel
theorem dX8_greatestPace_2 : decode cX8_greatestPace 2 = .ok (.iconst 0, 1) := by decide +kernel
theorem dX8_greatestPace_3 : decode cX8_greatestPace 3 = .ok (.istore_n 2, 1) := by decide +kernel
theorem dX8_greatestPace_4 : decode cX8_greatestPace 4 = .ok (.iload_n 2, 1) := by decide +kernel
theorem dX8_greatestPace_5 : decode cX8_greatestPace 5 = .ok (.aload_n 0, 1) := by decide +kernel
theorem dX8_greatestPace_6 : decode cX8_greatestPace 6 = .ok (.getfield 9, 3) := by decide +kernel
theorem dX8_greatestPace_9 : decode cX8_greatestPace 9 = .ok (.if_icmp .ge 20, 3) := by decide +kernel
theorem dX8_greatestPace_12 : decode cX8_greatestPace 12 = .ok (.iload_n 1, 1) := by decide +kernel
theorem dX8_greatestPace_13 : decode cX8_greatestPace 13 = .ok (.aload_n 0, 1) := by decide +kernel
theorem dX8_greatestPace_14 : decode cX8_greatestPace 14 = .ok (.getfield 22, 3) := by decide +kernel
theorem dX8_greatestPace_17 : decode cX8_greatestPace 17 = .ok (.iload_n 2, 1) := by decide +kernel
theorem dX8_greatestPace_18 : decode cX8_greatestPace 18 = .ok (.iaload, 1) := by decide +kernel
end
section
theorem dX8_greatestPace_19 : decode cX8_greatestPace 19 = .ok (.invokestatic 98, 3) := by decide +kernel
theorem dX8_greatestPace_22 : decode cX8_greatestPace 22 = .ok (.istore_n 1, 1) := by decide +kernel
theorem dX8_greatestPace_23 : decode cX8_greatestPace 23 = .ok (.iinc 2 1, 3) := by decide +kernel
theorem dX8_greatestPace_26 : decode cX8_greatestPace 26 = .ok (.goto (-22), 3) := by decide +kernel
theorem dX8_greatestPace_29 : decode cX8_greatestPace 29 = .ok (.iload_n 1, 1) := by decide +kernel
theorem dX8_greatestPace_30 : decode cX8_greatestPace 30 = .ok (.ireturn, 1) := by decide +kernel
theorem dX8_turn_0 : decode cX8_turn 0 = .ok (.aload_n 0, 1) := by decide +kernel
theorem dX8_turn_1 : decode cX8_turn 1 = .ok (.getfield 9, 3) := by decide +kernel
theorem dX8_turn_4 : decode cX8_turn 4 = .ok (.iconst 1, 1) := by decide +kernel
theorem dX8_turn_5 : decode cX8_turn 5 = .ok (.if_icmp .ge 4, 3) := by decide +kernel
theorem dX8_turn_8 : decode cX8_turn 8 = .ok (.return_, 1) := by decide +kernel
theorem dX8_turn_9 : decode cX8_turn 9 = .ok (.iload_n 1, 1) := by decide +kernel
theorem dX8_turn_10 : decode cX8_turn 10 = .ok (.ifCond .eq 44, 3) := by decide +kernel
theorem dX8_turn_13 : decode cX8_turn 13 = .ok (.aload_n 0, 1) := by decide +kernel
theorem dX8_turn_14 : decode cX8_turn 14 = .ok (.getfield 35, 3) := by decide +kernel
theorem dX8_turn_17 : decode cX8_turn 17 = .ok (.aload_n 0, 1) := by decide +kernel
theorem dX8_turn_18 : decode cX8_turn 18 = .ok (.getfield 9, 3) := by decide +kernel
theorem dX8_turn_21 : decode cX8_turn 21 = .ok (.iconst 1, 1) := by decide +kernel
theorem dX8_turn_22 : decode cX8_turn 22 = .ok (.isub, 1) := by decide +kernel
theorem dX8_turn_23 : decode cX8_turn 23 = .ok (.iaload, 1) := by decide +kernel
theorem dX8_turn_24 : decode cX8_turn 24 = .ok (.istore_n 2, 1) := by decide +kernel
theorem dX8_turn_25 : decode cX8_turn 25 = .ok (.aload_n 0, 1) := by decide +kernel
theorem dX8_turn_26 : decode cX8_turn 26 = .ok (.getfield 35, 3) := by decide +kernel
theorem dX8_turn_29 : decode cX8_turn 29 = .ok (.iconst 0, 1) := by decide +kernel
theorem dX8_turn_30 : decode cX8_turn 30 = .ok (.aload_n 0, 1) := by decide +kernel
theorem dX8_turn_31 : decode cX8_turn 31 = .ok (.getfield 35, 3) := by decide +kernel
theorem dX8_turn_34 : decode cX8_turn 34 = .ok (.iconst 1, 1) := by decide +kernel
theorem dX8_turn_35 : decode cX8_turn 35 = .ok (.aload_n 0, 1) := by decide +kernel
theorem dX8_turn_36 : decode cX8_turn 36 = .ok (.getfield 9, 3) := by decide +kernel
theorem dX8_turn_39 : decode cX8_turn 39 = .ok (.iconst 1, 1) := by decide +kernel
theorem dX8_turn_40 : decode cX8_turn 40 = .ok (.isub, 1) := by decide +kernel
theorem dX8_turn_41 : decode cX8_turn 41 = .ok (.invokestatic 67, 3) := by decide +kernel
theorem dX8_turn_44 : decode cX8_turn 44 = .ok (.aload_n 0, 1) := by decide +kernel
theorem dX8_turn_45 : decode cX8_turn 45 = .ok (.getfield 35, 3) := by decide +kernel
theorem dX8_turn_48 : decode cX8_turn 48 = .ok (.iconst 0, 1) := by decide +kernel
theorem dX8_turn_49 : decode cX8_turn 49 = .ok (.iload_n 2, 1) := by decide +kernel
theorem dX8_turn_50 : decode cX8_turn 50 = .ok (.iastore, 1) := by decide +kernel
theorem dX8_turn_51 : decode cX8_turn 51 = .ok (.goto 41, 3) := by decide +kernel
theorem dX8_turn_54 : decode cX8_turn 54 = .ok (.aload_n 0, 1) := by decide +kernel
theorem dX8_turn_55 : decode cX8_turn 55 = .ok (.getfield 35, 3) := by decide +kernel
theorem dX8_turn_58 : decode cX8_turn 58 = .ok (.iconst 0, 1) := by decide +kernel
theorem dX8_turn_59 : decode cX8_turn 59 = .ok (.iaload, 1) := by decide +kernel
theorem dX8_turn_60 : decode cX8_turn 60 = .ok (.istore_n 2, 1) := by decide +kernel
theorem dX8_turn_61 : decode cX8_turn 61 = .ok (.aload_n 0, 1) := by decide +kernel
theorem dX8_turn_62 : decode cX8_turn 62 = .ok (.getfield 35, 3) := by decide +kernel
theorem dX8_turn_65 : decode cX8_turn 65 = .ok (.iconst 1, 1) := by decide +kernel
theorem dX8_turn_66 : decode cX8_turn 66 = .ok (.aload_n 0, 1) := by decide +kernel
theorem dX8_turn_67 : decode cX8_turn 67 = .ok (.getfield 35, 3) := by decide +kernel
theorem dX8_turn_70 : decode cX8_turn 70 = .ok (.iconst 0, 1) := by decide +kernel
theorem dX8_turn_71 : decode cX8_turn 71 = .ok (.aload_n 0, 1) := by decide +kernel
theorem dX8_turn_72 : decode cX8_turn 72 = .ok (.getfield 9, 3) := by decide +kernel
theorem dX8_turn_75 : decode cX8_turn 75 = .ok (.iconst 1, 1) := by decide +kernel
theorem dX8_turn_76 : decode cX8_turn 76 = .ok (.isub, 1) := by decide +kernel
theorem dX8_turn_77 : decode cX8_turn 77 = .ok (.invokestatic 67, 3) := by decide +kernel
theorem dX8_turn_80 : decode cX8_turn 80 = .ok (.aload_n 0, 1) := by decide +kernel
theorem dX8_turn_81 : decode cX8_turn 81 = .ok (.getfield 35, 3) := by decide +kernel
theorem dX8_turn_84 : decode cX8_turn 84 = .ok (.aload_n 0, 1) := by decide +kernel
theorem dX8_turn_85 : decode cX8_turn 85 = .ok (.getfield 9, 3) := by decide +kernel
theorem dX8_turn_88 : decode cX8_turn 88 = .ok (.iconst 1, 1) := by decide +kernel
theorem dX8_turn_89 : decode cX8_turn 89 = .ok (.isub, 1) := by decide +kernel
theorem dX8_turn_90 : decode cX8_turn 90 = .ok (.iload_n 2, 1) := by decide +kernel
theorem dX8_turn_91 : decode cX8_turn 91 = .ok (.iastore, 1) := by decide +kernel
theorem dX8_turn_92 : decode cX8_turn 92 = .ok (.return_, 1) := by decide +kernel
theorem dX8_change_0 : decode cX8_change 0 = .ok (.iload_n 1, 1) := by decide +kernel
theorem dX8_change_1 : decode cX8_change 1 = .ok (.aload_n 0, 1) := by decide +kernel
theorem dX8_change_2 : decode cX8_change 2 = .ok (.getfield 9, 3) := by decide +kernel
theorem dX8_change_5 : decode cX8_change 5 = .ok (.invokestatic 101, 3) := by decide +kernel
theorem dX8_change_8 : decode cX8_change 8 = .ok (.istore_n 2, 1) := by decide +kernel
theorem dX8_change_9 : decode cX8_change 9 = .ok (.aload_n 0, 1) := by decide +kernel
theorem dX8_change_10 : decode cX8_change 10 = .ok (.getfield 35, 3) := by decide +kernel
theorem dX8_change_13 : decode cX8_change 13 = .ok (.iload_n 1, 1) := by decide +kernel
theorem dX8_change_14 : decode cX8_change 14 = .ok (.iaload, 1) := by decide +kernel
theorem dX8_change_15 : decode cX8_change 15 = .ok (.istore_n 3, 1) := by decide +kernel
theorem dX8_change_16 : decode cX8_change 16 = .ok (.aload_n 0, 1) := by decide +kernel
theorem dX8_change_17 : decode cX8_change 17 = .ok (.getfield 35, 3) := by decide +kernel
theorem dX8_change_20 : decode cX8_change 20 = .ok (.iload_n 1, 1) := by decide +kernel
theorem dX8_change_21 : decode cX8_change 21 = .ok (.aload_n 0, 1) := by decide +kernel
theorem dX8_change_22 : decode cX8_change 22 = .ok (.getfield 35, 3) := by decide +kernel
theorem dX8_change_25 : decode cX8_change 25 = .ok (.iload_n 2, 1) := by decide +kernel
theorem dX8_change_26 : decode cX8_change 26 = .ok (.iaload, 1) := by decide +kernel
theorem dX8_change_27 : decode cX8_change 27 = .ok (.iastore, 1) := by decide +kernel
theorem dX8_change_28 : decode cX8_change 28 = .ok (.aload_n 0, 1) := by decide +kernel
theorem dX8_change_29 : decode cX8_change 29 = .ok (.getfield 35, 3) := by decide +kernel
theorem dX8_change_32 : decode cX8_change 32 = .ok (.iload_n 2, 1) := by decide +kernel
theorem dX8_change_33 : decode cX8_change 33 = .ok (.iload_n 3, 1) := by decide +kernel
theorem dX8_change_34 : decode cX8_change 34 = .ok (.iastore, 1) := by decide +kernel
theorem dX8_change_35 : decode cX8_change 35 = .ok (.iload_n 3, 1) := by decide +kernel
theorem dX8_change_36 : decode cX8_change 36 = .ok (.aload_n 0, 1) := by decide +kernel
theorem dX8_change_37 : decode cX8_change 37 = .ok (.getfield 35, 3) := by decide +kernel
theorem dX8_change_40 : decode cX8_change 40 = .ok (.iload_n 1, 1) := by decide +kernel
theorem dX8_change_41 : decode cX8_change 41 = .ok (.iaload, 1) := by decide +kernel
theorem dX8_change_42 : decode cX8_change 42 = .ok (.iadd, 1) := by decide +kernel
theorem dX8_change_43 : decode cX8_change 43 = .ok (.ireturn, 1) := by decide +kernel
theorem dX9_init_0 : decode cX9_init 0 = .ok (.aload_n 0, 1) := by decide +kernel
theorem dX9_init_1 : decode cX9_init 1 = .ok (.invokespecial 3, 3) := by decide +kernel
theorem dX9_init_4 : decode cX9_init 4 = .ok (.aload_n 0, 1) := by decide +kernel
theorem dX9_init_5 : decode cX9_init 5 = .ok (.iconst 0, 1) := by decide +kernel
theorem dX9_init_6 : decode cX9_init 6 = .ok (.putfield 9, 3) := by decide +kernel
theorem dX9_init_9 : decode cX9_init 9 = .ok (.aload_n 0, 1) := by decide +kernel
theorem dX9_init_10 : decode cX9_init 10 = .ok (.iload_n 1, 1) := by decide +kernel
theorem dX9_init_11 : decode cX9_init 11 = .ok (.newarray .int, 2) := by decide +kernel
theorem dX9_init_13 : decode cX9_init 13 = .ok (.putfield 15, 3) := by decide +kernel
theorem dX9_init_16 : decode cX9_init 16 = .ok (.return_, 1) := by decide +kernel
theorem dX9_clear_0 : decode cX9_clear 0 = .ok (.aload_n 0, 1) := by decide +kernel
theorem dX9_clear_1 : decode cX9_clear 1 = .ok (.iconst 0, 1) := by decide +kernel
theorem dX9_clear_2 : decode cX9_clear 2 = .ok (.putfield 9, 3) := by decide +kernel
theorem dX9_clear_5 : decode cX9_clear 5 = .ok (.return_, 1) := by decide +kernel
theorem dX9_add_0 : decode cX9_add 0 = .ok (.aload_n 0, 1) := by decide +kernel
theorem dX9_add_1 : decode cX9_add 1 = .ok (.getfield 9, 3) := by decide +kernel
theorem dX9_add_4 : decode cX9_add 4 = .ok (.aload_n 0, 1) := by decide +kernel
theorem dX9_add_5 : decode cX9_add 5 = .ok (.getfield 15, 3) := by decide +kernel
theorem dX9_add_8 : decode cX9_add 8 = .ok (.arraylength, 1) := by decide +kernel
theorem dX9_add_9 : decode cX9_add 9 = .ok (.if_icmp .lt 5, 3) := by decide +kernel
theorem dX9_add_12 : decode cX9_add 12 = .ok (.iconst 0, 1) := by decide +kernel
theorem dX9_add_13 : decode cX9_add 13 = .ok (.ireturn, 1) := by decide +kernel
theorem dX9_add_14 : decode cX9_add 14 = .ok (.aload_n 0, 1) := by decide +kernel
theorem dX9_add_15 : decode cX9_add 15 = .ok (.getfield 15, 3) := by decide +kernel
theorem dX9_add_18 : decode cX9_add 18 = .ok (.aload_n 0, 1) := by decide +kernel
theorem dX9_add_19 : decode cX9_add 19 = .ok (.getfield 9, 3) := by decide +kernel
theorem dX9_add_22 : decode cX9_add 22 = .ok (.iload_n 1, 1) := by decide +kernel
theorem dX9_add_23 : decode cX9_add 23 = .ok (.iastore, 1) := by decide +kernel
theorem dX9_add_24 : decode cX9_add 24 = .ok (.aload_n 0, 1) := by decide +kernel
theorem dX9_add_25 : decode cX9_add 25 = .ok (.dup, 1) := by decide +kernel
theorem dX9_add_26 : decode cX9_add 26 = .ok (.getfield 9, 3) := by decide +kernel
theorem dX9_add_29 : decode cX9_add 29 = .ok (.iconst 1, 1) := by decide +kernel
theorem dX9_add_30 : decode cX9_add 30 = .ok (.iadd, 1) := by decide +kernel
theorem dX9_add_31 : decode cX9_add 31 = .ok (.putfield 9, 3) := by decide +kernel
theorem dX9_add_34 : decode cX9_add 34 = .ok (.iconst 1, 1) := by decide +kernel
theorem dX9_add_35 : decode cX9_add 35 = .ok (.ireturn, 1) := by decide +kernel
theorem dX9_codeAt_0 : decode cX9_codeAt 0 = .ok (.iload_n 1, 1) := by decide +kernel
theorem dX9_codeAt_1 : decode cX9_codeAt 1 = .ok (.ifCond .lt 20, 3) := by decide +kernel
theorem dX9_codeAt_4 : decode cX9_codeAt 4 = .ok (.iload_n 1, 1) := by decide +kernel
theorem dX9_codeAt_5 : decode cX9_codeAt 5 = .ok (.aload_n 0, 1) := by decide +kernel
theorem dX9_codeAt_6 : decode cX9_codeAt 6 = .ok (.getfield 9, 3) := by decide +kernel
theorem dX9_codeAt_9 : decode cX9_codeAt 9 = .ok (.if_icmp .ge 12, 3) := by decide +kernel
theorem dX9_codeAt_12 : decode cX9_codeAt 12 = .ok (.aload_n 0, 1) := by decide +kernel
theorem dX9_codeAt_13 : decode cX9_codeAt 13 = .ok (.getfield 15, 3) := by decide +kernel
theorem dX9_codeAt_16 : decode cX9_codeAt 16 = .ok (.iload_n 1, 1) := by decide +kernel
theorem dX9_codeAt_17 : decode cX9_codeAt 17 = .ok (.iaload, 1) := by decide +kernel
theorem dX9_codeAt_18 : decode cX9_codeAt 18 = .ok (.goto 4, 3) := by decide +kernel
theorem dX9_codeAt_21 : decode cX9_codeAt 21 = .ok (.iconst (-1), 1) := by decide +kernel
theorem dX9_codeAt_22 : decode cX9_codeAt 22 = .ok (.ireturn, 1) := by decide +kernel
theorem dX9_walksIn_0 : decode cX9_walksIn 0 = .ok (.iconst 0, 1) := by decide +kernel
theorem dX9_walksIn_1 : decode cX9_walksIn 1 = .ok (.istore_n 1, 1) := by decide +kernel
theorem dX9_walksIn_2 : decode cX9_walksIn 2 = .ok (.iconst 0, 1) := by decide +kernel
theorem dX9_walksIn_3 : decode cX9_walksIn 3 = .ok (.istore_n 2, 1) := by decide +kernel
theorem dX9_walksIn_4 : decode cX9_walksIn 4 = .ok (.iload_n 2, 1) := by decide +kernel
theorem dX9_walksIn_5 : decode cX9_walksIn 5 = .ok (.aload_n 0, 1) := by decide +kernel
theorem dX9_walksIn_6 : decode cX9_walksIn 6 = .ok (.getfield 9, 3) := by decide +kernel
theorem dX9_walksIn_9 : decode cX9_walksIn 9 = .ok (.if_icmp .ge 23, 3) := by decide +kernel
theorem dX9_walksIn_12 : decode cX9_walksIn 12 = .ok (.aload_n 0, 1) := by decide +kernel
theorem dX9_walksIn_13 : decode cX9_walksIn 13 = .ok (.getfield 15, 3) := by decide +kernel
theorem dX9_walksIn_16 : decode cX9_walksIn 16 = .ok (.iload_n 2, 1) := by decide +kernel
theorem dX9_walksIn_17 : decode cX9_walksIn 17 = .ok (.iaload, 1) := by decide +kernel
theorem dX9_walksIn_18 : decode cX9_walksIn 18 = .ok (.bipush 100, 2) := by decide +kernel
theorem dX9_walksIn_20 : decode cX9_walksIn 20 = .ok (.if_icmp .lt 6, 3) := by decide +kernel
theorem dX9_walksIn_23 : decode cX9_walksIn 23 = .ok (.iinc 1 1, 3) := by decide +kernel
theorem dX9_walksIn_26 : decode cX9_walksIn 26 = .ok (.iinc 2 1, 3) := by decide +kernel
theorem dX9_walksIn_29 : decode cX9_walksIn 29 = .ok (.goto (-25), 3) := by decide +kernel
theorem dX9_walksIn_32 : decode cX9_walksIn 32 = .ok (.iload_n 1, 1) := by decide +kernel
theorem dX9_walksIn_33 : decode cX9_walksIn 33 = .ok (.ireturn, 1) := by decide +kernel
theorem dX9_copied_0 : decode cX9_copied 0 = .ok (.new 10, 3) := by decide +kernel
theorem dX9_copied_3 : decode cX9_copied 3 = .ok (.dup, 1) := by decide +kernel
theorem dX9_copied_4 : decode cX9_copied 4 = .ok (.aload_n 0, 1) := by decide +kernel
theorem dX9_copied_5 : decode cX9_copied 5 = .ok (.getfield 9, 3) := by decide +kernel
theorem dX9_copied_8 : decode cX9_copied 8 = .ok (.invokespecial 19, 3) := by decide +kernel
theorem dX9_copied_11 : decode cX9_copied 11 = .ok (.astore_n 1, 1) := by decide +kernel
theorem dX9_copied_12 : decode cX9_copied 12 = .ok (.aload_n 0, 1) := by decide +kernel
theorem dX9_copied_13 : decode cX9_copied 13 = .ok (.getfield 15, 3) := by decide +kernel
theorem dX9_copied_16 : decode cX9_copied 16 = .ok (.iconst 0, 1) := by decide +kernel
theorem dX9_copied_17 : decode cX9_copied 17 = .ok (.aload_n 1, 1) := by decide +kernel
theorem dX9_copied_18 : decode cX9_copied 18 = .ok (.getfield 15, 3) := by decide +kernel
theorem dX9_copied_21 : decode cX9_copied 21 = .ok (.iconst 0, 1) := by decide +kernel
theorem dX9_copied_22 : decode cX9_copied 22 = .ok (.aload_n 0, 1) := by decide +kernel
theorem dX9_copied_23 : decode cX9_copied 23 = .ok (.getfield 9, 3) := by decide +kernel
theorem dX9_copied_26 : decode cX9_copied 26 = .ok (.invokestatic 22, 3) := by decide +kernel
theorem dX9_copied_29 : decode cX9_copied 29 = .ok (.aload_n 1, 1) := by decide +kernel
theorem dX9_copied_30 : decode cX9_copied 30 = .ok (.aload_n 0, 1) := by decide +kernel
theorem dX9_copied_31 : decode cX9_copied 31 = .ok (.getfield 9, 3) := by decide +kernel
theorem dX9_copied_34 : decode cX9_copied 34 = .ok (.putfield 9, 3) := by decide +kernel
theorem dX9_copied_37 : decode cX9_copied 37 = .ok (.aload_n 1, 1) := by decide +kernel
theorem dX9_copied_38 : decode cX9_copied 38 = .ok (.areturn, 1) := by decide +kernel
theorem dX10_init_0 : decode cX10_init 0 = .ok (.aload_n 0, 1) := by decide +kernel
theorem dX10_init_1 : decode cX10_init 1 = .ok (.invokespecial 3, 3) := by decide +kernel
theorem dX10_init_4 : decode cX10_init 4 = .ok (.aload_n 0, 1) := by decide +kernel
theorem dX10_init_5 : decode cX10_init 5 = .ok (.iconst (-1), 1) := by decide +kernel
theorem dX10_init_6 : decode cX10_init 6 = .ok (.putfield 9, 3) := by decide +kernel
theorem dX10_init_9 : decode cX10_init 9 = .ok (.aload_n 0, 1) := by decide +kernel
theorem dX10_init_10 : decode cX10_init 10 = .ok (.iconst 0, 1) := by decide +kernel
theorem dX10_init_11 : decode cX10_init 11 = .ok (.putfield 15, 3) := by decide +kernel
theorem dX10_init_14 : decode cX10_init 14 = .ok (.aload_n 0, 1) := by decide +kernel
theorem dX10_init_15 : decode cX10_init 15 = .ok (.bipush 60, 2) := by decide +kernel
theorem dX10_init_17 : decode cX10_init 17 = .ok (.newarray .int, 2) := by decide +kernel
theorem dX10_init_19 : decode cX10_init 19 = .ok (.putfield 18, 3) := by decide +kernel
theorem dX10_init_22 : decode cX10_init 22 = .ok (.return_, 1) := by decide +kernel
theorem dX10_empty_0 : decode cX10_empty 0 = .ok (.aload_n 0, 1) := by decide +kernel
theorem dX10_empty_1 : decode cX10_empty 1 = .ok (.iconst (-1), 1) := by decide +kernel
theorem dX10_empty_2 : decode cX10_empty 2 = .ok (.putfield 9, 3) := by decide +kernel
theorem dX10_empty_5 : decode cX10_empty 5 = .ok (.aload_n 0, 1) := by decide +kernel
theorem dX10_empty_6 : decode cX10_empty 6 = .ok (.iconst 0, 1) := by decide +kernel
theorem dX10_empty_7 : decode cX10_empty 7 = .ok (.putfield 15, 3) := by decide +kernel
theorem dX10_empty_10 : decode cX10_empty 10 = .ok (.return_, 1) := by decide +kernel
theorem dX10_become_0 : decode cX10_become 0 = .ok (.aload_n 0, 1) := by decide +kernel
theorem dX10_become_1 : decode cX10_become 1 = .ok (.iload_n 1, 1) := by decide +kernel
theorem dX10_become_2 : decode cX10_become 2 = .ok (.putfield 9, 3) := by decide +kernel
theorem dX10_become_5 : decode cX10_become 5 = .ok (.aload_n 0, 1) := by decide +kernel
theorem dX10_become_6 : decode cX10_become 6 = .ok (.iload_n 2, 1) := by decide +kernel
theorem dX10_become_7 : decode cX10_become 7 = .ok (.putfield 15, 3) := by decide +kernel
theorem dX10_become_10 : decode cX10_become 10 = .ok (.aload_n 0, 1) := by decide +kernel
theorem dX10_become_11 : decode cX10_become 11 = .ok (.getfield 18, 3) := by decide +kernel
theorem dX10_become_14 : decode cX10_become 14 = .ok (.iconst 0, 1) := by decide +kernel
theorem dX10_become_15 : decode cX10_become 15 = .ok (.invokestatic 22, 3) := by decide +kernel
theorem dX10_become_18 : decode cX10_become 18 = .ok (.return_, 1) := by decide +kernel
theorem dX10_cut_0 : decode cX10_cut 0 = .ok (.aload_n 0, 1) := by decide +kernel
theorem dX10_cut_1 : decode cX10_cut 1 = .ok (.getfield 9, 3) := by decide +kernel
theorem dX10_cut_4 : decode cX10_cut 4 = .ok (.tableswitch 55 0 4 #[36, 39, 55, 42, 52], 36) := by decide +kernel
theorem dX10_cut_40 : decode cX10_cut 40 = .ok (.iload_n 1, 1) := by decide +kernel
theorem dX10_cut_41 : decode cX10_cut 41 = .ok (.i2b, 1) := by decide +kernel
theorem dX10_cut_42 : decode cX10_cut 42 = .ok (.ireturn, 1) := by decide +kernel
theorem dX10_cut_43 : decode cX10_cut 43 = .ok (.iload_n 1, 1) := by decide +kernel
theorem dX10_cut_44 : decode cX10_cut 44 = .ok (.i2s, 1) := by decide +kernel
theorem dX10_cut_45 : decode cX10_cut 45 = .ok (.ireturn, 1) := by decide +kernel
theorem dX10_cut_46 : decode cX10_cut 46 = .ok (.iload_n 1, 1) := by decide +kernel
theorem dX10_cut_47 : decode cX10_cut 47 = .ok (.ifCond .eq 7, 3) := by decide +kernel
theorem dX10_cut_50 : decode cX10_cut 50 = .ok (.iconst 1, 1) := by decide +kernel
theorem dX10_cut_51 : decode cX10_cut 51 = .ok (.goto 4, 3) := by decide +kernel
theorem dX10_cut_54 : decode cX10_cut 54 = .ok (.iconst 0, 1) := by decide +kernel
theorem dX10_cut_55 : decode cX10_cut 55 = .ok (.ireturn, 1) := by decide +kernel
theorem dX10_cut_56 : decode cX10_cut 56 = .ok (.iload_n 1, 1) := by decide +kernel
theorem dX10_cut_57 : decode cX10_cut 57 = .ok (.i2c, 1) := by decide +kernel
theorem dX10_cut_58 : decode cX10_cut 58 = .ok (.ireturn, 1) := by decide +kernel
theorem dX10_cut_59 : decode cX10_cut 59 = .ok (.iload_n 1, 1) := by decide +kernel
theorem dX10_cut_60 : decode cX10_cut 60 = .ok (.ireturn, 1) := by decide +kernel
theorem dX10_holds_0 : decode cX10_holds 0 = .ok (.iload_n 2, 1) := by decide +kernel
theorem dX10_holds_1 : decode cX10_holds 1 = .ok (.ifCond .lt 29, 3) := by decide +kernel
theorem dX10_holds_4 : decode cX10_holds 4 = .ok (.iload_n 1, 1) := by decide +kernel
theorem dX10_holds_5 : decode cX10_holds 5 = .ok (.ifCond .lt 25, 3) := by decide +kernel
theorem dX10_holds_8 : decode cX10_holds 8 = .ok (.iload_n 2, 1) := by decide +kernel
theorem dX10_holds_9 : decode cX10_holds 9 = .ok (.aload_n 0, 1) := by decide +kernel
theorem dX10_holds_10 : decode cX10_holds 10 = .ok (.getfield 15, 3) := by decide +kernel
theorem dX10_holds_13 : decode cX10_holds 13 = .ok (.if_icmp .gt 17, 3) := by decide +kernel
theorem dX10_holds_16 : decode cX10_holds 16 = .ok (.iload_n 1, 1) := by decide +kernel
theorem dX10_holds_17 : decode cX10_holds 17 = .ok (.aload_n 0, 1) := by decide +kernel
theorem dX10_holds_18 : decode cX10_holds 18 = .ok (.getfield 15, 3) := by decide +kernel
theorem dX10_holds_21 : decode cX10_holds 21 = .ok (.iload_n 2, 1) := by decide +kernel
theorem dX10_holds_22 : decode cX10_holds 22 = .ok (.isub, 1) := by decide +kernel
theorem dX10_holds_23 : decode cX10_holds 23 = .ok (.if_icmp .gt 7, 3) := by decide +kernel
theorem dX10_holds_26 : decode cX10_holds 26 = .ok (.iconst 1, 1) := by decide +kernel
theorem dX10_holds_27 : decode cX10_holds 27 = .ok (.goto 4, 3) := by decide +kernel
theorem dX10_holds_30 : decode cX10_holds 30 = .ok (.iconst 0, 1) := by decide +kernel
theorem dX10_holds_31 : decode cX10_holds 31 = .ok (.ireturn, 1) := by decide +kernel
theorem dX11_init_0 : decode cX11_init 0 = .ok (.aload_n 0, 1) := by decide +kernel
theorem dX11_init_1 : decode cX11_init 1 = .ok (.invokespecial 1, 3) := by decide +kernel
theorem dX11_init_4 : decode cX11_init 4 = .ok (.aload_n 0, 1) := by decide +kernel
theorem dX11_init_5 : decode cX11_init 5 = .ok (.bipush 15, 2) := by decide +kernel
theorem dX11_init_7 : decode cX11_init 7 = .ok (.anewarray 9, 3) := by decide +kernel
theorem dX11_init_10 : decode cX11_init 10 = .ok (.putfield 11, 3) := by decide +kernel
theorem dX11_init_13 : decode cX11_init 13 = .ok (.aload_n 0, 1) := by decide +kernel
theorem dX11_init_14 : decode cX11_init 14 = .ok (.iconst 0, 1) := by decide +kernel
theorem dX11_init_15 : decode cX11_init 15 = .ok (.putfield 15, 3) := by decide +kernel
theorem dX11_init_18 : decode cX11_init 18 = .ok (.aload_n 0, 1) := by decide +kernel
theorem dX11_init_19 : decode cX11_init 19 = .ok (.new 19, 3) := by decide +kernel
theorem dX11_init_22 : decode cX11_init 22 = .ok (.dup, 1) := by decide +kernel
theorem dX11_init_23 : decode cX11_init 23 = .ok (.invokespecial 21, 3) := by decide +kernel
theorem dX11_init_26 : decode cX11_init 26 = .ok (.putfield 22, 3) := by decide +kernel
theorem dX11_init_29 : decode cX11_init 29 = .ok (.aload_n 0, 1) := by decide +kernel
theorem dX11_init_30 : decode cX11_init 30 = .ok (.bipush 9, 2) := by decide +kernel
theorem dX11_init_32 : decode cX11_init 32 = .ok (.newarray .int, 2) := by decide +kernel
theorem dX11_init_34 : decode cX11_init 34 = .ok (.putfield 26, 3) := by decide +kernel
theorem dX11_init_37 : decode cX11_init 37 = .ok (.aload_n 0, 1) := by decide +kernel
theorem dX11_init_38 : decode cX11_init 38 = .ok (.bipush 9, 2) := by decide +kernel
theorem dX11_init_40 : decode cX11_init 40 = .ok (.newarray .int, 2) := by decide +kernel
theorem dX11_init_42 : decode cX11_init 42 = .ok (.putfield 30, 3) := by decide +kernel
theorem dX11_init_45 : decode cX11_init 45 = .ok (.aload_n 0, 1) := by decide +kernel
theorem dX11_init_46 : decode cX11_init 46 = .ok (.new 33, 3) := by decide +kernel
theorem dX11_init_49 : decode cX11_init 49 = .ok (.dup, 1) := by decide +kernel
theorem dX11_init_50 : decode cX11_init 50 = .ok (.invokespecial 35, 3) := by decide +kernel
theorem dX11_init_53 : decode cX11_init 53 = .ok (.putfield 36, 3) := by decide +kernel
theorem dX11_init_56 : decode cX11_init 56 = .ok (.aload_n 0, 1) := by decide +kernel
theorem dX11_init_57 : decode cX11_init 57 = .ok (.iconst 0, 1) := by decide +kernel
theorem dX11_init_58 : decode cX11_init 58 = .ok (.putfield 40, 3) := by decide +kernel
theorem dX11_init_61 : decode cX11_init 61 = .ok (.aload_n 0, 1) := by decide +kernel
theorem dX11_init_62 : decode cX11_init 62 = .ok (.new 44, 3) := by decide +kernel
theorem dX11_init_65 : decode cX11_init 65 = .ok (.dup, 1) := by decide +kernel
theorem dX11_init_66 : decode cX11_init 66 = .ok (.sipush 300, 3) := by decide +kernel
theorem dX11_init_69 : decode cX11_init 69 = .ok (.invokespecial 46, 3) := by decide +kernel
theorem dX11_init_72 : decode cX11_init 72 = .ok (.putfield 49, 3) := by decide +kernel
theorem dX11_init_75 : decode cX11_init 75 = .ok (.aload_n 0, 1) := by decide +kernel
theorem dX11_init_76 : decode cX11_init 76 = .ok (.new 53, 3) := by decide +kernel
theorem dX11_init_79 : decode cX11_init 79 = .ok (.dup, 1) := by decide +kernel
theorem dX11_init_80 : decode cX11_init 80 = .ok (.invokespecial 55, 3) := by decide +kernel
theorem dX11_init_83 : decode cX11_init 83 = .ok (.putfield 56, 3) := by decide +kernel
theorem dX11_init_86 : decode cX11_init 86 = .ok (.aload_n 0, 1) := by decide +kernel
theorem dX11_init_87 : decode cX11_init 87 = .ok (.new 60, 3) := by decide +kernel
theorem dX11_init_90 : decode cX11_init 90 = .ok (.dup, 1) := by decide +kernel
theorem dX11_init_91 : decode cX11_init 91 = .ok (.invokespecial 62, 3) := by decide +kernel
theorem dX11_init_94 : decode cX11_init 94 = .ok (.putfield 63, 3) := by decide +kernel
theorem dX11_init_97 : decode cX11_init 97 = .ok (.aload_n 0, 1) := by decide +kernel
theorem dX11_init_98 : decode cX11_init 98 = .ok (.new 33, 3) := by decide +kernel
theorem dX11_init_101 : decode cX11_init 101 = .ok (.dup, 1) := by decide +kernel
theorem dX11_init_102 : decode cX11_init 102 = .ok (.invokespecial 35, 3) := by decide +kernel
theorem dX11_init_105 : decode cX11_init 105 = .ok (.putfield 67, 3) := by decide +kernel
theorem dX11_init_108 : decode cX11_init 108 = .ok (.aload_n 0, 1) := by decide +kernel
theorem dX11_init_109 : decode cX11_init 109 = .ok (.new 33, 3) := by decide +kernel
theorem dX11_init_112 : decode cX11_init 112 = .ok (.dup, 1) := by decide +kernel
theorem dX11_init_113 : decode cX11_init 113 = .ok (.invokespecial 35, 3) := by decide +kernel
theorem dX11_init_116 : decode cX11_init 116 = .ok (.putfield 70, 3) := by decide +kernel
theorem dX11_init_119 : decode cX11_init 119 = .ok (.aload_n 0, 1) := by decide +kernel
theorem dX11_init_120 : decode cX11_init 120 = .ok (.new 33, 3) := by decide +kernel
theorem dX11_init_123 : decode cX11_init 123 = .ok (.dup, 1) := by decide +kernel
theorem dX11_init_124 : decode cX11_init 124 = .ok (.invokespecial 35, 3) := by decide +kernel
theorem dX11_init_127 : decode cX11_init 127 = .ok (.putfield 73, 3) := by decide +kernel
theorem dX11_init_130 : decode cX11_init 130 = .ok (.aload_n 0, 1) := by decide +kernel
theorem dX11_init_131 : decode cX11_init 131 = .ok (.new 76, 3) := by decide +kernel
theorem dX11_init_134 : decode cX11_init 134 = .ok (.dup, 1) := by decide +kernel
theorem dX11_init_135 : decode cX11_init 135 = .ok (.invokespecial 78, 3) := by decide +kernel
theorem dX11_init_138 : decode cX11_init 138 = .ok (.putfield 79, 3) := by decide +kernel
theorem dX11_init_141 : decode cX11_init 141 = .ok (.aload_n 0, 1) := by decide +kernel
theorem dX11_init_142 : decode cX11_init 142 = .ok (.new 83, 3) := by decide +kernel
theorem dX11_init_145 : decode cX11_init 145 = .ok (.dup, 1) := by decide +kernel
theorem dX11_init_146 : decode cX11_init 146 = .ok (.invokespecial 85, 3) := by decide +kernel
theorem dX11_init_149 : decode cX11_init 149 = .ok (.putfield 86, 3) := by decide +kernel
theorem dX11_init_152 : decode cX11_init 152 = .ok (.aload_n 0, 1) := by decide +kernel
theorem dX11_init_153 : decode cX11_init 153 = .ok (.new 83, 3) := by decide +kernel
theorem dX11_init_156 : decode cX11_init 156 = .ok (.dup, 1) := by decide +kernel
theorem dX11_init_157 : decode cX11_init 157 = .ok (.invokespecial 85, 3) := by decide +kernel
theorem dX11_init_160 : decode cX11_init 160 = .ok (.putfield 90, 3) := by decide +kernel
theorem dX11_init_163 : decode cX11_init 163 = .ok (.aload_n 0, 1) := by decide +kernel
theorem dX11_init_164 : decode cX11_init 164 = .ok (.new 93, 3) := by decide +kernel
theorem dX11_init_167 : decode cX11_init 167 = .ok (.dup, 1) := by decide +kernel
theorem dX11_init_168 : decode cX11_init 168 = .ok (.invokespecial 95, 3) := by decide +kernel
theorem dX11_init_171 : decode cX11_init 171 = .ok (.putfield 96, 3) := by decide +kernel
theorem dX11_init_174 : decode cX11_init 174 = .ok (.aload_n 0, 1) := by decide +kernel
theorem dX11_init_175 : decode cX11_init 175 = .ok (.new 100, 3) := by decide +kernel
theorem dX11_init_178 : decode cX11_init 178 = .ok (.dup, 1) := by decide +kernel
theorem dX11_init_179 : decode cX11_init 179 = .ok (.invokespecial 102, 3) := by decide +kernel
theorem dX11_init_182 : decode cX11_init 182 = .ok (.putfield 103, 3) := by decide +kernel
theorem dX11_init_185 : decode cX11_init 185 = .ok (.aload_n 0, 1) := by decide +kernel
theorem dX11_init_186 : decode cX11_init 186 = .ok (.bipush 6, 2) := by decide +kernel
theorem dX11_init_188 : decode cX11_init 188 = .ok (.anewarray 107, 3) := by decide +kernel
theorem dX11_init_191 : decode cX11_init 191 = .ok (.putfield 109, 3) := by decide +kernel
theorem dX11_init_194 : decode cX11_init 194 = .ok (.iconst 0, 1) := by decide +kernel
theorem dX11_init_195 : decode cX11_init 195 = .ok (.istore_n 1, 1) := by decide +kernel
theorem dX11_init_196 : decode cX11_init 196 = .ok (.iload_n 1, 1) := by decide +kernel
theorem dX11_init_197 : decode cX11_init 197 = .ok (.bipush 6, 2) := by decide +kernel
theorem dX11_init_199 : decode cX11_init 199 = .ok (.if_icmp .ge 22, 3) := by decide +kernel
theorem dX11_init_202 : decode cX11_init 202 = .ok (.aload_n 0, 1) := by decide +kernel
theorem dX11_init_203 : decode cX11_init 203 = .ok (.getfield 109, 3) := by decide +kernel
theorem dX11_init_206 : decode cX11_init 206 = .ok (.iload_n 1, 1) := by decide +kernel
theorem dX11_init_207 : decode cX11_init 207 = .ok (.new 107, 3) := by decide +kernel
theorem dX11_init_210 : decode cX11_init 210 = .ok (.dup, 1) := by decide +kernel
theorem dX11_init_211 : decode cX11_init 211 = .ok (.invokespecial 113, 3) := by decide +kernel
theorem dX11_init_214 : decode cX11_init 214 = .ok (.aastore, 1) := by decide +kernel
theorem dX11_init_215 : decode cX11_init 215 = .ok (.iinc 1 1, 3) := by decide +kernel
theorem dX11_init_218 : decode cX11_init 218 = .ok (.goto (-22), 3) := by decide +kernel
theorem dX11_init_221 : decode cX11_init 221 = .ok (.return_, 1) := by decide +kernel
theorem dX11_person_0 : decode cX11_person 0 = .ok (.iload_n 1, 1) := by decide +kernel
theorem dX11_person_1 : decode cX11_person 1 = .ok (.ifCond .lt 30, 3) := by decide +kernel
theorem dX11_person_4 : decode cX11_person 4 = .ok (.iload_n 1, 1) := by decide +kernel
theorem dX11_person_5 : decode cX11_person 5 = .ok (.iconst 5, 1) := by decide +kernel
theorem dX11_person_6 : decode cX11_person 6 = .ok (.if_icmp .ge 25, 3) := by decide +kernel
theorem dX11_person_9 : decode cX11_person 9 = .ok (.iload_n 2, 1) := by decide +kernel
theorem dX11_person_10 : decode cX11_person 10 = .ok (.iconst 1, 1) := by decide +kernel
theorem dX11_person_11 : decode cX11_person 11 = .ok (.if_icmp .lt 20, 3) := by decide +kernel
theorem dX11_person_14 : decode cX11_person 14 = .ok (.iload_n 2, 1) := by decide +kernel
theorem dX11_person_15 : decode cX11_person 15 = .ok (.bipush 20, 2) := by decide +kernel
theorem dX11_person_17 : decode cX11_person 17 = .ok (.if_icmp .gt 14, 3) := by decide +kernel
theorem dX11_person_20 : decode cX11_person 20 = .ok (.iload_n 3, 1) := by decide +kernel
theorem dX11_person_21 : decode cX11_person 21 = .ok (.iconst 1, 1) := by decide +kernel
theorem dX11_person_22 : decode cX11_person 22 = .ok (.if_icmp .lt 9, 3) := by decide +kernel
theorem dX11_person_25 : decode cX11_person 25 = .ok (.iload_n 3, 1) := by decide +kernel
theorem dX11_person_26 : decode cX11_person 26 = .ok (.bipush 9, 2) := by decide +kernel
theorem dX11_person_28 : decode cX11_person 28 = .ok (.if_icmp .le 6, 3) := by decide +kernel
theorem dX11_person_31 : decode cX11_person 31 = .ok (.bipush (-2), 2) := by decide +kernel
theorem dX11_person_33 : decode cX11_person 33 = .ok (.ireturn, 1) := by decide +kernel
theorem dX11_person_34 : decode cX11_person 34 = .ok (.aload_n 0, 1) := by decide +kernel
theorem dX11_person_35 : decode cX11_person 35 = .ok (.getfield 15, 3) := by decide +kernel
theorem dX11_person_38 : decode cX11_person 38 = .ok (.bipush 15, 2) := by decide +kernel
theorem dX11_person_40 : decode cX11_person 40 = .ok (.if_icmp .lt 6, 3) := by decide +kernel
theorem dX11_person_43 : decode cX11_person 43 = .ok (.bipush (-4), 2) := by decide +kernel
theorem dX11_person_45 : decode cX11_person 45 = .ok (.ireturn, 1) := by decide +kernel
theorem dX11_person_46 : decode cX11_person 46 = .ok (.aload_n 0, 1) := by decide +kernel
theorem dX11_person_47 : decode cX11_person 47 = .ok (.getfield 15, 3) := by decide +kernel
theorem dX11_person_50 : decode cX11_person 50 = .ok (.istore 4, 2) := by decide +kernel
theorem dX11_person_52 : decode cX11_person 52 = .ok (.aload_n 0, 1) := by decide +kernel
theorem dX11_person_53 : decode cX11_person 53 = .ok (.getfield 11, 3) := by decide +kernel
theorem dX11_person_56 : decode cX11_person 56 = .ok (.iload 4, 2) := by decide +kernel
theorem dX11_person_58 : decode cX11_person 58 = .ok (.new 9, 3) := by decide +kernel
theorem dX11_person_61 : decode cX11_person 61 = .ok (.dup, 1) := by decide +kernel
theorem dX11_person_62 : decode cX11_person 62 = .ok (.iload 4, 2) := by decide +kernel
theorem dX11_person_64 : decode cX11_person 64 = .ok (.iload_n 1, 1) := by decide +kernel
theorem dX11_person_65 : decode cX11_person 65 = .ok (.iload_n 2, 1) := by decide +kernel
theorem dX11_person_66 : decode cX11_person 66 = .ok (.iload_n 3, 1) := by decide +kernel
theorem dX11_person_67 : decode cX11_person 67 = .ok (.invokespecial 114, 3) := by decide +kernel
theorem dX11_person_70 : decode cX11_person 70 = .ok (.aastore, 1) := by decide +kernel
theorem dX11_person_71 : decode cX11_person 71 = .ok (.aload_n 0, 1) := by decide +kernel
theorem dX11_person_72 : decode cX11_person 72 = .ok (.dup, 1) := by decide +kernel
theorem dX11_person_73 : decode cX11_person 73 = .ok (.getfield 15, 3) := by decide +kernel
theorem dX11_person_76 : decode cX11_person 76 = .ok (.iconst 1, 1) := by decide +kernel
theorem dX11_person_77 : decode cX11_person 77 = .ok (.iadd, 1) := by decide +kernel
theorem dX11_person_78 : decode cX11_person 78 = .ok (.putfield 15, 3) := by decide +kernel
theorem dX11_person_81 : decode cX11_person 81 = .ok (.iload 4, 2) := by decide +kernel
theorem dX11_person_83 : decode cX11_person 83 = .ok (.ireturn, 1) := by decide +kernel
theorem dX11_ring_0 : decode cX11_ring 0 = .ok (.iload_n 1, 1) := by decide +kernel
theorem dX11_ring_1 : decode cX11_ring 1 = .ok (.iconst 3, 1) := by decide +kernel
theorem dX11_ring_2 : decode cX11_ring 2 = .ok (.if_icmp .lt 9, 3) := by decide +kernel
theorem dX11_ring_5 : decode cX11_ring 5 = .ok (.iload_n 1, 1) := by decide +kernel
theorem dX11_ring_6 : decode cX11_ring 6 = .ok (.bipush 9, 2) := by decide +kernel
theorem dX11_ring_8 : decode cX11_ring 8 = .ok (.if_icmp .le 6, 3) := by decide +kernel
theorem dX11_ring_11 : decode cX11_ring 11 = .ok (.bipush (-2), 2) := by decide +kernel
theorem dX11_ring_13 : decode cX11_ring 13 = .ok (.ireturn, 1) := by decide +kernel
theorem dX11_ring_14 : decode cX11_ring 14 = .ok (.aload_n 0, 1) := by decide +kernel
theorem dX11_ring_15 : decode cX11_ring 15 = .ok (.getfield 40, 3) := by decide +kernel
theorem dX11_ring_18 : decode cX11_ring 18 = .ok (.ifCond .eq 6, 3) := by decide +kernel
theorem dX11_ring_21 : decode cX11_ring 21 = .ok (.bipush (-3), 2) := by decide +kernel
theorem dX11_ring_23 : decode cX11_ring 23 = .ok (.ireturn, 1) := by decide +kernel
theorem dX11_ring_24 : decode cX11_ring 24 = .ok (.aload_n 0, 1) := by decide +kernel
theorem dX11_ring_25 : decode cX11_ring 25 = .ok (.getfield 36, 3) := by decide +kernel
theorem dX11_ring_28 : decode cX11_ring 28 = .ok (.iload_n 1, 1) := by decide +kernel
theorem dX11_ring_29 : decode cX11_ring 29 = .ok (.invokevirtual 117, 3) := by decide +kernel
theorem dX11_ring_32 : decode cX11_ring 32 = .ok (.aload_n 0, 1) := by decide +kernel
theorem dX11_ring_33 : decode cX11_ring 33 = .ok (.getfield 26, 3) := by decide +kernel
theorem dX11_ring_36 : decode cX11_ring 36 = .ok (.bipush (-5), 2) := by decide +kernel
theorem dX11_ring_38 : decode cX11_ring 38 = .ok (.invokestatic 120, 3) := by decide +kernel
theorem dX11_ring_41 : decode cX11_ring 41 = .ok (.aload_n 0, 1) := by decide +kernel
theorem dX11_ring_42 : decode cX11_ring 42 = .ok (.getfield 30, 3) := by decide +kernel
theorem dX11_ring_45 : decode cX11_ring 45 = .ok (.iconst 0, 1) := by decide +kernel
theorem dX11_ring_46 : decode cX11_ring 46 = .ok (.invokestatic 120, 3) := by decide +kernel
theorem dX11_ring_49 : decode cX11_ring 49 = .ok (.aload_n 0, 1) := by decide +kernel
theorem dX11_ring_50 : decode cX11_ring 50 = .ok (.getfield 49, 3) := by decide +kernel
theorem dX11_ring_53 : decode cX11_ring 53 = .ok (.invokevirtual 126, 3) := by decide +kernel
theorem dX11_ring_56 : decode cX11_ring 56 = .ok (.aload_n 0, 1) := by decide +kernel
theorem dX11_ring_57 : decode cX11_ring 57 = .ok (.getfield 56, 3) := by decide +kernel
theorem dX11_ring_60 : decode cX11_ring 60 = .ok (.iload_n 1, 1) := by decide +kernel
theorem dX11_ring_61 : decode cX11_ring 61 = .ok (.aload_n 0, 1) := by decide +kernel
theorem dX11_ring_62 : decode cX11_ring 62 = .ok (.getfield 30, 3) := by decide +kernel
theorem dX11_ring_65 : decode cX11_ring 65 = .ok (.invokevirtual 129, 3) := by decide +kernel
theorem dX11_ring_68 : decode cX11_ring 68 = .ok (.iconst 1, 1) := by decide +kernel
theorem dX11_ring_69 : decode cX11_ring 69 = .ok (.ireturn, 1) := by decide +kernel
theorem dX11_stand_0 : decode cX11_stand 0 = .ok (.aload_n 0, 1) := by decide +kernel
theorem dX11_stand_1 : decode cX11_stand 1 = .ok (.iload_n 2, 1) := by decide +kernel
theorem dX11_stand_2 : decode cX11_stand 2 = .ok (.invokevirtual 133, 3) := by decide +kernel
theorem dX11_stand_5 : decode cX11_stand 5 = .ok (.astore_n 3, 1) := by decide +kernel
theorem dX11_stand_6 : decode cX11_stand 6 = .ok (.aload_n 0, 1) := by decide +kernel
theorem dX11_stand_7 : decode cX11_stand 7 = .ok (.iload_n 1, 1) := by decide +kernel
theorem dX11_stand_8 : decode cX11_stand 8 = .ok (.invokevirtual 137, 3) := by decide +kernel
theorem dX11_stand_11 : decode cX11_stand 11 = .ok (.ifCond .eq 7, 3) := by decide +kernel
theorem dX11_stand_14 : decode cX11_stand 14 = .ok (.aload_n 3, 1) := by decide +kernel
theorem dX11_stand_15 : decode cX11_stand 15 = .ok (.ifnonnull 5, 3) := by decide +kernel
theorem dX11_stand_18 : decode cX11_stand 18 = .ok (.iconst (-1), 1) := by decide +kernel
theorem dX11_stand_19 : decode cX11_stand 19 = .ok (.ireturn, 1) := by decide +kernel
theorem dX11_stand_20 : decode cX11_stand 20 = .ok (.aload_n 0, 1) := by decide +kernel
theorem dX11_stand_21 : decode cX11_stand 21 = .ok (.getfield 40, 3) := by decide +kernel
theorem dX11_stand_24 : decode cX11_stand 24 = .ok (.ifCond .ne 11, 3) := by decide +kernel
theorem dX11_stand_27 : decode cX11_stand 27 = .ok (.aload_n 0, 1) := by decide +kernel
theorem dX11_stand_28 : decode cX11_stand 28 = .ok (.iload_n 2, 1) := by decide +kernel
theorem dX11_stand_29 : decode cX11_stand 29 = .ok (.invokevirtual 141, 3) := by decide +kernel
theorem dX11_stand_32 : decode cX11_stand 32 = .ok (.ifCond .eq 6, 3) := by decide +kernel
theorem dX11_stand_35 : decode cX11_stand 35 = .ok (.bipush (-3), 2) := by decide +kernel
theorem dX11_stand_37 : decode cX11_stand 37 = .ok (.ireturn, 1) := by decide +kernel
theorem dX11_stand_38 : decode cX11_stand 38 = .ok (.aload_n 3, 1) := by decide +kernel
theorem dX11_stand_39 : decode cX11_stand 39 = .ok (.getfield 144, 3) := by decide +kernel
theorem dX11_stand_42 : decode cX11_stand 42 = .ok (.iconst 4, 1) := by decide +kernel
theorem dX11_stand_43 : decode cX11_stand 43 = .ok (.if_icmp .ne 6, 3) := by decide +kernel
theorem dX11_stand_46 : decode cX11_stand 46 = .ok (.bipush (-12), 2) := by decide +kernel
theorem dX11_stand_48 : decode cX11_stand 48 = .ok (.ireturn, 1) := by decide +kernel
theorem dX11_stand_49 : decode cX11_stand 49 = .ok (.aload_n 0, 1) := by decide +kernel
theorem dX11_stand_50 : decode cX11_stand 50 = .ok (.getfield 26, 3) := by decide +kernel
theorem dX11_stand_53 : decode cX11_stand 53 = .ok (.iload_n 1, 1) := by decide +kernel
theorem dX11_stand_54 : decode cX11_stand 54 = .ok (.iaload, 1) := by decide +kernel
theorem dX11_stand_55 : decode cX11_stand 55 = .ok (.istore 4, 2) := by decide +kernel
theorem dX11_stand_57 : decode cX11_stand 57 = .ok (.aload_n 0, 1) := by decide +kernel
theorem dX11_stand_58 : decode cX11_stand 58 = .ok (.getfield 26, 3) := by decide +kernel
theorem dX11_stand_61 : decode cX11_stand 61 = .ok (.iload_n 1, 1) := by decide +kernel
theorem dX11_stand_62 : decode cX11_stand 62 = .ok (.iload_n 2, 1) := by decide +kernel
theorem dX11_stand_63 : decode cX11_stand 63 = .ok (.iastore, 1) := by decide +kernel
theorem dX11_stand_64 : decode cX11_stand 64 = .ok (.iload 4, 2) := by decide +kernel
theorem dX11_stand_66 : decode cX11_stand 66 = .ok (.ireturn, 1) := by decide +kernel
theorem dX11_ribbon_0 : decode cX11_ribbon 0 = .ok (.aload_n 0, 1) := by decide +kernel
theorem dX11_ribbon_1 : decode cX11_ribbon 1 = .ok (.iload_n 1, 1) := by decide +kernel
theorem dX11_ribbon_2 : decode cX11_ribbon 2 = .ok (.invokevirtual 137, 3) := by decide +kernel
theorem dX11_ribbon_5 : decode cX11_ribbon 5 = .ok (.ifCond .ne 5, 3) := by decide +kernel
theorem dX11_ribbon_8 : decode cX11_ribbon 8 = .ok (.iconst (-1), 1) := by decide +kernel
theorem dX11_ribbon_9 : decode cX11_ribbon 9 = .ok (.ireturn, 1) := by decide +kernel
theorem dX11_ribbon_10 : decode cX11_ribbon 10 = .ok (.iload_n 2, 1) := by decide +kernel
theorem dX11_ribbon_11 : decode cX11_ribbon 11 = .ok (.invokestatic 147, 3) := by decide +kernel
theorem dX11_ribbon_14 : decode cX11_ribbon 14 = .ok (.ifCond .eq 13, 3) := by decide +kernel
theorem dX11_ribbon_17 : decode cX11_ribbon 17 = .ok (.iload_n 3, 1) := by decide +kernel
theorem dX11_ribbon_18 : decode cX11_ribbon 18 = .ok (.ifCond .lt 9, 3) := by decide +kernel
theorem dX11_ribbon_21 : decode cX11_ribbon 21 = .ok (.iload_n 3, 1) := by decide +kernel
theorem dX11_ribbon_22 : decode cX11_ribbon 22 = .ok (.ldc 150, 2) := by decide +kernel
theorem dX11_ribbon_24 : decode cX11_ribbon 24 = .ok (.if_icmp .le 6, 3) := by decide +kernel
theorem dX11_ribbon_27 : decode cX11_ribbon 27 = .ok (.bipush (-2), 2) := by decide +kernel
theorem dX11_ribbon_29 : decode cX11_ribbon 29 = .ok (.ireturn, 1) := by decide +kernel
theorem dX11_ribbon_30 : decode cX11_ribbon 30 = .ok (.aload_n 0, 1) := by decide +kernel
theorem dX11_ribbon_31 : decode cX11_ribbon 31 = .ok (.getfield 40, 3) := by decide +kernel
theorem dX11_ribbon_34 : decode cX11_ribbon 34 = .ok (.ifCond .eq 6, 3) := by decide +kernel
theorem dX11_ribbon_37 : decode cX11_ribbon 37 = .ok (.bipush (-3), 2) := by decide +kernel
theorem dX11_ribbon_39 : decode cX11_ribbon 39 = .ok (.ireturn, 1) := by decide +kernel
theorem dX11_ribbon_40 : decode cX11_ribbon 40 = .ok (.aload_n 0, 1) := by decide +kernel
theorem dX11_ribbon_41 : decode cX11_ribbon 41 = .ok (.getfield 30, 3) := by decide +kernel
theorem dX11_ribbon_44 : decode cX11_ribbon 44 = .ok (.iload_n 1, 1) := by decide +kernel
theorem dX11_ribbon_45 : decode cX11_ribbon 45 = .ok (.iload_n 2, 1) := by decide +kernel
theorem dX11_ribbon_46 : decode cX11_ribbon 46 = .ok (.iastore, 1) := by decide +kernel
theorem dX11_ribbon_47 : decode cX11_ribbon 47 = .ok (.aload_n 0, 1) := by decide +kernel
theorem dX11_ribbon_48 : decode cX11_ribbon 48 = .ok (.getfield 36, 3) := by decide +kernel
theorem dX11_ribbon_51 : decode cX11_ribbon 51 = .ok (.getfield 151, 3) := by decide +kernel
theorem dX11_ribbon_54 : decode cX11_ribbon 54 = .ok (.iload_n 1, 1) := by decide +kernel
theorem dX11_ribbon_55 : decode cX11_ribbon 55 = .ok (.iload_n 3, 1) := by decide +kernel
theorem dX11_ribbon_56 : decode cX11_ribbon 56 = .ok (.iastore, 1) := by decide +kernel
theorem dX11_ribbon_57 : decode cX11_ribbon 57 = .ok (.iconst 1, 1) := by decide +kernel
theorem dX11_ribbon_58 : decode cX11_ribbon 58 = .ok (.ireturn, 1) := by decide +kernel
theorem dX11_at_0 : decode cX11_at 0 = .ok (.aload_n 0, 1) := by decide +kernel
theorem dX11_at_1 : decode cX11_at 1 = .ok (.iload_n 1, 1) := by decide +kernel
theorem dX11_at_2 : decode cX11_at 2 = .ok (.invokevirtual 137, 3) := by decide +kernel
theorem dX11_at_5 : decode cX11_at 5 = .ok (.ifCond .ne 6, 3) := by decide +kernel
theorem dX11_at_8 : decode cX11_at 8 = .ok (.bipush (-6), 2) := by decide +kernel
theorem dX11_at_10 : decode cX11_at 10 = .ok (.ireturn, 1) := by decide +kernel
theorem dX11_at_11 : decode cX11_at 11 = .ok (.aload_n 0, 1) := by decide +kernel
theorem dX11_at_12 : decode cX11_at 12 = .ok (.getfield 36, 3) := by decide +kernel
theorem dX11_at_15 : decode cX11_at 15 = .ok (.getfield 154, 3) := by decide +kernel
theorem dX11_at_18 : decode cX11_at 18 = .ok (.iload_n 1, 1) := by decide +kernel
theorem dX11_at_19 : decode cX11_at 19 = .ok (.iaload, 1) := by decide +kernel
theorem dX11_at_20 : decode cX11_at 20 = .ok (.istore_n 3, 1) := by decide +kernel
theorem dX11_at_21 : decode cX11_at 21 = .ok (.iload_n 2, 1) := by decide +kernel
theorem dX11_at_22 : decode cX11_at 22 = .ok (.tableswitch 56 0 3 #[30, 37, 44, 54], 30) := by decide +kernel
theorem dX11_at_52 : decode cX11_at 52 = .ok (.aload_n 0, 1) := by decide +kernel
theorem dX11_at_53 : decode cX11_at 53 = .ok (.getfield 26, 3) := by decide +kernel
theorem dX11_at_56 : decode cX11_at 56 = .ok (.iload_n 3, 1) := by decide +kernel
theorem dX11_at_57 : decode cX11_at 57 = .ok (.iaload, 1) := by decide +kernel
theorem dX11_at_58 : decode cX11_at 58 = .ok (.ireturn, 1) := by decide +kernel
theorem dX11_at_59 : decode cX11_at 59 = .ok (.aload_n 0, 1) := by decide +kernel
theorem dX11_at_60 : decode cX11_at 60 = .ok (.getfield 30, 3) := by decide +kernel
theorem dX11_at_63 : decode cX11_at 63 = .ok (.iload_n 3, 1) := by decide +kernel
theorem dX11_at_64 : decode cX11_at 64 = .ok (.iaload, 1) := by decide +kernel
theorem dX11_at_65 : decode cX11_at 65 = .ok (.ireturn, 1) := by decide +kernel
theorem dX11_at_66 : decode cX11_at 66 = .ok (.aload_n 0, 1) := by decide +kernel
theorem dX11_at_67 : decode cX11_at 67 = .ok (.getfield 36, 3) := by decide +kernel
theorem dX11_at_70 : decode cX11_at 70 = .ok (.getfield 151, 3) := by decide +kernel
theorem dX11_at_73 : decode cX11_at 73 = .ok (.iload_n 3, 1) := by decide +kernel
theorem dX11_at_74 : decode cX11_at 74 = .ok (.iaload, 1) := by decide +kernel
theorem dX11_at_75 : decode cX11_at 75 = .ok (.ireturn, 1) := by decide +kernel
theorem dX11_at_76 : decode cX11_at 76 = .ok (.iload_n 3, 1) := by decide +kernel
theorem dX11_at_77 : decode cX11_at 77 = .ok (.ireturn, 1) := by decide +kernel
theorem dX11_at_78 : decode cX11_at 78 = .ok (.bipush (-6), 2) := by decide +kernel
theorem dX11_at_80 : decode cX11_at 80 = .ok (.ireturn, 1) := by decide +kernel
theorem dX11_begin_0 : decode cX11_begin 0 = .ok (.aload_n 0, 1) := by decide +kernel
theorem dX11_begin_1 : decode cX11_begin 1 = .ok (.getfield 40, 3) := by decide +kernel
theorem dX11_begin_4 : decode cX11_begin 4 = .ok (.ifCond .ne 22, 3) := by decide +kernel
theorem dX11_begin_7 : decode cX11_begin 7 = .ok (.aload_n 0, 1) := by decide +kernel
theorem dX11_begin_8 : decode cX11_begin 8 = .ok (.getfield 36, 3) := by decide +kernel
theorem dX11_begin_11 : decode cX11_begin 11 = .ok (.getfield 157, 3) := by decide +kernel
theorem dX11_begin_14 : decode cX11_begin 14 = .ok (.ifCond .eq 12, 3) := by decide +kernel
theorem dX11_begin_17 : decode cX11_begin 17 = .ok (.aload_n 0, 1) := by decide +kernel
theorem dX11_begin_18 : decode cX11_begin 18 = .ok (.bipush (-5), 2) := by decide +kernel
theorem dX11_begin_20 : decode cX11_begin 20 = .ok (.invokevirtual 141, 3) := by decide +kernel
theorem dX11_begin_23 : decode cX11_begin 23 = .ok (.ifCond .eq 6, 3) := by decide +kernel
theorem dX11_begin_26 : decode cX11_begin 26 = .ok (.bipush (-3), 2) := by decide +kernel
theorem dX11_begin_28 : decode cX11_begin 28 = .ok (.ireturn, 1) := by decide +kernel
theorem dX11_begin_29 : decode cX11_begin 29 = .ok (.aload_n 0, 1) := by decide +kernel
theorem dX11_begin_30 : decode cX11_begin 30 = .ok (.getfield 36, 3) := by decide +kernel
theorem dX11_begin_33 : decode cX11_begin 33 = .ok (.invokevirtual 160, 3) := by decide +kernel
theorem dX11_begin_36 : decode cX11_begin 36 = .ok (.aload_n 0, 1) := by decide +kernel
theorem dX11_begin_37 : decode cX11_begin 37 = .ok (.getfield 49, 3) := by decide +kernel
theorem dX11_begin_40 : decode cX11_begin 40 = .ok (.invokevirtual 126, 3) := by decide +kernel
theorem dX11_begin_43 : decode cX11_begin 43 = .ok (.aload_n 0, 1) := by decide +kernel
theorem dX11_begin_44 : decode cX11_begin 44 = .ok (.getfield 56, 3) := by decide +kernel
theorem dX11_begin_47 : decode cX11_begin 47 = .ok (.aload_n 0, 1) := by decide +kernel
theorem dX11_begin_48 : decode cX11_begin 48 = .ok (.getfield 36, 3) := by decide +kernel
theorem dX11_begin_51 : decode cX11_begin 51 = .ok (.getfield 157, 3) := by decide +kernel
theorem dX11_begin_54 : decode cX11_begin 54 = .ok (.aload_n 0, 1) := by decide +kernel
theorem dX11_begin_55 : decode cX11_begin 55 = .ok (.getfield 30, 3) := by decide +kernel
theorem dX11_begin_58 : decode cX11_begin 58 = .ok (.invokevirtual 129, 3) := by decide +kernel
theorem dX11_begin_61 : decode cX11_begin 61 = .ok (.aload_n 0, 1) := by decide +kernel
theorem dX11_begin_62 : decode cX11_begin 62 = .ok (.getfield 67, 3) := by decide +kernel
theorem dX11_begin_65 : decode cX11_begin 65 = .ok (.aload_n 0, 1) := by decide +kernel
theorem dX11_begin_66 : decode cX11_begin 66 = .ok (.getfield 36, 3) := by decide +kernel
theorem dX11_begin_69 : decode cX11_begin 69 = .ok (.invokevirtual 163, 3) := by decide +kernel
theorem dX11_begin_72 : decode cX11_begin 72 = .ok (.aload_n 0, 1) := by decide +kernel
theorem dX11_begin_73 : decode cX11_begin 73 = .ok (.iconst 1, 1) := by decide +kernel
theorem dX11_begin_74 : decode cX11_begin 74 = .ok (.putfield 40, 3) := by decide +kernel
theorem dX11_begin_77 : decode cX11_begin 77 = .ok (.aload_n 0, 1) := by decide +kernel
theorem dX11_begin_78 : decode cX11_begin 78 = .ok (.getfield 36, 3) := by decide +kernel
theorem dX11_begin_81 : decode cX11_begin 81 = .ok (.getfield 157, 3) := by decide +kernel
theorem dX11_begin_84 : decode cX11_begin 84 = .ok (.ireturn, 1) := by decide +kernel
theorem dX11_end_0 : decode cX11_end 0 = .ok (.aload_n 0, 1) := by decide +kernel
theorem dX11_end_1 : decode cX11_end 1 = .ok (.getfield 40, 3) := by decide +kernel
theorem dX11_end_4 : decode cX11_end 4 = .ok (.ifCond .ne 6, 3) := by decide +kernel
theorem dX11_end_7 : decode cX11_end 7 = .ok (.bipush (-3), 2) := by decide +kernel
theorem dX11_end_9 : decode cX11_end 9 = .ok (.ireturn, 1) := by decide +kernel
theorem dX11_end_10 : decode cX11_end 10 = .ok (.aload_n 0, 1) := by decide +kernel
theorem dX11_end_11 : decode cX11_end 11 = .ok (.getfield 36, 3) := by decide +kernel
theorem dX11_end_14 : decode cX11_end 14 = .ok (.aload_n 0, 1) := by decide +kernel
theorem dX11_end_15 : decode cX11_end 15 = .ok (.getfield 26, 3) := by decide +kernel
theorem dX11_end_18 : decode cX11_end 18 = .ok (.invokevirtual 167, 3) := by decide +kernel
theorem dX11_end_21 : decode cX11_end 21 = .ok (.aload_n 0, 1) := by decide +kernel
theorem dX11_end_22 : decode cX11_end 22 = .ok (.getfield 36, 3) := by decide +kernel
theorem dX11_end_25 : decode cX11_end 25 = .ok (.aload_n 0, 1) := by decide +kernel
theorem dX11_end_26 : decode cX11_end 26 = .ok (.getfield 30, 3) := by decide +kernel
theorem dX11_end_29 : decode cX11_end 29 = .ok (.invokevirtual 167, 3) := by decide +kernel
theorem dX11_end_32 : decode cX11_end 32 = .ok (.aload_n 0, 1) := by decide +kernel
theorem dX11_end_33 : decode cX11_end 33 = .ok (.getfield 36, 3) := by decide +kernel
theorem dX11_end_36 : decode cX11_end 36 = .ok (.aload_n 0, 1) := by decide +kernel
theorem dX11_end_37 : decode cX11_end 37 = .ok (.getfield 36, 3) := by decide +kernel
theorem dX11_end_40 : decode cX11_end 40 = .ok (.getfield 151, 3) := by decide +kernel
theorem dX11_end_43 : decode cX11_end 43 = .ok (.invokevirtual 167, 3) := by decide +kernel
theorem dX11_end_46 : decode cX11_end 46 = .ok (.aload_n 0, 1) := by decide +kernel
theorem dX11_end_47 : decode cX11_end 47 = .ok (.getfield 36, 3) := by decide +kernel
theorem dX11_end_50 : decode cX11_end 50 = .ok (.invokevirtual 171, 3) := by decide +kernel
theorem dX11_end_53 : decode cX11_end 53 = .ok (.aload_n 0, 1) := by decide +kernel
theorem dX11_end_54 : decode cX11_end 54 = .ok (.iconst 0, 1) := by decide +kernel
theorem dX11_end_55 : decode cX11_end 55 = .ok (.putfield 40, 3) := by decide +kernel
theorem dX11_end_58 : decode cX11_end 58 = .ok (.aload_n 0, 1) := by decide +kernel
theorem dX11_end_59 : decode cX11_end 59 = .ok (.getfield 49, 3) := by decide +kernel
theorem dX11_end_62 : decode cX11_end 62 = .ok (.getfield 174, 3) := by decide +kernel
theorem dX11_end_65 : decode cX11_end 65 = .ok (.ireturn, 1) := by decide +kernel
theorem dX11_pass_0 : decode cX11_pass 0 = .ok (.aload_n 0, 1) := by decide +kernel
theorem dX11_pass_1 : decode cX11_pass 1 = .ok (.iload_n 1, 1) := by decide +kernel
theorem dX11_pass_2 : decode cX11_pass 2 = .ok (.invokevirtual 137, 3) := by decide +kernel
theorem dX11_pass_5 : decode cX11_pass 5 = .ok (.ifCond .ne 5, 3) := by decide +kernel
theorem dX11_pass_8 : decode cX11_pass 8 = .ok (.iconst (-1), 1) := by decide +kernel
theorem dX11_pass_9 : decode cX11_pass 9 = .ok (.ireturn, 1) := by decide +kernel
theorem dX11_pass_10 : decode cX11_pass 10 = .ok (.iload_n 2, 1) := by decide +kernel
theorem dX11_pass_11 : decode cX11_pass 11 = .ok (.ifCond .eq 11, 3) := by decide +kernel
theorem dX11_pass_14 : decode cX11_pass 14 = .ok (.iload_n 2, 1) := by decide +kernel
theorem dX11_pass_15 : decode cX11_pass 15 = .ok (.iconst 1, 1) := by decide +kernel
theorem dX11_pass_16 : decode cX11_pass 16 = .ok (.if_icmp .eq 6, 3) := by decide +kernel
theorem dX11_pass_19 : decode cX11_pass 19 = .ok (.bipush (-2), 2) := by decide +kernel
theorem dX11_pass_21 : decode cX11_pass 21 = .ok (.ireturn, 1) := by decide +kernel
theorem dX11_pass_22 : decode cX11_pass 22 = .ok (.aload_n 0, 1) := by decide +kernel
theorem dX11_pass_23 : decode cX11_pass 23 = .ok (.bipush 10, 2) := by decide +kernel
theorem dX11_pass_25 : decode cX11_pass 25 = .ok (.iload_n 1, 1) := by decide +kernel
theorem dX11_pass_26 : decode cX11_pass 26 = .ok (.imul, 1) := by decide +kernel
theorem dX11_pass_27 : decode cX11_pass 27 = .ok (.iload_n 2, 1) := by decide +kernel
theorem dX11_pass_28 : decode cX11_pass 28 = .ok (.iadd, 1) := by decide +kernel
theorem dX11_pass_29 : decode cX11_pass 29 = .ok (.invokevirtual 177, 3) := by decide +kernel
theorem dX11_pass_32 : decode cX11_pass 32 = .ok (.ireturn, 1) := by decide +kernel
theorem dX11_walk_0 : decode cX11_walk 0 = .ok (.iload_n 1, 1) := by decide +kernel
theorem dX11_walk_1 : decode cX11_walk 1 = .ok (.ifCond .eq 11, 3) := by decide +kernel
theorem dX11_walk_4 : decode cX11_walk 4 = .ok (.iload_n 1, 1) := by decide +kernel
theorem dX11_walk_5 : decode cX11_walk 5 = .ok (.iconst 1, 1) := by decide +kernel
theorem dX11_walk_6 : decode cX11_walk 6 = .ok (.if_icmp .eq 6, 3) := by decide +kernel
theorem dX11_walk_9 : decode cX11_walk 9 = .ok (.bipush (-2), 2) := by decide +kernel
theorem dX11_walk_11 : decode cX11_walk 11 = .ok (.ireturn, 1) := by decide +kernel
theorem dX11_walk_12 : decode cX11_walk 12 = .ok (.aload_n 0, 1) := by decide +kernel
theorem dX11_walk_13 : decode cX11_walk 13 = .ok (.bipush 100, 2) := by decide +kernel
theorem dX11_walk_15 : decode cX11_walk 15 = .ok (.iload_n 1, 1) := by decide +kernel
theorem dX11_walk_16 : decode cX11_walk 16 = .ok (.iadd, 1) := by decide +kernel
theorem dX11_walk_17 : decode cX11_walk 17 = .ok (.invokevirtual 177, 3) := by decide +kernel
theorem dX11_walk_20 : decode cX11_walk 20 = .ok (.ireturn, 1) := by decide +kernel
theorem dX11_girth_0 : decode cX11_girth 0 = .ok (.aload_n 0, 1) := by decide +kernel
theorem dX11_girth_1 : decode cX11_girth 1 = .ok (.getfield 36, 3) := by decide +kernel
theorem dX11_girth_4 : decode cX11_girth 4 = .ok (.invokevirtual 181, 3) := by decide +kernel
theorem dX11_girth_7 : decode cX11_girth 7 = .ok (.ireturn, 1) := by decide +kernel
theorem dX11_step_0 : decode cX11_step 0 = .ok (.aload_n 0, 1) := by decide +kernel
theorem dX11_step_1 : decode cX11_step 1 = .ok (.getfield 49, 3) := by decide +kernel
theorem dX11_step_4 : decode cX11_step 4 = .ok (.iload_n 1, 1) := by decide +kernel
theorem dX11_step_5 : decode cX11_step 5 = .ok (.invokevirtual 185, 3) := by decide +kernel
theorem dX11_step_8 : decode cX11_step 8 = .ok (.ireturn, 1) := by decide +kernel
theorem dX11_rows_0 : decode cX11_rows 0 = .ok (.aload_n 0, 1) := by decide +kernel
theorem dX11_rows_1 : decode cX11_rows 1 = .ok (.getfield 56, 3) := by decide +kernel
theorem dX11_rows_4 : decode cX11_rows 4 = .ok (.getfield 188, 3) := by decide +kernel
theorem dX11_rows_7 : decode cX11_rows 7 = .ok (.ireturn, 1) := by decide +kernel
theorem dX11_cloth_0 : decode cX11_cloth 0 = .ok (.aload_n 0, 1) := by decide +kernel
theorem dX11_cloth_1 : decode cX11_cloth 1 = .ok (.getfield 56, 3) := by decide +kernel
theorem dX11_cloth_4 : decode cX11_cloth 4 = .ok (.iload_n 1, 1) := by decide +kernel
theorem dX11_cloth_5 : decode cX11_cloth 5 = .ok (.iload_n 2, 1) := by decide +kernel
theorem dX11_cloth_6 : decode cX11_cloth 6 = .ok (.invokevirtual 191, 3) := by decide +kernel
theorem dX11_cloth_9 : decode cX11_cloth 9 = .ok (.ifCond .ne 5, 3) := by decide +kernel
theorem dX11_cloth_12 : decode cX11_cloth 12 = .ok (.iconst (-1), 1) := by decide +kernel
theorem dX11_cloth_13 : decode cX11_cloth 13 = .ok (.ireturn, 1) := by decide +kernel
theorem dX11_cloth_14 : decode cX11_cloth 14 = .ok (.iload_n 3, 1) := by decide +kernel
theorem dX11_cloth_15 : decode cX11_cloth 15 = .ok (.tableswitch 55 0 2 #[25, 35, 45], 25) := by decide +kernel
theorem dX11_cloth_40 : decode cX11_cloth 40 = .ok (.aload_n 0, 1) := by decide +kernel
theorem dX11_cloth_41 : decode cX11_cloth 41 = .ok (.getfield 56, 3) := by decide +kernel
theorem dX11_cloth_44 : decode cX11_cloth 44 = .ok (.iload_n 1, 1) := by decide +kernel
theorem dX11_cloth_45 : decode cX11_cloth 45 = .ok (.iload_n 2, 1) := by decide +kernel
theorem dX11_cloth_46 : decode cX11_cloth 46 = .ok (.invokevirtual 195, 3) := by decide +kernel
theorem dX11_cloth_49 : decode cX11_cloth 49 = .ok (.ireturn, 1) := by decide +kernel
theorem dX11_cloth_50 : decode cX11_cloth 50 = .ok (.aload_n 0, 1) := by decide +kernel
theorem dX11_cloth_51 : decode cX11_cloth 51 = .ok (.getfield 56, 3) := by decide +kernel
theorem dX11_cloth_54 : decode cX11_cloth 54 = .ok (.iload_n 1, 1) := by decide +kernel
theorem dX11_cloth_55 : decode cX11_cloth 55 = .ok (.iload_n 2, 1) := by decide +kernel
theorem dX11_cloth_56 : decode cX11_cloth 56 = .ok (.invokevirtual 199, 3) := by decide +kernel
theorem dX11_cloth_59 : decode cX11_cloth 59 = .ok (.ireturn, 1) := by decide +kernel
theorem dX11_cloth_60 : decode cX11_cloth 60 = .ok (.aload_n 0, 1) := by decide +kernel
theorem dX11_cloth_61 : decode cX11_cloth 61 = .ok (.getfield 56, 3) := by decide +kernel
theorem dX11_cloth_64 : decode cX11_cloth 64 = .ok (.iload_n 1, 1) := by decide +kernel
theorem dX11_cloth_65 : decode cX11_cloth 65 = .ok (.iload_n 2, 1) := by decide +kernel
theorem dX11_cloth_66 : decode cX11_cloth 66 = .ok (.invokevirtual 202, 3) := by decide +kernel
theorem dX11_cloth_69 : decode cX11_cloth 69 = .ok (.ireturn, 1) := by decide +kernel
theorem dX11_cloth_70 : decode cX11_cloth 70 = .ok (.iconst (-1), 1) := by decide +kernel
theorem dX11_cloth_71 : decode cX11_cloth 71 = .ok (.ireturn, 1) := by decide +kernel
theorem dX11_beat_0 : decode cX11_beat 0 = .ok (.aload_n 0, 1) := by decide +kernel
theorem dX11_beat_1 : decode cX11_beat 1 = .ok (.getfield 56, 3) := by decide +kernel
theorem dX11_beat_4 : decode cX11_beat 4 = .ok (.getfield 188, 3) := by decide +kernel
theorem dX11_beat_7 : decode cX11_beat 7 = .ok (.ifCond .ne 6, 3) := by decide +kernel
theorem dX11_beat_10 : decode cX11_beat 10 = .ok (.bipush (-3), 2) := by decide +kernel
theorem dX11_beat_12 : decode cX11_beat 12 = .ok (.ireturn, 1) := by decide +kernel
theorem dX11_beat_13 : decode cX11_beat 13 = .ok (.aload_n 0, 1) := by decide +kernel
theorem dX11_beat_14 : decode cX11_beat 14 = .ok (.getfield 56, 3) := by decide +kernel
theorem dX11_beat_17 : decode cX11_beat 17 = .ok (.invokevirtual 205, 3) := by decide +kernel
theorem dX11_beat_20 : decode cX11_beat 20 = .ok (.ireturn, 1) := by decide +kernel
theorem dX11_picture_0 : decode cX11_picture 0 = .ok (.iload_n 1, 1) := by decide +kernel
theorem dX11_picture_1 : decode cX11_picture 1 = .ok (.ifCond .lt 19, 3) := by decide +kernel
theorem dX11_picture_4 : decode cX11_picture 4 = .ok (.iload_n 1, 1) := by decide +kernel
theorem dX11_picture_5 : decode cX11_picture 5 = .ok (.bipush 100, 2) := by decide +kernel
theorem dX11_picture_7 : decode cX11_picture 7 = .ok (.if_icmp .ge 13, 3) := by decide +kernel
theorem dX11_picture_10 : decode cX11_picture 10 = .ok (.iload_n 2, 1) := by decide +kernel
theorem dX11_picture_11 : decode cX11_picture 11 = .ok (.ifCond .lt 9, 3) := by decide +kernel
theorem dX11_picture_14 : decode cX11_picture 14 = .ok (.iload_n 2, 1) := by decide +kernel
theorem dX11_picture_15 : decode cX11_picture 15 = .ok (.bipush 9, 2) := by decide +kernel
theorem dX11_picture_17 : decode cX11_picture 17 = .ok (.if_icmp .lt 5, 3) := by decide +kernel
theorem dX11_picture_20 : decode cX11_picture 20 = .ok (.iconst (-1), 1) := by decide +kernel
theorem dX11_picture_21 : decode cX11_picture 21 = .ok (.ireturn, 1) := by decide +kernel
theorem dX11_picture_22 : decode cX11_picture 22 = .ok (.iload_n 3, 1) := by decide +kernel
theorem dX11_picture_23 : decode cX11_picture 23 = .ok (.invokestatic 147, 3) := by decide +kernel
theorem dX11_picture_26 : decode cX11_picture 26 = .ok (.ifCond .ne 6, 3) := by decide +kernel
theorem dX11_picture_29 : decode cX11_picture 29 = .ok (.bipush (-2), 2) := by decide +kernel
theorem dX11_picture_31 : decode cX11_picture 31 = .ok (.ireturn, 1) := by decide +kernel
theorem dX11_picture_32 : decode cX11_picture 32 = .ok (.aload_n 0, 1) := by decide +kernel
theorem dX11_picture_33 : decode cX11_picture 33 = .ok (.getfield 63, 3) := by decide +kernel
theorem dX11_picture_36 : decode cX11_picture 36 = .ok (.iload_n 1, 1) := by decide +kernel
theorem dX11_picture_37 : decode cX11_picture 37 = .ok (.iload_n 2, 1) := by decide +kernel
theorem dX11_picture_38 : decode cX11_picture 38 = .ok (.iload_n 3, 1) := by decide +kernel
theorem dX11_picture_39 : decode cX11_picture 39 = .ok (.invokevirtual 208, 3) := by decide +kernel
theorem dX11_picture_42 : decode cX11_picture 42 = .ok (.ifCond .eq 13, 3) := by decide +kernel
theorem dX11_picture_45 : decode cX11_picture 45 = .ok (.aload_n 0, 1) := by decide +kernel
theorem dX11_picture_46 : decode cX11_picture 46 = .ok (.getfield 63, 3) := by decide +kernel
theorem dX11_picture_49 : decode cX11_picture 49 = .ok (.getfield 212, 3) := by decide +kernel
theorem dX11_picture_52 : decode cX11_picture 52 = .ok (.goto 5, 3) := by decide +kernel
theorem dX11_picture_55 : decode cX11_picture 55 = .ok (.bipush (-4), 2) := by decide +kernel
theorem dX11_picture_57 : decode cX11_picture 57 = .ok (.ireturn, 1) := by decide +kernel
theorem dX11_pictureless_0 : decode cX11_pictureless 0 = .ok (.aload_n 0, 1) := by decide +kernel
theorem dX11_pictureless_1 : decode cX11_pictureless 1 = .ok (.getfield 63, 3) := by decide +kernel
theorem dX11_pictureless_4 : decode cX11_pictureless 4 = .ok (.getfield 212, 3) := by decide +kernel
theorem dX11_pictureless_7 : decode cX11_pictureless 7 = .ok (.istore_n 1, 1) := by decide +kernel
theorem dX11_pictureless_8 : decode cX11_pictureless 8 = .ok (.aload_n 0, 1) := by decide +kernel
theorem dX11_pictureless_9 : decode cX11_pictureless 9 = .ok (.getfield 63, 3) := by decide +kernel
theorem dX11_pictureless_12 : decode cX11_pictureless 12 = .ok (.iconst 0, 1) := by decide +kernel
theorem dX11_pictureless_13 : decode cX11_pictureless 13 = .ok (.putfield 212, 3) := by decide +kernel
theorem dX11_pictureless_16 : decode cX11_pictureless 16 = .ok (.iload_n 1, 1) := by decide +kernel
theorem dX11_pictureless_17 : decode cX11_pictureless 17 = .ok (.ireturn, 1) := by decide +kernel
theorem dX11_wrong_0 : decode cX11_wrong 0 = .ok (.aload_n 0, 1) := by decide +kernel
theorem dX11_wrong_1 : decode cX11_wrong 1 = .ok (.getfield 63, 3) := by decide +kernel
theorem dX11_wrong_4 : decode cX11_wrong 4 = .ok (.aload_n 0, 1) := by decide +kernel
theorem dX11_wrong_5 : decode cX11_wrong 5 = .ok (.getfield 56, 3) := by decide +kernel
theorem dX11_wrong_8 : decode cX11_wrong 8 = .ok (.invokevirtual 213, 3) := by decide +kernel
theorem dX11_wrong_11 : decode cX11_wrong 11 = .ok (.ireturn, 1) := by decide +kernel
theorem dX11_colours_0 : decode cX11_colours 0 = .ok (.iload_n 2, 1) := by decide +kernel
theorem dX11_colours_1 : decode cX11_colours 1 = .ok (.iconst (-1), 1) := by decide +kernel
theorem dX11_colours_2 : decode cX11_colours 2 = .ok (.if_icmp .eq 13, 3) := by decide +kernel
theorem dX11_colours_5 : decode cX11_colours 5 = .ok (.aload_n 0, 1) := by decide +kernel
theorem dX11_colours_6 : decode cX11_colours 6 = .ok (.iload_n 2, 1) := by decide +kernel
theorem dX11_colours_7 : decode cX11_colours 7 = .ok (.invokevirtual 137, 3) := by decide +kernel
theorem dX11_colours_10 : decode cX11_colours 10 = .ok (.ifCond .ne 5, 3) := by decide +kernel
theorem dX11_colours_13 : decode cX11_colours 13 = .ok (.iconst (-1), 1) := by decide +kernel
theorem dX11_colours_14 : decode cX11_colours 14 = .ok (.ireturn, 1) := by decide +kernel
theorem dX11_colours_15 : decode cX11_colours 15 = .ok (.iload_n 1, 1) := by decide +kernel
theorem dX11_colours_16 : decode cX11_colours 16 = .ok (.iconst 1, 1) := by decide +kernel
theorem dX11_colours_17 : decode cX11_colours 17 = .ok (.if_icmp .lt 8, 3) := by decide +kernel
theorem dX11_colours_20 : decode cX11_colours 20 = .ok (.iload_n 1, 1) := by decide +kernel
theorem dX11_colours_21 : decode cX11_colours 21 = .ok (.iconst 4, 1) := by decide +kernel
theorem dX11_colours_22 : decode cX11_colours 22 = .ok (.if_icmp .le 6, 3) := by decide +kernel
theorem dX11_colours_25 : decode cX11_colours 25 = .ok (.bipush (-2), 2) := by decide +kernel
theorem dX11_colours_27 : decode cX11_colours 27 = .ok (.ireturn, 1) := by decide +kernel
theorem dX11_colours_28 : decode cX11_colours 28 = .ok (.aload_n 0, 1) := by decide +kernel
theorem dX11_colours_29 : decode cX11_colours 29 = .ok (.getfield 56, 3) := by decide +kernel
theorem dX11_colours_32 : decode cX11_colours 32 = .ok (.getfield 188, 3) := by decide +kernel
theorem dX11_colours_35 : decode cX11_colours 35 = .ok (.ifCond .eq 15, 3) := by decide +kernel
theorem dX11_colours_38 : decode cX11_colours 38 = .ok (.aload_n 0, 1) := by decide +kernel
theorem dX11_colours_39 : decode cX11_colours 39 = .ok (.getfield 36, 3) := by decide +kernel
theorem dX11_colours_42 : decode cX11_colours 42 = .ok (.getfield 157, 3) := by decide +kernel
theorem dX11_colours_45 : decode cX11_colours 45 = .ok (.bipush 6, 2) := by decide +kernel
theorem dX11_colours_47 : decode cX11_colours 47 = .ok (.if_icmp .le 6, 3) := by decide +kernel
theorem dX11_colours_50 : decode cX11_colours 50 = .ok (.bipush (-3), 2) := by decide +kernel
theorem dX11_colours_52 : decode cX11_colours 52 = .ok (.ireturn, 1) := by decide +kernel
theorem dX11_colours_53 : decode cX11_colours 53 = .ok (.aload_n 0, 1) := by decide +kernel
theorem dX11_colours_54 : decode cX11_colours 54 = .ok (.getfield 63, 3) := by decide +kernel
theorem dX11_colours_57 : decode cX11_colours 57 = .ok (.aload_n 0, 1) := by decide +kernel
theorem dX11_colours_58 : decode cX11_colours 58 = .ok (.getfield 56, 3) := by decide +kernel
theorem dX11_colours_61 : decode cX11_colours 61 = .ok (.iload_n 1, 1) := by decide +kernel
theorem dX11_colours_62 : decode cX11_colours 62 = .ok (.invokevirtual 217, 3) := by decide +kernel
theorem dX11_colours_65 : decode cX11_colours 65 = .ok (.iload_n 2, 1) := by decide +kernel
theorem dX11_colours_66 : decode cX11_colours 66 = .ok (.iconst (-1), 1) := by decide +kernel
theorem dX11_colours_67 : decode cX11_colours 67 = .ok (.if_icmp .ne 13, 3) := by decide +kernel
theorem dX11_colours_70 : decode cX11_colours 70 = .ok (.aload_n 0, 1) := by decide +kernel
theorem dX11_colours_71 : decode cX11_colours 71 = .ok (.getfield 63, 3) := by decide +kernel
theorem dX11_colours_74 : decode cX11_colours 74 = .ok (.getfield 221, 3) := by decide +kernel
theorem dX11_colours_77 : decode cX11_colours 77 = .ok (.goto 12, 3) := by decide +kernel
theorem dX11_colours_80 : decode cX11_colours 80 = .ok (.aload_n 0, 1) := by decide +kernel
theorem dX11_colours_81 : decode cX11_colours 81 = .ok (.getfield 63, 3) := by decide +kernel
theorem dX11_colours_84 : decode cX11_colours 84 = .ok (.getfield 224, 3) := by decide +kernel
theorem dX11_colours_87 : decode cX11_colours 87 = .ok (.iload_n 2, 1) := by decide +kernel
theorem dX11_colours_88 : decode cX11_colours 88 = .ok (.iaload, 1) := by decide +kernel
theorem dX11_colours_89 : decode cX11_colours 89 = .ok (.ireturn, 1) := by decide +kernel
theorem dX11_form_0 : decode cX11_form 0 = .ok (.aload_n 0, 1) := by decide +kernel
theorem dX11_form_1 : decode cX11_form 1 = .ok (.iload_n 1, 1) := by decide +kernel
theorem dX11_form_2 : decode cX11_form 2 = .ok (.invokevirtual 227, 3) := by decide +kernel
theorem dX11_form_5 : decode cX11_form 5 = .ok (.astore_n 3, 1) := by decide +kernel
theorem dX11_form_6 : decode cX11_form 6 = .ok (.aload_n 3, 1) := by decide +kernel
theorem dX11_form_7 : decode cX11_form 7 = .ok (.ifnull 9, 3) := by decide +kernel
theorem dX11_form_10 : decode cX11_form 10 = .ok (.iload_n 2, 1) := by decide +kernel
theorem dX11_form_11 : decode cX11_form 11 = .ok (.bipush (-2), 2) := by decide +kernel
theorem dX11_form_13 : decode cX11_form 13 = .ok (.if_icmp .ge 6, 3) := by decide +kernel
theorem dX11_form_16 : decode cX11_form 16 = .ok (.bipush (-99), 2) := by decide +kernel
theorem dX11_form_18 : decode cX11_form 18 = .ok (.ireturn, 1) := by decide +kernel
theorem dX11_form_19 : decode cX11_form 19 = .ok (.aload_n 0, 1) := by decide +kernel
theorem dX11_form_20 : decode cX11_form 20 = .ok (.getfield 36, 3) := by decide +kernel
theorem dX11_form_23 : decode cX11_form 23 = .ok (.getfield 157, 3) := by decide +kernel
theorem dX11_form_26 : decode cX11_form 26 = .ok (.ifCond .ne 6, 3) := by decide +kernel
theorem dX11_form_29 : decode cX11_form 29 = .ok (.bipush (-98), 2) := by decide +kernel
theorem dX11_form_31 : decode cX11_form 31 = .ok (.ireturn, 1) := by decide +kernel
theorem dX11_form_32 : decode cX11_form 32 = .ok (.aload_n 0, 1) := by decide +kernel
theorem dX11_form_33 : decode cX11_form 33 = .ok (.getfield 86, 3) := by decide +kernel
theorem dX11_form_36 : decode cX11_form 36 = .ok (.aload_n 3, 1) := by decide +kernel
theorem dX11_form_37 : decode cX11_form 37 = .ok (.aload_n 0, 1) := by decide +kernel
theorem dX11_form_38 : decode cX11_form 38 = .ok (.getfield 36, 3) := by decide +kernel
theorem dX11_form_41 : decode cX11_form 41 = .ok (.getfield 157, 3) := by decide +kernel
theorem dX11_form_44 : decode cX11_form 44 = .ok (.invokevirtual 231, 3) := by decide +kernel
theorem dX11_form_47 : decode cX11_form 47 = .ok (.ifCond .ne 6, 3) := by decide +kernel
theorem dX11_form_50 : decode cX11_form 50 = .ok (.bipush (-97), 2) := by decide +kernel
theorem dX11_form_52 : decode cX11_form 52 = .ok (.ireturn, 1) := by decide +kernel
theorem dX11_form_53 : decode cX11_form 53 = .ok (.iload_n 2, 1) := by decide +kernel
theorem dX11_form_54 : decode cX11_form 54 = .ok (.bipush (-2), 2) := by decide +kernel
theorem dX11_form_56 : decode cX11_form 56 = .ok (.if_icmp .ne 11, 3) := by decide +kernel
theorem dX11_form_59 : decode cX11_form 59 = .ok (.aload_n 0, 1) := by decide +kernel
theorem dX11_form_60 : decode cX11_form 60 = .ok (.getfield 86, 3) := by decide +kernel
theorem dX11_form_63 : decode cX11_form 63 = .ok (.getfield 235, 3) := by decide +kernel
theorem dX11_form_66 : decode cX11_form 66 = .ok (.ireturn, 1) := by decide +kernel
theorem dX11_form_67 : decode cX11_form 67 = .ok (.iload_n 2, 1) := by decide +kernel
theorem dX11_form_68 : decode cX11_form 68 = .ok (.iconst (-1), 1) := by decide +kernel
theorem dX11_form_69 : decode cX11_form 69 = .ok (.if_icmp .ne 11, 3) := by decide +kernel
theorem dX11_form_72 : decode cX11_form 72 = .ok (.aload_n 0, 1) := by decide +kernel
theorem dX11_form_73 : decode cX11_form 73 = .ok (.getfield 86, 3) := by decide +kernel
theorem dX11_form_76 : decode cX11_form 76 = .ok (.getfield 238, 3) := by decide +kernel
theorem dX11_form_79 : decode cX11_form 79 = .ok (.ireturn, 1) := by decide +kernel
theorem dX11_form_80 : decode cX11_form 80 = .ok (.iload_n 2, 1) := by decide +kernel
theorem dX11_form_81 : decode cX11_form 81 = .ok (.aload_n 0, 1) := by decide +kernel
theorem dX11_form_82 : decode cX11_form 82 = .ok (.getfield 86, 3) := by decide +kernel
theorem dX11_form_85 : decode cX11_form 85 = .ok (.getfield 238, 3) := by decide +kernel
theorem dX11_form_88 : decode cX11_form 88 = .ok (.if_icmp .ge 15, 3) := by decide +kernel
theorem dX11_form_91 : decode cX11_form 91 = .ok (.aload_n 0, 1) := by decide +kernel
theorem dX11_form_92 : decode cX11_form 92 = .ok (.getfield 86, 3) := by decide +kernel
theorem dX11_form_95 : decode cX11_form 95 = .ok (.getfield 239, 3) := by decide +kernel
theorem dX11_form_98 : decode cX11_form 98 = .ok (.iload_n 2, 1) := by decide +kernel
theorem dX11_form_99 : decode cX11_form 99 = .ok (.iaload, 1) := by decide +kernel
theorem dX11_form_100 : decode cX11_form 100 = .ok (.goto 5, 3) := by decide +kernel
theorem dX11_form_103 : decode cX11_form 103 = .ok (.bipush (-99), 2) := by decide +kernel
theorem dX11_form_105 : decode cX11_form 105 = .ok (.ireturn, 1) := by decide +kernel
theorem dX11_akin_0 : decode cX11_akin 0 = .ok (.aload_n 0, 1) := by decide +kernel
theorem dX11_akin_1 : decode cX11_akin 1 = .ok (.iload_n 1, 1) := by decide +kernel
theorem dX11_akin_2 : decode cX11_akin 2 = .ok (.invokevirtual 227, 3) := by decide +kernel
theorem dX11_akin_5 : decode cX11_akin 5 = .ok (.astore_n 3, 1) := by decide +kernel
theorem dX11_akin_6 : decode cX11_akin 6 = .ok (.aload_n 0, 1) := by decide +kernel
theorem dX11_akin_7 : decode cX11_akin 7 = .ok (.iload_n 2, 1) := by decide +kernel
theorem dX11_akin_8 : decode cX11_akin 8 = .ok (.invokevirtual 227, 3) := by decide +kernel
theorem dX11_akin_11 : decode cX11_akin 11 = .ok (.astore 4, 2) := by decide +kernel
theorem dX11_akin_13 : decode cX11_akin 13 = .ok (.aload_n 3, 1) := by decide +kernel
theorem dX11_akin_14 : decode cX11_akin 14 = .ok (.ifnull 8, 3) := by decide +kernel
theorem dX11_akin_17 : decode cX11_akin 17 = .ok (.aload 4, 2) := by decide +kernel
theorem dX11_akin_19 : decode cX11_akin 19 = .ok (.ifnonnull 5, 3) := by decide +kernel
theorem dX11_akin_22 : decode cX11_akin 22 = .ok (.iconst (-1), 1) := by decide +kernel
theorem dX11_akin_23 : decode cX11_akin 23 = .ok (.ireturn, 1) := by decide +kernel
theorem dX11_akin_24 : decode cX11_akin 24 = .ok (.aload_n 0, 1) := by decide +kernel
theorem dX11_akin_25 : decode cX11_akin 25 = .ok (.getfield 36, 3) := by decide +kernel
theorem dX11_akin_28 : decode cX11_akin 28 = .ok (.getfield 157, 3) := by decide +kernel
theorem dX11_akin_31 : decode cX11_akin 31 = .ok (.ifCond .eq 40, 3) := by decide +kernel
theorem dX11_akin_34 : decode cX11_akin 34 = .ok (.aload_n 0, 1) := by decide +kernel
theorem dX11_akin_35 : decode cX11_akin 35 = .ok (.getfield 86, 3) := by decide +kernel
theorem dX11_akin_38 : decode cX11_akin 38 = .ok (.aload_n 3, 1) := by decide +kernel
theorem dX11_akin_39 : decode cX11_akin 39 = .ok (.aload_n 0, 1) := by decide +kernel
theorem dX11_akin_40 : decode cX11_akin 40 = .ok (.getfield 36, 3) := by decide +kernel
theorem dX11_akin_43 : decode cX11_akin 43 = .ok (.getfield 157, 3) := by decide +kernel
theorem dX11_akin_46 : decode cX11_akin 46 = .ok (.invokevirtual 231, 3) := by decide +kernel
theorem dX11_akin_49 : decode cX11_akin 49 = .ok (.ifCond .eq 22, 3) := by decide +kernel
theorem dX11_akin_52 : decode cX11_akin 52 = .ok (.aload_n 0, 1) := by decide +kernel
theorem dX11_akin_53 : decode cX11_akin 53 = .ok (.getfield 90, 3) := by decide +kernel
theorem dX11_akin_56 : decode cX11_akin 56 = .ok (.aload 4, 2) := by decide +kernel
theorem dX11_akin_58 : decode cX11_akin 58 = .ok (.aload_n 0, 1) := by decide +kernel
theorem dX11_akin_59 : decode cX11_akin 59 = .ok (.getfield 36, 3) := by decide +kernel
theorem dX11_akin_62 : decode cX11_akin 62 = .ok (.getfield 157, 3) := by decide +kernel
theorem dX11_akin_65 : decode cX11_akin 65 = .ok (.invokevirtual 231, 3) := by decide +kernel
theorem dX11_akin_68 : decode cX11_akin 68 = .ok (.ifCond .ne 6, 3) := by decide +kernel
theorem dX11_akin_71 : decode cX11_akin 71 = .ok (.bipush (-3), 2) := by decide +kernel
theorem dX11_akin_73 : decode cX11_akin 73 = .ok (.ireturn, 1) := by decide +kernel
theorem dX11_akin_74 : decode cX11_akin 74 = .ok (.aload_n 0, 1) := by decide +kernel
theorem dX11_akin_75 : decode cX11_akin 75 = .ok (.getfield 86, 3) := by decide +kernel
theorem dX11_akin_78 : decode cX11_akin 78 = .ok (.aload_n 0, 1) := by decide +kernel
theorem dX11_akin_79 : decode cX11_akin 79 = .ok (.getfield 90, 3) := by decide +kernel
theorem dX11_akin_82 : decode cX11_akin 82 = .ok (.invokevirtual 242, 3) := by decide +kernel
theorem dX11_akin_85 : decode cX11_akin 85 = .ok (.ifCond .eq 7, 3) := by decide +kernel
theorem dX11_akin_88 : decode cX11_akin 88 = .ok (.iconst 1, 1) := by decide +kernel
theorem dX11_akin_89 : decode cX11_akin 89 = .ok (.goto 4, 3) := by decide +kernel
theorem dX11_akin_92 : decode cX11_akin 92 = .ok (.iconst 0, 1) := by decide +kernel
theorem dX11_akin_93 : decode cX11_akin 93 = .ok (.ireturn, 1) := by decide +kernel
theorem dX11_feed_0 : decode cX11_feed 0 = .ok (.iload_n 2, 1) := by decide +kernel
theorem dX11_feed_1 : decode cX11_feed 1 = .ok (.ifCond .lt 8, 3) := by decide +kernel
theorem dX11_feed_4 : decode cX11_feed 4 = .ok (.iload_n 2, 1) := by decide +kernel
theorem dX11_feed_5 : decode cX11_feed 5 = .ok (.iconst 4, 1) := by decide +kernel
theorem dX11_feed_6 : decode cX11_feed 6 = .ok (.if_icmp .le 6, 3) := by decide +kernel
theorem dX11_feed_9 : decode cX11_feed 9 = .ok (.bipush (-2), 2) := by decide +kernel
theorem dX11_feed_11 : decode cX11_feed 11 = .ok (.ireturn, 1) := by decide +kernel
theorem dX11_feed_12 : decode cX11_feed 12 = .ok (.aload_n 0, 1) := by decide +kernel
theorem dX11_feed_13 : decode cX11_feed 13 = .ok (.getfield 79, 3) := by decide +kernel
theorem dX11_feed_16 : decode cX11_feed 16 = .ok (.iload_n 1, 1) := by decide +kernel
theorem dX11_feed_17 : decode cX11_feed 17 = .ok (.iload_n 2, 1) := by decide +kernel
theorem dX11_feed_18 : decode cX11_feed 18 = .ok (.invokevirtual 246, 3) := by decide +kernel
theorem dX11_feed_21 : decode cX11_feed 21 = .ok (.ifCond .eq 13, 3) := by decide +kernel
theorem dX11_feed_24 : decode cX11_feed 24 = .ok (.aload_n 0, 1) := by decide +kernel
theorem dX11_feed_25 : decode cX11_feed 25 = .ok (.getfield 79, 3) := by decide +kernel
theorem dX11_feed_28 : decode cX11_feed 28 = .ok (.getfield 249, 3) := by decide +kernel
theorem dX11_feed_31 : decode cX11_feed 31 = .ok (.goto 5, 3) := by decide +kernel
theorem dX11_feed_34 : decode cX11_feed 34 = .ok (.bipush (-4), 2) := by decide +kernel
theorem dX11_feed_36 : decode cX11_feed 36 = .ok (.ireturn, 1) := by decide +kernel
theorem dX11_figure_0 : decode cX11_figure 0 = .ok (.aload_n 0, 1) := by decide +kernel
theorem dX11_figure_1 : decode cX11_figure 1 = .ok (.getfield 79, 3) := by decide +kernel
theorem dX11_figure_4 : decode cX11_figure 4 = .ok (.getfield 252, 3) := by decide +kernel
theorem dX11_figure_7 : decode cX11_figure 7 = .ok (.bipush 10, 2) := by decide +kernel
theorem dX11_figure_9 : decode cX11_figure 9 = .ok (.if_icmp .lt 6, 3) := by decide +kernel
theorem dX11_figure_12 : decode cX11_figure 12 = .ok (.bipush (-4), 2) := by decide +kernel
theorem dX11_figure_14 : decode cX11_figure 14 = .ok (.ireturn, 1) := by decide +kernel
theorem dX11_figure_15 : decode cX11_figure 15 = .ok (.aload_n 0, 1) := by decide +kernel
theorem dX11_figure_16 : decode cX11_figure 16 = .ok (.getfield 79, 3) := by decide +kernel
theorem dX11_figure_19 : decode cX11_figure 19 = .ok (.invokevirtual 255, 3) := by decide +kernel
theorem dX11_figure_22 : decode cX11_figure 22 = .ok (.istore_n 1, 1) := by decide +kernel
theorem dX11_figure_23 : decode cX11_figure 23 = .ok (.aload_n 0, 1) := by decide +kernel
theorem dX11_figure_24 : decode cX11_figure 24 = .ok (.getfield 79, 3) := by decide +kernel
theorem dX11_figure_27 : decode cX11_figure 27 = .ok (.iconst 0, 1) := by decide +kernel
theorem dX11_figure_28 : decode cX11_figure 28 = .ok (.putfield 249, 3) := by decide +kernel
theorem dX11_figure_31 : decode cX11_figure 31 = .ok (.iload_n 1, 1) := by decide +kernel
theorem dX11_figure_32 : decode cX11_figure 32 = .ok (.ifCond .lt 8, 3) := by decide +kernel
theorem dX11_figure_35 : decode cX11_figure 35 = .ok (.bipush (-10), 2) := by decide +kernel
theorem dX11_figure_37 : decode cX11_figure 37 = .ok (.iload_n 1, 1) := by decide +kernel
theorem dX11_figure_38 : decode cX11_figure 38 = .ok (.isub, 1) := by decide +kernel
theorem dX11_figure_39 : decode cX11_figure 39 = .ok (.ireturn, 1) := by decide +kernel
theorem dX11_figure_40 : decode cX11_figure 40 = .ok (.aload_n 0, 1) := by decide +kernel
theorem dX11_figure_41 : decode cX11_figure 41 = .ok (.getfield 79, 3) := by decide +kernel
theorem dX11_figure_44 : decode cX11_figure 44 = .ok (.getfield 258, 3) := by decide +kernel
theorem dX11_figure_47 : decode cX11_figure 47 = .ok (.ifCond .eq 6, 3) := by decide +kernel
theorem dX11_figure_50 : decode cX11_figure 50 = .ok (.bipush (-2), 2) := by decide +kernel
theorem dX11_figure_52 : decode cX11_figure 52 = .ok (.ireturn, 1) := by decide +kernel
theorem dX11_figure_53 : decode cX11_figure 53 = .ok (.aload_n 0, 1) := by decide +kernel
theorem dX11_figure_54 : decode cX11_figure 54 = .ok (.getfield 79, 3) := by decide +kernel
theorem dX11_figure_57 : decode cX11_figure 57 = .ok (.invokevirtual 261, 3) := by decide +kernel
theorem dX11_figure_60 : decode cX11_figure 60 = .ok (.ireturn, 1) := by decide +kernel
theorem dX11_told_0 : decode cX11_told 0 = .ok (.aload_n 0, 1) := by decide +kernel
theorem dX11_told_1 : decode cX11_told 1 = .ok (.getfield 79, 3) := by decide +kernel
theorem dX11_told_4 : decode cX11_told 4 = .ok (.iload_n 1, 1) := by decide +kernel
theorem dX11_told_5 : decode cX11_told 5 = .ok (.invokevirtual 264, 3) := by decide +kernel
theorem dX11_told_8 : decode cX11_told 8 = .ok (.astore_n 3, 1) := by decide +kernel
theorem dX11_told_9 : decode cX11_told 9 = .ok (.aload_n 3, 1) := by decide +kernel
theorem dX11_told_10 : decode cX11_told 10 = .ok (.ifnonnull 5, 3) := by decide +kernel
theorem dX11_told_13 : decode cX11_told 13 = .ok (.iconst (-1), 1) := by decide +kernel
theorem dX11_told_14 : decode cX11_told 14 = .ok (.ireturn, 1) := by decide +kernel
theorem dX11_told_15 : decode cX11_told 15 = .ok (.iload_n 2, 1) := by decide +kernel
theorem dX11_told_16 : decode cX11_told 16 = .ok (.iconst (-1), 1) := by decide +kernel
theorem dX11_told_17 : decode cX11_told 17 = .ok (.if_icmp .ne 10, 3) := by decide +kernel
theorem dX11_told_20 : decode cX11_told 20 = .ok (.aload_n 3, 1) := by decide +kernel
theorem dX11_told_21 : decode cX11_told 21 = .ok (.getfield 174, 3) := by decide +kernel
theorem dX11_told_24 : decode cX11_told 24 = .ok (.goto 8, 3) := by decide +kernel
theorem dX11_told_27 : decode cX11_told 27 = .ok (.aload_n 3, 1) := by decide +kernel
theorem dX11_told_28 : decode cX11_told 28 = .ok (.iload_n 2, 1) := by decide +kernel
theorem dX11_told_29 : decode cX11_told 29 = .ok (.invokevirtual 185, 3) := by decide +kernel
theorem dX11_told_32 : decode cX11_told 32 = .ok (.ireturn, 1) := by decide +kernel
theorem dX11_dance_0 : decode cX11_dance 0 = .ok (.aload_n 0, 1) := by decide +kernel
theorem dX11_dance_1 : decode cX11_dance 1 = .ok (.getfield 79, 3) := by decide +kernel
theorem dX11_dance_4 : decode cX11_dance 4 = .ok (.iload_n 1, 1) := by decide +kernel
theorem dX11_dance_5 : decode cX11_dance 5 = .ok (.invokevirtual 264, 3) := by decide +kernel
theorem dX11_dance_8 : decode cX11_dance 8 = .ok (.astore_n 2, 1) := by decide +kernel
theorem dX11_dance_9 : decode cX11_dance 9 = .ok (.aload_n 2, 1) := by decide +kernel
theorem dX11_dance_10 : decode cX11_dance 10 = .ok (.ifnonnull 5, 3) := by decide +kernel
theorem dX11_dance_13 : decode cX11_dance 13 = .ok (.iconst (-1), 1) := by decide +kernel
theorem dX11_dance_14 : decode cX11_dance 14 = .ok (.ireturn, 1) := by decide +kernel
theorem dX11_dance_15 : decode cX11_dance 15 = .ok (.aload_n 0, 1) := by decide +kernel
theorem dX11_dance_16 : decode cX11_dance 16 = .ok (.getfield 40, 3) := by decide +kernel
theorem dX11_dance_19 : decode cX11_dance 19 = .ok (.ifCond .ne 6, 3) := by decide +kernel
theorem dX11_dance_22 : decode cX11_dance 22 = .ok (.bipush (-3), 2) := by decide +kernel
theorem dX11_dance_24 : decode cX11_dance 24 = .ok (.ireturn, 1) := by decide +kernel
theorem dX11_dance_25 : decode cX11_dance 25 = .ok (.iconst 0, 1) := by decide +kernel
theorem dX11_dance_26 : decode cX11_dance 26 = .ok (.istore_n 3, 1) := by decide +kernel
theorem dX11_dance_27 : decode cX11_dance 27 = .ok (.iload_n 3, 1) := by decide +kernel
theorem dX11_dance_28 : decode cX11_dance 28 = .ok (.aload_n 2, 1) := by decide +kernel
theorem dX11_dance_29 : decode cX11_dance 29 = .ok (.getfield 174, 3) := by decide +kernel
theorem dX11_dance_32 : decode cX11_dance 32 = .ok (.if_icmp .ge 22, 3) := by decide +kernel
theorem dX11_dance_35 : decode cX11_dance 35 = .ok (.aload_n 0, 1) := by decide +kernel
theorem dX11_dance_36 : decode cX11_dance 36 = .ok (.aload_n 2, 1) := by decide +kernel
theorem dX11_dance_37 : decode cX11_dance 37 = .ok (.getfield 267, 3) := by decide +kernel
theorem dX11_dance_40 : decode cX11_dance 40 = .ok (.iload_n 3, 1) := by decide +kernel
theorem dX11_dance_41 : decode cX11_dance 41 = .ok (.iaload, 1) := by decide +kernel
theorem dX11_dance_42 : decode cX11_dance 42 = .ok (.invokevirtual 177, 3) := by decide +kernel
theorem dX11_dance_45 : decode cX11_dance 45 = .ok (.ifCond .lt 9, 3) := by decide +kernel
theorem dX11_dance_48 : decode cX11_dance 48 = .ok (.iinc 3 1, 3) := by decide +kernel
theorem dX11_dance_51 : decode cX11_dance 51 = .ok (.goto (-24), 3) := by decide +kernel
theorem dX11_dance_54 : decode cX11_dance 54 = .ok (.iload_n 3, 1) := by decide +kernel
theorem dX11_dance_55 : decode cX11_dance 55 = .ok (.ireturn, 1) := by decide +kernel
theorem dX11_right_0 : decode cX11_right 0 = .ok (.aload_n 0, 1) := by decide +kernel
theorem dX11_right_1 : decode cX11_right 1 = .ok (.getfield 79, 3) := by decide +kernel
theorem dX11_right_4 : decode cX11_right 4 = .ok (.iload_n 1, 1) := by decide +kernel
theorem dX11_right_5 : decode cX11_right 5 = .ok (.invokevirtual 264, 3) := by decide +kernel
theorem dX11_right_8 : decode cX11_right 8 = .ok (.astore_n 2, 1) := by decide +kernel
theorem dX11_right_9 : decode cX11_right 9 = .ok (.aload_n 2, 1) := by decide +kernel
theorem dX11_right_10 : decode cX11_right 10 = .ok (.ifnonnull 5, 3) := by decide +kernel
theorem dX11_right_13 : decode cX11_right 13 = .ok (.iconst (-1), 1) := by decide +kernel
theorem dX11_right_14 : decode cX11_right 14 = .ok (.ireturn, 1) := by decide +kernel
theorem dX11_right_15 : decode cX11_right 15 = .ok (.aload_n 0, 1) := by decide +kernel
theorem dX11_right_16 : decode cX11_right 16 = .ok (.getfield 40, 3) := by decide +kernel
theorem dX11_right_19 : decode cX11_right 19 = .ok (.ifCond .ne 6, 3) := by decide +kernel
theorem dX11_right_22 : decode cX11_right 22 = .ok (.bipush (-3), 2) := by decide +kernel
theorem dX11_right_24 : decode cX11_right 24 = .ok (.ireturn, 1) := by decide +kernel
theorem dX11_right_25 : decode cX11_right 25 = .ok (.aload_n 0, 1) := by decide +kernel
theorem dX11_right_26 : decode cX11_right 26 = .ok (.getfield 73, 3) := by decide +kernel
theorem dX11_right_29 : decode cX11_right 29 = .ok (.aload_n 0, 1) := by decide +kernel
theorem dX11_right_30 : decode cX11_right 30 = .ok (.getfield 67, 3) := by decide +kernel
theorem dX11_right_33 : decode cX11_right 33 = .ok (.invokevirtual 163, 3) := by decide +kernel
theorem dX11_right_36 : decode cX11_right 36 = .ok (.aload_n 0, 1) := by decide +kernel
theorem dX11_right_37 : decode cX11_right 37 = .ok (.aload_n 0, 1) := by decide +kernel
theorem dX11_right_38 : decode cX11_right 38 = .ok (.getfield 73, 3) := by decide +kernel
theorem dX11_right_41 : decode cX11_right 41 = .ok (.aload_n 2, 1) := by decide +kernel
theorem dX11_right_42 : decode cX11_right 42 = .ok (.iconst 0, 1) := by decide +kernel
theorem dX11_right_43 : decode cX11_right 43 = .ok (.invokevirtual 270, 3) := by decide +kernel
theorem dX11_right_46 : decode cX11_right 46 = .ok (.ifCond .eq 7, 3) := by decide +kernel
theorem dX11_right_49 : decode cX11_right 49 = .ok (.iconst 1, 1) := by decide +kernel
theorem dX11_right_50 : decode cX11_right 50 = .ok (.goto 4, 3) := by decide +kernel
theorem dX11_right_53 : decode cX11_right 53 = .ok (.iconst 0, 1) := by decide +kernel
theorem dX11_right_54 : decode cX11_right 54 = .ok (.ireturn, 1) := by decide +kernel
theorem dX11_slips_0 : decode cX11_slips 0 = .ok (.aload_n 0, 1) := by decide +kernel
theorem dX11_slips_1 : decode cX11_slips 1 = .ok (.getfield 79, 3) := by decide +kernel
theorem dX11_slips_4 : decode cX11_slips 4 = .ok (.iload_n 1, 1) := by decide +kernel
theorem dX11_slips_5 : decode cX11_slips 5 = .ok (.invokevirtual 264, 3) := by decide +kernel
theorem dX11_slips_8 : decode cX11_slips 8 = .ok (.astore_n 3, 1) := by decide +kernel
theorem dX11_slips_9 : decode cX11_slips 9 = .ok (.aload_n 3, 1) := by decide +kernel
theorem dX11_slips_10 : decode cX11_slips 10 = .ok (.ifnull 8, 3) := by decide +kernel
theorem dX11_slips_13 : decode cX11_slips 13 = .ok (.iload_n 2, 1) := by decide +kernel
theorem dX11_slips_14 : decode cX11_slips 14 = .ok (.iconst (-1), 1) := by decide +kernel
theorem dX11_slips_15 : decode cX11_slips 15 = .ok (.if_icmp .ge 5, 3) := by decide +kernel
theorem dX11_slips_18 : decode cX11_slips 18 = .ok (.iconst (-1), 1) := by decide +kernel
theorem dX11_slips_19 : decode cX11_slips 19 = .ok (.ireturn, 1) := by decide +kernel
theorem dX11_slips_20 : decode cX11_slips 20 = .ok (.aload_n 0, 1) := by decide +kernel
theorem dX11_slips_21 : decode cX11_slips 21 = .ok (.getfield 40, 3) := by decide +kernel
theorem dX11_slips_24 : decode cX11_slips 24 = .ok (.ifCond .ne 6, 3) := by decide +kernel
theorem dX11_slips_27 : decode cX11_slips 27 = .ok (.bipush (-3), 2) := by decide +kernel
theorem dX11_slips_29 : decode cX11_slips 29 = .ok (.ireturn, 1) := by decide +kernel
theorem dX11_slips_30 : decode cX11_slips 30 = .ok (.aload_n 0, 1) := by decide +kernel
theorem dX11_slips_31 : decode cX11_slips 31 = .ok (.aload_n 3, 1) := by decide +kernel
theorem dX11_slips_32 : decode cX11_slips 32 = .ok (.iload_n 2, 1) := by decide +kernel
theorem dX11_slips_33 : decode cX11_slips 33 = .ok (.invokevirtual 274, 3) := by decide +kernel
theorem dX11_slips_36 : decode cX11_slips 36 = .ok (.ireturn, 1) := by decide +kernel
theorem dX11_fewest_0 : decode cX11_fewest 0 = .ok (.aload_n 0, 1) := by decide +kernel
theorem dX11_fewest_1 : decode cX11_fewest 1 = .ok (.iload_n 1, 1) := by decide +kernel
theorem dX11_fewest_2 : decode cX11_fewest 2 = .ok (.invokevirtual 278, 3) := by decide +kernel
theorem dX11_fewest_5 : decode cX11_fewest 5 = .ok (.astore_n 3, 1) := by decide +kernel
theorem dX11_fewest_6 : decode cX11_fewest 6 = .ok (.aload_n 3, 1) := by decide +kernel
theorem dX11_fewest_7 : decode cX11_fewest 7 = .ok (.ifnull 8, 3) := by decide +kernel
theorem dX11_fewest_10 : decode cX11_fewest 10 = .ok (.iload_n 2, 1) := by decide +kernel
theorem dX11_fewest_11 : decode cX11_fewest 11 = .ok (.iconst (-1), 1) := by decide +kernel
theorem dX11_fewest_12 : decode cX11_fewest 12 = .ok (.if_icmp .ge 5, 3) := by decide +kernel
theorem dX11_fewest_15 : decode cX11_fewest 15 = .ok (.iconst (-1), 1) := by decide +kernel
theorem dX11_fewest_16 : decode cX11_fewest 16 = .ok (.ireturn, 1) := by decide +kernel
theorem dX11_fewest_17 : decode cX11_fewest 17 = .ok (.aload_n 0, 1) := by decide +kernel
theorem dX11_fewest_18 : decode cX11_fewest 18 = .ok (.getfield 36, 3) := by decide +kernel
theorem dX11_fewest_21 : decode cX11_fewest 21 = .ok (.getfield 157, 3) := by decide +kernel
theorem dX11_fewest_24 : decode cX11_fewest 24 = .ok (.istore 4, 2) := by decide +kernel
theorem dX11_fewest_26 : decode cX11_fewest 26 = .ok (.iload 4, 2) := by decide +kernel
theorem dX11_fewest_28 : decode cX11_fewest 28 = .ok (.ifCond .eq 10, 3) := by decide +kernel
theorem dX11_fewest_31 : decode cX11_fewest 31 = .ok (.iload 4, 2) := by decide +kernel
theorem dX11_fewest_33 : decode cX11_fewest 33 = .ok (.bipush 7, 2) := by decide +kernel
theorem dX11_fewest_35 : decode cX11_fewest 35 = .ok (.if_icmp .le 6, 3) := by decide +kernel
theorem dX11_fewest_38 : decode cX11_fewest 38 = .ok (.bipush (-3), 2) := by decide +kernel
theorem dX11_fewest_40 : decode cX11_fewest 40 = .ok (.ireturn, 1) := by decide +kernel
theorem dX11_fewest_41 : decode cX11_fewest 41 = .ok (.aload_n 3, 1) := by decide +kernel
theorem dX11_fewest_42 : decode cX11_fewest 42 = .ok (.getfield 282, 3) := by decide +kernel
theorem dX11_fewest_45 : decode cX11_fewest 45 = .ok (.iconst (-1), 1) := by decide +kernel
theorem dX11_fewest_46 : decode cX11_fewest 46 = .ok (.if_icmp .ne 6, 3) := by decide +kernel
theorem dX11_fewest_49 : decode cX11_fewest 49 = .ok (.bipush (-11), 2) := by decide +kernel
theorem dX11_fewest_51 : decode cX11_fewest 51 = .ok (.ireturn, 1) := by decide +kernel
theorem dX11_fewest_52 : decode cX11_fewest 52 = .ok (.aload_n 3, 1) := by decide +kernel
theorem dX11_fewest_53 : decode cX11_fewest 53 = .ok (.getfield 282, 3) := by decide +kernel
theorem dX11_fewest_56 : decode cX11_fewest 56 = .ok (.ifCond .eq 6, 3) := by decide +kernel
theorem dX11_fewest_59 : decode cX11_fewest 59 = .ok (.bipush (-12), 2) := by decide +kernel
theorem dX11_fewest_61 : decode cX11_fewest 61 = .ok (.ireturn, 1) := by decide +kernel
theorem dX11_fewest_62 : decode cX11_fewest 62 = .ok (.aload_n 3, 1) := by decide +kernel
theorem dX11_fewest_63 : decode cX11_fewest 63 = .ok (.getfield 285, 3) := by decide +kernel
theorem dX11_fewest_66 : decode cX11_fewest 66 = .ok (.iload 4, 2) := by decide +kernel
theorem dX11_fewest_68 : decode cX11_fewest 68 = .ok (.if_icmp .ge 6, 3) := by decide +kernel
theorem dX11_fewest_71 : decode cX11_fewest 71 = .ok (.bipush (-13), 2) := by decide +kernel
theorem dX11_fewest_73 : decode cX11_fewest 73 = .ok (.ireturn, 1) := by decide +kernel
theorem dX11_fewest_74 : decode cX11_fewest 74 = .ok (.aload_n 0, 1) := by decide +kernel
theorem dX11_fewest_75 : decode cX11_fewest 75 = .ok (.getfield 96, 3) := by decide +kernel
theorem dX11_fewest_78 : decode cX11_fewest 78 = .ok (.aload_n 0, 1) := by decide +kernel
theorem dX11_fewest_79 : decode cX11_fewest 79 = .ok (.getfield 36, 3) := by decide +kernel
theorem dX11_fewest_82 : decode cX11_fewest 82 = .ok (.aload_n 3, 1) := by decide +kernel
theorem dX11_fewest_83 : decode cX11_fewest 83 = .ok (.getfield 286, 3) := by decide +kernel
theorem dX11_fewest_86 : decode cX11_fewest 86 = .ok (.invokevirtual 289, 3) := by decide +kernel
theorem dX11_fewest_89 : decode cX11_fewest 89 = .ok (.ifCond .ne 6, 3) := by decide +kernel
theorem dX11_fewest_92 : decode cX11_fewest 92 = .ok (.bipush (-2), 2) := by decide +kernel
theorem dX11_fewest_94 : decode cX11_fewest 94 = .ok (.ireturn, 1) := by decide +kernel
theorem dX11_fewest_95 : decode cX11_fewest 95 = .ok (.aload_n 0, 1) := by decide +kernel
theorem dX11_fewest_96 : decode cX11_fewest 96 = .ok (.getfield 96, 3) := by decide +kernel
theorem dX11_fewest_99 : decode cX11_fewest 99 = .ok (.iload 4, 2) := by decide +kernel
theorem dX11_fewest_101 : decode cX11_fewest 101 = .ok (.invokevirtual 293, 3) := by decide +kernel
theorem dX11_fewest_104 : decode cX11_fewest 104 = .ok (.iload_n 2, 1) := by decide +kernel
theorem dX11_fewest_105 : decode cX11_fewest 105 = .ok (.iconst (-1), 1) := by decide +kernel
theorem dX11_fewest_106 : decode cX11_fewest 106 = .ok (.if_icmp .ne 11, 3) := by decide +kernel
theorem dX11_fewest_109 : decode cX11_fewest 109 = .ok (.aload_n 0, 1) := by decide +kernel
theorem dX11_fewest_110 : decode cX11_fewest 110 = .ok (.getfield 96, 3) := by decide +kernel
theorem dX11_fewest_113 : decode cX11_fewest 113 = .ok (.getfield 296, 3) := by decide +kernel
theorem dX11_fewest_116 : decode cX11_fewest 116 = .ok (.ireturn, 1) := by decide +kernel
theorem dX11_fewest_117 : decode cX11_fewest 117 = .ok (.iload_n 2, 1) := by decide +kernel
theorem dX11_fewest_118 : decode cX11_fewest 118 = .ok (.aload_n 0, 1) := by decide +kernel
theorem dX11_fewest_119 : decode cX11_fewest 119 = .ok (.getfield 96, 3) := by decide +kernel
theorem dX11_fewest_122 : decode cX11_fewest 122 = .ok (.getfield 296, 3) := by decide +kernel
theorem dX11_fewest_125 : decode cX11_fewest 125 = .ok (.if_icmp .ge 15, 3) := by decide +kernel
theorem dX11_fewest_128 : decode cX11_fewest 128 = .ok (.aload_n 0, 1) := by decide +kernel
theorem dX11_fewest_129 : decode cX11_fewest 129 = .ok (.getfield 96, 3) := by decide +kernel
theorem dX11_fewest_132 : decode cX11_fewest 132 = .ok (.getfield 297, 3) := by decide +kernel
theorem dX11_fewest_135 : decode cX11_fewest 135 = .ok (.iload_n 2, 1) := by decide +kernel
theorem dX11_fewest_136 : decode cX11_fewest 136 = .ok (.iaload, 1) := by decide +kernel
theorem dX11_fewest_137 : decode cX11_fewest 137 = .ok (.goto 4, 3) := by decide +kernel
theorem dX11_fewest_140 : decode cX11_fewest 140 = .ok (.iconst (-1), 1) := by decide +kernel
theorem dX11_fewest_141 : decode cX11_fewest 141 = .ok (.ireturn, 1) := by decide +kernel
theorem dX11_set_0 : decode cX11_set 0 = .ok (.aload_n 0, 1) := by decide +kernel
theorem dX11_set_1 : decode cX11_set 1 = .ok (.iload_n 1, 1) := by decide +kernel
theorem dX11_set_2 : decode cX11_set 2 = .ok (.invokevirtual 300, 3) := by decide +kernel
theorem dX11_set_5 : decode cX11_set 5 = .ok (.istore_n 3, 1) := by decide +kernel
theorem dX11_set_6 : decode cX11_set 6 = .ok (.iload_n 3, 1) := by decide +kernel
theorem dX11_set_7 : decode cX11_set 7 = .ok (.ifCond .eq 5, 3) := by decide +kernel
theorem dX11_set_10 : decode cX11_set 10 = .ok (.iload_n 3, 1) := by decide +kernel
theorem dX11_set_11 : decode cX11_set 11 = .ok (.ireturn, 1) := by decide +kernel
theorem dX11_set_12 : decode cX11_set 12 = .ok (.iload_n 2, 1) := by decide +kernel
theorem dX11_set_13 : decode cX11_set 13 = .ok (.iconst (-1), 1) := by decide +kernel
theorem dX11_set_14 : decode cX11_set 14 = .ok (.if_icmp .lt 14, 3) := by decide +kernel
theorem dX11_set_17 : decode cX11_set 17 = .ok (.iload_n 2, 1) := by decide +kernel
theorem dX11_set_18 : decode cX11_set 18 = .ok (.aload_n 0, 1) := by decide +kernel
theorem dX11_set_19 : decode cX11_set 19 = .ok (.getfield 36, 3) := by decide +kernel
theorem dX11_set_22 : decode cX11_set 22 = .ok (.getfield 157, 3) := by decide +kernel
theorem dX11_set_25 : decode cX11_set 25 = .ok (.if_icmp .lt 5, 3) := by decide +kernel
theorem dX11_set_28 : decode cX11_set 28 = .ok (.iconst (-1), 1) := by decide +kernel
theorem dX11_set_29 : decode cX11_set 29 = .ok (.ireturn, 1) := by decide +kernel
theorem dX11_set_30 : decode cX11_set 30 = .ok (.iload_n 2, 1) := by decide +kernel
theorem dX11_set_31 : decode cX11_set 31 = .ok (.iconst (-1), 1) := by decide +kernel
theorem dX11_set_32 : decode cX11_set 32 = .ok (.if_icmp .ne 13, 3) := by decide +kernel
theorem dX11_set_35 : decode cX11_set 35 = .ok (.aload_n 0, 1) := by decide +kernel
theorem dX11_set_36 : decode cX11_set 36 = .ok (.getfield 103, 3) := by decide +kernel
theorem dX11_set_39 : decode cX11_set 39 = .ok (.getfield 303, 3) := by decide +kernel
theorem dX11_set_42 : decode cX11_set 42 = .ok (.goto 11, 3) := by decide +kernel
theorem dX11_set_45 : decode cX11_set 45 = .ok (.aload_n 0, 1) := by decide +kernel
theorem dX11_set_46 : decode cX11_set 46 = .ok (.getfield 103, 3) := by decide +kernel
theorem dX11_set_49 : decode cX11_set 49 = .ok (.iload_n 2, 1) := by decide +kernel
theorem dX11_set_50 : decode cX11_set 50 = .ok (.invokevirtual 306, 3) := by decide +kernel
theorem dX11_set_53 : decode cX11_set 53 = .ok (.ireturn, 1) := by decide +kernel
theorem dX11_spent_0 : decode cX11_spent 0 = .ok (.aload_n 0, 1) := by decide +kernel
theorem dX11_spent_1 : decode cX11_spent 1 = .ok (.getfield 79, 3) := by decide +kernel
theorem dX11_spent_4 : decode cX11_spent 4 = .ok (.iload_n 2, 1) := by decide +kernel
theorem dX11_spent_5 : decode cX11_spent 5 = .ok (.invokevirtual 264, 3) := by decide +kernel
theorem dX11_spent_8 : decode cX11_spent 8 = .ok (.astore_n 3, 1) := by decide +kernel
theorem dX11_spent_9 : decode cX11_spent 9 = .ok (.aload_n 3, 1) := by decide +kernel
theorem dX11_spent_10 : decode cX11_spent 10 = .ok (.ifnonnull 5, 3) := by decide +kernel
theorem dX11_spent_13 : decode cX11_spent 13 = .ok (.iconst (-1), 1) := by decide +kernel
theorem dX11_spent_14 : decode cX11_spent 14 = .ok (.ireturn, 1) := by decide +kernel
theorem dX11_spent_15 : decode cX11_spent 15 = .ok (.aload_n 0, 1) := by decide +kernel
theorem dX11_spent_16 : decode cX11_spent 16 = .ok (.iload_n 1, 1) := by decide +kernel
theorem dX11_spent_17 : decode cX11_spent 17 = .ok (.invokevirtual 300, 3) := by decide +kernel
theorem dX11_spent_20 : decode cX11_spent 20 = .ok (.istore 4, 2) := by decide +kernel
theorem dX11_spent_22 : decode cX11_spent 22 = .ok (.iload 4, 2) := by decide +kernel
theorem dX11_spent_24 : decode cX11_spent 24 = .ok (.ifCond .eq 6, 3) := by decide +kernel
theorem dX11_spent_27 : decode cX11_spent 27 = .ok (.iload 4, 2) := by decide +kernel
theorem dX11_spent_29 : decode cX11_spent 29 = .ok (.ireturn, 1) := by decide +kernel
theorem dX11_spent_30 : decode cX11_spent 30 = .ok (.aload_n 0, 1) := by decide +kernel
theorem dX11_spent_31 : decode cX11_spent 31 = .ok (.getfield 103, 3) := by decide +kernel
theorem dX11_spent_34 : decode cX11_spent 34 = .ok (.aload_n 3, 1) := by decide +kernel
theorem dX11_spent_35 : decode cX11_spent 35 = .ok (.invokevirtual 309, 3) := by decide +kernel
theorem dX11_spent_38 : decode cX11_spent 38 = .ok (.ireturn, 1) := by decide +kernel
theorem dX11_act_0 : decode cX11_act 0 = .ok (.aload_n 0, 1) := by decide +kernel
theorem dX11_act_1 : decode cX11_act 1 = .ok (.iload_n 1, 1) := by decide +kernel
theorem dX11_act_2 : decode cX11_act 2 = .ok (.invokevirtual 133, 3) := by decide +kernel
theorem dX11_act_5 : decode cX11_act 5 = .ok (.astore 4, 2) := by decide +kernel
theorem dX11_act_7 : decode cX11_act 7 = .ok (.aload_n 0, 1) := by decide +kernel
theorem dX11_act_8 : decode cX11_act 8 = .ok (.getfield 22, 3) := by decide +kernel
theorem dX11_act_11 : decode cX11_act 11 = .ok (.iconst 0, 1) := by decide +kernel
theorem dX11_act_12 : decode cX11_act 12 = .ok (.putfield 313, 3) := by decide +kernel
theorem dX11_act_15 : decode cX11_act 15 = .ok (.aload 4, 2) := by decide +kernel
theorem dX11_act_17 : decode cX11_act 17 = .ok (.ifnull 12, 3) := by decide +kernel
theorem dX11_act_20 : decode cX11_act 20 = .ok (.iload_n 2, 1) := by decide +kernel
theorem dX11_act_21 : decode cX11_act 21 = .ok (.ifCond .lt 8, 3) := by decide +kernel
theorem dX11_act_24 : decode cX11_act 24 = .ok (.iload_n 2, 1) := by decide +kernel
theorem dX11_act_25 : decode cX11_act 25 = .ok (.iconst 3, 1) := by decide +kernel
theorem dX11_act_26 : decode cX11_act 26 = .ok (.if_icmp .lt 5, 3) := by decide +kernel
theorem dX11_act_29 : decode cX11_act 29 = .ok (.iconst 0, 1) := by decide +kernel
theorem dX11_act_30 : decode cX11_act 30 = .ok (.ireturn, 1) := by decide +kernel
theorem dX11_act_31 : decode cX11_act 31 = .ok (.aload_n 0, 1) := by decide +kernel
theorem dX11_act_32 : decode cX11_act 32 = .ok (.getfield 22, 3) := by decide +kernel
theorem dX11_act_35 : decode cX11_act 35 = .ok (.aload 4, 2) := by decide +kernel
theorem dX11_act_37 : decode cX11_act 37 = .ok (.aload 4, 2) := by decide +kernel
theorem dX11_act_39 : decode cX11_act 39 = .ok (.getfield 144, 3) := by decide +kernel
theorem dX11_act_42 : decode cX11_act 42 = .ok (.iload_n 2, 1) := by decide +kernel
theorem dX11_act_43 : decode cX11_act 43 = .ok (.iload_n 3, 1) := by decide +kernel
theorem dX11_act_44 : decode cX11_act 44 = .ok (.iconst 0, 1) := by decide +kernel
theorem dX11_act_45 : decode cX11_act 45 = .ok (.invokevirtual 316, 3) := by decide +kernel
theorem dX11_act_48 : decode cX11_act 48 = .ok (.ireturn, 1) := by decide +kernel
end
section
theorem dX11_trace_0 : decode cX11_trace 0 = .ok (.aload_n 0, 1) := by decide +kernel
theorem dX11_trace_1 : decode cX11_trace 1 = .ok (.getfield 22, 3) := by decide +kernel
theorem dX11_trace_4 : decode cX11_trace 4 = .ok (.iload_n 1, 1) := by decide +kernel
theorem dX11_trace_5 : decode cX11_trace 5 = .ok (.invokevirtual 319, 3) := by decide +kernel
theorem dX11_trace_8 : decode cX11_trace 8 = .ok (.ireturn, 1) := by decide +kernel
theorem dX11_taken_0 : decode cX11_taken 0 = .ok (.iload_n 2, 1) := by decide +kernel
theorem dX11_taken_1 : decode cX11_taken 1 = .ok (.ifCond .lt 8, 3) := by decide +kernel
theorem dX11_taken_4 : decode cX11_taken 4 = .ok (.iload_n 2, 1) := by decide +kernel
theorem dX11_taken_5 : decode cX11_taken 5 = .ok (.iconst 5, 1) := by decide +kernel
theorem dX11_taken_6 : decode cX11_taken 6 = .ok (.if_icmp .lt 6, 3) := by decide +kernel
theorem dX11_taken_9 : decode cX11_taken 9 = .ok (.bipush (-2), 2) := by decide +kernel
theorem dX11_taken_11 : decode cX11_taken 11 = .ok (.ireturn, 1) := by decide +kernel
theorem dX11_taken_12 : decode cX11_taken 12 = .ok (.aload_n 0, 1) := by decide +kernel
theorem dX11_taken_13 : decode cX11_taken 13 = .ok (.iload_n 1, 1) := by decide +kernel
theorem dX11_taken_14 : decode cX11_taken 14 = .ok (.invokevirtual 133, 3) := by decide +kernel
theorem dX11_taken_17 : decode cX11_taken 17 = .ok (.astore_n 3, 1) := by decide +kernel
theorem dX11_taken_18 : decode cX11_taken 18 = .ok (.aload_n 3, 1) := by decide +kernel
theorem dX11_taken_19 : decode cX11_taken 19 = .ok (.ifnonnull 6, 3) := by decide +kernel
theorem dX11_taken_22 : decode cX11_taken 22 = .ok (.bipush (-11), 2) := by decide +kernel
theorem dX11_taken_24 : decode cX11_taken 24 = .ok (.ireturn, 1) := by decide +kernel
theorem dX11_taken_25 : decode cX11_taken 25 = .ok (.aload_n 3, 1) := by decide +kernel
theorem dX11_taken_26 : decode cX11_taken 26 = .ok (.iload_n 2, 1) := by decide +kernel
theorem dX11_taken_27 : decode cX11_taken 27 = .ok (.invokevirtual 322, 3) := by decide +kernel
theorem dX11_taken_30 : decode cX11_taken 30 = .ok (.ifCond .eq 10, 3) := by decide +kernel
theorem dX11_taken_33 : decode cX11_taken 33 = .ok (.aload_n 3, 1) := by decide +kernel
theorem dX11_taken_34 : decode cX11_taken 34 = .ok (.getfield 144, 3) := by decide +kernel
theorem dX11_taken_37 : decode cX11_taken 37 = .ok (.goto 5, 3) := by decide +kernel
theorem dX11_taken_40 : decode cX11_taken 40 = .ok (.bipush (-12), 2) := by decide +kernel
theorem dX11_taken_42 : decode cX11_taken 42 = .ok (.ireturn, 1) := by decide +kernel
theorem dX11_count_0 : decode cX11_count 0 = .ok (.iload_n 1, 1) := by decide +kernel
theorem dX11_count_1 : decode cX11_count 1 = .ok (.tableswitch 113 0 7 #[47, 52, 60, 68, 76, 84, 92, 105], 47) := by decide +kernel
theorem dX11_count_48 : decode cX11_count 48 = .ok (.aload_n 0, 1) := by decide +kernel
theorem dX11_count_49 : decode cX11_count 49 = .ok (.getfield 15, 3) := by decide +kernel
theorem dX11_count_52 : decode cX11_count 52 = .ok (.ireturn, 1) := by decide +kernel
theorem dX11_count_53 : decode cX11_count 53 = .ok (.aload_n 0, 1) := by decide +kernel
theorem dX11_count_54 : decode cX11_count 54 = .ok (.getfield 36, 3) := by decide +kernel
theorem dX11_count_57 : decode cX11_count 57 = .ok (.getfield 157, 3) := by decide +kernel
theorem dX11_count_60 : decode cX11_count 60 = .ok (.ireturn, 1) := by decide +kernel
theorem dX11_count_61 : decode cX11_count 61 = .ok (.aload_n 0, 1) := by decide +kernel
theorem dX11_count_62 : decode cX11_count 62 = .ok (.getfield 49, 3) := by decide +kernel
theorem dX11_count_65 : decode cX11_count 65 = .ok (.getfield 174, 3) := by decide +kernel
theorem dX11_count_68 : decode cX11_count 68 = .ok (.ireturn, 1) := by decide +kernel
theorem dX11_count_69 : decode cX11_count 69 = .ok (.aload_n 0, 1) := by decide +kernel
theorem dX11_count_70 : decode cX11_count 70 = .ok (.getfield 79, 3) := by decide +kernel
theorem dX11_count_73 : decode cX11_count 73 = .ok (.getfield 252, 3) := by decide +kernel
theorem dX11_count_76 : decode cX11_count 76 = .ok (.ireturn, 1) := by decide +kernel
theorem dX11_count_77 : decode cX11_count 77 = .ok (.aload_n 0, 1) := by decide +kernel
theorem dX11_count_78 : decode cX11_count 78 = .ok (.getfield 79, 3) := by decide +kernel
theorem dX11_count_81 : decode cX11_count 81 = .ok (.getfield 249, 3) := by decide +kernel
theorem dX11_count_84 : decode cX11_count 84 = .ok (.ireturn, 1) := by decide +kernel
theorem dX11_count_85 : decode cX11_count 85 = .ok (.aload_n 0, 1) := by decide +kernel
theorem dX11_count_86 : decode cX11_count 86 = .ok (.getfield 63, 3) := by decide +kernel
theorem dX11_count_89 : decode cX11_count 89 = .ok (.getfield 212, 3) := by decide +kernel
theorem dX11_count_92 : decode cX11_count 92 = .ok (.ireturn, 1) := by decide +kernel
theorem dX11_count_93 : decode cX11_count 93 = .ok (.aload_n 0, 1) := by decide +kernel
theorem dX11_count_94 : decode cX11_count 94 = .ok (.getfield 40, 3) := by decide +kernel
theorem dX11_count_97 : decode cX11_count 97 = .ok (.ifCond .eq 7, 3) := by decide +kernel
theorem dX11_count_100 : decode cX11_count 100 = .ok (.iconst 1, 1) := by decide +kernel
theorem dX11_count_101 : decode cX11_count 101 = .ok (.goto 4, 3) := by decide +kernel
theorem dX11_count_104 : decode cX11_count 104 = .ok (.iconst 0, 1) := by decide +kernel
theorem dX11_count_105 : decode cX11_count 105 = .ok (.ireturn, 1) := by decide +kernel
theorem dX11_count_106 : decode cX11_count 106 = .ok (.aload_n 0, 1) := by decide +kernel
theorem dX11_count_107 : decode cX11_count 107 = .ok (.getfield 22, 3) := by decide +kernel
theorem dX11_count_110 : decode cX11_count 110 = .ok (.getfield 313, 3) := by decide +kernel
theorem dX11_count_113 : decode cX11_count 113 = .ok (.ireturn, 1) := by decide +kernel
theorem dX11_count_114 : decode cX11_count 114 = .ok (.bipush (-2), 2) := by decide +kernel
theorem dX11_count_116 : decode cX11_count 116 = .ok (.ireturn, 1) := by decide +kernel
theorem dX11_tape_0 : decode cX11_tape 0 = .ok (.aload_n 0, 1) := by decide +kernel
theorem dX11_tape_1 : decode cX11_tape 1 = .ok (.iload_n 1, 1) := by decide +kernel
theorem dX11_tape_2 : decode cX11_tape 2 = .ok (.invokevirtual 278, 3) := by decide +kernel
theorem dX11_tape_5 : decode cX11_tape 5 = .ok (.astore 4, 2) := by decide +kernel
theorem dX11_tape_7 : decode cX11_tape 7 = .ok (.aload 4, 2) := by decide +kernel
theorem dX11_tape_9 : decode cX11_tape 9 = .ok (.ifnonnull 5, 3) := by decide +kernel
theorem dX11_tape_12 : decode cX11_tape 12 = .ok (.iconst (-1), 1) := by decide +kernel
theorem dX11_tape_13 : decode cX11_tape 13 = .ok (.ireturn, 1) := by decide +kernel
theorem dX11_tape_14 : decode cX11_tape 14 = .ok (.iload_n 2, 1) := by decide +kernel
theorem dX11_tape_15 : decode cX11_tape 15 = .ok (.iconst (-1), 1) := by decide +kernel
theorem dX11_tape_16 : decode cX11_tape 16 = .ok (.if_icmp .ne 10, 3) := by decide +kernel
theorem dX11_tape_19 : decode cX11_tape 19 = .ok (.aload 4, 2) := by decide +kernel
theorem dX11_tape_21 : decode cX11_tape 21 = .ok (.invokevirtual 325, 3) := by decide +kernel
theorem dX11_tape_24 : decode cX11_tape 24 = .ok (.iconst 1, 1) := by decide +kernel
theorem dX11_tape_25 : decode cX11_tape 25 = .ok (.ireturn, 1) := by decide +kernel
theorem dX11_tape_26 : decode cX11_tape 26 = .ok (.iload_n 2, 1) := by decide +kernel
theorem dX11_tape_27 : decode cX11_tape 27 = .ok (.ifCond .lt 14, 3) := by decide +kernel
theorem dX11_tape_30 : decode cX11_tape 30 = .ok (.iload_n 2, 1) := by decide +kernel
theorem dX11_tape_31 : decode cX11_tape 31 = .ok (.iconst 4, 1) := by decide +kernel
theorem dX11_tape_32 : decode cX11_tape 32 = .ok (.if_icmp .gt 9, 3) := by decide +kernel
theorem dX11_tape_35 : decode cX11_tape 35 = .ok (.iload_n 3, 1) := by decide +kernel
theorem dX11_tape_36 : decode cX11_tape 36 = .ok (.bipush 60, 2) := by decide +kernel
theorem dX11_tape_38 : decode cX11_tape 38 = .ok (.if_icmp .le 6, 3) := by decide +kernel
theorem dX11_tape_41 : decode cX11_tape 41 = .ok (.bipush (-2), 2) := by decide +kernel
theorem dX11_tape_43 : decode cX11_tape 43 = .ok (.ireturn, 1) := by decide +kernel
theorem dX11_tape_44 : decode cX11_tape 44 = .ok (.iload_n 3, 1) := by decide +kernel
theorem dX11_tape_45 : decode cX11_tape 45 = .ok (.ifCond .ge 6, 3) := by decide +kernel
theorem dX11_tape_48 : decode cX11_tape 48 = .ok (.bipush (-14), 2) := by decide +kernel
theorem dX11_tape_50 : decode cX11_tape 50 = .ok (.ireturn, 1) := by decide +kernel
theorem dX11_tape_51 : decode cX11_tape 51 = .ok (.aload 4, 2) := by decide +kernel
theorem dX11_tape_53 : decode cX11_tape 53 = .ok (.iload_n 2, 1) := by decide +kernel
theorem dX11_tape_54 : decode cX11_tape 54 = .ok (.iload_n 3, 1) := by decide +kernel
theorem dX11_tape_55 : decode cX11_tape 55 = .ok (.invokevirtual 328, 3) := by decide +kernel
theorem dX11_tape_58 : decode cX11_tape 58 = .ok (.iconst 1, 1) := by decide +kernel
theorem dX11_tape_59 : decode cX11_tape 59 = .ok (.ireturn, 1) := by decide +kernel
theorem dX11_item_0 : decode cX11_item 0 = .ok (.aload_n 0, 1) := by decide +kernel
theorem dX11_item_1 : decode cX11_item 1 = .ok (.iload_n 1, 1) := by decide +kernel
theorem dX11_item_2 : decode cX11_item 2 = .ok (.invokevirtual 278, 3) := by decide +kernel
theorem dX11_item_5 : decode cX11_item 5 = .ok (.astore 4, 2) := by decide +kernel
theorem dX11_item_7 : decode cX11_item 7 = .ok (.aload 4, 2) := by decide +kernel
theorem dX11_item_9 : decode cX11_item 9 = .ok (.ifnonnull 5, 3) := by decide +kernel
theorem dX11_item_12 : decode cX11_item 12 = .ok (.iconst (-1), 1) := by decide +kernel
theorem dX11_item_13 : decode cX11_item 13 = .ok (.ireturn, 1) := by decide +kernel
theorem dX11_item_14 : decode cX11_item 14 = .ok (.aload 4, 2) := by decide +kernel
theorem dX11_item_16 : decode cX11_item 16 = .ok (.getfield 282, 3) := by decide +kernel
theorem dX11_item_19 : decode cX11_item 19 = .ok (.iconst (-1), 1) := by decide +kernel
theorem dX11_item_20 : decode cX11_item 20 = .ok (.if_icmp .ne 6, 3) := by decide +kernel
theorem dX11_item_23 : decode cX11_item 23 = .ok (.bipush (-11), 2) := by decide +kernel
theorem dX11_item_25 : decode cX11_item 25 = .ok (.ireturn, 1) := by decide +kernel
theorem dX11_item_26 : decode cX11_item 26 = .ok (.iload_n 2, 1) := by decide +kernel
theorem dX11_item_27 : decode cX11_item 27 = .ok (.ifCond .lt 12, 3) := by decide +kernel
theorem dX11_item_30 : decode cX11_item 30 = .ok (.iload_n 2, 1) := by decide +kernel
theorem dX11_item_31 : decode cX11_item 31 = .ok (.aload 4, 2) := by decide +kernel
theorem dX11_item_33 : decode cX11_item 33 = .ok (.getfield 285, 3) := by decide +kernel
theorem dX11_item_36 : decode cX11_item 36 = .ok (.if_icmp .lt 6, 3) := by decide +kernel
theorem dX11_item_39 : decode cX11_item 39 = .ok (.bipush (-13), 2) := by decide +kernel
theorem dX11_item_41 : decode cX11_item 41 = .ok (.ireturn, 1) := by decide +kernel
theorem dX11_item_42 : decode cX11_item 42 = .ok (.aload 4, 2) := by decide +kernel
theorem dX11_item_44 : decode cX11_item 44 = .ok (.getfield 286, 3) := by decide +kernel
theorem dX11_item_47 : decode cX11_item 47 = .ok (.iload_n 2, 1) := by decide +kernel
theorem dX11_item_48 : decode cX11_item 48 = .ok (.aload 4, 2) := by decide +kernel
theorem dX11_item_50 : decode cX11_item 50 = .ok (.iload_n 3, 1) := by decide +kernel
theorem dX11_item_51 : decode cX11_item 51 = .ok (.invokevirtual 332, 3) := by decide +kernel
theorem dX11_item_54 : decode cX11_item 54 = .ok (.iastore, 1) := by decide +kernel
theorem dX11_item_55 : decode cX11_item 55 = .ok (.iconst 1, 1) := by decide +kernel
theorem dX11_item_56 : decode cX11_item 56 = .ok (.ireturn, 1) := by decide +kernel
theorem dX11_read_0 : decode cX11_read 0 = .ok (.aload_n 0, 1) := by decide +kernel
theorem dX11_read_1 : decode cX11_read 1 = .ok (.iload_n 1, 1) := by decide +kernel
theorem dX11_read_2 : decode cX11_read 2 = .ok (.invokevirtual 278, 3) := by decide +kernel
theorem dX11_read_5 : decode cX11_read 5 = .ok (.astore_n 3, 1) := by decide +kernel
theorem dX11_read_6 : decode cX11_read 6 = .ok (.aload_n 3, 1) := by decide +kernel
theorem dX11_read_7 : decode cX11_read 7 = .ok (.ifnull 15, 3) := by decide +kernel
theorem dX11_read_10 : decode cX11_read 10 = .ok (.iload_n 2, 1) := by decide +kernel
theorem dX11_read_11 : decode cX11_read 11 = .ok (.ifCond .lt 11, 3) := by decide +kernel
theorem dX11_read_14 : decode cX11_read 14 = .ok (.iload_n 2, 1) := by decide +kernel
theorem dX11_read_15 : decode cX11_read 15 = .ok (.aload_n 3, 1) := by decide +kernel
theorem dX11_read_16 : decode cX11_read 16 = .ok (.getfield 285, 3) := by decide +kernel
theorem dX11_read_19 : decode cX11_read 19 = .ok (.if_icmp .lt 7, 3) := by decide +kernel
theorem dX11_read_22 : decode cX11_read 22 = .ok (.ldc_w 335, 3) := by decide +kernel
theorem dX11_read_25 : decode cX11_read 25 = .ok (.ireturn, 1) := by decide +kernel
theorem dX11_read_26 : decode cX11_read 26 = .ok (.aload_n 3, 1) := by decide +kernel
theorem dX11_read_27 : decode cX11_read 27 = .ok (.getfield 286, 3) := by decide +kernel
theorem dX11_read_30 : decode cX11_read 30 = .ok (.iload_n 2, 1) := by decide +kernel
theorem dX11_read_31 : decode cX11_read 31 = .ok (.iaload, 1) := by decide +kernel
theorem dX11_read_32 : decode cX11_read 32 = .ok (.ireturn, 1) := by decide +kernel
theorem dX11_shift_0 : decode cX11_shift 0 = .ok (.aload_n 0, 1) := by decide +kernel
theorem dX11_shift_1 : decode cX11_shift 1 = .ok (.iload_n 1, 1) := by decide +kernel
theorem dX11_shift_2 : decode cX11_shift 2 = .ok (.invokevirtual 278, 3) := by decide +kernel
theorem dX11_shift_5 : decode cX11_shift 5 = .ok (.astore 6, 2) := by decide +kernel
theorem dX11_shift_7 : decode cX11_shift 7 = .ok (.aload_n 0, 1) := by decide +kernel
theorem dX11_shift_8 : decode cX11_shift 8 = .ok (.iload_n 3, 1) := by decide +kernel
theorem dX11_shift_9 : decode cX11_shift 9 = .ok (.invokevirtual 278, 3) := by decide +kernel
theorem dX11_shift_12 : decode cX11_shift 12 = .ok (.astore 7, 2) := by decide +kernel
theorem dX11_shift_14 : decode cX11_shift 14 = .ok (.aload 6, 2) := by decide +kernel
theorem dX11_shift_16 : decode cX11_shift 16 = .ok (.ifnull 8, 3) := by decide +kernel
theorem dX11_shift_19 : decode cX11_shift 19 = .ok (.aload 7, 2) := by decide +kernel
theorem dX11_shift_21 : decode cX11_shift 21 = .ok (.ifnonnull 5, 3) := by decide +kernel
theorem dX11_shift_24 : decode cX11_shift 24 = .ok (.iconst (-1), 1) := by decide +kernel
theorem dX11_shift_25 : decode cX11_shift 25 = .ok (.ireturn, 1) := by decide +kernel
theorem dX11_shift_26 : decode cX11_shift 26 = .ok (.aload 6, 2) := by decide +kernel
theorem dX11_shift_28 : decode cX11_shift 28 = .ok (.getfield 282, 3) := by decide +kernel
theorem dX11_shift_31 : decode cX11_shift 31 = .ok (.iconst (-1), 1) := by decide +kernel
theorem dX11_shift_32 : decode cX11_shift 32 = .ok (.if_icmp .eq 12, 3) := by decide +kernel
theorem dX11_shift_35 : decode cX11_shift 35 = .ok (.aload 7, 2) := by decide +kernel
theorem dX11_shift_37 : decode cX11_shift 37 = .ok (.getfield 282, 3) := by decide +kernel
theorem dX11_shift_40 : decode cX11_shift 40 = .ok (.iconst (-1), 1) := by decide +kernel
theorem dX11_shift_41 : decode cX11_shift 41 = .ok (.if_icmp .ne 6, 3) := by decide +kernel
theorem dX11_shift_44 : decode cX11_shift 44 = .ok (.bipush (-11), 2) := by decide +kernel
theorem dX11_shift_46 : decode cX11_shift 46 = .ok (.ireturn, 1) := by decide +kernel
theorem dX11_shift_47 : decode cX11_shift 47 = .ok (.aload 6, 2) := by decide +kernel
theorem dX11_shift_49 : decode cX11_shift 49 = .ok (.getfield 282, 3) := by decide +kernel
theorem dX11_shift_52 : decode cX11_shift 52 = .ok (.aload 7, 2) := by decide +kernel
theorem dX11_shift_54 : decode cX11_shift 54 = .ok (.getfield 282, 3) := by decide +kernel
theorem dX11_shift_57 : decode cX11_shift 57 = .ok (.if_icmp .eq 6, 3) := by decide +kernel
theorem dX11_shift_60 : decode cX11_shift 60 = .ok (.bipush (-12), 2) := by decide +kernel
theorem dX11_shift_62 : decode cX11_shift 62 = .ok (.ireturn, 1) := by decide +kernel
theorem dX11_shift_63 : decode cX11_shift 63 = .ok (.aload 6, 2) := by decide +kernel
theorem dX11_shift_65 : decode cX11_shift 65 = .ok (.iload_n 2, 1) := by decide +kernel
theorem dX11_shift_66 : decode cX11_shift 66 = .ok (.iload 5, 2) := by decide +kernel
theorem dX11_shift_68 : decode cX11_shift 68 = .ok (.invokevirtual 336, 3) := by decide +kernel
theorem dX11_shift_71 : decode cX11_shift 71 = .ok (.ifCond .eq 15, 3) := by decide +kernel
theorem dX11_shift_74 : decode cX11_shift 74 = .ok (.aload 7, 2) := by decide +kernel
theorem dX11_shift_76 : decode cX11_shift 76 = .ok (.iload 4, 2) := by decide +kernel
theorem dX11_shift_78 : decode cX11_shift 78 = .ok (.iload 5, 2) := by decide +kernel
theorem dX11_shift_80 : decode cX11_shift 80 = .ok (.invokevirtual 336, 3) := by decide +kernel
theorem dX11_shift_83 : decode cX11_shift 83 = .ok (.ifCond .ne 6, 3) := by decide +kernel
theorem dX11_shift_86 : decode cX11_shift 86 = .ok (.bipush (-13), 2) := by decide +kernel
theorem dX11_shift_88 : decode cX11_shift 88 = .ok (.ireturn, 1) := by decide +kernel
theorem dX11_shift_89 : decode cX11_shift 89 = .ok (.aload 6, 2) := by decide +kernel
theorem dX11_shift_91 : decode cX11_shift 91 = .ok (.getfield 286, 3) := by decide +kernel
theorem dX11_shift_94 : decode cX11_shift 94 = .ok (.iload_n 2, 1) := by decide +kernel
theorem dX11_shift_95 : decode cX11_shift 95 = .ok (.aload 7, 2) := by decide +kernel
theorem dX11_shift_97 : decode cX11_shift 97 = .ok (.getfield 286, 3) := by decide +kernel
theorem dX11_shift_100 : decode cX11_shift 100 = .ok (.iload 4, 2) := by decide +kernel
theorem dX11_shift_102 : decode cX11_shift 102 = .ok (.iload 5, 2) := by decide +kernel
theorem dX11_shift_104 : decode cX11_shift 104 = .ok (.invokestatic 339, 3) := by decide +kernel
theorem dX11_shift_107 : decode cX11_shift 107 = .ok (.iload 5, 2) := by decide +kernel
theorem dX11_shift_109 : decode cX11_shift 109 = .ok (.ireturn, 1) := by decide +kernel
theorem dX11_isPlace_0 : decode cX11_isPlace 0 = .ok (.iload_n 1, 1) := by decide +kernel
theorem dX11_isPlace_1 : decode cX11_isPlace 1 = .ok (.ifCond .lt 18, 3) := by decide +kernel
theorem dX11_isPlace_4 : decode cX11_isPlace 4 = .ok (.iload_n 1, 1) := by decide +kernel
theorem dX11_isPlace_5 : decode cX11_isPlace 5 = .ok (.aload_n 0, 1) := by decide +kernel
theorem dX11_isPlace_6 : decode cX11_isPlace 6 = .ok (.getfield 36, 3) := by decide +kernel
theorem dX11_isPlace_9 : decode cX11_isPlace 9 = .ok (.getfield 157, 3) := by decide +kernel
theorem dX11_isPlace_12 : decode cX11_isPlace 12 = .ok (.if_icmp .ge 7, 3) := by decide +kernel
theorem dX11_isPlace_15 : decode cX11_isPlace 15 = .ok (.iconst 1, 1) := by decide +kernel
theorem dX11_isPlace_16 : decode cX11_isPlace 16 = .ok (.goto 4, 3) := by decide +kernel
theorem dX11_isPlace_19 : decode cX11_isPlace 19 = .ok (.iconst 0, 1) := by decide +kernel
theorem dX11_isPlace_20 : decode cX11_isPlace 20 = .ok (.ireturn, 1) := by decide +kernel
theorem dX11_behind_0 : decode cX11_behind 0 = .ok (.iload_n 0, 1) := by decide +kernel
theorem dX11_behind_1 : decode cX11_behind 1 = .ok (.iconst 1, 1) := by decide +kernel
theorem dX11_behind_2 : decode cX11_behind 2 = .ok (.iadd, 1) := by decide +kernel
theorem dX11_behind_3 : decode cX11_behind 3 = .ok (.iload_n 1, 1) := by decide +kernel
theorem dX11_behind_4 : decode cX11_behind 4 = .ok (.if_icmp .ge 9, 3) := by decide +kernel
theorem dX11_behind_7 : decode cX11_behind 7 = .ok (.iload_n 0, 1) := by decide +kernel
theorem dX11_behind_8 : decode cX11_behind 8 = .ok (.iconst 1, 1) := by decide +kernel
theorem dX11_behind_9 : decode cX11_behind 9 = .ok (.iadd, 1) := by decide +kernel
theorem dX11_behind_10 : decode cX11_behind 10 = .ok (.goto 4, 3) := by decide +kernel
theorem dX11_behind_13 : decode cX11_behind 13 = .ok (.iconst 0, 1) := by decide +kernel
theorem dX11_behind_14 : decode cX11_behind 14 = .ok (.ireturn, 1) := by decide +kernel
theorem dX11_ahead_0 : decode cX11_ahead 0 = .ok (.iload_n 0, 1) := by decide +kernel
theorem dX11_ahead_1 : decode cX11_ahead 1 = .ok (.ifCond .le 9, 3) := by decide +kernel
theorem dX11_ahead_4 : decode cX11_ahead 4 = .ok (.iload_n 0, 1) := by decide +kernel
theorem dX11_ahead_5 : decode cX11_ahead 5 = .ok (.iconst 1, 1) := by decide +kernel
theorem dX11_ahead_6 : decode cX11_ahead 6 = .ok (.isub, 1) := by decide +kernel
theorem dX11_ahead_7 : decode cX11_ahead 7 = .ok (.goto 6, 3) := by decide +kernel
theorem dX11_ahead_10 : decode cX11_ahead 10 = .ok (.iload_n 1, 1) := by decide +kernel
theorem dX11_ahead_11 : decode cX11_ahead 11 = .ok (.iconst 1, 1) := by decide +kernel
theorem dX11_ahead_12 : decode cX11_ahead 12 = .ok (.isub, 1) := by decide +kernel
theorem dX11_ahead_13 : decode cX11_ahead 13 = .ok (.ireturn, 1) := by decide +kernel
theorem dX11_isColour_0 : decode cX11_isColour 0 = .ok (.iload_n 0, 1) := by decide +kernel
theorem dX11_isColour_1 : decode cX11_isColour 1 = .ok (.ifCond .lt 13, 3) := by decide +kernel
theorem dX11_isColour_4 : decode cX11_isColour 4 = .ok (.iload_n 0, 1) := by decide +kernel
theorem dX11_isColour_5 : decode cX11_isColour 5 = .ok (.bipush 8, 2) := by decide +kernel
theorem dX11_isColour_7 : decode cX11_isColour 7 = .ok (.if_icmp .ge 7, 3) := by decide +kernel
theorem dX11_isColour_10 : decode cX11_isColour 10 = .ok (.iconst 1, 1) := by decide +kernel
theorem dX11_isColour_11 : decode cX11_isColour 11 = .ok (.goto 4, 3) := by decide +kernel
theorem dX11_isColour_14 : decode cX11_isColour 14 = .ok (.iconst 0, 1) := by decide +kernel
theorem dX11_isColour_15 : decode cX11_isColour 15 = .ok (.ireturn, 1) := by decide +kernel
theorem dX11_personAt_0 : decode cX11_personAt 0 = .ok (.iload_n 1, 1) := by decide +kernel
theorem dX11_personAt_1 : decode cX11_personAt 1 = .ok (.ifCond .lt 20, 3) := by decide +kernel
theorem dX11_personAt_4 : decode cX11_personAt 4 = .ok (.iload_n 1, 1) := by decide +kernel
theorem dX11_personAt_5 : decode cX11_personAt 5 = .ok (.aload_n 0, 1) := by decide +kernel
theorem dX11_personAt_6 : decode cX11_personAt 6 = .ok (.getfield 15, 3) := by decide +kernel
theorem dX11_personAt_9 : decode cX11_personAt 9 = .ok (.if_icmp .ge 12, 3) := by decide +kernel
theorem dX11_personAt_12 : decode cX11_personAt 12 = .ok (.aload_n 0, 1) := by decide +kernel
theorem dX11_personAt_13 : decode cX11_personAt 13 = .ok (.getfield 11, 3) := by decide +kernel
theorem dX11_personAt_16 : decode cX11_personAt 16 = .ok (.iload_n 1, 1) := by decide +kernel
theorem dX11_personAt_17 : decode cX11_personAt 17 = .ok (.aaload, 1) := by decide +kernel
theorem dX11_personAt_18 : decode cX11_personAt 18 = .ok (.goto 4, 3) := by decide +kernel
theorem dX11_personAt_21 : decode cX11_personAt 21 = .ok (.aconst_null, 1) := by decide +kernel
theorem dX11_personAt_22 : decode cX11_personAt 22 = .ok (.areturn, 1) := by decide +kernel
theorem dX11_figureOrDance_0 : decode cX11_figureOrDance 0 = .ok (.iload_n 1, 1) := by decide +kernel
theorem dX11_figureOrDance_1 : decode cX11_figureOrDance 1 = .ok (.iconst (-1), 1) := by decide +kernel
theorem dX11_figureOrDance_2 : decode cX11_figureOrDance 2 = .ok (.if_icmp .ne 10, 3) := by decide +kernel
theorem dX11_figureOrDance_5 : decode cX11_figureOrDance 5 = .ok (.aload_n 0, 1) := by decide +kernel
theorem dX11_figureOrDance_6 : decode cX11_figureOrDance 6 = .ok (.getfield 49, 3) := by decide +kernel
theorem dX11_figureOrDance_9 : decode cX11_figureOrDance 9 = .ok (.goto 11, 3) := by decide +kernel
theorem dX11_figureOrDance_12 : decode cX11_figureOrDance 12 = .ok (.aload_n 0, 1) := by decide +kernel
theorem dX11_figureOrDance_13 : decode cX11_figureOrDance 13 = .ok (.getfield 79, 3) := by decide +kernel
theorem dX11_figureOrDance_16 : decode cX11_figureOrDance 16 = .ok (.iload_n 1, 1) := by decide +kernel
theorem dX11_figureOrDance_17 : decode cX11_figureOrDance 17 = .ok (.invokevirtual 264, 3) := by decide +kernel
theorem dX11_figureOrDance_20 : decode cX11_figureOrDance 20 = .ok (.areturn, 1) := by decide +kernel
theorem dX11_tapeAt_0 : decode cX11_tapeAt 0 = .ok (.iload_n 1, 1) := by decide +kernel
theorem dX11_tapeAt_1 : decode cX11_tapeAt 1 = .ok (.ifCond .lt 18, 3) := by decide +kernel
theorem dX11_tapeAt_4 : decode cX11_tapeAt 4 = .ok (.iload_n 1, 1) := by decide +kernel
theorem dX11_tapeAt_5 : decode cX11_tapeAt 5 = .ok (.bipush 6, 2) := by decide +kernel
theorem dX11_tapeAt_7 : decode cX11_tapeAt 7 = .ok (.if_icmp .ge 12, 3) := by decide +kernel
theorem dX11_tapeAt_10 : decode cX11_tapeAt 10 = .ok (.aload_n 0, 1) := by decide +kernel
theorem dX11_tapeAt_11 : decode cX11_tapeAt 11 = .ok (.getfield 109, 3) := by decide +kernel
theorem dX11_tapeAt_14 : decode cX11_tapeAt 14 = .ok (.iload_n 1, 1) := by decide +kernel
theorem dX11_tapeAt_15 : decode cX11_tapeAt 15 = .ok (.aaload, 1) := by decide +kernel
theorem dX11_tapeAt_16 : decode cX11_tapeAt 16 = .ok (.goto 4, 3) := by decide +kernel
theorem dX11_tapeAt_19 : decode cX11_tapeAt 19 = .ok (.aconst_null, 1) := by decide +kernel
theorem dX11_tapeAt_20 : decode cX11_tapeAt 20 = .ok (.areturn, 1) := by decide +kernel
theorem dX11_standsInRing_0 : decode cX11_standsInRing 0 = .ok (.iconst 0, 1) := by decide +kernel
theorem dX11_standsInRing_1 : decode cX11_standsInRing 1 = .ok (.istore_n 2, 1) := by decide +kernel
theorem dX11_standsInRing_2 : decode cX11_standsInRing 2 = .ok (.iload_n 2, 1) := by decide +kernel
theorem dX11_standsInRing_3 : decode cX11_standsInRing 3 = .ok (.aload_n 0, 1) := by decide +kernel
theorem dX11_standsInRing_4 : decode cX11_standsInRing 4 = .ok (.getfield 36, 3) := by decide +kernel
theorem dX11_standsInRing_7 : decode cX11_standsInRing 7 = .ok (.getfield 157, 3) := by decide +kernel
theorem dX11_standsInRing_10 : decode cX11_standsInRing 10 = .ok (.if_icmp .ge 21, 3) := by decide +kernel
theorem dX11_standsInRing_13 : decode cX11_standsInRing 13 = .ok (.aload_n 0, 1) := by decide +kernel
theorem dX11_standsInRing_14 : decode cX11_standsInRing 14 = .ok (.getfield 26, 3) := by decide +kernel
theorem dX11_standsInRing_17 : decode cX11_standsInRing 17 = .ok (.iload_n 2, 1) := by decide +kernel
theorem dX11_standsInRing_18 : decode cX11_standsInRing 18 = .ok (.iaload, 1) := by decide +kernel
theorem dX11_standsInRing_19 : decode cX11_standsInRing 19 = .ok (.iload_n 1, 1) := by decide +kernel
theorem dX11_standsInRing_20 : decode cX11_standsInRing 20 = .ok (.if_icmp .ne 5, 3) := by decide +kernel
theorem dX11_standsInRing_23 : decode cX11_standsInRing 23 = .ok (.iconst 1, 1) := by decide +kernel
theorem dX11_standsInRing_24 : decode cX11_standsInRing 24 = .ok (.ireturn, 1) := by decide +kernel
theorem dX11_standsInRing_25 : decode cX11_standsInRing 25 = .ok (.iinc 2 1, 3) := by decide +kernel
theorem dX11_standsInRing_28 : decode cX11_standsInRing 28 = .ok (.goto (-26), 3) := by decide +kernel
theorem dX11_standsInRing_31 : decode cX11_standsInRing 31 = .ok (.iconst 0, 1) := by decide +kernel
theorem dX11_standsInRing_32 : decode cX11_standsInRing 32 = .ok (.ireturn, 1) := by decide +kernel
theorem dX11_doStep_0 : decode cX11_doStep 0 = .ok (.aload_n 0, 1) := by decide +kernel
theorem dX11_doStep_1 : decode cX11_doStep 1 = .ok (.getfield 40, 3) := by decide +kernel
theorem dX11_doStep_4 : decode cX11_doStep 4 = .ok (.ifCond .ne 6, 3) := by decide +kernel
theorem dX11_doStep_7 : decode cX11_doStep 7 = .ok (.bipush (-3), 2) := by decide +kernel
theorem dX11_doStep_9 : decode cX11_doStep 9 = .ok (.ireturn, 1) := by decide +kernel
theorem dX11_doStep_10 : decode cX11_doStep 10 = .ok (.aload_n 0, 1) := by decide +kernel
theorem dX11_doStep_11 : decode cX11_doStep 11 = .ok (.getfield 36, 3) := by decide +kernel
theorem dX11_doStep_14 : decode cX11_doStep 14 = .ok (.iload_n 1, 1) := by decide +kernel
theorem dX11_doStep_15 : decode cX11_doStep 15 = .ok (.invokevirtual 345, 3) := by decide +kernel
theorem dX11_doStep_18 : decode cX11_doStep 18 = .ok (.istore_n 2, 1) := by decide +kernel
theorem dX11_doStep_19 : decode cX11_doStep 19 = .ok (.iload_n 2, 1) := by decide +kernel
theorem dX11_doStep_20 : decode cX11_doStep 20 = .ok (.ifCond .eq 5, 3) := by decide +kernel
theorem dX11_doStep_23 : decode cX11_doStep 23 = .ok (.iload_n 2, 1) := by decide +kernel
theorem dX11_doStep_24 : decode cX11_doStep 24 = .ok (.ireturn, 1) := by decide +kernel
theorem dX11_doStep_25 : decode cX11_doStep 25 = .ok (.iload_n 1, 1) := by decide +kernel
theorem dX11_doStep_26 : decode cX11_doStep 26 = .ok (.bipush 100, 2) := by decide +kernel
theorem dX11_doStep_28 : decode cX11_doStep 28 = .ok (.if_icmp .lt 21, 3) := by decide +kernel
theorem dX11_doStep_31 : decode cX11_doStep 31 = .ok (.aload_n 0, 1) := by decide +kernel
theorem dX11_doStep_32 : decode cX11_doStep 32 = .ok (.getfield 56, 3) := by decide +kernel
theorem dX11_doStep_35 : decode cX11_doStep 35 = .ok (.aload_n 0, 1) := by decide +kernel
theorem dX11_doStep_36 : decode cX11_doStep 36 = .ok (.getfield 36, 3) := by decide +kernel
theorem dX11_doStep_39 : decode cX11_doStep 39 = .ok (.invokevirtual 347, 3) := by decide +kernel
theorem dX11_doStep_42 : decode cX11_doStep 42 = .ok (.aload_n 0, 1) := by decide +kernel
theorem dX11_doStep_43 : decode cX11_doStep 43 = .ok (.getfield 36, 3) := by decide +kernel
theorem dX11_doStep_46 : decode cX11_doStep 46 = .ok (.invokevirtual 349, 3) := by decide +kernel
theorem dX11_doStep_49 : decode cX11_doStep 49 = .ok (.aload_n 0, 1) := by decide +kernel
theorem dX11_doStep_50 : decode cX11_doStep 50 = .ok (.getfield 49, 3) := by decide +kernel
theorem dX11_doStep_53 : decode cX11_doStep 53 = .ok (.iload_n 1, 1) := by decide +kernel
theorem dX11_doStep_54 : decode cX11_doStep 54 = .ok (.invokevirtual 352, 3) := by decide +kernel
theorem dX11_doStep_57 : decode cX11_doStep 57 = .ok (.pop, 1) := by decide +kernel
theorem dX11_doStep_58 : decode cX11_doStep 58 = .ok (.aload_n 0, 1) := by decide +kernel
theorem dX11_doStep_59 : decode cX11_doStep 59 = .ok (.getfield 49, 3) := by decide +kernel
theorem dX11_doStep_62 : decode cX11_doStep 62 = .ok (.getfield 174, 3) := by decide +kernel
theorem dX11_doStep_65 : decode cX11_doStep 65 = .ok (.ireturn, 1) := by decide +kernel
theorem dX11_weaves_0 : decode cX11_weaves 0 = .ok (.aload_n 1, 1) := by decide +kernel
theorem dX11_weaves_1 : decode cX11_weaves 1 = .ok (.iload_n 2, 1) := by decide +kernel
theorem dX11_weaves_2 : decode cX11_weaves 2 = .ok (.invokevirtual 345, 3) := by decide +kernel
theorem dX11_weaves_5 : decode cX11_weaves 5 = .ok (.ifCond .eq 5, 3) := by decide +kernel
theorem dX11_weaves_8 : decode cX11_weaves 8 = .ok (.iconst 0, 1) := by decide +kernel
theorem dX11_weaves_9 : decode cX11_weaves 9 = .ok (.ireturn, 1) := by decide +kernel
theorem dX11_weaves_10 : decode cX11_weaves 10 = .ok (.iload_n 2, 1) := by decide +kernel
theorem dX11_weaves_11 : decode cX11_weaves 11 = .ok (.bipush 100, 2) := by decide +kernel
theorem dX11_weaves_13 : decode cX11_weaves 13 = .ok (.if_icmp .ge 5, 3) := by decide +kernel
theorem dX11_weaves_16 : decode cX11_weaves 16 = .ok (.iconst 1, 1) := by decide +kernel
theorem dX11_weaves_17 : decode cX11_weaves 17 = .ok (.ireturn, 1) := by decide +kernel
theorem dX11_weaves_18 : decode cX11_weaves 18 = .ok (.aload_n 0, 1) := by decide +kernel
theorem dX11_weaves_19 : decode cX11_weaves 19 = .ok (.getfield 56, 3) := by decide +kernel
theorem dX11_weaves_22 : decode cX11_weaves 22 = .ok (.aload_n 1, 1) := by decide +kernel
theorem dX11_weaves_23 : decode cX11_weaves 23 = .ok (.invokevirtual 355, 3) := by decide +kernel
theorem dX11_weaves_26 : decode cX11_weaves 26 = .ok (.istore_n 3, 1) := by decide +kernel
theorem dX11_weaves_27 : decode cX11_weaves 27 = .ok (.aload_n 1, 1) := by decide +kernel
theorem dX11_weaves_28 : decode cX11_weaves 28 = .ok (.invokevirtual 349, 3) := by decide +kernel
theorem dX11_weaves_31 : decode cX11_weaves 31 = .ok (.iload_n 3, 1) := by decide +kernel
theorem dX11_weaves_32 : decode cX11_weaves 32 = .ok (.ireturn, 1) := by decide +kernel
theorem dX11_weavesOn_0 : decode cX11_weavesOn 0 = .ok (.iload_n 3, 1) := by decide +kernel
theorem dX11_weavesOn_1 : decode cX11_weavesOn 1 = .ok (.istore 4, 2) := by decide +kernel
theorem dX11_weavesOn_3 : decode cX11_weavesOn 3 = .ok (.iload 4, 2) := by decide +kernel
theorem dX11_weavesOn_5 : decode cX11_weavesOn 5 = .ok (.aload_n 2, 1) := by decide +kernel
theorem dX11_weavesOn_6 : decode cX11_weavesOn 6 = .ok (.getfield 174, 3) := by decide +kernel
theorem dX11_weavesOn_9 : decode cX11_weavesOn 9 = .ok (.if_icmp .ge 26, 3) := by decide +kernel
theorem dX11_weavesOn_12 : decode cX11_weavesOn 12 = .ok (.aload_n 0, 1) := by decide +kernel
theorem dX11_weavesOn_13 : decode cX11_weavesOn 13 = .ok (.aload_n 1, 1) := by decide +kernel
theorem dX11_weavesOn_14 : decode cX11_weavesOn 14 = .ok (.aload_n 2, 1) := by decide +kernel
theorem dX11_weavesOn_15 : decode cX11_weavesOn 15 = .ok (.getfield 267, 3) := by decide +kernel
theorem dX11_weavesOn_18 : decode cX11_weavesOn 18 = .ok (.iload 4, 2) := by decide +kernel
theorem dX11_weavesOn_20 : decode cX11_weavesOn 20 = .ok (.iaload, 1) := by decide +kernel
theorem dX11_weavesOn_21 : decode cX11_weavesOn 21 = .ok (.invokevirtual 359, 3) := by decide +kernel
theorem dX11_weavesOn_24 : decode cX11_weavesOn 24 = .ok (.ifCond .ne 5, 3) := by decide +kernel
theorem dX11_weavesOn_27 : decode cX11_weavesOn 27 = .ok (.iconst 0, 1) := by decide +kernel
theorem dX11_weavesOn_28 : decode cX11_weavesOn 28 = .ok (.ireturn, 1) := by decide +kernel
theorem dX11_weavesOn_29 : decode cX11_weavesOn 29 = .ok (.iinc 4 1, 3) := by decide +kernel
theorem dX11_weavesOn_32 : decode cX11_weavesOn 32 = .ok (.goto (-29), 3) := by decide +kernel
theorem dX11_weavesOn_35 : decode cX11_weavesOn 35 = .ok (.aload_n 1, 1) := by decide +kernel
theorem dX11_weavesOn_36 : decode cX11_weavesOn 36 = .ok (.getfield 363, 3) := by decide +kernel
theorem dX11_weavesOn_39 : decode cX11_weavesOn 39 = .ok (.aload_n 0, 1) := by decide +kernel
theorem dX11_weavesOn_40 : decode cX11_weavesOn 40 = .ok (.getfield 56, 3) := by decide +kernel
theorem dX11_weavesOn_43 : decode cX11_weavesOn 43 = .ok (.getfield 188, 3) := by decide +kernel
theorem dX11_weavesOn_46 : decode cX11_weavesOn 46 = .ok (.if_icmp .ne 7, 3) := by decide +kernel
theorem dX11_weavesOn_49 : decode cX11_weavesOn 49 = .ok (.iconst 1, 1) := by decide +kernel
theorem dX11_weavesOn_50 : decode cX11_weavesOn 50 = .ok (.goto 4, 3) := by decide +kernel
theorem dX11_weavesOn_53 : decode cX11_weavesOn 53 = .ok (.iconst 0, 1) := by decide +kernel
theorem dX11_weavesOn_54 : decode cX11_weavesOn 54 = .ok (.ireturn, 1) := by decide +kernel
theorem dX11_weavesSlipped_0 : decode cX11_weavesSlipped 0 = .ok (.iload_n 3, 1) := by decide +kernel
theorem dX11_weavesSlipped_1 : decode cX11_weavesSlipped 1 = .ok (.lookupswitch 38 #[(0, 27), (1, 29)], 27) := by decide +kernel
theorem dX11_weavesSlipped_28 : decode cX11_weavesSlipped 28 = .ok (.iconst 1, 1) := by decide +kernel
theorem dX11_weavesSlipped_29 : decode cX11_weavesSlipped 29 = .ok (.ireturn, 1) := by decide +kernel
theorem dX11_weavesSlipped_30 : decode cX11_weavesSlipped 30 = .ok (.aload_n 0, 1) := by decide +kernel
theorem dX11_weavesSlipped_31 : decode cX11_weavesSlipped 31 = .ok (.aload_n 1, 1) := by decide +kernel
theorem dX11_weavesSlipped_32 : decode cX11_weavesSlipped 32 = .ok (.iload_n 2, 1) := by decide +kernel
theorem dX11_weavesSlipped_33 : decode cX11_weavesSlipped 33 = .ok (.iconst 1, 1) := by decide +kernel
theorem dX11_weavesSlipped_34 : decode cX11_weavesSlipped 34 = .ok (.ixor, 1) := by decide +kernel
theorem dX11_weavesSlipped_35 : decode cX11_weavesSlipped 35 = .ok (.invokevirtual 359, 3) := by decide +kernel
theorem dX11_weavesSlipped_38 : decode cX11_weavesSlipped 38 = .ok (.ireturn, 1) := by decide +kernel
theorem dX11_weavesSlipped_39 : decode cX11_weavesSlipped 39 = .ok (.aload_n 0, 1) := by decide +kernel
theorem dX11_weavesSlipped_40 : decode cX11_weavesSlipped 40 = .ok (.aload_n 1, 1) := by decide +kernel
theorem dX11_weavesSlipped_41 : decode cX11_weavesSlipped 41 = .ok (.iload_n 2, 1) := by decide +kernel
theorem dX11_weavesSlipped_42 : decode cX11_weavesSlipped 42 = .ok (.invokevirtual 359, 3) := by decide +kernel
theorem dX11_weavesSlipped_45 : decode cX11_weavesSlipped 45 = .ok (.ifCond .eq 16, 3) := by decide +kernel
theorem dX11_weavesSlipped_48 : decode cX11_weavesSlipped 48 = .ok (.aload_n 0, 1) := by decide +kernel
theorem dX11_weavesSlipped_49 : decode cX11_weavesSlipped 49 = .ok (.aload_n 1, 1) := by decide +kernel
theorem dX11_weavesSlipped_50 : decode cX11_weavesSlipped 50 = .ok (.iload_n 2, 1) := by decide +kernel
theorem dX11_weavesSlipped_51 : decode cX11_weavesSlipped 51 = .ok (.invokevirtual 359, 3) := by decide +kernel
theorem dX11_weavesSlipped_54 : decode cX11_weavesSlipped 54 = .ok (.ifCond .eq 7, 3) := by decide +kernel
theorem dX11_weavesSlipped_57 : decode cX11_weavesSlipped 57 = .ok (.iconst 1, 1) := by decide +kernel
theorem dX11_weavesSlipped_58 : decode cX11_weavesSlipped 58 = .ok (.goto 4, 3) := by decide +kernel
theorem dX11_weavesSlipped_61 : decode cX11_weavesSlipped 61 = .ok (.iconst 0, 1) := by decide +kernel
theorem dX11_weavesSlipped_62 : decode cX11_weavesSlipped 62 = .ok (.ireturn, 1) := by decide +kernel
theorem dX11_explained_0 : decode cX11_explained 0 = .ok (.aload_n 0, 1) := by decide +kernel
theorem dX11_explained_1 : decode cX11_explained 1 = .ok (.getfield 70, 3) := by decide +kernel
theorem dX11_explained_4 : decode cX11_explained 4 = .ok (.aload_n 0, 1) := by decide +kernel
theorem dX11_explained_5 : decode cX11_explained 5 = .ok (.getfield 67, 3) := by decide +kernel
theorem dX11_explained_8 : decode cX11_explained 8 = .ok (.invokevirtual 163, 3) := by decide +kernel
theorem dX11_explained_11 : decode cX11_explained 11 = .ok (.aload_n 1, 1) := by decide +kernel
theorem dX11_explained_12 : decode cX11_explained 12 = .ok (.invokevirtual 364, 3) := by decide +kernel
theorem dX11_explained_15 : decode cX11_explained 15 = .ok (.istore_n 3, 1) := by decide +kernel
theorem dX11_explained_16 : decode cX11_explained 16 = .ok (.iconst 0, 1) := by decide +kernel
theorem dX11_explained_17 : decode cX11_explained 17 = .ok (.istore 4, 2) := by decide +kernel
theorem dX11_explained_19 : decode cX11_explained 19 = .ok (.iconst 0, 1) := by decide +kernel
theorem dX11_explained_20 : decode cX11_explained 20 = .ok (.istore 5, 2) := by decide +kernel
theorem dX11_explained_22 : decode cX11_explained 22 = .ok (.iload 5, 2) := by decide +kernel
theorem dX11_explained_24 : decode cX11_explained 24 = .ok (.aload_n 1, 1) := by decide +kernel
theorem dX11_explained_25 : decode cX11_explained 25 = .ok (.getfield 174, 3) := by decide +kernel
theorem dX11_explained_28 : decode cX11_explained 28 = .ok (.if_icmp .ge 143, 3) := by decide +kernel
theorem dX11_explained_31 : decode cX11_explained 31 = .ok (.aload_n 1, 1) := by decide +kernel
theorem dX11_explained_32 : decode cX11_explained 32 = .ok (.getfield 267, 3) := by decide +kernel
theorem dX11_explained_35 : decode cX11_explained 35 = .ok (.iload 5, 2) := by decide +kernel
theorem dX11_explained_37 : decode cX11_explained 37 = .ok (.iaload, 1) := by decide +kernel
theorem dX11_explained_38 : decode cX11_explained 38 = .ok (.istore 6, 2) := by decide +kernel
theorem dX11_explained_40 : decode cX11_explained 40 = .ok (.iload_n 3, 1) := by decide +kernel
theorem dX11_explained_41 : decode cX11_explained 41 = .ok (.iload 6, 2) := by decide +kernel
theorem dX11_explained_43 : decode cX11_explained 43 = .ok (.bipush 100, 2) := by decide +kernel
theorem dX11_explained_45 : decode cX11_explained 45 = .ok (.if_icmp .lt 7, 3) := by decide +kernel
theorem dX11_explained_48 : decode cX11_explained 48 = .ok (.iconst 1, 1) := by decide +kernel
theorem dX11_explained_49 : decode cX11_explained 49 = .ok (.goto 4, 3) := by decide +kernel
theorem dX11_explained_52 : decode cX11_explained 52 = .ok (.iconst 0, 1) := by decide +kernel
theorem dX11_explained_53 : decode cX11_explained 53 = .ok (.isub, 1) := by decide +kernel
theorem dX11_explained_54 : decode cX11_explained 54 = .ok (.istore_n 3, 1) := by decide +kernel
theorem dX11_explained_55 : decode cX11_explained 55 = .ok (.iconst 0, 1) := by decide +kernel
theorem dX11_explained_56 : decode cX11_explained 56 = .ok (.istore 7, 2) := by decide +kernel
theorem dX11_explained_58 : decode cX11_explained 58 = .ok (.iload 7, 2) := by decide +kernel
theorem dX11_explained_60 : decode cX11_explained 60 = .ok (.iconst 3, 1) := by decide +kernel
theorem dX11_explained_61 : decode cX11_explained 61 = .ok (.if_icmp .ge 88, 3) := by decide +kernel
theorem dX11_explained_64 : decode cX11_explained 64 = .ok (.aload_n 0, 1) := by decide +kernel
theorem dX11_explained_65 : decode cX11_explained 65 = .ok (.getfield 73, 3) := by decide +kernel
theorem dX11_explained_68 : decode cX11_explained 68 = .ok (.aload_n 0, 1) := by decide +kernel
theorem dX11_explained_69 : decode cX11_explained 69 = .ok (.getfield 70, 3) := by decide +kernel
theorem dX11_explained_72 : decode cX11_explained 72 = .ok (.invokevirtual 163, 3) := by decide +kernel
theorem dX11_explained_75 : decode cX11_explained 75 = .ok (.aload_n 0, 1) := by decide +kernel
theorem dX11_explained_76 : decode cX11_explained 76 = .ok (.aload_n 0, 1) := by decide +kernel
theorem dX11_explained_77 : decode cX11_explained 77 = .ok (.getfield 73, 3) := by decide +kernel
theorem dX11_explained_80 : decode cX11_explained 80 = .ok (.iload 6, 2) := by decide +kernel
theorem dX11_explained_82 : decode cX11_explained 82 = .ok (.iload 7, 2) := by decide +kernel
theorem dX11_explained_84 : decode cX11_explained 84 = .ok (.invokevirtual 367, 3) := by decide +kernel
theorem dX11_explained_87 : decode cX11_explained 87 = .ok (.ifCond .eq 56, 3) := by decide +kernel
theorem dX11_explained_90 : decode cX11_explained 90 = .ok (.aload_n 0, 1) := by decide +kernel
theorem dX11_explained_91 : decode cX11_explained 91 = .ok (.getfield 73, 3) := by decide +kernel
theorem dX11_explained_94 : decode cX11_explained 94 = .ok (.getfield 363, 3) := by decide +kernel
theorem dX11_explained_97 : decode cX11_explained 97 = .ok (.iload_n 3, 1) := by decide +kernel
theorem dX11_explained_98 : decode cX11_explained 98 = .ok (.iadd, 1) := by decide +kernel
theorem dX11_explained_99 : decode cX11_explained 99 = .ok (.aload_n 0, 1) := by decide +kernel
theorem dX11_explained_100 : decode cX11_explained 100 = .ok (.getfield 56, 3) := by decide +kernel
theorem dX11_explained_103 : decode cX11_explained 103 = .ok (.getfield 188, 3) := by decide +kernel
theorem dX11_explained_106 : decode cX11_explained 106 = .ok (.if_icmp .ne 37, 3) := by decide +kernel
theorem dX11_explained_109 : decode cX11_explained 109 = .ok (.aload_n 0, 1) := by decide +kernel
theorem dX11_explained_110 : decode cX11_explained 110 = .ok (.aload_n 0, 1) := by decide +kernel
theorem dX11_explained_111 : decode cX11_explained 111 = .ok (.getfield 73, 3) := by decide +kernel
theorem dX11_explained_114 : decode cX11_explained 114 = .ok (.aload_n 1, 1) := by decide +kernel
theorem dX11_explained_115 : decode cX11_explained 115 = .ok (.iload 5, 2) := by decide +kernel
theorem dX11_explained_117 : decode cX11_explained 117 = .ok (.iconst 1, 1) := by decide +kernel
theorem dX11_explained_118 : decode cX11_explained 118 = .ok (.iadd, 1) := by decide +kernel
theorem dX11_explained_119 : decode cX11_explained 119 = .ok (.invokevirtual 270, 3) := by decide +kernel
theorem dX11_explained_122 : decode cX11_explained 122 = .ok (.ifCond .eq 21, 3) := by decide +kernel
theorem dX11_explained_125 : decode cX11_explained 125 = .ok (.iload 4, 2) := by decide +kernel
theorem dX11_explained_127 : decode cX11_explained 127 = .ok (.iload_n 2, 1) := by decide +kernel
theorem dX11_explained_128 : decode cX11_explained 128 = .ok (.if_icmp .ne 12, 3) := by decide +kernel
theorem dX11_explained_131 : decode cX11_explained 131 = .ok (.bipush 10, 2) := by decide +kernel
theorem dX11_explained_133 : decode cX11_explained 133 = .ok (.iload 5, 2) := by decide +kernel
theorem dX11_explained_135 : decode cX11_explained 135 = .ok (.imul, 1) := by decide +kernel
theorem dX11_explained_136 : decode cX11_explained 136 = .ok (.iload 7, 2) := by decide +kernel
theorem dX11_explained_138 : decode cX11_explained 138 = .ok (.iadd, 1) := by decide +kernel
theorem dX11_explained_139 : decode cX11_explained 139 = .ok (.ireturn, 1) := by decide +kernel
theorem dX11_explained_140 : decode cX11_explained 140 = .ok (.iinc 4 1, 3) := by decide +kernel
theorem dX11_explained_143 : decode cX11_explained 143 = .ok (.iinc 7 1, 3) := by decide +kernel
theorem dX11_explained_146 : decode cX11_explained 146 = .ok (.goto (-88), 3) := by decide +kernel
theorem dX11_explained_149 : decode cX11_explained 149 = .ok (.aload_n 0, 1) := by decide +kernel
theorem dX11_explained_150 : decode cX11_explained 150 = .ok (.aload_n 0, 1) := by decide +kernel
theorem dX11_explained_151 : decode cX11_explained 151 = .ok (.getfield 70, 3) := by decide +kernel
theorem dX11_explained_154 : decode cX11_explained 154 = .ok (.iload 6, 2) := by decide +kernel
theorem dX11_explained_156 : decode cX11_explained 156 = .ok (.invokevirtual 359, 3) := by decide +kernel
theorem dX11_explained_159 : decode cX11_explained 159 = .ok (.ifCond .ne 6, 3) := by decide +kernel
theorem dX11_explained_162 : decode cX11_explained 162 = .ok (.goto 9, 3) := by decide +kernel
theorem dX11_explained_165 : decode cX11_explained 165 = .ok (.iinc 5 1, 3) := by decide +kernel
theorem dX11_explained_168 : decode cX11_explained 168 = .ok (.goto (-146), 3) := by decide +kernel
theorem dX11_explained_171 : decode cX11_explained 171 = .ok (.iload_n 2, 1) := by decide +kernel
theorem dX11_explained_172 : decode cX11_explained 172 = .ok (.iconst (-1), 1) := by decide +kernel
theorem dX11_explained_173 : decode cX11_explained 173 = .ok (.if_icmp .ne 8, 3) := by decide +kernel
theorem dX11_explained_176 : decode cX11_explained 176 = .ok (.iload 4, 2) := by decide +kernel
theorem dX11_explained_178 : decode cX11_explained 178 = .ok (.goto 4, 3) := by decide +kernel
theorem dX11_explained_181 : decode cX11_explained 181 = .ok (.iconst (-1), 1) := by decide +kernel
theorem dX11_explained_182 : decode cX11_explained 182 = .ok (.ireturn, 1) := by decide +kernel
theorem dX11_seatPeople_0 : decode cX11_seatPeople 0 = .ok (.aload_n 0, 1) := by decide +kernel
theorem dX11_seatPeople_1 : decode cX11_seatPeople 1 = .ok (.getfield 36, 3) := by decide +kernel
theorem dX11_seatPeople_4 : decode cX11_seatPeople 4 = .ok (.getfield 157, 3) := by decide +kernel
theorem dX11_seatPeople_7 : decode cX11_seatPeople 7 = .ok (.istore_n 2, 1) := by decide +kernel
theorem dX11_seatPeople_8 : decode cX11_seatPeople 8 = .ok (.iload_n 2, 1) := by decide +kernel
theorem dX11_seatPeople_9 : decode cX11_seatPeople 9 = .ok (.ifCond .eq 9, 3) := by decide +kernel
theorem dX11_seatPeople_12 : decode cX11_seatPeople 12 = .ok (.iload_n 2, 1) := by decide +kernel
theorem dX11_seatPeople_13 : decode cX11_seatPeople 13 = .ok (.bipush 7, 2) := by decide +kernel
theorem dX11_seatPeople_15 : decode cX11_seatPeople 15 = .ok (.if_icmp .le 6, 3) := by decide +kernel
theorem dX11_seatPeople_18 : decode cX11_seatPeople 18 = .ok (.bipush (-3), 2) := by decide +kernel
theorem dX11_seatPeople_20 : decode cX11_seatPeople 20 = .ok (.ireturn, 1) := by decide +kernel
theorem dX11_seatPeople_21 : decode cX11_seatPeople 21 = .ok (.iload_n 1, 1) := by decide +kernel
theorem dX11_seatPeople_22 : decode cX11_seatPeople 22 = .ok (.aload_n 0, 1) := by decide +kernel
theorem dX11_seatPeople_23 : decode cX11_seatPeople 23 = .ok (.getfield 15, 3) := by decide +kernel
theorem dX11_seatPeople_26 : decode cX11_seatPeople 26 = .ok (.iushr, 1) := by decide +kernel
theorem dX11_seatPeople_27 : decode cX11_seatPeople 27 = .ok (.ifCond .ne 11, 3) := by decide +kernel
theorem dX11_seatPeople_30 : decode cX11_seatPeople 30 = .ok (.iload_n 1, 1) := by decide +kernel
theorem dX11_seatPeople_31 : decode cX11_seatPeople 31 = .ok (.invokestatic 371, 3) := by decide +kernel
theorem dX11_seatPeople_34 : decode cX11_seatPeople 34 = .ok (.iload_n 2, 1) := by decide +kernel
theorem dX11_seatPeople_35 : decode cX11_seatPeople 35 = .ok (.if_icmp .eq 6, 3) := by decide +kernel
theorem dX11_seatPeople_38 : decode cX11_seatPeople 38 = .ok (.bipush (-2), 2) := by decide +kernel
theorem dX11_seatPeople_40 : decode cX11_seatPeople 40 = .ok (.ireturn, 1) := by decide +kernel
theorem dX11_seatPeople_41 : decode cX11_seatPeople 41 = .ok (.aload_n 0, 1) := by decide +kernel
theorem dX11_seatPeople_42 : decode cX11_seatPeople 42 = .ok (.getfield 103, 3) := by decide +kernel
theorem dX11_seatPeople_45 : decode cX11_seatPeople 45 = .ok (.invokevirtual 376, 3) := by decide +kernel
theorem dX11_seatPeople_48 : decode cX11_seatPeople 48 = .ok (.iconst 0, 1) := by decide +kernel
theorem dX11_seatPeople_49 : decode cX11_seatPeople 49 = .ok (.istore_n 3, 1) := by decide +kernel
theorem dX11_seatPeople_50 : decode cX11_seatPeople 50 = .ok (.iload_n 3, 1) := by decide +kernel
theorem dX11_seatPeople_51 : decode cX11_seatPeople 51 = .ok (.aload_n 0, 1) := by decide +kernel
theorem dX11_seatPeople_52 : decode cX11_seatPeople 52 = .ok (.getfield 15, 3) := by decide +kernel
theorem dX11_seatPeople_55 : decode cX11_seatPeople 55 = .ok (.if_icmp .ge 50, 3) := by decide +kernel
theorem dX11_seatPeople_58 : decode cX11_seatPeople 58 = .ok (.aload_n 0, 1) := by decide +kernel
theorem dX11_seatPeople_59 : decode cX11_seatPeople 59 = .ok (.iload_n 3, 1) := by decide +kernel
theorem dX11_seatPeople_60 : decode cX11_seatPeople 60 = .ok (.invokevirtual 133, 3) := by decide +kernel
theorem dX11_seatPeople_63 : decode cX11_seatPeople 63 = .ok (.astore 4, 2) := by decide +kernel
theorem dX11_seatPeople_65 : decode cX11_seatPeople 65 = .ok (.iload_n 1, 1) := by decide +kernel
theorem dX11_seatPeople_66 : decode cX11_seatPeople 66 = .ok (.iload_n 3, 1) := by decide +kernel
theorem dX11_seatPeople_67 : decode cX11_seatPeople 67 = .ok (.iushr, 1) := by decide +kernel
theorem dX11_seatPeople_68 : decode cX11_seatPeople 68 = .ok (.iconst 1, 1) := by decide +kernel
theorem dX11_seatPeople_69 : decode cX11_seatPeople 69 = .ok (.iand, 1) := by decide +kernel
theorem dX11_seatPeople_70 : decode cX11_seatPeople 70 = .ok (.ifCond .eq 29, 3) := by decide +kernel
theorem dX11_seatPeople_73 : decode cX11_seatPeople 73 = .ok (.aload 4, 2) := by decide +kernel
theorem dX11_seatPeople_75 : decode cX11_seatPeople 75 = .ok (.ifnull 24, 3) := by decide +kernel
theorem dX11_seatPeople_78 : decode cX11_seatPeople 78 = .ok (.aload 4, 2) := by decide +kernel
theorem dX11_seatPeople_80 : decode cX11_seatPeople 80 = .ok (.getfield 144, 3) := by decide +kernel
theorem dX11_seatPeople_83 : decode cX11_seatPeople 83 = .ok (.iconst 4, 1) := by decide +kernel
theorem dX11_seatPeople_84 : decode cX11_seatPeople 84 = .ok (.if_icmp .ne 6, 3) := by decide +kernel
theorem dX11_seatPeople_87 : decode cX11_seatPeople 87 = .ok (.bipush (-2), 2) := by decide +kernel
theorem dX11_seatPeople_89 : decode cX11_seatPeople 89 = .ok (.ireturn, 1) := by decide +kernel
theorem dX11_seatPeople_90 : decode cX11_seatPeople 90 = .ok (.aload_n 0, 1) := by decide +kernel
theorem dX11_seatPeople_91 : decode cX11_seatPeople 91 = .ok (.getfield 103, 3) := by decide +kernel
theorem dX11_seatPeople_94 : decode cX11_seatPeople 94 = .ok (.aload 4, 2) := by decide +kernel
theorem dX11_seatPeople_96 : decode cX11_seatPeople 96 = .ok (.invokevirtual 377, 3) := by decide +kernel
theorem dX11_seatPeople_99 : decode cX11_seatPeople 99 = .ok (.iinc 3 1, 3) := by decide +kernel
theorem dX11_seatPeople_102 : decode cX11_seatPeople 102 = .ok (.goto (-52), 3) := by decide +kernel
theorem dX11_seatPeople_105 : decode cX11_seatPeople 105 = .ok (.aload_n 0, 1) := by decide +kernel
theorem dX11_seatPeople_106 : decode cX11_seatPeople 106 = .ok (.getfield 103, 3) := by decide +kernel
theorem dX11_seatPeople_109 : decode cX11_seatPeople 109 = .ok (.invokevirtual 380, 3) := by decide +kernel
theorem dX11_seatPeople_112 : decode cX11_seatPeople 112 = .ok (.iconst 0, 1) := by decide +kernel
theorem dX11_seatPeople_113 : decode cX11_seatPeople 113 = .ok (.ireturn, 1) := by decide +kernel
theorem dX12_init_0 : decode cX12_init 0 = .ok (.aload_n 0, 1) := by decide +kernel
theorem dX12_init_1 : decode cX12_init 1 = .ok (.invokespecial 1, 3) := by decide +kernel
theorem dX12_init_4 : decode cX12_init 4 = .ok (.aload_n 0, 1) := by decide +kernel
theorem dX12_init_5 : decode cX12_init 5 = .ok (.iconst 0, 1) := by decide +kernel
theorem dX12_init_6 : decode cX12_init 6 = .ok (.putfield 7, 3) := by decide +kernel
theorem dX12_init_9 : decode cX12_init 9 = .ok (.aload_n 0, 1) := by decide +kernel
theorem dX12_init_10 : decode cX12_init 10 = .ok (.iconst 0, 1) := by decide +kernel
theorem dX12_init_11 : decode cX12_init 11 = .ok (.putfield 13, 3) := by decide +kernel
theorem dX12_init_14 : decode cX12_init 14 = .ok (.aload_n 0, 1) := by decide +kernel
theorem dX12_init_15 : decode cX12_init 15 = .ok (.bipush 15, 2) := by decide +kernel
theorem dX12_init_17 : decode cX12_init 17 = .ok (.newarray .int, 2) := by decide +kernel
theorem dX12_init_19 : decode cX12_init 19 = .ok (.putfield 16, 3) := by decide +kernel
theorem dX12_init_22 : decode cX12_init 22 = .ok (.aload_n 0, 1) := by decide +kernel
theorem dX12_init_23 : decode cX12_init 23 = .ok (.bipush 15, 2) := by decide +kernel
theorem dX12_init_25 : decode cX12_init 25 = .ok (.newarray .int, 2) := by decide +kernel
theorem dX12_init_27 : decode cX12_init 27 = .ok (.putfield 20, 3) := by decide +kernel
theorem dX12_init_30 : decode cX12_init 30 = .ok (.aload_n 0, 1) := by decide +kernel
theorem dX12_init_31 : decode cX12_init 31 = .ok (.bipush 15, 2) := by decide +kernel
theorem dX12_init_33 : decode cX12_init 33 = .ok (.newarray .int, 2) := by decide +kernel
theorem dX12_init_35 : decode cX12_init 35 = .ok (.putfield 23, 3) := by decide +kernel
theorem dX12_init_38 : decode cX12_init 38 = .ok (.aload_n 0, 1) := by decide +kernel
theorem dX12_init_39 : decode cX12_init 39 = .ok (.bipush 9, 2) := by decide +kernel
theorem dX12_init_41 : decode cX12_init 41 = .ok (.newarray .int, 2) := by decide +kernel
theorem dX12_init_43 : decode cX12_init 43 = .ok (.putfield 26, 3) := by decide +kernel
theorem dX12_init_46 : decode cX12_init 46 = .ok (.aload_n 0, 1) := by decide +kernel
theorem dX12_init_47 : decode cX12_init 47 = .ok (.bipush 9, 2) := by decide +kernel
theorem dX12_init_49 : decode cX12_init 49 = .ok (.newarray .int, 2) := by decide +kernel
theorem dX12_init_51 : decode cX12_init 51 = .ok (.putfield 29, 3) := by decide +kernel
theorem dX12_init_54 : decode cX12_init 54 = .ok (.aload_n 0, 1) := by decide +kernel
theorem dX12_init_55 : decode cX12_init 55 = .ok (.bipush 9, 2) := by decide +kernel
theorem dX12_init_57 : decode cX12_init 57 = .ok (.newarray .int, 2) := by decide +kernel
theorem dX12_init_59 : decode cX12_init 59 = .ok (.putfield 32, 3) := by decide +kernel
theorem dX12_init_62 : decode cX12_init 62 = .ok (.aload_n 0, 1) := by decide +kernel
theorem dX12_init_63 : decode cX12_init 63 = .ok (.bipush 9, 2) := by decide +kernel
theorem dX12_init_65 : decode cX12_init 65 = .ok (.newarray .int, 2) := by decide +kernel
theorem dX12_init_67 : decode cX12_init 67 = .ok (.putfield 35, 3) := by decide +kernel
theorem dX12_init_70 : decode cX12_init 70 = .ok (.aload_n 0, 1) := by decide +kernel
theorem dX12_init_71 : decode cX12_init 71 = .ok (.bipush 9, 2) := by decide +kernel
theorem dX12_init_73 : decode cX12_init 73 = .ok (.newarray .int, 2) := by decide +kernel
theorem dX12_init_75 : decode cX12_init 75 = .ok (.putfield 38, 3) := by decide +kernel
theorem dX12_init_78 : decode cX12_init 78 = .ok (.aload_n 0, 1) := by decide +kernel
theorem dX12_init_79 : decode cX12_init 79 = .ok (.bipush 9, 2) := by decide +kernel
theorem dX12_init_81 : decode cX12_init 81 = .ok (.newarray .int, 2) := by decide +kernel
theorem dX12_init_83 : decode cX12_init 83 = .ok (.putfield 41, 3) := by decide +kernel
theorem dX12_init_86 : decode cX12_init 86 = .ok (.aload_n 0, 1) := by decide +kernel
theorem dX12_init_87 : decode cX12_init 87 = .ok (.iconst 0, 1) := by decide +kernel
theorem dX12_init_88 : decode cX12_init 88 = .ok (.putfield 44, 3) := by decide +kernel
theorem dX12_init_91 : decode cX12_init 91 = .ok (.aload_n 0, 1) := by decide +kernel
theorem dX12_init_92 : decode cX12_init 92 = .ok (.bipush 9, 2) := by decide +kernel
theorem dX12_init_94 : decode cX12_init 94 = .ok (.newarray .int, 2) := by decide +kernel
theorem dX12_init_96 : decode cX12_init 96 = .ok (.putfield 48, 3) := by decide +kernel
theorem dX12_init_99 : decode cX12_init 99 = .ok (.aload_n 0, 1) := by decide +kernel
theorem dX12_init_100 : decode cX12_init 100 = .ok (.bipush 9, 2) := by decide +kernel
theorem dX12_init_102 : decode cX12_init 102 = .ok (.newarray .int, 2) := by decide +kernel
theorem dX12_init_104 : decode cX12_init 104 = .ok (.putfield 51, 3) := by decide +kernel
theorem dX12_init_107 : decode cX12_init 107 = .ok (.aload_n 0, 1) := by decide +kernel
theorem dX12_init_108 : decode cX12_init 108 = .ok (.iconst 0, 1) := by decide +kernel
theorem dX12_init_109 : decode cX12_init 109 = .ok (.putfield 54, 3) := by decide +kernel
theorem dX12_init_112 : decode cX12_init 112 = .ok (.aload_n 0, 1) := by decide +kernel
theorem dX12_init_113 : decode cX12_init 113 = .ok (.iconst 0, 1) := by decide +kernel
theorem dX12_init_114 : decode cX12_init 114 = .ok (.putfield 57, 3) := by decide +kernel
theorem dX12_init_117 : decode cX12_init 117 = .ok (.aload_n 0, 1) := by decide +kernel
theorem dX12_init_118 : decode cX12_init 118 = .ok (.sipush 300, 3) := by decide +kernel
theorem dX12_init_121 : decode cX12_init 121 = .ok (.newarray .int, 2) := by decide +kernel
theorem dX12_init_123 : decode cX12_init 123 = .ok (.putfield 60, 3) := by decide +kernel
theorem dX12_init_126 : decode cX12_init 126 = .ok (.aload_n 0, 1) := by decide +kernel
theorem dX12_init_127 : decode cX12_init 127 = .ok (.bipush 9, 2) := by decide +kernel
theorem dX12_init_129 : decode cX12_init 129 = .ok (.newarray .int, 2) := by decide +kernel
theorem dX12_init_131 : decode cX12_init 131 = .ok (.putfield 63, 3) := by decide +kernel
theorem dX12_init_134 : decode cX12_init 134 = .ok (.aload_n 0, 1) := by decide +kernel
theorem dX12_init_135 : decode cX12_init 135 = .ok (.sipush 900, 3) := by decide +kernel
theorem dX12_init_138 : decode cX12_init 138 = .ok (.newarray .int, 2) := by decide +kernel
theorem dX12_init_140 : decode cX12_init 140 = .ok (.putfield 66, 3) := by decide +kernel
theorem dX12_init_143 : decode cX12_init 143 = .ok (.aload_n 0, 1) := by decide +kernel
theorem dX12_init_144 : decode cX12_init 144 = .ok (.sipush 900, 3) := by decide +kernel
theorem dX12_init_147 : decode cX12_init 147 = .ok (.newarray .int, 2) := by decide +kernel
theorem dX12_init_149 : decode cX12_init 149 = .ok (.putfield 69, 3) := by decide +kernel
theorem dX12_init_152 : decode cX12_init 152 = .ok (.aload_n 0, 1) := by decide +kernel
theorem dX12_init_153 : decode cX12_init 153 = .ok (.iconst 0, 1) := by decide +kernel
theorem dX12_init_154 : decode cX12_init 154 = .ok (.putfield 72, 3) := by decide +kernel
theorem dX12_init_157 : decode cX12_init 157 = .ok (.aload_n 0, 1) := by decide +kernel
theorem dX12_init_158 : decode cX12_init 158 = .ok (.bipush 40, 2) := by decide +kernel
theorem dX12_init_160 : decode cX12_init 160 = .ok (.newarray .int, 2) := by decide +kernel
theorem dX12_init_162 : decode cX12_init 162 = .ok (.putfield 75, 3) := by decide +kernel
theorem dX12_init_165 : decode cX12_init 165 = .ok (.aload_n 0, 1) := by decide +kernel
theorem dX12_init_166 : decode cX12_init 166 = .ok (.bipush 40, 2) := by decide +kernel
theorem dX12_init_168 : decode cX12_init 168 = .ok (.newarray .int, 2) := by decide +kernel
theorem dX12_init_170 : decode cX12_init 170 = .ok (.putfield 78, 3) := by decide +kernel
theorem dX12_init_173 : decode cX12_init 173 = .ok (.aload_n 0, 1) := by decide +kernel
theorem dX12_init_174 : decode cX12_init 174 = .ok (.bipush 40, 2) := by decide +kernel
theorem dX12_init_176 : decode cX12_init 176 = .ok (.newarray .int, 2) := by decide +kernel
theorem dX12_init_178 : decode cX12_init 178 = .ok (.putfield 81, 3) := by decide +kernel
theorem dX12_init_181 : decode cX12_init 181 = .ok (.aload_n 0, 1) := by decide +kernel
theorem dX12_init_182 : decode cX12_init 182 = .ok (.bipush 9, 2) := by decide +kernel
theorem dX12_init_184 : decode cX12_init 184 = .ok (.newarray .int, 2) := by decide +kernel
theorem dX12_init_186 : decode cX12_init 186 = .ok (.putfield 84, 3) := by decide +kernel
theorem dX12_init_189 : decode cX12_init 189 = .ok (.aload_n 0, 1) := by decide +kernel
theorem dX12_init_190 : decode cX12_init 190 = .ok (.bipush 9, 2) := by decide +kernel
theorem dX12_init_192 : decode cX12_init 192 = .ok (.newarray .int, 2) := by decide +kernel
theorem dX12_init_194 : decode cX12_init 194 = .ok (.putfield 87, 3) := by decide +kernel
theorem dX12_init_197 : decode cX12_init 197 = .ok (.aload_n 0, 1) := by decide +kernel
theorem dX12_init_198 : decode cX12_init 198 = .ok (.iconst 0, 1) := by decide +kernel
theorem dX12_init_199 : decode cX12_init 199 = .ok (.putfield 90, 3) := by decide +kernel
theorem dX12_init_202 : decode cX12_init 202 = .ok (.aload_n 0, 1) := by decide +kernel
theorem dX12_init_203 : decode cX12_init 203 = .ok (.iconst 0, 1) := by decide +kernel
theorem dX12_init_204 : decode cX12_init 204 = .ok (.putfield 93, 3) := by decide +kernel
theorem dX12_init_207 : decode cX12_init 207 = .ok (.aload_n 0, 1) := by decide +kernel
theorem dX12_init_208 : decode cX12_init 208 = .ok (.bipush 11, 2) := by decide +kernel
theorem dX12_init_210 : decode cX12_init 210 = .ok (.newarray .int, 2) := by decide +kernel
theorem dX12_init_212 : decode cX12_init 212 = .ok (.putfield 96, 3) := by decide +kernel
theorem dX12_init_215 : decode cX12_init 215 = .ok (.aload_n 0, 1) := by decide +kernel
theorem dX12_init_216 : decode cX12_init 216 = .ok (.sipush 3300, 3) := by decide +kernel
theorem dX12_init_219 : decode cX12_init 219 = .ok (.newarray .int, 2) := by decide +kernel
theorem dX12_init_221 : decode cX12_init 221 = .ok (.putfield 99, 3) := by decide +kernel
theorem dX12_init_224 : decode cX12_init 224 = .ok (.aload_n 0, 1) := by decide +kernel
theorem dX12_init_225 : decode cX12_init 225 = .ok (.bipush 80, 2) := by decide +kernel
theorem dX12_init_227 : decode cX12_init 227 = .ok (.newarray .int, 2) := by decide +kernel
theorem dX12_init_229 : decode cX12_init 229 = .ok (.putfield 102, 3) := by decide +kernel
theorem dX12_init_232 : decode cX12_init 232 = .ok (.aload_n 0, 1) := by decide +kernel
theorem dX12_init_233 : decode cX12_init 233 = .ok (.iconst 0, 1) := by decide +kernel
theorem dX12_init_234 : decode cX12_init 234 = .ok (.putfield 105, 3) := by decide +kernel
theorem dX12_init_237 : decode cX12_init 237 = .ok (.aload_n 0, 1) := by decide +kernel
theorem dX12_init_238 : decode cX12_init 238 = .ok (.iconst 0, 1) := by decide +kernel
theorem dX12_init_239 : decode cX12_init 239 = .ok (.putfield 108, 3) := by decide +kernel
theorem dX12_init_242 : decode cX12_init 242 = .ok (.aload_n 0, 1) := by decide +kernel
theorem dX12_init_243 : decode cX12_init 243 = .ok (.iconst 5, 1) := by decide +kernel
theorem dX12_init_244 : decode cX12_init 244 = .ok (.newarray .int, 2) := by decide +kernel
theorem dX12_init_246 : decode cX12_init 246 = .ok (.putfield 111, 3) := by decide +kernel
theorem dX12_init_249 : decode cX12_init 249 = .ok (.aload_n 0, 1) := by decide +kernel
theorem dX12_init_250 : decode cX12_init 250 = .ok (.iconst 5, 1) := by decide +kernel
theorem dX12_init_251 : decode cX12_init 251 = .ok (.newarray .int, 2) := by decide +kernel
theorem dX12_init_253 : decode cX12_init 253 = .ok (.putfield 114, 3) := by decide +kernel
theorem dX12_init_256 : decode cX12_init 256 = .ok (.aload_n 0, 1) := by decide +kernel
theorem dX12_init_257 : decode cX12_init 257 = .ok (.sipush 300, 3) := by decide +kernel
theorem dX12_init_260 : decode cX12_init 260 = .ok (.newarray .int, 2) := by decide +kernel
theorem dX12_init_262 : decode cX12_init 262 = .ok (.putfield 117, 3) := by decide +kernel
theorem dX12_init_265 : decode cX12_init 265 = .ok (.aload_n 0, 1) := by decide +kernel
theorem dX12_init_266 : decode cX12_init 266 = .ok (.sipush 300, 3) := by decide +kernel
theorem dX12_init_269 : decode cX12_init 269 = .ok (.newarray .int, 2) := by decide +kernel
theorem dX12_init_271 : decode cX12_init 271 = .ok (.putfield 120, 3) := by decide +kernel
theorem dX12_init_274 : decode cX12_init 274 = .ok (.aload_n 0, 1) := by decide +kernel
theorem dX12_init_275 : decode cX12_init 275 = .ok (.iconst 0, 1) := by decide +kernel
theorem dX12_init_276 : decode cX12_init 276 = .ok (.putfield 123, 3) := by decide +kernel
theorem dX12_init_279 : decode cX12_init 279 = .ok (.aload_n 0, 1) := by decide +kernel
theorem dX12_init_280 : decode cX12_init 280 = .ok (.iconst 0, 1) := by decide +kernel
theorem dX12_init_281 : decode cX12_init 281 = .ok (.putfield 126, 3) := by decide +kernel
theorem dX12_init_284 : decode cX12_init 284 = .ok (.aload_n 0, 1) := by decide +kernel
theorem dX12_init_285 : decode cX12_init 285 = .ok (.bipush 9, 2) := by decide +kernel
theorem dX12_init_287 : decode cX12_init 287 = .ok (.newarray .int, 2) := by decide +kernel
theorem dX12_init_289 : decode cX12_init 289 = .ok (.putfield 129, 3) := by decide +kernel
theorem dX12_init_292 : decode cX12_init 292 = .ok (.aload_n 0, 1) := by decide +kernel
theorem dX12_init_293 : decode cX12_init 293 = .ok (.bipush 9, 2) := by decide +kernel
theorem dX12_init_295 : decode cX12_init 295 = .ok (.newarray .int, 2) := by decide +kernel
theorem dX12_init_297 : decode cX12_init 297 = .ok (.putfield 132, 3) := by decide +kernel
theorem dX12_init_300 : decode cX12_init 300 = .ok (.aload_n 0, 1) := by decide +kernel
theorem dX12_init_301 : decode cX12_init 301 = .ok (.bipush 9, 2) := by decide +kernel
theorem dX12_init_303 : decode cX12_init 303 = .ok (.newarray .int, 2) := by decide +kernel
theorem dX12_init_305 : decode cX12_init 305 = .ok (.putfield 135, 3) := by decide +kernel
theorem dX12_init_308 : decode cX12_init 308 = .ok (.aload_n 0, 1) := by decide +kernel
theorem dX12_init_309 : decode cX12_init 309 = .ok (.iconst 0, 1) := by decide +kernel
theorem dX12_init_310 : decode cX12_init 310 = .ok (.putfield 138, 3) := by decide +kernel
theorem dX12_init_313 : decode cX12_init 313 = .ok (.aload_n 0, 1) := by decide +kernel
theorem dX12_init_314 : decode cX12_init 314 = .ok (.iconst 0, 1) := by decide +kernel
theorem dX12_init_315 : decode cX12_init 315 = .ok (.putfield 141, 3) := by decide +kernel
theorem dX12_init_318 : decode cX12_init 318 = .ok (.aload_n 0, 1) := by decide +kernel
theorem dX12_init_319 : decode cX12_init 319 = .ok (.bipush 7, 2) := by decide +kernel
theorem dX12_init_321 : decode cX12_init 321 = .ok (.newarray .int, 2) := by decide +kernel
theorem dX12_init_323 : decode cX12_init 323 = .ok (.putfield 144, 3) := by decide +kernel
theorem dX12_init_326 : decode cX12_init 326 = .ok (.aload_n 0, 1) := by decide +kernel
theorem dX12_init_327 : decode cX12_init 327 = .ok (.bipush 7, 2) := by decide +kernel
theorem dX12_init_329 : decode cX12_init 329 = .ok (.newarray .int, 2) := by decide +kernel
theorem dX12_init_331 : decode cX12_init 331 = .ok (.putfield 147, 3) := by decide +kernel
theorem dX12_init_334 : decode cX12_init 334 = .ok (.aload_n 0, 1) := by decide +kernel
theorem dX12_init_335 : decode cX12_init 335 = .ok (.sipush 5040, 3) := by decide +kernel
theorem dX12_init_338 : decode cX12_init 338 = .ok (.newarray .int, 2) := by decide +kernel
theorem dX12_init_340 : decode cX12_init 340 = .ok (.putfield 150, 3) := by decide +kernel
theorem dX12_init_343 : decode cX12_init 343 = .ok (.aload_n 0, 1) := by decide +kernel
theorem dX12_init_344 : decode cX12_init 344 = .ok (.sipush 5040, 3) := by decide +kernel
theorem dX12_init_347 : decode cX12_init 347 = .ok (.newarray .int, 2) := by decide +kernel
theorem dX12_init_349 : decode cX12_init 349 = .ok (.putfield 153, 3) := by decide +kernel
theorem dX12_init_352 : decode cX12_init 352 = .ok (.aload_n 0, 1) := by decide +kernel
theorem dX12_init_353 : decode cX12_init 353 = .ok (.bipush 64, 2) := by decide +kernel
theorem dX12_init_355 : decode cX12_init 355 = .ok (.newarray .int, 2) := by decide +kernel
theorem dX12_init_357 : decode cX12_init 357 = .ok (.putfield 156, 3) := by decide +kernel
theorem dX12_init_360 : decode cX12_init 360 = .ok (.aload_n 0, 1) := by decide +kernel
theorem dX12_init_361 : decode cX12_init 361 = .ok (.iconst 0, 1) := by decide +kernel
theorem dX12_init_362 : decode cX12_init 362 = .ok (.putfield 159, 3) := by decide +kernel
theorem dX12_init_365 : decode cX12_init 365 = .ok (.aload_n 0, 1) := by decide +kernel
theorem dX12_init_366 : decode cX12_init 366 = .ok (.bipush 7, 2) := by decide +kernel
theorem dX12_init_368 : decode cX12_init 368 = .ok (.newarray .int, 2) := by decide +kernel
theorem dX12_init_370 : decode cX12_init 370 = .ok (.putfield 162, 3) := by decide +kernel
theorem dX12_init_373 : decode cX12_init 373 = .ok (.aload_n 0, 1) := by decide +kernel
theorem dX12_init_374 : decode cX12_init 374 = .ok (.bipush 7, 2) := by decide +kernel
theorem dX12_init_376 : decode cX12_init 376 = .ok (.newarray .int, 2) := by decide +kernel
theorem dX12_init_378 : decode cX12_init 378 = .ok (.putfield 165, 3) := by decide +kernel
theorem dX12_init_381 : decode cX12_init 381 = .ok (.aload_n 0, 1) := by decide +kernel
theorem dX12_init_382 : decode cX12_init 382 = .ok (.bipush 7, 2) := by decide +kernel
theorem dX12_init_384 : decode cX12_init 384 = .ok (.newarray .int, 2) := by decide +kernel
theorem dX12_init_386 : decode cX12_init 386 = .ok (.putfield 168, 3) := by decide +kernel
theorem dX12_init_389 : decode cX12_init 389 = .ok (.aload_n 0, 1) := by decide +kernel
theorem dX12_init_390 : decode cX12_init 390 = .ok (.bipush 7, 2) := by decide +kernel
theorem dX12_init_392 : decode cX12_init 392 = .ok (.newarray .int, 2) := by decide +kernel
theorem dX12_init_394 : decode cX12_init 394 = .ok (.putfield 171, 3) := by decide +kernel
theorem dX12_init_397 : decode cX12_init 397 = .ok (.aload_n 0, 1) := by decide +kernel
theorem dX12_init_398 : decode cX12_init 398 = .ok (.iconst 0, 1) := by decide +kernel
theorem dX12_init_399 : decode cX12_init 399 = .ok (.putfield 174, 3) := by decide +kernel
theorem dX12_init_402 : decode cX12_init 402 = .ok (.aload_n 0, 1) := by decide +kernel
theorem dX12_init_403 : decode cX12_init 403 = .ok (.iconst 0, 1) := by decide +kernel
theorem dX12_init_404 : decode cX12_init 404 = .ok (.putfield 177, 3) := by decide +kernel
theorem dX12_init_407 : decode cX12_init 407 = .ok (.aload_n 0, 1) := by decide +kernel
theorem dX12_init_408 : decode cX12_init 408 = .ok (.bipush 20, 2) := by decide +kernel
theorem dX12_init_410 : decode cX12_init 410 = .ok (.newarray .int, 2) := by decide +kernel
theorem dX12_init_412 : decode cX12_init 412 = .ok (.putfield 180, 3) := by decide +kernel
theorem dX12_init_415 : decode cX12_init 415 = .ok (.aload_n 0, 1) := by decide +kernel
theorem dX12_init_416 : decode cX12_init 416 = .ok (.bipush 6, 2) := by decide +kernel
theorem dX12_init_418 : decode cX12_init 418 = .ok (.newarray .int, 2) := by decide +kernel
theorem dX12_init_420 : decode cX12_init 420 = .ok (.dup, 1) := by decide +kernel
theorem dX12_init_421 : decode cX12_init 421 = .ok (.iconst 0, 1) := by decide +kernel
theorem dX12_init_422 : decode cX12_init 422 = .ok (.iconst (-1), 1) := by decide +kernel
theorem dX12_init_423 : decode cX12_init 423 = .ok (.iastore, 1) := by decide +kernel
theorem dX12_init_424 : decode cX12_init 424 = .ok (.dup, 1) := by decide +kernel
theorem dX12_init_425 : decode cX12_init 425 = .ok (.iconst 1, 1) := by decide +kernel
theorem dX12_init_426 : decode cX12_init 426 = .ok (.iconst (-1), 1) := by decide +kernel
theorem dX12_init_427 : decode cX12_init 427 = .ok (.iastore, 1) := by decide +kernel
theorem dX12_init_428 : decode cX12_init 428 = .ok (.dup, 1) := by decide +kernel
theorem dX12_init_429 : decode cX12_init 429 = .ok (.iconst 2, 1) := by decide +kernel
theorem dX12_init_430 : decode cX12_init 430 = .ok (.iconst (-1), 1) := by decide +kernel
theorem dX12_init_431 : decode cX12_init 431 = .ok (.iastore, 1) := by decide +kernel
theorem dX12_init_432 : decode cX12_init 432 = .ok (.dup, 1) := by decide +kernel
theorem dX12_init_433 : decode cX12_init 433 = .ok (.iconst 3, 1) := by decide +kernel
theorem dX12_init_434 : decode cX12_init 434 = .ok (.iconst (-1), 1) := by decide +kernel
theorem dX12_init_435 : decode cX12_init 435 = .ok (.iastore, 1) := by decide +kernel
theorem dX12_init_436 : decode cX12_init 436 = .ok (.dup, 1) := by decide +kernel
theorem dX12_init_437 : decode cX12_init 437 = .ok (.iconst 4, 1) := by decide +kernel
theorem dX12_init_438 : decode cX12_init 438 = .ok (.iconst (-1), 1) := by decide +kernel
theorem dX12_init_439 : decode cX12_init 439 = .ok (.iastore, 1) := by decide +kernel
theorem dX12_init_440 : decode cX12_init 440 = .ok (.dup, 1) := by decide +kernel
theorem dX12_init_441 : decode cX12_init 441 = .ok (.iconst 5, 1) := by decide +kernel
theorem dX12_init_442 : decode cX12_init 442 = .ok (.iconst (-1), 1) := by decide +kernel
theorem dX12_init_443 : decode cX12_init 443 = .ok (.iastore, 1) := by decide +kernel
theorem dX12_init_444 : decode cX12_init 444 = .ok (.putfield 183, 3) := by decide +kernel
theorem dX12_init_447 : decode cX12_init 447 = .ok (.aload_n 0, 1) := by decide +kernel
theorem dX12_init_448 : decode cX12_init 448 = .ok (.bipush 6, 2) := by decide +kernel
theorem dX12_init_450 : decode cX12_init 450 = .ok (.newarray .int, 2) := by decide +kernel
theorem dX12_init_452 : decode cX12_init 452 = .ok (.putfield 186, 3) := by decide +kernel
theorem dX12_init_455 : decode cX12_init 455 = .ok (.aload_n 0, 1) := by decide +kernel
theorem dX12_init_456 : decode cX12_init 456 = .ok (.sipush 360, 3) := by decide +kernel
theorem dX12_init_459 : decode cX12_init 459 = .ok (.newarray .int, 2) := by decide +kernel
theorem dX12_init_461 : decode cX12_init 461 = .ok (.putfield 189, 3) := by decide +kernel
theorem dX12_init_464 : decode cX12_init 464 = .ok (.aload_n 0, 1) := by decide +kernel
theorem dX12_init_465 : decode cX12_init 465 = .ok (.bipush 60, 2) := by decide +kernel
theorem dX12_init_467 : decode cX12_init 467 = .ok (.newarray .int, 2) := by decide +kernel
theorem dX12_init_469 : decode cX12_init 469 = .ok (.putfield 192, 3) := by decide +kernel
theorem dX12_init_472 : decode cX12_init 472 = .ok (.return_, 1) := by decide +kernel
theorem dX12_in_0 : decode cX12_in 0 = .ok (.iload_n 1, 1) := by decide +kernel
theorem dX12_in_1 : decode cX12_in 1 = .ok (.iload_n 2, 1) := by decide +kernel
theorem dX12_in_2 : decode cX12_in 2 = .ok (.if_icmp .lt 12, 3) := by decide +kernel
theorem dX12_in_5 : decode cX12_in 5 = .ok (.iload_n 1, 1) := by decide +kernel
theorem dX12_in_6 : decode cX12_in 6 = .ok (.iload_n 3, 1) := by decide +kernel
theorem dX12_in_7 : decode cX12_in 7 = .ok (.if_icmp .gt 7, 3) := by decide +kernel
theorem dX12_in_10 : decode cX12_in 10 = .ok (.iconst 1, 1) := by decide +kernel
theorem dX12_in_11 : decode cX12_in 11 = .ok (.goto 4, 3) := by decide +kernel
theorem dX12_in_14 : decode cX12_in 14 = .ok (.iconst 0, 1) := by decide +kernel
theorem dX12_in_15 : decode cX12_in 15 = .ok (.ireturn, 1) := by decide +kernel
theorem dX12_abs_0 : decode cX12_abs 0 = .ok (.iload_n 1, 1) := by decide +kernel
theorem dX12_abs_1 : decode cX12_abs 1 = .ok (.ifCond .ge 8, 3) := by decide +kernel
theorem dX12_abs_4 : decode cX12_abs 4 = .ok (.iload_n 1, 1) := by decide +kernel
theorem dX12_abs_5 : decode cX12_abs 5 = .ok (.ineg, 1) := by decide +kernel
theorem dX12_abs_6 : decode cX12_abs 6 = .ok (.goto 4, 3) := by decide +kernel
theorem dX12_abs_9 : decode cX12_abs 9 = .ok (.iload_n 1, 1) := by decide +kernel
theorem dX12_abs_10 : decode cX12_abs 10 = .ok (.ireturn, 1) := by decide +kernel
theorem dX12_isPerson_0 : decode cX12_isPerson 0 = .ok (.aload_n 0, 1) := by decide +kernel
theorem dX12_isPerson_1 : decode cX12_isPerson 1 = .ok (.iload_n 1, 1) := by decide +kernel
theorem dX12_isPerson_2 : decode cX12_isPerson 2 = .ok (.iconst 0, 1) := by decide +kernel
theorem dX12_isPerson_3 : decode cX12_isPerson 3 = .ok (.aload_n 0, 1) := by decide +kernel
theorem dX12_isPerson_4 : decode cX12_isPerson 4 = .ok (.getfield 7, 3) := by decide +kernel
theorem dX12_isPerson_7 : decode cX12_isPerson 7 = .ok (.iconst 1, 1) := by decide +kernel
theorem dX12_isPerson_8 : decode cX12_isPerson 8 = .ok (.isub, 1) := by decide +kernel
theorem dX12_isPerson_9 : decode cX12_isPerson 9 = .ok (.invokevirtual 195, 3) := by decide +kernel
theorem dX12_isPerson_12 : decode cX12_isPerson 12 = .ok (.ireturn, 1) := by decide +kernel
theorem dX12_isPlace_0 : decode cX12_isPlace 0 = .ok (.aload_n 0, 1) := by decide +kernel
theorem dX12_isPlace_1 : decode cX12_isPlace 1 = .ok (.iload_n 1, 1) := by decide +kernel
theorem dX12_isPlace_2 : decode cX12_isPlace 2 = .ok (.iconst 0, 1) := by decide +kernel
theorem dX12_isPlace_3 : decode cX12_isPlace 3 = .ok (.aload_n 0, 1) := by decide +kernel
theorem dX12_isPlace_4 : decode cX12_isPlace 4 = .ok (.getfield 13, 3) := by decide +kernel
theorem dX12_isPlace_7 : decode cX12_isPlace 7 = .ok (.iconst 1, 1) := by decide +kernel
theorem dX12_isPlace_8 : decode cX12_isPlace 8 = .ok (.isub, 1) := by decide +kernel
theorem dX12_isPlace_9 : decode cX12_isPlace 9 = .ok (.invokevirtual 195, 3) := by decide +kernel
theorem dX12_isPlace_12 : decode cX12_isPlace 12 = .ok (.ireturn, 1) := by decide +kernel
theorem dX12_person_0 : decode cX12_person 0 = .ok (.aload_n 0, 1) := by decide +kernel
theorem dX12_person_1 : decode cX12_person 1 = .ok (.iload_n 1, 1) := by decide +kernel
theorem dX12_person_2 : decode cX12_person 2 = .ok (.iconst 0, 1) := by decide +kernel
theorem dX12_person_3 : decode cX12_person 3 = .ok (.iconst 4, 1) := by decide +kernel
theorem dX12_person_4 : decode cX12_person 4 = .ok (.invokevirtual 195, 3) := by decide +kernel
theorem dX12_person_7 : decode cX12_person 7 = .ok (.ifCond .eq 25, 3) := by decide +kernel
theorem dX12_person_10 : decode cX12_person 10 = .ok (.aload_n 0, 1) := by decide +kernel
theorem dX12_person_11 : decode cX12_person 11 = .ok (.iload_n 2, 1) := by decide +kernel
theorem dX12_person_12 : decode cX12_person 12 = .ok (.iconst 1, 1) := by decide +kernel
theorem dX12_person_13 : decode cX12_person 13 = .ok (.bipush 20, 2) := by decide +kernel
theorem dX12_person_15 : decode cX12_person 15 = .ok (.invokevirtual 195, 3) := by decide +kernel
theorem dX12_person_18 : decode cX12_person 18 = .ok (.ifCond .eq 14, 3) := by decide +kernel
theorem dX12_person_21 : decode cX12_person 21 = .ok (.aload_n 0, 1) := by decide +kernel
theorem dX12_person_22 : decode cX12_person 22 = .ok (.iload_n 3, 1) := by decide +kernel
theorem dX12_person_23 : decode cX12_person 23 = .ok (.iconst 1, 1) := by decide +kernel
theorem dX12_person_24 : decode cX12_person 24 = .ok (.bipush 9, 2) := by decide +kernel
theorem dX12_person_26 : decode cX12_person 26 = .ok (.invokevirtual 195, 3) := by decide +kernel
theorem dX12_person_29 : decode cX12_person 29 = .ok (.ifCond .ne 6, 3) := by decide +kernel
theorem dX12_person_32 : decode cX12_person 32 = .ok (.bipush (-2), 2) := by decide +kernel
theorem dX12_person_34 : decode cX12_person 34 = .ok (.ireturn, 1) := by decide +kernel
theorem dX12_person_35 : decode cX12_person 35 = .ok (.aload_n 0, 1) := by decide +kernel
theorem dX12_person_36 : decode cX12_person 36 = .ok (.getfield 7, 3) := by decide +kernel
theorem dX12_person_39 : decode cX12_person 39 = .ok (.bipush 15, 2) := by decide +kernel
theorem dX12_person_41 : decode cX12_person 41 = .ok (.if_icmp .ne 6, 3) := by decide +kernel
theorem dX12_person_44 : decode cX12_person 44 = .ok (.bipush (-4), 2) := by decide +kernel
theorem dX12_person_46 : decode cX12_person 46 = .ok (.ireturn, 1) := by decide +kernel
theorem dX12_person_47 : decode cX12_person 47 = .ok (.aload_n 0, 1) := by decide +kernel
theorem dX12_person_48 : decode cX12_person 48 = .ok (.getfield 16, 3) := by decide +kernel
theorem dX12_person_51 : decode cX12_person 51 = .ok (.aload_n 0, 1) := by decide +kernel
theorem dX12_person_52 : decode cX12_person 52 = .ok (.getfield 7, 3) := by decide +kernel
theorem dX12_person_55 : decode cX12_person 55 = .ok (.iload_n 1, 1) := by decide +kernel
theorem dX12_person_56 : decode cX12_person 56 = .ok (.iastore, 1) := by decide +kernel
theorem dX12_person_57 : decode cX12_person 57 = .ok (.aload_n 0, 1) := by decide +kernel
theorem dX12_person_58 : decode cX12_person 58 = .ok (.getfield 20, 3) := by decide +kernel
theorem dX12_person_61 : decode cX12_person 61 = .ok (.aload_n 0, 1) := by decide +kernel
theorem dX12_person_62 : decode cX12_person 62 = .ok (.getfield 7, 3) := by decide +kernel
theorem dX12_person_65 : decode cX12_person 65 = .ok (.iload_n 2, 1) := by decide +kernel
theorem dX12_person_66 : decode cX12_person 66 = .ok (.iastore, 1) := by decide +kernel
theorem dX12_person_67 : decode cX12_person 67 = .ok (.aload_n 0, 1) := by decide +kernel
theorem dX12_person_68 : decode cX12_person 68 = .ok (.getfield 23, 3) := by decide +kernel
theorem dX12_person_71 : decode cX12_person 71 = .ok (.aload_n 0, 1) := by decide +kernel
theorem dX12_person_72 : decode cX12_person 72 = .ok (.getfield 7, 3) := by decide +kernel
theorem dX12_person_75 : decode cX12_person 75 = .ok (.iload_n 3, 1) := by decide +kernel
theorem dX12_person_76 : decode cX12_person 76 = .ok (.iastore, 1) := by decide +kernel
theorem dX12_person_77 : decode cX12_person 77 = .ok (.aload_n 0, 1) := by decide +kernel
theorem dX12_person_78 : decode cX12_person 78 = .ok (.dup, 1) := by decide +kernel
theorem dX12_person_79 : decode cX12_person 79 = .ok (.getfield 7, 3) := by decide +kernel
theorem dX12_person_82 : decode cX12_person 82 = .ok (.iconst 1, 1) := by decide +kernel
theorem dX12_person_83 : decode cX12_person 83 = .ok (.iadd, 1) := by decide +kernel
theorem dX12_person_84 : decode cX12_person 84 = .ok (.putfield 7, 3) := by decide +kernel
theorem dX12_person_87 : decode cX12_person 87 = .ok (.aload_n 0, 1) := by decide +kernel
theorem dX12_person_88 : decode cX12_person 88 = .ok (.getfield 7, 3) := by decide +kernel
theorem dX12_person_91 : decode cX12_person 91 = .ok (.iconst 1, 1) := by decide +kernel
theorem dX12_person_92 : decode cX12_person 92 = .ok (.isub, 1) := by decide +kernel
theorem dX12_person_93 : decode cX12_person 93 = .ok (.ireturn, 1) := by decide +kernel
theorem dX12_ring_0 : decode cX12_ring 0 = .ok (.aload_n 0, 1) := by decide +kernel
theorem dX12_ring_1 : decode cX12_ring 1 = .ok (.iload_n 1, 1) := by decide +kernel
theorem dX12_ring_2 : decode cX12_ring 2 = .ok (.iconst 3, 1) := by decide +kernel
theorem dX12_ring_3 : decode cX12_ring 3 = .ok (.bipush 9, 2) := by decide +kernel
theorem dX12_ring_5 : decode cX12_ring 5 = .ok (.invokevirtual 195, 3) := by decide +kernel
theorem dX12_ring_8 : decode cX12_ring 8 = .ok (.ifCond .ne 6, 3) := by decide +kernel
theorem dX12_ring_11 : decode cX12_ring 11 = .ok (.bipush (-2), 2) := by decide +kernel
theorem dX12_ring_13 : decode cX12_ring 13 = .ok (.ireturn, 1) := by decide +kernel
theorem dX12_ring_14 : decode cX12_ring 14 = .ok (.aload_n 0, 1) := by decide +kernel
theorem dX12_ring_15 : decode cX12_ring 15 = .ok (.getfield 44, 3) := by decide +kernel
theorem dX12_ring_18 : decode cX12_ring 18 = .ok (.ifCond .eq 6, 3) := by decide +kernel
theorem dX12_ring_21 : decode cX12_ring 21 = .ok (.bipush (-3), 2) := by decide +kernel
theorem dX12_ring_23 : decode cX12_ring 23 = .ok (.ireturn, 1) := by decide +kernel
theorem dX12_ring_24 : decode cX12_ring 24 = .ok (.aload_n 0, 1) := by decide +kernel
theorem dX12_ring_25 : decode cX12_ring 25 = .ok (.iload_n 1, 1) := by decide +kernel
theorem dX12_ring_26 : decode cX12_ring 26 = .ok (.putfield 13, 3) := by decide +kernel
theorem dX12_ring_29 : decode cX12_ring 29 = .ok (.aload_n 0, 1) := by decide +kernel
theorem dX12_ring_30 : decode cX12_ring 30 = .ok (.iconst 0, 1) := by decide +kernel
theorem dX12_ring_31 : decode cX12_ring 31 = .ok (.putfield 54, 3) := by decide +kernel
theorem dX12_ring_34 : decode cX12_ring 34 = .ok (.aload_n 0, 1) := by decide +kernel
theorem dX12_ring_35 : decode cX12_ring 35 = .ok (.iconst 0, 1) := by decide +kernel
theorem dX12_ring_36 : decode cX12_ring 36 = .ok (.putfield 57, 3) := by decide +kernel
theorem dX12_ring_39 : decode cX12_ring 39 = .ok (.iconst 0, 1) := by decide +kernel
theorem dX12_ring_40 : decode cX12_ring 40 = .ok (.istore_n 2, 1) := by decide +kernel
theorem dX12_ring_41 : decode cX12_ring 41 = .ok (.iload_n 2, 1) := by decide +kernel
theorem dX12_ring_42 : decode cX12_ring 42 = .ok (.bipush 9, 2) := by decide +kernel
theorem dX12_ring_44 : decode cX12_ring 44 = .ok (.if_icmp .ge 45, 3) := by decide +kernel
theorem dX12_ring_47 : decode cX12_ring 47 = .ok (.aload_n 0, 1) := by decide +kernel
theorem dX12_ring_48 : decode cX12_ring 48 = .ok (.getfield 26, 3) := by decide +kernel
theorem dX12_ring_51 : decode cX12_ring 51 = .ok (.iload_n 2, 1) := by decide +kernel
theorem dX12_ring_52 : decode cX12_ring 52 = .ok (.bipush (-5), 2) := by decide +kernel
theorem dX12_ring_54 : decode cX12_ring 54 = .ok (.iastore, 1) := by decide +kernel
theorem dX12_ring_55 : decode cX12_ring 55 = .ok (.aload_n 0, 1) := by decide +kernel
theorem dX12_ring_56 : decode cX12_ring 56 = .ok (.getfield 29, 3) := by decide +kernel
theorem dX12_ring_59 : decode cX12_ring 59 = .ok (.iload_n 2, 1) := by decide +kernel
theorem dX12_ring_60 : decode cX12_ring 60 = .ok (.iload_n 2, 1) := by decide +kernel
theorem dX12_ring_61 : decode cX12_ring 61 = .ok (.iastore, 1) := by decide +kernel
theorem dX12_ring_62 : decode cX12_ring 62 = .ok (.aload_n 0, 1) := by decide +kernel
theorem dX12_ring_63 : decode cX12_ring 63 = .ok (.getfield 32, 3) := by decide +kernel
theorem dX12_ring_66 : decode cX12_ring 66 = .ok (.iload_n 2, 1) := by decide +kernel
theorem dX12_ring_67 : decode cX12_ring 67 = .ok (.iconst 0, 1) := by decide +kernel
theorem dX12_ring_68 : decode cX12_ring 68 = .ok (.iastore, 1) := by decide +kernel
theorem dX12_ring_69 : decode cX12_ring 69 = .ok (.aload_n 0, 1) := by decide +kernel
theorem dX12_ring_70 : decode cX12_ring 70 = .ok (.getfield 35, 3) := by decide +kernel
theorem dX12_ring_73 : decode cX12_ring 73 = .ok (.iload_n 2, 1) := by decide +kernel
theorem dX12_ring_74 : decode cX12_ring 74 = .ok (.iconst 0, 1) := by decide +kernel
theorem dX12_ring_75 : decode cX12_ring 75 = .ok (.iastore, 1) := by decide +kernel
theorem dX12_ring_76 : decode cX12_ring 76 = .ok (.aload_n 0, 1) := by decide +kernel
theorem dX12_ring_77 : decode cX12_ring 77 = .ok (.getfield 63, 3) := by decide +kernel
theorem dX12_ring_80 : decode cX12_ring 80 = .ok (.iload_n 2, 1) := by decide +kernel
theorem dX12_ring_81 : decode cX12_ring 81 = .ok (.iconst 0, 1) := by decide +kernel
theorem dX12_ring_82 : decode cX12_ring 82 = .ok (.iastore, 1) := by decide +kernel
theorem dX12_ring_83 : decode cX12_ring 83 = .ok (.iinc 2 1, 3) := by decide +kernel
theorem dX12_ring_86 : decode cX12_ring 86 = .ok (.goto (-45), 3) := by decide +kernel
theorem dX12_ring_89 : decode cX12_ring 89 = .ok (.iconst 1, 1) := by decide +kernel
theorem dX12_ring_90 : decode cX12_ring 90 = .ok (.ireturn, 1) := by decide +kernel
theorem dX12_stand_0 : decode cX12_stand 0 = .ok (.aload_n 0, 1) := by decide +kernel
theorem dX12_stand_1 : decode cX12_stand 1 = .ok (.iload_n 1, 1) := by decide +kernel
theorem dX12_stand_2 : decode cX12_stand 2 = .ok (.invokevirtual 199, 3) := by decide +kernel
theorem dX12_stand_5 : decode cX12_stand 5 = .ok (.ifCond .eq 11, 3) := by decide +kernel
theorem dX12_stand_8 : decode cX12_stand 8 = .ok (.aload_n 0, 1) := by decide +kernel
theorem dX12_stand_9 : decode cX12_stand 9 = .ok (.iload_n 2, 1) := by decide +kernel
theorem dX12_stand_10 : decode cX12_stand 10 = .ok (.invokevirtual 203, 3) := by decide +kernel
theorem dX12_stand_13 : decode cX12_stand 13 = .ok (.ifCond .ne 5, 3) := by decide +kernel
theorem dX12_stand_16 : decode cX12_stand 16 = .ok (.iconst (-1), 1) := by decide +kernel
theorem dX12_stand_17 : decode cX12_stand 17 = .ok (.ireturn, 1) := by decide +kernel
theorem dX12_stand_18 : decode cX12_stand 18 = .ok (.aload_n 0, 1) := by decide +kernel
theorem dX12_stand_19 : decode cX12_stand 19 = .ok (.getfield 44, 3) := by decide +kernel
theorem dX12_stand_22 : decode cX12_stand 22 = .ok (.ifCond .eq 6, 3) := by decide +kernel
theorem dX12_stand_25 : decode cX12_stand 25 = .ok (.bipush (-3), 2) := by decide +kernel
theorem dX12_stand_27 : decode cX12_stand 27 = .ok (.ireturn, 1) := by decide +kernel
theorem dX12_stand_28 : decode cX12_stand 28 = .ok (.iconst 0, 1) := by decide +kernel
theorem dX12_stand_29 : decode cX12_stand 29 = .ok (.istore_n 3, 1) := by decide +kernel
theorem dX12_stand_30 : decode cX12_stand 30 = .ok (.iload_n 3, 1) := by decide +kernel
theorem dX12_stand_31 : decode cX12_stand 31 = .ok (.aload_n 0, 1) := by decide +kernel
theorem dX12_stand_32 : decode cX12_stand 32 = .ok (.getfield 13, 3) := by decide +kernel
theorem dX12_stand_35 : decode cX12_stand 35 = .ok (.if_icmp .ge 22, 3) := by decide +kernel
theorem dX12_stand_38 : decode cX12_stand 38 = .ok (.aload_n 0, 1) := by decide +kernel
theorem dX12_stand_39 : decode cX12_stand 39 = .ok (.getfield 26, 3) := by decide +kernel
theorem dX12_stand_42 : decode cX12_stand 42 = .ok (.iload_n 3, 1) := by decide +kernel
theorem dX12_stand_43 : decode cX12_stand 43 = .ok (.iaload, 1) := by decide +kernel
theorem dX12_stand_44 : decode cX12_stand 44 = .ok (.iload_n 2, 1) := by decide +kernel
theorem dX12_stand_45 : decode cX12_stand 45 = .ok (.if_icmp .ne 6, 3) := by decide +kernel
theorem dX12_stand_48 : decode cX12_stand 48 = .ok (.bipush (-3), 2) := by decide +kernel
theorem dX12_stand_50 : decode cX12_stand 50 = .ok (.ireturn, 1) := by decide +kernel
theorem dX12_stand_51 : decode cX12_stand 51 = .ok (.iinc 3 1, 3) := by decide +kernel
theorem dX12_stand_54 : decode cX12_stand 54 = .ok (.goto (-24), 3) := by decide +kernel
theorem dX12_stand_57 : decode cX12_stand 57 = .ok (.aload_n 0, 1) := by decide +kernel
theorem dX12_stand_58 : decode cX12_stand 58 = .ok (.getfield 16, 3) := by decide +kernel
theorem dX12_stand_61 : decode cX12_stand 61 = .ok (.iload_n 2, 1) := by decide +kernel
theorem dX12_stand_62 : decode cX12_stand 62 = .ok (.iaload, 1) := by decide +kernel
theorem dX12_stand_63 : decode cX12_stand 63 = .ok (.iconst 4, 1) := by decide +kernel
theorem dX12_stand_64 : decode cX12_stand 64 = .ok (.if_icmp .ne 6, 3) := by decide +kernel
theorem dX12_stand_67 : decode cX12_stand 67 = .ok (.bipush (-12), 2) := by decide +kernel
theorem dX12_stand_69 : decode cX12_stand 69 = .ok (.ireturn, 1) := by decide +kernel
theorem dX12_stand_70 : decode cX12_stand 70 = .ok (.aload_n 0, 1) := by decide +kernel
theorem dX12_stand_71 : decode cX12_stand 71 = .ok (.getfield 26, 3) := by decide +kernel
theorem dX12_stand_74 : decode cX12_stand 74 = .ok (.iload_n 1, 1) := by decide +kernel
theorem dX12_stand_75 : decode cX12_stand 75 = .ok (.iaload, 1) := by decide +kernel
theorem dX12_stand_76 : decode cX12_stand 76 = .ok (.istore_n 3, 1) := by decide +kernel
theorem dX12_stand_77 : decode cX12_stand 77 = .ok (.aload_n 0, 1) := by decide +kernel
theorem dX12_stand_78 : decode cX12_stand 78 = .ok (.getfield 26, 3) := by decide +kernel
theorem dX12_stand_81 : decode cX12_stand 81 = .ok (.iload_n 1, 1) := by decide +kernel
theorem dX12_stand_82 : decode cX12_stand 82 = .ok (.iload_n 2, 1) := by decide +kernel
theorem dX12_stand_83 : decode cX12_stand 83 = .ok (.iastore, 1) := by decide +kernel
theorem dX12_stand_84 : decode cX12_stand 84 = .ok (.iload_n 3, 1) := by decide +kernel
theorem dX12_stand_85 : decode cX12_stand 85 = .ok (.ireturn, 1) := by decide +kernel
theorem dX12_ribbon_0 : decode cX12_ribbon 0 = .ok (.aload_n 0, 1) := by decide +kernel
theorem dX12_ribbon_1 : decode cX12_ribbon 1 = .ok (.iload_n 1, 1) := by decide +kernel
theorem dX12_ribbon_2 : decode cX12_ribbon 2 = .ok (.invokevirtual 199, 3) := by decide +kernel
theorem dX12_ribbon_5 : decode cX12_ribbon 5 = .ok (.ifCond .ne 5, 3) := by decide +kernel
theorem dX12_ribbon_8 : decode cX12_ribbon 8 = .ok (.iconst (-1), 1) := by decide +kernel
theorem dX12_ribbon_9 : decode cX12_ribbon 9 = .ok (.ireturn, 1) := by decide +kernel
theorem dX12_ribbon_10 : decode cX12_ribbon 10 = .ok (.aload_n 0, 1) := by decide +kernel
theorem dX12_ribbon_11 : decode cX12_ribbon 11 = .ok (.iload_n 2, 1) := by decide +kernel
theorem dX12_ribbon_12 : decode cX12_ribbon 12 = .ok (.iconst 0, 1) := by decide +kernel
theorem dX12_ribbon_13 : decode cX12_ribbon 13 = .ok (.bipush 7, 2) := by decide +kernel
theorem dX12_ribbon_15 : decode cX12_ribbon 15 = .ok (.invokevirtual 195, 3) := by decide +kernel
theorem dX12_ribbon_18 : decode cX12_ribbon 18 = .ok (.ifCond .eq 14, 3) := by decide +kernel
theorem dX12_ribbon_21 : decode cX12_ribbon 21 = .ok (.aload_n 0, 1) := by decide +kernel
theorem dX12_ribbon_22 : decode cX12_ribbon 22 = .ok (.iload_n 3, 1) := by decide +kernel
theorem dX12_ribbon_23 : decode cX12_ribbon 23 = .ok (.iconst 0, 1) := by decide +kernel
theorem dX12_ribbon_24 : decode cX12_ribbon 24 = .ok (.ldc 206, 2) := by decide +kernel
theorem dX12_ribbon_26 : decode cX12_ribbon 26 = .ok (.invokevirtual 195, 3) := by decide +kernel
theorem dX12_ribbon_29 : decode cX12_ribbon 29 = .ok (.ifCond .ne 6, 3) := by decide +kernel
theorem dX12_ribbon_32 : decode cX12_ribbon 32 = .ok (.bipush (-2), 2) := by decide +kernel
theorem dX12_ribbon_34 : decode cX12_ribbon 34 = .ok (.ireturn, 1) := by decide +kernel
theorem dX12_ribbon_35 : decode cX12_ribbon 35 = .ok (.aload_n 0, 1) := by decide +kernel
theorem dX12_ribbon_36 : decode cX12_ribbon 36 = .ok (.getfield 44, 3) := by decide +kernel
theorem dX12_ribbon_39 : decode cX12_ribbon 39 = .ok (.ifCond .eq 6, 3) := by decide +kernel
theorem dX12_ribbon_42 : decode cX12_ribbon 42 = .ok (.bipush (-3), 2) := by decide +kernel
theorem dX12_ribbon_44 : decode cX12_ribbon 44 = .ok (.ireturn, 1) := by decide +kernel
theorem dX12_ribbon_45 : decode cX12_ribbon 45 = .ok (.aload_n 0, 1) := by decide +kernel
theorem dX12_ribbon_46 : decode cX12_ribbon 46 = .ok (.getfield 32, 3) := by decide +kernel
theorem dX12_ribbon_49 : decode cX12_ribbon 49 = .ok (.iload_n 1, 1) := by decide +kernel
theorem dX12_ribbon_50 : decode cX12_ribbon 50 = .ok (.iload_n 2, 1) := by decide +kernel
theorem dX12_ribbon_51 : decode cX12_ribbon 51 = .ok (.iastore, 1) := by decide +kernel
theorem dX12_ribbon_52 : decode cX12_ribbon 52 = .ok (.aload_n 0, 1) := by decide +kernel
theorem dX12_ribbon_53 : decode cX12_ribbon 53 = .ok (.getfield 35, 3) := by decide +kernel
theorem dX12_ribbon_56 : decode cX12_ribbon 56 = .ok (.iload_n 1, 1) := by decide +kernel
theorem dX12_ribbon_57 : decode cX12_ribbon 57 = .ok (.iload_n 3, 1) := by decide +kernel
theorem dX12_ribbon_58 : decode cX12_ribbon 58 = .ok (.iastore, 1) := by decide +kernel
theorem dX12_ribbon_59 : decode cX12_ribbon 59 = .ok (.iconst 1, 1) := by decide +kernel
theorem dX12_ribbon_60 : decode cX12_ribbon 60 = .ok (.ireturn, 1) := by decide +kernel
theorem dX12_at_0 : decode cX12_at 0 = .ok (.aload_n 0, 1) := by decide +kernel
theorem dX12_at_1 : decode cX12_at 1 = .ok (.iload_n 1, 1) := by decide +kernel
theorem dX12_at_2 : decode cX12_at 2 = .ok (.invokevirtual 199, 3) := by decide +kernel
theorem dX12_at_5 : decode cX12_at 5 = .ok (.ifCond .eq 13, 3) := by decide +kernel
theorem dX12_at_8 : decode cX12_at 8 = .ok (.aload_n 0, 1) := by decide +kernel
theorem dX12_at_9 : decode cX12_at 9 = .ok (.iload_n 2, 1) := by decide +kernel
theorem dX12_at_10 : decode cX12_at 10 = .ok (.iconst 0, 1) := by decide +kernel
theorem dX12_at_11 : decode cX12_at 11 = .ok (.iconst 3, 1) := by decide +kernel
theorem dX12_at_12 : decode cX12_at 12 = .ok (.invokevirtual 195, 3) := by decide +kernel
theorem dX12_at_15 : decode cX12_at 15 = .ok (.ifCond .ne 6, 3) := by decide +kernel
theorem dX12_at_18 : decode cX12_at 18 = .ok (.bipush (-6), 2) := by decide +kernel
theorem dX12_at_20 : decode cX12_at 20 = .ok (.ireturn, 1) := by decide +kernel
theorem dX12_at_21 : decode cX12_at 21 = .ok (.iload_n 2, 1) := by decide +kernel
theorem dX12_at_22 : decode cX12_at 22 = .ok (.ifCond .ne 12, 3) := by decide +kernel
theorem dX12_at_25 : decode cX12_at 25 = .ok (.aload_n 0, 1) := by decide +kernel
theorem dX12_at_26 : decode cX12_at 26 = .ok (.getfield 26, 3) := by decide +kernel
theorem dX12_at_29 : decode cX12_at 29 = .ok (.iload_n 1, 1) := by decide +kernel
theorem dX12_at_30 : decode cX12_at 30 = .ok (.iaload, 1) := by decide +kernel
theorem dX12_at_31 : decode cX12_at 31 = .ok (.goto 47, 3) := by decide +kernel
theorem dX12_at_34 : decode cX12_at 34 = .ok (.iload_n 2, 1) := by decide +kernel
theorem dX12_at_35 : decode cX12_at 35 = .ok (.iconst 1, 1) := by decide +kernel
theorem dX12_at_36 : decode cX12_at 36 = .ok (.if_icmp .ne 17, 3) := by decide +kernel
theorem dX12_at_39 : decode cX12_at 39 = .ok (.aload_n 0, 1) := by decide +kernel
theorem dX12_at_40 : decode cX12_at 40 = .ok (.getfield 32, 3) := by decide +kernel
theorem dX12_at_43 : decode cX12_at 43 = .ok (.aload_n 0, 1) := by decide +kernel
theorem dX12_at_44 : decode cX12_at 44 = .ok (.getfield 29, 3) := by decide +kernel
theorem dX12_at_47 : decode cX12_at 47 = .ok (.iload_n 1, 1) := by decide +kernel
theorem dX12_at_48 : decode cX12_at 48 = .ok (.iaload, 1) := by decide +kernel
theorem dX12_at_49 : decode cX12_at 49 = .ok (.iaload, 1) := by decide +kernel
theorem dX12_at_50 : decode cX12_at 50 = .ok (.goto 28, 3) := by decide +kernel
theorem dX12_at_53 : decode cX12_at 53 = .ok (.iload_n 2, 1) := by decide +kernel
theorem dX12_at_54 : decode cX12_at 54 = .ok (.iconst 2, 1) := by decide +kernel
theorem dX12_at_55 : decode cX12_at 55 = .ok (.if_icmp .ne 17, 3) := by decide +kernel
theorem dX12_at_58 : decode cX12_at 58 = .ok (.aload_n 0, 1) := by decide +kernel
theorem dX12_at_59 : decode cX12_at 59 = .ok (.getfield 35, 3) := by decide +kernel
theorem dX12_at_62 : decode cX12_at 62 = .ok (.aload_n 0, 1) := by decide +kernel
theorem dX12_at_63 : decode cX12_at 63 = .ok (.getfield 29, 3) := by decide +kernel
theorem dX12_at_66 : decode cX12_at 66 = .ok (.iload_n 1, 1) := by decide +kernel
theorem dX12_at_67 : decode cX12_at 67 = .ok (.iaload, 1) := by decide +kernel
theorem dX12_at_68 : decode cX12_at 68 = .ok (.iaload, 1) := by decide +kernel
theorem dX12_at_69 : decode cX12_at 69 = .ok (.goto 9, 3) := by decide +kernel
theorem dX12_at_72 : decode cX12_at 72 = .ok (.aload_n 0, 1) := by decide +kernel
theorem dX12_at_73 : decode cX12_at 73 = .ok (.getfield 29, 3) := by decide +kernel
theorem dX12_at_76 : decode cX12_at 76 = .ok (.iload_n 1, 1) := by decide +kernel
theorem dX12_at_77 : decode cX12_at 77 = .ok (.iaload, 1) := by decide +kernel
theorem dX12_at_78 : decode cX12_at 78 = .ok (.ireturn, 1) := by decide +kernel
theorem dX12_begin_0 : decode cX12_begin 0 = .ok (.aload_n 0, 1) := by decide +kernel
theorem dX12_begin_1 : decode cX12_begin 1 = .ok (.getfield 44, 3) := by decide +kernel
theorem dX12_begin_4 : decode cX12_begin 4 = .ok (.ifCond .ne 10, 3) := by decide +kernel
theorem dX12_begin_7 : decode cX12_begin 7 = .ok (.aload_n 0, 1) := by decide +kernel
theorem dX12_begin_8 : decode cX12_begin 8 = .ok (.getfield 13, 3) := by decide +kernel
theorem dX12_begin_11 : decode cX12_begin 11 = .ok (.ifCond .ne 6, 3) := by decide +kernel
theorem dX12_begin_14 : decode cX12_begin 14 = .ok (.bipush (-3), 2) := by decide +kernel
theorem dX12_begin_16 : decode cX12_begin 16 = .ok (.ireturn, 1) := by decide +kernel
theorem dX12_begin_17 : decode cX12_begin 17 = .ok (.iconst 0, 1) := by decide +kernel
theorem dX12_begin_18 : decode cX12_begin 18 = .ok (.istore_n 1, 1) := by decide +kernel
theorem dX12_begin_19 : decode cX12_begin 19 = .ok (.iload_n 1, 1) := by decide +kernel
theorem dX12_begin_20 : decode cX12_begin 20 = .ok (.aload_n 0, 1) := by decide +kernel
theorem dX12_begin_21 : decode cX12_begin 21 = .ok (.getfield 13, 3) := by decide +kernel
theorem dX12_begin_24 : decode cX12_begin 24 = .ok (.if_icmp .ge 23, 3) := by decide +kernel
theorem dX12_begin_27 : decode cX12_begin 27 = .ok (.aload_n 0, 1) := by decide +kernel
theorem dX12_begin_28 : decode cX12_begin 28 = .ok (.getfield 26, 3) := by decide +kernel
theorem dX12_begin_31 : decode cX12_begin 31 = .ok (.iload_n 1, 1) := by decide +kernel
theorem dX12_begin_32 : decode cX12_begin 32 = .ok (.iaload, 1) := by decide +kernel
theorem dX12_begin_33 : decode cX12_begin 33 = .ok (.bipush (-5), 2) := by decide +kernel
theorem dX12_begin_35 : decode cX12_begin 35 = .ok (.if_icmp .ne 6, 3) := by decide +kernel
theorem dX12_begin_38 : decode cX12_begin 38 = .ok (.bipush (-3), 2) := by decide +kernel
theorem dX12_begin_40 : decode cX12_begin 40 = .ok (.ireturn, 1) := by decide +kernel
theorem dX12_begin_41 : decode cX12_begin 41 = .ok (.iinc 1 1, 3) := by decide +kernel
theorem dX12_begin_44 : decode cX12_begin 44 = .ok (.goto (-25), 3) := by decide +kernel
theorem dX12_begin_47 : decode cX12_begin 47 = .ok (.aload_n 0, 1) := by decide +kernel
theorem dX12_begin_48 : decode cX12_begin 48 = .ok (.iconst 1, 1) := by decide +kernel
theorem dX12_begin_49 : decode cX12_begin 49 = .ok (.putfield 44, 3) := by decide +kernel
theorem dX12_begin_52 : decode cX12_begin 52 = .ok (.aload_n 0, 1) := by decide +kernel
theorem dX12_begin_53 : decode cX12_begin 53 = .ok (.iconst 0, 1) := by decide +kernel
theorem dX12_begin_54 : decode cX12_begin 54 = .ok (.putfield 54, 3) := by decide +kernel
theorem dX12_begin_57 : decode cX12_begin 57 = .ok (.aload_n 0, 1) := by decide +kernel
theorem dX12_begin_58 : decode cX12_begin 58 = .ok (.iconst 0, 1) := by decide +kernel
theorem dX12_begin_59 : decode cX12_begin 59 = .ok (.putfield 57, 3) := by decide +kernel
theorem dX12_begin_62 : decode cX12_begin 62 = .ok (.iconst 0, 1) := by decide +kernel
theorem dX12_begin_63 : decode cX12_begin 63 = .ok (.istore_n 1, 1) := by decide +kernel
theorem dX12_begin_64 : decode cX12_begin 64 = .ok (.iload_n 1, 1) := by decide +kernel
theorem dX12_begin_65 : decode cX12_begin 65 = .ok (.aload_n 0, 1) := by decide +kernel
theorem dX12_begin_66 : decode cX12_begin 66 = .ok (.getfield 13, 3) := by decide +kernel
theorem dX12_begin_69 : decode cX12_begin 69 = .ok (.if_icmp .ge 40, 3) := by decide +kernel
theorem dX12_begin_72 : decode cX12_begin 72 = .ok (.aload_n 0, 1) := by decide +kernel
theorem dX12_begin_73 : decode cX12_begin 73 = .ok (.getfield 38, 3) := by decide +kernel
theorem dX12_begin_76 : decode cX12_begin 76 = .ok (.iload_n 1, 1) := by decide +kernel
theorem dX12_begin_77 : decode cX12_begin 77 = .ok (.aload_n 0, 1) := by decide +kernel
theorem dX12_begin_78 : decode cX12_begin 78 = .ok (.getfield 35, 3) := by decide +kernel
theorem dX12_begin_81 : decode cX12_begin 81 = .ok (.iload_n 1, 1) := by decide +kernel
theorem dX12_begin_82 : decode cX12_begin 82 = .ok (.iaload, 1) := by decide +kernel
theorem dX12_begin_83 : decode cX12_begin 83 = .ok (.iastore, 1) := by decide +kernel
theorem dX12_begin_84 : decode cX12_begin 84 = .ok (.aload_n 0, 1) := by decide +kernel
theorem dX12_begin_85 : decode cX12_begin 85 = .ok (.getfield 41, 3) := by decide +kernel
theorem dX12_begin_88 : decode cX12_begin 88 = .ok (.iload_n 1, 1) := by decide +kernel
theorem dX12_begin_89 : decode cX12_begin 89 = .ok (.aload_n 0, 1) := by decide +kernel
theorem dX12_begin_90 : decode cX12_begin 90 = .ok (.getfield 32, 3) := by decide +kernel
theorem dX12_begin_93 : decode cX12_begin 93 = .ok (.iload_n 1, 1) := by decide +kernel
theorem dX12_begin_94 : decode cX12_begin 94 = .ok (.iaload, 1) := by decide +kernel
theorem dX12_begin_95 : decode cX12_begin 95 = .ok (.iastore, 1) := by decide +kernel
theorem dX12_begin_96 : decode cX12_begin 96 = .ok (.aload_n 0, 1) := by decide +kernel
theorem dX12_begin_97 : decode cX12_begin 97 = .ok (.getfield 63, 3) := by decide +kernel
theorem dX12_begin_100 : decode cX12_begin 100 = .ok (.iload_n 1, 1) := by decide +kernel
theorem dX12_begin_101 : decode cX12_begin 101 = .ok (.iconst 0, 1) := by decide +kernel
theorem dX12_begin_102 : decode cX12_begin 102 = .ok (.iastore, 1) := by decide +kernel
theorem dX12_begin_103 : decode cX12_begin 103 = .ok (.iinc 1 1, 3) := by decide +kernel
theorem dX12_begin_106 : decode cX12_begin 106 = .ok (.goto (-42), 3) := by decide +kernel
theorem dX12_begin_109 : decode cX12_begin 109 = .ok (.aload_n 0, 1) := by decide +kernel
theorem dX12_begin_110 : decode cX12_begin 110 = .ok (.getfield 13, 3) := by decide +kernel
theorem dX12_begin_113 : decode cX12_begin 113 = .ok (.ireturn, 1) := by decide +kernel
theorem dX12_end_0 : decode cX12_end 0 = .ok (.aload_n 0, 1) := by decide +kernel
theorem dX12_end_1 : decode cX12_end 1 = .ok (.getfield 44, 3) := by decide +kernel
theorem dX12_end_4 : decode cX12_end 4 = .ok (.ifCond .ne 6, 3) := by decide +kernel
theorem dX12_end_7 : decode cX12_end 7 = .ok (.bipush (-3), 2) := by decide +kernel
theorem dX12_end_9 : decode cX12_end 9 = .ok (.ireturn, 1) := by decide +kernel
theorem dX12_end_10 : decode cX12_end 10 = .ok (.aload_n 0, 1) := by decide +kernel
theorem dX12_end_11 : decode cX12_end 11 = .ok (.iconst 0, 1) := by decide +kernel
theorem dX12_end_12 : decode cX12_end 12 = .ok (.putfield 44, 3) := by decide +kernel
theorem dX12_end_15 : decode cX12_end 15 = .ok (.iconst 0, 1) := by decide +kernel
theorem dX12_end_16 : decode cX12_end 16 = .ok (.istore_n 1, 1) := by decide +kernel
theorem dX12_end_17 : decode cX12_end 17 = .ok (.iload_n 1, 1) := by decide +kernel
theorem dX12_end_18 : decode cX12_end 18 = .ok (.aload_n 0, 1) := by decide +kernel
theorem dX12_end_19 : decode cX12_end 19 = .ok (.getfield 13, 3) := by decide +kernel
theorem dX12_end_22 : decode cX12_end 22 = .ok (.if_icmp .ge 43, 3) := by decide +kernel
theorem dX12_end_25 : decode cX12_end 25 = .ok (.aload_n 0, 1) := by decide +kernel
theorem dX12_end_26 : decode cX12_end 26 = .ok (.getfield 48, 3) := by decide +kernel
theorem dX12_end_29 : decode cX12_end 29 = .ok (.iload_n 1, 1) := by decide +kernel
theorem dX12_end_30 : decode cX12_end 30 = .ok (.aload_n 0, 1) := by decide +kernel
theorem dX12_end_31 : decode cX12_end 31 = .ok (.getfield 32, 3) := by decide +kernel
theorem dX12_end_34 : decode cX12_end 34 = .ok (.aload_n 0, 1) := by decide +kernel
theorem dX12_end_35 : decode cX12_end 35 = .ok (.getfield 29, 3) := by decide +kernel
theorem dX12_end_38 : decode cX12_end 38 = .ok (.iload_n 1, 1) := by decide +kernel
theorem dX12_end_39 : decode cX12_end 39 = .ok (.iaload, 1) := by decide +kernel
theorem dX12_end_40 : decode cX12_end 40 = .ok (.iaload, 1) := by decide +kernel
theorem dX12_end_41 : decode cX12_end 41 = .ok (.iastore, 1) := by decide +kernel
theorem dX12_end_42 : decode cX12_end 42 = .ok (.aload_n 0, 1) := by decide +kernel
theorem dX12_end_43 : decode cX12_end 43 = .ok (.getfield 51, 3) := by decide +kernel
theorem dX12_end_46 : decode cX12_end 46 = .ok (.iload_n 1, 1) := by decide +kernel
theorem dX12_end_47 : decode cX12_end 47 = .ok (.aload_n 0, 1) := by decide +kernel
theorem dX12_end_48 : decode cX12_end 48 = .ok (.getfield 35, 3) := by decide +kernel
theorem dX12_end_51 : decode cX12_end 51 = .ok (.aload_n 0, 1) := by decide +kernel
theorem dX12_end_52 : decode cX12_end 52 = .ok (.getfield 29, 3) := by decide +kernel
theorem dX12_end_55 : decode cX12_end 55 = .ok (.iload_n 1, 1) := by decide +kernel
theorem dX12_end_56 : decode cX12_end 56 = .ok (.iaload, 1) := by decide +kernel
theorem dX12_end_57 : decode cX12_end 57 = .ok (.iaload, 1) := by decide +kernel
theorem dX12_end_58 : decode cX12_end 58 = .ok (.iastore, 1) := by decide +kernel
theorem dX12_end_59 : decode cX12_end 59 = .ok (.iinc 1 1, 3) := by decide +kernel
theorem dX12_end_62 : decode cX12_end 62 = .ok (.goto (-45), 3) := by decide +kernel
theorem dX12_end_65 : decode cX12_end 65 = .ok (.iconst 0, 1) := by decide +kernel
theorem dX12_end_66 : decode cX12_end 66 = .ok (.istore_n 1, 1) := by decide +kernel
end
section
theorem dX12_end_67 : decode cX12_end 67 = .ok (.iload_n 1, 1) := by decide +kernel
theorem dX12_end_68 : decode cX12_end 68 = .ok (.aload_n 0, 1) := by decide +kernel
theorem dX12_end_69 : decode cX12_end 69 = .ok (.getfield 13, 3) := by decide +kernel
theorem dX12_end_72 : decode cX12_end 72 = .ok (.if_icmp .ge 40, 3) := by decide +kernel
theorem dX12_end_75 : decode cX12_end 75 = .ok (.aload_n 0, 1) := by decide +kernel
theorem dX12_end_76 : decode cX12_end 76 = .ok (.getfield 32, 3) := by decide +kernel
theorem dX12_end_79 : decode cX12_end 79 = .ok (.iload_n 1, 1) := by decide +kernel
theorem dX12_end_80 : decode cX12_end 80 = .ok (.aload_n 0, 1) := by decide +kernel
theorem dX12_end_81 : decode cX12_end 81 = .ok (.getfield 48, 3) := by decide +kernel
theorem dX12_end_84 : decode cX12_end 84 = .ok (.iload_n 1, 1) := by decide +kernel
theorem dX12_end_85 : decode cX12_end 85 = .ok (.iaload, 1) := by decide +kernel
theorem dX12_end_86 : decode cX12_end 86 = .ok (.iastore, 1) := by decide +kernel
theorem dX12_end_87 : decode cX12_end 87 = .ok (.aload_n 0, 1) := by decide +kernel
theorem dX12_end_88 : decode cX12_end 88 = .ok (.getfield 35, 3) := by decide +kernel
theorem dX12_end_91 : decode cX12_end 91 = .ok (.iload_n 1, 1) := by decide +kernel
theorem dX12_end_92 : decode cX12_end 92 = .ok (.aload_n 0, 1) := by decide +kernel
theorem dX12_end_93 : decode cX12_end 93 = .ok (.getfield 51, 3) := by decide +kernel
theorem dX12_end_96 : decode cX12_end 96 = .ok (.iload_n 1, 1) := by decide +kernel
theorem dX12_end_97 : decode cX12_end 97 = .ok (.iaload, 1) := by decide +kernel
theorem dX12_end_98 : decode cX12_end 98 = .ok (.iastore, 1) := by decide +kernel
theorem dX12_end_99 : decode cX12_end 99 = .ok (.aload_n 0, 1) := by decide +kernel
theorem dX12_end_100 : decode cX12_end 100 = .ok (.getfield 29, 3) := by decide +kernel
theorem dX12_end_103 : decode cX12_end 103 = .ok (.iload_n 1, 1) := by decide +kernel
theorem dX12_end_104 : decode cX12_end 104 = .ok (.iload_n 1, 1) := by decide +kernel
theorem dX12_end_105 : decode cX12_end 105 = .ok (.iastore, 1) := by decide +kernel
theorem dX12_end_106 : decode cX12_end 106 = .ok (.iinc 1 1, 3) := by decide +kernel
theorem dX12_end_109 : decode cX12_end 109 = .ok (.goto (-42), 3) := by decide +kernel
theorem dX12_end_112 : decode cX12_end 112 = .ok (.aload_n 0, 1) := by decide +kernel
theorem dX12_end_113 : decode cX12_end 113 = .ok (.getfield 54, 3) := by decide +kernel
theorem dX12_end_116 : decode cX12_end 116 = .ok (.ireturn, 1) := by decide +kernel
theorem dX12_after_0 : decode cX12_after 0 = .ok (.iload_n 1, 1) := by decide +kernel
theorem dX12_after_1 : decode cX12_after 1 = .ok (.iconst 1, 1) := by decide +kernel
theorem dX12_after_2 : decode cX12_after 2 = .ok (.iadd, 1) := by decide +kernel
theorem dX12_after_3 : decode cX12_after 3 = .ok (.aload_n 0, 1) := by decide +kernel
theorem dX12_after_4 : decode cX12_after 4 = .ok (.getfield 13, 3) := by decide +kernel
theorem dX12_after_7 : decode cX12_after 7 = .ok (.if_icmp .ne 7, 3) := by decide +kernel
theorem dX12_after_10 : decode cX12_after 10 = .ok (.iconst 0, 1) := by decide +kernel
theorem dX12_after_11 : decode cX12_after 11 = .ok (.goto 6, 3) := by decide +kernel
theorem dX12_after_14 : decode cX12_after 14 = .ok (.iload_n 1, 1) := by decide +kernel
theorem dX12_after_15 : decode cX12_after 15 = .ok (.iconst 1, 1) := by decide +kernel
theorem dX12_after_16 : decode cX12_after 16 = .ok (.iadd, 1) := by decide +kernel
theorem dX12_after_17 : decode cX12_after 17 = .ok (.ireturn, 1) := by decide +kernel
theorem dX12_ahead_0 : decode cX12_ahead 0 = .ok (.iload_n 1, 1) := by decide +kernel
theorem dX12_ahead_1 : decode cX12_ahead 1 = .ok (.ifCond .ne 12, 3) := by decide +kernel
theorem dX12_ahead_4 : decode cX12_ahead 4 = .ok (.aload_n 0, 1) := by decide +kernel
theorem dX12_ahead_5 : decode cX12_ahead 5 = .ok (.getfield 13, 3) := by decide +kernel
theorem dX12_ahead_8 : decode cX12_ahead 8 = .ok (.iconst 1, 1) := by decide +kernel
theorem dX12_ahead_9 : decode cX12_ahead 9 = .ok (.isub, 1) := by decide +kernel
theorem dX12_ahead_10 : decode cX12_ahead 10 = .ok (.goto 6, 3) := by decide +kernel
theorem dX12_ahead_13 : decode cX12_ahead 13 = .ok (.iload_n 1, 1) := by decide +kernel
theorem dX12_ahead_14 : decode cX12_ahead 14 = .ok (.iconst 1, 1) := by decide +kernel
theorem dX12_ahead_15 : decode cX12_ahead 15 = .ok (.isub, 1) := by decide +kernel
theorem dX12_ahead_16 : decode cX12_ahead 16 = .ok (.ireturn, 1) := by decide +kernel
theorem dX12_girth_0 : decode cX12_girth 0 = .ok (.bipush 10, 2) := by decide +kernel
theorem dX12_girth_2 : decode cX12_girth 2 = .ok (.aload_n 0, 1) := by decide +kernel
theorem dX12_girth_3 : decode cX12_girth 3 = .ok (.getfield 57, 3) := by decide +kernel
theorem dX12_girth_6 : decode cX12_girth 6 = .ok (.iconst 3, 1) := by decide +kernel
theorem dX12_girth_7 : decode cX12_girth 7 = .ok (.idiv, 1) := by decide +kernel
theorem dX12_girth_8 : decode cX12_girth 8 = .ok (.iadd, 1) := by decide +kernel
theorem dX12_girth_9 : decode cX12_girth 9 = .ok (.ireturn, 1) := by decide +kernel
theorem dX12_pass_0 : decode cX12_pass 0 = .ok (.aload_n 0, 1) := by decide +kernel
theorem dX12_pass_1 : decode cX12_pass 1 = .ok (.iload_n 1, 1) := by decide +kernel
theorem dX12_pass_2 : decode cX12_pass 2 = .ok (.invokevirtual 199, 3) := by decide +kernel
theorem dX12_pass_5 : decode cX12_pass 5 = .ok (.ifCond .ne 5, 3) := by decide +kernel
theorem dX12_pass_8 : decode cX12_pass 8 = .ok (.iconst (-1), 1) := by decide +kernel
theorem dX12_pass_9 : decode cX12_pass 9 = .ok (.ireturn, 1) := by decide +kernel
theorem dX12_pass_10 : decode cX12_pass 10 = .ok (.aload_n 0, 1) := by decide +kernel
theorem dX12_pass_11 : decode cX12_pass 11 = .ok (.iload_n 2, 1) := by decide +kernel
theorem dX12_pass_12 : decode cX12_pass 12 = .ok (.iconst 0, 1) := by decide +kernel
theorem dX12_pass_13 : decode cX12_pass 13 = .ok (.iconst 1, 1) := by decide +kernel
theorem dX12_pass_14 : decode cX12_pass 14 = .ok (.invokevirtual 195, 3) := by decide +kernel
theorem dX12_pass_17 : decode cX12_pass 17 = .ok (.ifCond .ne 6, 3) := by decide +kernel
theorem dX12_pass_20 : decode cX12_pass 20 = .ok (.bipush (-2), 2) := by decide +kernel
theorem dX12_pass_22 : decode cX12_pass 22 = .ok (.ireturn, 1) := by decide +kernel
theorem dX12_pass_23 : decode cX12_pass 23 = .ok (.aload_n 0, 1) := by decide +kernel
theorem dX12_pass_24 : decode cX12_pass 24 = .ok (.getfield 44, 3) := by decide +kernel
theorem dX12_pass_27 : decode cX12_pass 27 = .ok (.ifCond .ne 6, 3) := by decide +kernel
theorem dX12_pass_30 : decode cX12_pass 30 = .ok (.bipush (-3), 2) := by decide +kernel
theorem dX12_pass_32 : decode cX12_pass 32 = .ok (.ireturn, 1) := by decide +kernel
theorem dX12_pass_33 : decode cX12_pass 33 = .ok (.aload_n 0, 1) := by decide +kernel
theorem dX12_pass_34 : decode cX12_pass 34 = .ok (.iload_n 1, 1) := by decide +kernel
theorem dX12_pass_35 : decode cX12_pass 35 = .ok (.invokevirtual 207, 3) := by decide +kernel
theorem dX12_pass_38 : decode cX12_pass 38 = .ok (.istore_n 3, 1) := by decide +kernel
theorem dX12_pass_39 : decode cX12_pass 39 = .ok (.iload_n 2, 1) := by decide +kernel
theorem dX12_pass_40 : decode cX12_pass 40 = .ok (.ifCond .ne 12, 3) := by decide +kernel
theorem dX12_pass_43 : decode cX12_pass 43 = .ok (.aload_n 0, 1) := by decide +kernel
theorem dX12_pass_44 : decode cX12_pass 44 = .ok (.getfield 29, 3) := by decide +kernel
theorem dX12_pass_47 : decode cX12_pass 47 = .ok (.iload_n 1, 1) := by decide +kernel
theorem dX12_pass_48 : decode cX12_pass 48 = .ok (.iaload, 1) := by decide +kernel
theorem dX12_pass_49 : decode cX12_pass 49 = .ok (.goto 9, 3) := by decide +kernel
theorem dX12_pass_52 : decode cX12_pass 52 = .ok (.aload_n 0, 1) := by decide +kernel
theorem dX12_pass_53 : decode cX12_pass 53 = .ok (.getfield 29, 3) := by decide +kernel
theorem dX12_pass_56 : decode cX12_pass 56 = .ok (.iload_n 3, 1) := by decide +kernel
theorem dX12_pass_57 : decode cX12_pass 57 = .ok (.iaload, 1) := by decide +kernel
theorem dX12_pass_58 : decode cX12_pass 58 = .ok (.istore 4, 2) := by decide +kernel
theorem dX12_pass_60 : decode cX12_pass 60 = .ok (.iload_n 2, 1) := by decide +kernel
theorem dX12_pass_61 : decode cX12_pass 61 = .ok (.ifCond .ne 12, 3) := by decide +kernel
theorem dX12_pass_64 : decode cX12_pass 64 = .ok (.aload_n 0, 1) := by decide +kernel
theorem dX12_pass_65 : decode cX12_pass 65 = .ok (.getfield 29, 3) := by decide +kernel
theorem dX12_pass_68 : decode cX12_pass 68 = .ok (.iload_n 3, 1) := by decide +kernel
theorem dX12_pass_69 : decode cX12_pass 69 = .ok (.iaload, 1) := by decide +kernel
theorem dX12_pass_70 : decode cX12_pass 70 = .ok (.goto 9, 3) := by decide +kernel
theorem dX12_pass_73 : decode cX12_pass 73 = .ok (.aload_n 0, 1) := by decide +kernel
theorem dX12_pass_74 : decode cX12_pass 74 = .ok (.getfield 29, 3) := by decide +kernel
theorem dX12_pass_77 : decode cX12_pass 77 = .ok (.iload_n 1, 1) := by decide +kernel
theorem dX12_pass_78 : decode cX12_pass 78 = .ok (.iaload, 1) := by decide +kernel
theorem dX12_pass_79 : decode cX12_pass 79 = .ok (.istore 5, 2) := by decide +kernel
theorem dX12_pass_81 : decode cX12_pass 81 = .ok (.aload_n 0, 1) := by decide +kernel
theorem dX12_pass_82 : decode cX12_pass 82 = .ok (.getfield 35, 3) := by decide +kernel
theorem dX12_pass_85 : decode cX12_pass 85 = .ok (.iload 4, 2) := by decide +kernel
theorem dX12_pass_87 : decode cX12_pass 87 = .ok (.iaload, 1) := by decide +kernel
theorem dX12_pass_88 : decode cX12_pass 88 = .ok (.iconst 1, 1) := by decide +kernel
theorem dX12_pass_89 : decode cX12_pass 89 = .ok (.if_icmp .lt 14, 3) := by decide +kernel
theorem dX12_pass_92 : decode cX12_pass 92 = .ok (.aload_n 0, 1) := by decide +kernel
theorem dX12_pass_93 : decode cX12_pass 93 = .ok (.getfield 35, 3) := by decide +kernel
theorem dX12_pass_96 : decode cX12_pass 96 = .ok (.iload 5, 2) := by decide +kernel
theorem dX12_pass_98 : decode cX12_pass 98 = .ok (.iaload, 1) := by decide +kernel
theorem dX12_pass_99 : decode cX12_pass 99 = .ok (.iconst 2, 1) := by decide +kernel
theorem dX12_pass_100 : decode cX12_pass 100 = .ok (.if_icmp .ge 6, 3) := by decide +kernel
theorem dX12_pass_103 : decode cX12_pass 103 = .ok (.bipush (-3), 2) := by decide +kernel
theorem dX12_pass_105 : decode cX12_pass 105 = .ok (.ireturn, 1) := by decide +kernel
theorem dX12_pass_106 : decode cX12_pass 106 = .ok (.aload_n 0, 1) := by decide +kernel
theorem dX12_pass_107 : decode cX12_pass 107 = .ok (.getfield 54, 3) := by decide +kernel
theorem dX12_pass_110 : decode cX12_pass 110 = .ok (.sipush 300, 3) := by decide +kernel
theorem dX12_pass_113 : decode cX12_pass 113 = .ok (.if_icmp .ne 6, 3) := by decide +kernel
theorem dX12_pass_116 : decode cX12_pass 116 = .ok (.bipush (-4), 2) := by decide +kernel
theorem dX12_pass_118 : decode cX12_pass 118 = .ok (.ireturn, 1) := by decide +kernel
theorem dX12_pass_119 : decode cX12_pass 119 = .ok (.aload_n 0, 1) := by decide +kernel
theorem dX12_pass_120 : decode cX12_pass 120 = .ok (.getfield 35, 3) := by decide +kernel
theorem dX12_pass_123 : decode cX12_pass 123 = .ok (.iload 4, 2) := by decide +kernel
theorem dX12_pass_125 : decode cX12_pass 125 = .ok (.dup2, 1) := by decide +kernel
theorem dX12_pass_126 : decode cX12_pass 126 = .ok (.iaload, 1) := by decide +kernel
theorem dX12_pass_127 : decode cX12_pass 127 = .ok (.iconst 1, 1) := by decide +kernel
theorem dX12_pass_128 : decode cX12_pass 128 = .ok (.isub, 1) := by decide +kernel
theorem dX12_pass_129 : decode cX12_pass 129 = .ok (.iastore, 1) := by decide +kernel
theorem dX12_pass_130 : decode cX12_pass 130 = .ok (.aload_n 0, 1) := by decide +kernel
theorem dX12_pass_131 : decode cX12_pass 131 = .ok (.getfield 35, 3) := by decide +kernel
theorem dX12_pass_134 : decode cX12_pass 134 = .ok (.iload 5, 2) := by decide +kernel
theorem dX12_pass_136 : decode cX12_pass 136 = .ok (.dup2, 1) := by decide +kernel
theorem dX12_pass_137 : decode cX12_pass 137 = .ok (.iaload, 1) := by decide +kernel
theorem dX12_pass_138 : decode cX12_pass 138 = .ok (.iconst 2, 1) := by decide +kernel
theorem dX12_pass_139 : decode cX12_pass 139 = .ok (.isub, 1) := by decide +kernel
theorem dX12_pass_140 : decode cX12_pass 140 = .ok (.iastore, 1) := by decide +kernel
theorem dX12_pass_141 : decode cX12_pass 141 = .ok (.aload_n 0, 1) := by decide +kernel
theorem dX12_pass_142 : decode cX12_pass 142 = .ok (.getfield 29, 3) := by decide +kernel
theorem dX12_pass_145 : decode cX12_pass 145 = .ok (.iload_n 1, 1) := by decide +kernel
theorem dX12_pass_146 : decode cX12_pass 146 = .ok (.iaload, 1) := by decide +kernel
theorem dX12_pass_147 : decode cX12_pass 147 = .ok (.istore 6, 2) := by decide +kernel
theorem dX12_pass_149 : decode cX12_pass 149 = .ok (.aload_n 0, 1) := by decide +kernel
theorem dX12_pass_150 : decode cX12_pass 150 = .ok (.getfield 29, 3) := by decide +kernel
theorem dX12_pass_153 : decode cX12_pass 153 = .ok (.iload_n 1, 1) := by decide +kernel
theorem dX12_pass_154 : decode cX12_pass 154 = .ok (.aload_n 0, 1) := by decide +kernel
theorem dX12_pass_155 : decode cX12_pass 155 = .ok (.getfield 29, 3) := by decide +kernel
theorem dX12_pass_158 : decode cX12_pass 158 = .ok (.iload_n 3, 1) := by decide +kernel
theorem dX12_pass_159 : decode cX12_pass 159 = .ok (.iaload, 1) := by decide +kernel
theorem dX12_pass_160 : decode cX12_pass 160 = .ok (.iastore, 1) := by decide +kernel
theorem dX12_pass_161 : decode cX12_pass 161 = .ok (.aload_n 0, 1) := by decide +kernel
theorem dX12_pass_162 : decode cX12_pass 162 = .ok (.getfield 29, 3) := by decide +kernel
theorem dX12_pass_165 : decode cX12_pass 165 = .ok (.iload_n 3, 1) := by decide +kernel
theorem dX12_pass_166 : decode cX12_pass 166 = .ok (.iload 6, 2) := by decide +kernel
theorem dX12_pass_168 : decode cX12_pass 168 = .ok (.iastore, 1) := by decide +kernel
theorem dX12_pass_169 : decode cX12_pass 169 = .ok (.aload_n 0, 1) := by decide +kernel
theorem dX12_pass_170 : decode cX12_pass 170 = .ok (.getfield 26, 3) := by decide +kernel
theorem dX12_pass_173 : decode cX12_pass 173 = .ok (.iload_n 1, 1) := by decide +kernel
theorem dX12_pass_174 : decode cX12_pass 174 = .ok (.iaload, 1) := by decide +kernel
theorem dX12_pass_175 : decode cX12_pass 175 = .ok (.istore 7, 2) := by decide +kernel
theorem dX12_pass_177 : decode cX12_pass 177 = .ok (.aload_n 0, 1) := by decide +kernel
theorem dX12_pass_178 : decode cX12_pass 178 = .ok (.getfield 26, 3) := by decide +kernel
theorem dX12_pass_181 : decode cX12_pass 181 = .ok (.iload_n 1, 1) := by decide +kernel
theorem dX12_pass_182 : decode cX12_pass 182 = .ok (.aload_n 0, 1) := by decide +kernel
theorem dX12_pass_183 : decode cX12_pass 183 = .ok (.getfield 26, 3) := by decide +kernel
theorem dX12_pass_186 : decode cX12_pass 186 = .ok (.iload_n 3, 1) := by decide +kernel
theorem dX12_pass_187 : decode cX12_pass 187 = .ok (.iaload, 1) := by decide +kernel
theorem dX12_pass_188 : decode cX12_pass 188 = .ok (.iastore, 1) := by decide +kernel
theorem dX12_pass_189 : decode cX12_pass 189 = .ok (.aload_n 0, 1) := by decide +kernel
theorem dX12_pass_190 : decode cX12_pass 190 = .ok (.getfield 26, 3) := by decide +kernel
theorem dX12_pass_193 : decode cX12_pass 193 = .ok (.iload_n 3, 1) := by decide +kernel
theorem dX12_pass_194 : decode cX12_pass 194 = .ok (.iload 7, 2) := by decide +kernel
theorem dX12_pass_196 : decode cX12_pass 196 = .ok (.iastore, 1) := by decide +kernel
theorem dX12_pass_197 : decode cX12_pass 197 = .ok (.aload_n 0, 1) := by decide +kernel
theorem dX12_pass_198 : decode cX12_pass 198 = .ok (.getfield 63, 3) := by decide +kernel
theorem dX12_pass_201 : decode cX12_pass 201 = .ok (.iload_n 1, 1) := by decide +kernel
theorem dX12_pass_202 : decode cX12_pass 202 = .ok (.iload_n 2, 1) := by decide +kernel
theorem dX12_pass_203 : decode cX12_pass 203 = .ok (.iconst 1, 1) := by decide +kernel
theorem dX12_pass_204 : decode cX12_pass 204 = .ok (.iadd, 1) := by decide +kernel
theorem dX12_pass_205 : decode cX12_pass 205 = .ok (.iastore, 1) := by decide +kernel
theorem dX12_pass_206 : decode cX12_pass 206 = .ok (.aload_n 0, 1) := by decide +kernel
theorem dX12_pass_207 : decode cX12_pass 207 = .ok (.getfield 60, 3) := by decide +kernel
theorem dX12_pass_210 : decode cX12_pass 210 = .ok (.aload_n 0, 1) := by decide +kernel
theorem dX12_pass_211 : decode cX12_pass 211 = .ok (.getfield 54, 3) := by decide +kernel
theorem dX12_pass_214 : decode cX12_pass 214 = .ok (.bipush 10, 2) := by decide +kernel
theorem dX12_pass_216 : decode cX12_pass 216 = .ok (.iload_n 1, 1) := by decide +kernel
theorem dX12_pass_217 : decode cX12_pass 217 = .ok (.imul, 1) := by decide +kernel
theorem dX12_pass_218 : decode cX12_pass 218 = .ok (.iload_n 2, 1) := by decide +kernel
theorem dX12_pass_219 : decode cX12_pass 219 = .ok (.iadd, 1) := by decide +kernel
theorem dX12_pass_220 : decode cX12_pass 220 = .ok (.iastore, 1) := by decide +kernel
theorem dX12_pass_221 : decode cX12_pass 221 = .ok (.aload_n 0, 1) := by decide +kernel
theorem dX12_pass_222 : decode cX12_pass 222 = .ok (.dup, 1) := by decide +kernel
theorem dX12_pass_223 : decode cX12_pass 223 = .ok (.getfield 54, 3) := by decide +kernel
theorem dX12_pass_226 : decode cX12_pass 226 = .ok (.iconst 1, 1) := by decide +kernel
theorem dX12_pass_227 : decode cX12_pass 227 = .ok (.iadd, 1) := by decide +kernel
theorem dX12_pass_228 : decode cX12_pass 228 = .ok (.putfield 54, 3) := by decide +kernel
theorem dX12_pass_231 : decode cX12_pass 231 = .ok (.aload_n 0, 1) := by decide +kernel
theorem dX12_pass_232 : decode cX12_pass 232 = .ok (.getfield 54, 3) := by decide +kernel
theorem dX12_pass_235 : decode cX12_pass 235 = .ok (.ireturn, 1) := by decide +kernel
theorem dX12_turn_0 : decode cX12_turn 0 = .ok (.iload_n 2, 1) := by decide +kernel
theorem dX12_turn_1 : decode cX12_turn 1 = .ok (.ifCond .ne 48, 3) := by decide +kernel
theorem dX12_turn_4 : decode cX12_turn 4 = .ok (.aload_n 1, 1) := by decide +kernel
theorem dX12_turn_5 : decode cX12_turn 5 = .ok (.aload_n 0, 1) := by decide +kernel
theorem dX12_turn_6 : decode cX12_turn 6 = .ok (.getfield 13, 3) := by decide +kernel
theorem dX12_turn_9 : decode cX12_turn 9 = .ok (.iconst 1, 1) := by decide +kernel
theorem dX12_turn_10 : decode cX12_turn 10 = .ok (.isub, 1) := by decide +kernel
theorem dX12_turn_11 : decode cX12_turn 11 = .ok (.iaload, 1) := by decide +kernel
theorem dX12_turn_12 : decode cX12_turn 12 = .ok (.istore_n 3, 1) := by decide +kernel
theorem dX12_turn_13 : decode cX12_turn 13 = .ok (.aload_n 0, 1) := by decide +kernel
theorem dX12_turn_14 : decode cX12_turn 14 = .ok (.getfield 13, 3) := by decide +kernel
theorem dX12_turn_17 : decode cX12_turn 17 = .ok (.iconst 1, 1) := by decide +kernel
theorem dX12_turn_18 : decode cX12_turn 18 = .ok (.isub, 1) := by decide +kernel
theorem dX12_turn_19 : decode cX12_turn 19 = .ok (.istore 4, 2) := by decide +kernel
theorem dX12_turn_21 : decode cX12_turn 21 = .ok (.iload 4, 2) := by decide +kernel
theorem dX12_turn_23 : decode cX12_turn 23 = .ok (.ifCond .le 19, 3) := by decide +kernel
theorem dX12_turn_26 : decode cX12_turn 26 = .ok (.aload_n 1, 1) := by decide +kernel
theorem dX12_turn_27 : decode cX12_turn 27 = .ok (.iload 4, 2) := by decide +kernel
theorem dX12_turn_29 : decode cX12_turn 29 = .ok (.aload_n 1, 1) := by decide +kernel
theorem dX12_turn_30 : decode cX12_turn 30 = .ok (.iload 4, 2) := by decide +kernel
theorem dX12_turn_32 : decode cX12_turn 32 = .ok (.iconst 1, 1) := by decide +kernel
theorem dX12_turn_33 : decode cX12_turn 33 = .ok (.isub, 1) := by decide +kernel
theorem dX12_turn_34 : decode cX12_turn 34 = .ok (.iaload, 1) := by decide +kernel
theorem dX12_turn_35 : decode cX12_turn 35 = .ok (.iastore, 1) := by decide +kernel
theorem dX12_turn_36 : decode cX12_turn 36 = .ok (.iinc 4 (-1), 3) := by decide +kernel
theorem dX12_turn_39 : decode cX12_turn 39 = .ok (.goto (-18), 3) := by decide +kernel
theorem dX12_turn_42 : decode cX12_turn 42 = .ok (.aload_n 1, 1) := by decide +kernel
theorem dX12_turn_43 : decode cX12_turn 43 = .ok (.iconst 0, 1) := by decide +kernel
theorem dX12_turn_44 : decode cX12_turn 44 = .ok (.iload_n 3, 1) := by decide +kernel
theorem dX12_turn_45 : decode cX12_turn 45 = .ok (.iastore, 1) := by decide +kernel
theorem dX12_turn_46 : decode cX12_turn 46 = .ok (.goto 46, 3) := by decide +kernel
theorem dX12_turn_49 : decode cX12_turn 49 = .ok (.aload_n 1, 1) := by decide +kernel
theorem dX12_turn_50 : decode cX12_turn 50 = .ok (.iconst 0, 1) := by decide +kernel
theorem dX12_turn_51 : decode cX12_turn 51 = .ok (.iaload, 1) := by decide +kernel
theorem dX12_turn_52 : decode cX12_turn 52 = .ok (.istore_n 3, 1) := by decide +kernel
theorem dX12_turn_53 : decode cX12_turn 53 = .ok (.iconst 0, 1) := by decide +kernel
theorem dX12_turn_54 : decode cX12_turn 54 = .ok (.istore 4, 2) := by decide +kernel
theorem dX12_turn_56 : decode cX12_turn 56 = .ok (.iload 4, 2) := by decide +kernel
theorem dX12_turn_58 : decode cX12_turn 58 = .ok (.aload_n 0, 1) := by decide +kernel
theorem dX12_turn_59 : decode cX12_turn 59 = .ok (.getfield 13, 3) := by decide +kernel
theorem dX12_turn_62 : decode cX12_turn 62 = .ok (.iconst 1, 1) := by decide +kernel
theorem dX12_turn_63 : decode cX12_turn 63 = .ok (.isub, 1) := by decide +kernel
theorem dX12_turn_64 : decode cX12_turn 64 = .ok (.if_icmp .ge 19, 3) := by decide +kernel
theorem dX12_turn_67 : decode cX12_turn 67 = .ok (.aload_n 1, 1) := by decide +kernel
theorem dX12_turn_68 : decode cX12_turn 68 = .ok (.iload 4, 2) := by decide +kernel
theorem dX12_turn_70 : decode cX12_turn 70 = .ok (.aload_n 1, 1) := by decide +kernel
theorem dX12_turn_71 : decode cX12_turn 71 = .ok (.iload 4, 2) := by decide +kernel
theorem dX12_turn_73 : decode cX12_turn 73 = .ok (.iconst 1, 1) := by decide +kernel
theorem dX12_turn_74 : decode cX12_turn 74 = .ok (.iadd, 1) := by decide +kernel
theorem dX12_turn_75 : decode cX12_turn 75 = .ok (.iaload, 1) := by decide +kernel
theorem dX12_turn_76 : decode cX12_turn 76 = .ok (.iastore, 1) := by decide +kernel
theorem dX12_turn_77 : decode cX12_turn 77 = .ok (.iinc 4 1, 3) := by decide +kernel
theorem dX12_turn_80 : decode cX12_turn 80 = .ok (.goto (-24), 3) := by decide +kernel
theorem dX12_turn_83 : decode cX12_turn 83 = .ok (.aload_n 1, 1) := by decide +kernel
theorem dX12_turn_84 : decode cX12_turn 84 = .ok (.aload_n 0, 1) := by decide +kernel
theorem dX12_turn_85 : decode cX12_turn 85 = .ok (.getfield 13, 3) := by decide +kernel
theorem dX12_turn_88 : decode cX12_turn 88 = .ok (.iconst 1, 1) := by decide +kernel
theorem dX12_turn_89 : decode cX12_turn 89 = .ok (.isub, 1) := by decide +kernel
theorem dX12_turn_90 : decode cX12_turn 90 = .ok (.iload_n 3, 1) := by decide +kernel
theorem dX12_turn_91 : decode cX12_turn 91 = .ok (.iastore, 1) := by decide +kernel
theorem dX12_turn_92 : decode cX12_turn 92 = .ok (.return_, 1) := by decide +kernel
theorem dX12_walk_0 : decode cX12_walk 0 = .ok (.aload_n 0, 1) := by decide +kernel
theorem dX12_walk_1 : decode cX12_walk 1 = .ok (.iload_n 1, 1) := by decide +kernel
theorem dX12_walk_2 : decode cX12_walk 2 = .ok (.iconst 0, 1) := by decide +kernel
theorem dX12_walk_3 : decode cX12_walk 3 = .ok (.iconst 1, 1) := by decide +kernel
theorem dX12_walk_4 : decode cX12_walk 4 = .ok (.invokevirtual 195, 3) := by decide +kernel
theorem dX12_walk_7 : decode cX12_walk 7 = .ok (.ifCond .ne 6, 3) := by decide +kernel
theorem dX12_walk_10 : decode cX12_walk 10 = .ok (.bipush (-2), 2) := by decide +kernel
theorem dX12_walk_12 : decode cX12_walk 12 = .ok (.ireturn, 1) := by decide +kernel
theorem dX12_walk_13 : decode cX12_walk 13 = .ok (.aload_n 0, 1) := by decide +kernel
theorem dX12_walk_14 : decode cX12_walk 14 = .ok (.getfield 44, 3) := by decide +kernel
theorem dX12_walk_17 : decode cX12_walk 17 = .ok (.ifCond .ne 6, 3) := by decide +kernel
theorem dX12_walk_20 : decode cX12_walk 20 = .ok (.bipush (-3), 2) := by decide +kernel
theorem dX12_walk_22 : decode cX12_walk 22 = .ok (.ireturn, 1) := by decide +kernel
theorem dX12_walk_23 : decode cX12_walk 23 = .ok (.aload_n 0, 1) := by decide +kernel
theorem dX12_walk_24 : decode cX12_walk 24 = .ok (.invokevirtual 211, 3) := by decide +kernel
theorem dX12_walk_27 : decode cX12_walk 27 = .ok (.istore_n 2, 1) := by decide +kernel
theorem dX12_walk_28 : decode cX12_walk 28 = .ok (.iconst 0, 1) := by decide +kernel
theorem dX12_walk_29 : decode cX12_walk 29 = .ok (.istore_n 3, 1) := by decide +kernel
theorem dX12_walk_30 : decode cX12_walk 30 = .ok (.iload_n 3, 1) := by decide +kernel
theorem dX12_walk_31 : decode cX12_walk 31 = .ok (.aload_n 0, 1) := by decide +kernel
theorem dX12_walk_32 : decode cX12_walk 32 = .ok (.getfield 13, 3) := by decide +kernel
theorem dX12_walk_35 : decode cX12_walk 35 = .ok (.if_icmp .ge 22, 3) := by decide +kernel
theorem dX12_walk_38 : decode cX12_walk 38 = .ok (.aload_n 0, 1) := by decide +kernel
theorem dX12_walk_39 : decode cX12_walk 39 = .ok (.getfield 35, 3) := by decide +kernel
theorem dX12_walk_42 : decode cX12_walk 42 = .ok (.iload_n 3, 1) := by decide +kernel
theorem dX12_walk_43 : decode cX12_walk 43 = .ok (.iaload, 1) := by decide +kernel
theorem dX12_walk_44 : decode cX12_walk 44 = .ok (.iload_n 2, 1) := by decide +kernel
theorem dX12_walk_45 : decode cX12_walk 45 = .ok (.if_icmp .ge 6, 3) := by decide +kernel
theorem dX12_walk_48 : decode cX12_walk 48 = .ok (.bipush (-3), 2) := by decide +kernel
theorem dX12_walk_50 : decode cX12_walk 50 = .ok (.ireturn, 1) := by decide +kernel
theorem dX12_walk_51 : decode cX12_walk 51 = .ok (.iinc 3 1, 3) := by decide +kernel
theorem dX12_walk_54 : decode cX12_walk 54 = .ok (.goto (-24), 3) := by decide +kernel
theorem dX12_walk_57 : decode cX12_walk 57 = .ok (.aload_n 0, 1) := by decide +kernel
theorem dX12_walk_58 : decode cX12_walk 58 = .ok (.getfield 54, 3) := by decide +kernel
theorem dX12_walk_61 : decode cX12_walk 61 = .ok (.sipush 300, 3) := by decide +kernel
theorem dX12_walk_64 : decode cX12_walk 64 = .ok (.if_icmp .eq 12, 3) := by decide +kernel
theorem dX12_walk_67 : decode cX12_walk 67 = .ok (.aload_n 0, 1) := by decide +kernel
theorem dX12_walk_68 : decode cX12_walk 68 = .ok (.getfield 57, 3) := by decide +kernel
theorem dX12_walk_71 : decode cX12_walk 71 = .ok (.bipush 100, 2) := by decide +kernel
theorem dX12_walk_73 : decode cX12_walk 73 = .ok (.if_icmp .ne 6, 3) := by decide +kernel
theorem dX12_walk_76 : decode cX12_walk 76 = .ok (.bipush (-4), 2) := by decide +kernel
theorem dX12_walk_78 : decode cX12_walk 78 = .ok (.ireturn, 1) := by decide +kernel
theorem dX12_walk_79 : decode cX12_walk 79 = .ok (.iconst 0, 1) := by decide +kernel
theorem dX12_walk_80 : decode cX12_walk 80 = .ok (.istore_n 3, 1) := by decide +kernel
theorem dX12_walk_81 : decode cX12_walk 81 = .ok (.iload_n 3, 1) := by decide +kernel
theorem dX12_walk_82 : decode cX12_walk 82 = .ok (.aload_n 0, 1) := by decide +kernel
theorem dX12_walk_83 : decode cX12_walk 83 = .ok (.getfield 13, 3) := by decide +kernel
theorem dX12_walk_86 : decode cX12_walk 86 = .ok (.if_icmp .ge 19, 3) := by decide +kernel
theorem dX12_walk_89 : decode cX12_walk 89 = .ok (.aload_n 0, 1) := by decide +kernel
theorem dX12_walk_90 : decode cX12_walk 90 = .ok (.getfield 35, 3) := by decide +kernel
theorem dX12_walk_93 : decode cX12_walk 93 = .ok (.iload_n 3, 1) := by decide +kernel
theorem dX12_walk_94 : decode cX12_walk 94 = .ok (.dup2, 1) := by decide +kernel
theorem dX12_walk_95 : decode cX12_walk 95 = .ok (.iaload, 1) := by decide +kernel
theorem dX12_walk_96 : decode cX12_walk 96 = .ok (.iload_n 2, 1) := by decide +kernel
theorem dX12_walk_97 : decode cX12_walk 97 = .ok (.isub, 1) := by decide +kernel
theorem dX12_walk_98 : decode cX12_walk 98 = .ok (.iastore, 1) := by decide +kernel
theorem dX12_walk_99 : decode cX12_walk 99 = .ok (.iinc 3 1, 3) := by decide +kernel
theorem dX12_walk_102 : decode cX12_walk 102 = .ok (.goto (-21), 3) := by decide +kernel
theorem dX12_walk_105 : decode cX12_walk 105 = .ok (.aload_n 0, 1) := by decide +kernel
theorem dX12_walk_106 : decode cX12_walk 106 = .ok (.aload_n 0, 1) := by decide +kernel
theorem dX12_walk_107 : decode cX12_walk 107 = .ok (.getfield 29, 3) := by decide +kernel
theorem dX12_walk_110 : decode cX12_walk 110 = .ok (.iload_n 1, 1) := by decide +kernel
theorem dX12_walk_111 : decode cX12_walk 111 = .ok (.invokevirtual 215, 3) := by decide +kernel
theorem dX12_walk_114 : decode cX12_walk 114 = .ok (.aload_n 0, 1) := by decide +kernel
theorem dX12_walk_115 : decode cX12_walk 115 = .ok (.aload_n 0, 1) := by decide +kernel
theorem dX12_walk_116 : decode cX12_walk 116 = .ok (.getfield 26, 3) := by decide +kernel
theorem dX12_walk_119 : decode cX12_walk 119 = .ok (.iload_n 1, 1) := by decide +kernel
theorem dX12_walk_120 : decode cX12_walk 120 = .ok (.invokevirtual 215, 3) := by decide +kernel
theorem dX12_walk_123 : decode cX12_walk 123 = .ok (.iconst 0, 1) := by decide +kernel
theorem dX12_walk_124 : decode cX12_walk 124 = .ok (.istore_n 3, 1) := by decide +kernel
theorem dX12_walk_125 : decode cX12_walk 125 = .ok (.iload_n 3, 1) := by decide +kernel
theorem dX12_walk_126 : decode cX12_walk 126 = .ok (.aload_n 0, 1) := by decide +kernel
theorem dX12_walk_127 : decode cX12_walk 127 = .ok (.getfield 13, 3) := by decide +kernel
theorem dX12_walk_130 : decode cX12_walk 130 = .ok (.if_icmp .ge 56, 3) := by decide +kernel
theorem dX12_walk_133 : decode cX12_walk 133 = .ok (.aload_n 0, 1) := by decide +kernel
theorem dX12_walk_134 : decode cX12_walk 134 = .ok (.getfield 66, 3) := by decide +kernel
theorem dX12_walk_137 : decode cX12_walk 137 = .ok (.bipush 9, 2) := by decide +kernel
theorem dX12_walk_139 : decode cX12_walk 139 = .ok (.aload_n 0, 1) := by decide +kernel
theorem dX12_walk_140 : decode cX12_walk 140 = .ok (.getfield 57, 3) := by decide +kernel
theorem dX12_walk_143 : decode cX12_walk 143 = .ok (.imul, 1) := by decide +kernel
theorem dX12_walk_144 : decode cX12_walk 144 = .ok (.iload_n 3, 1) := by decide +kernel
theorem dX12_walk_145 : decode cX12_walk 145 = .ok (.iadd, 1) := by decide +kernel
theorem dX12_walk_146 : decode cX12_walk 146 = .ok (.aload_n 0, 1) := by decide +kernel
theorem dX12_walk_147 : decode cX12_walk 147 = .ok (.getfield 29, 3) := by decide +kernel
theorem dX12_walk_150 : decode cX12_walk 150 = .ok (.iload_n 3, 1) := by decide +kernel
theorem dX12_walk_151 : decode cX12_walk 151 = .ok (.iaload, 1) := by decide +kernel
theorem dX12_walk_152 : decode cX12_walk 152 = .ok (.iastore, 1) := by decide +kernel
theorem dX12_walk_153 : decode cX12_walk 153 = .ok (.aload_n 0, 1) := by decide +kernel
theorem dX12_walk_154 : decode cX12_walk 154 = .ok (.getfield 69, 3) := by decide +kernel
theorem dX12_walk_157 : decode cX12_walk 157 = .ok (.bipush 9, 2) := by decide +kernel
theorem dX12_walk_159 : decode cX12_walk 159 = .ok (.aload_n 0, 1) := by decide +kernel
theorem dX12_walk_160 : decode cX12_walk 160 = .ok (.getfield 57, 3) := by decide +kernel
theorem dX12_walk_163 : decode cX12_walk 163 = .ok (.imul, 1) := by decide +kernel
theorem dX12_walk_164 : decode cX12_walk 164 = .ok (.iload_n 3, 1) := by decide +kernel
theorem dX12_walk_165 : decode cX12_walk 165 = .ok (.iadd, 1) := by decide +kernel
theorem dX12_walk_166 : decode cX12_walk 166 = .ok (.aload_n 0, 1) := by decide +kernel
theorem dX12_walk_167 : decode cX12_walk 167 = .ok (.getfield 63, 3) := by decide +kernel
theorem dX12_walk_170 : decode cX12_walk 170 = .ok (.iload_n 3, 1) := by decide +kernel
theorem dX12_walk_171 : decode cX12_walk 171 = .ok (.iaload, 1) := by decide +kernel
theorem dX12_walk_172 : decode cX12_walk 172 = .ok (.iastore, 1) := by decide +kernel
theorem dX12_walk_173 : decode cX12_walk 173 = .ok (.aload_n 0, 1) := by decide +kernel
theorem dX12_walk_174 : decode cX12_walk 174 = .ok (.getfield 63, 3) := by decide +kernel
theorem dX12_walk_177 : decode cX12_walk 177 = .ok (.iload_n 3, 1) := by decide +kernel
theorem dX12_walk_178 : decode cX12_walk 178 = .ok (.iconst 0, 1) := by decide +kernel
theorem dX12_walk_179 : decode cX12_walk 179 = .ok (.iastore, 1) := by decide +kernel
theorem dX12_walk_180 : decode cX12_walk 180 = .ok (.iinc 3 1, 3) := by decide +kernel
theorem dX12_walk_183 : decode cX12_walk 183 = .ok (.goto (-58), 3) := by decide +kernel
theorem dX12_walk_186 : decode cX12_walk 186 = .ok (.aload_n 0, 1) := by decide +kernel
theorem dX12_walk_187 : decode cX12_walk 187 = .ok (.dup, 1) := by decide +kernel
theorem dX12_walk_188 : decode cX12_walk 188 = .ok (.getfield 57, 3) := by decide +kernel
theorem dX12_walk_191 : decode cX12_walk 191 = .ok (.iconst 1, 1) := by decide +kernel
theorem dX12_walk_192 : decode cX12_walk 192 = .ok (.iadd, 1) := by decide +kernel
theorem dX12_walk_193 : decode cX12_walk 193 = .ok (.putfield 57, 3) := by decide +kernel
theorem dX12_walk_196 : decode cX12_walk 196 = .ok (.aload_n 0, 1) := by decide +kernel
theorem dX12_walk_197 : decode cX12_walk 197 = .ok (.getfield 60, 3) := by decide +kernel
theorem dX12_walk_200 : decode cX12_walk 200 = .ok (.aload_n 0, 1) := by decide +kernel
theorem dX12_walk_201 : decode cX12_walk 201 = .ok (.getfield 54, 3) := by decide +kernel
theorem dX12_walk_204 : decode cX12_walk 204 = .ok (.bipush 100, 2) := by decide +kernel
theorem dX12_walk_206 : decode cX12_walk 206 = .ok (.iload_n 1, 1) := by decide +kernel
theorem dX12_walk_207 : decode cX12_walk 207 = .ok (.iadd, 1) := by decide +kernel
theorem dX12_walk_208 : decode cX12_walk 208 = .ok (.iastore, 1) := by decide +kernel
theorem dX12_walk_209 : decode cX12_walk 209 = .ok (.aload_n 0, 1) := by decide +kernel
theorem dX12_walk_210 : decode cX12_walk 210 = .ok (.dup, 1) := by decide +kernel
theorem dX12_walk_211 : decode cX12_walk 211 = .ok (.getfield 54, 3) := by decide +kernel
theorem dX12_walk_214 : decode cX12_walk 214 = .ok (.iconst 1, 1) := by decide +kernel
theorem dX12_walk_215 : decode cX12_walk 215 = .ok (.iadd, 1) := by decide +kernel
theorem dX12_walk_216 : decode cX12_walk 216 = .ok (.putfield 54, 3) := by decide +kernel
theorem dX12_walk_219 : decode cX12_walk 219 = .ok (.aload_n 0, 1) := by decide +kernel
theorem dX12_walk_220 : decode cX12_walk 220 = .ok (.getfield 54, 3) := by decide +kernel
theorem dX12_walk_223 : decode cX12_walk 223 = .ok (.ireturn, 1) := by decide +kernel
theorem dX12_step_0 : decode cX12_step 0 = .ok (.aload_n 0, 1) := by decide +kernel
theorem dX12_step_1 : decode cX12_step 1 = .ok (.iload_n 1, 1) := by decide +kernel
theorem dX12_step_2 : decode cX12_step 2 = .ok (.iconst 0, 1) := by decide +kernel
theorem dX12_step_3 : decode cX12_step 3 = .ok (.aload_n 0, 1) := by decide +kernel
theorem dX12_step_4 : decode cX12_step 4 = .ok (.getfield 54, 3) := by decide +kernel
theorem dX12_step_7 : decode cX12_step 7 = .ok (.iconst 1, 1) := by decide +kernel
theorem dX12_step_8 : decode cX12_step 8 = .ok (.isub, 1) := by decide +kernel
theorem dX12_step_9 : decode cX12_step 9 = .ok (.invokevirtual 195, 3) := by decide +kernel
theorem dX12_step_12 : decode cX12_step 12 = .ok (.ifCond .eq 12, 3) := by decide +kernel
theorem dX12_step_15 : decode cX12_step 15 = .ok (.aload_n 0, 1) := by decide +kernel
theorem dX12_step_16 : decode cX12_step 16 = .ok (.getfield 60, 3) := by decide +kernel
theorem dX12_step_19 : decode cX12_step 19 = .ok (.iload_n 1, 1) := by decide +kernel
theorem dX12_step_20 : decode cX12_step 20 = .ok (.iaload, 1) := by decide +kernel
theorem dX12_step_21 : decode cX12_step 21 = .ok (.goto 4, 3) := by decide +kernel
theorem dX12_step_24 : decode cX12_step 24 = .ok (.iconst (-1), 1) := by decide +kernel
theorem dX12_step_25 : decode cX12_step 25 = .ok (.ireturn, 1) := by decide +kernel
theorem dX12_rows_0 : decode cX12_rows 0 = .ok (.aload_n 0, 1) := by decide +kernel
theorem dX12_rows_1 : decode cX12_rows 1 = .ok (.getfield 57, 3) := by decide +kernel
theorem dX12_rows_4 : decode cX12_rows 4 = .ok (.ireturn, 1) := by decide +kernel
theorem dX12_topRibbon_0 : decode cX12_topRibbon 0 = .ok (.aload_n 0, 1) := by decide +kernel
theorem dX12_topRibbon_1 : decode cX12_topRibbon 1 = .ok (.getfield 69, 3) := by decide +kernel
theorem dX12_topRibbon_4 : decode cX12_topRibbon 4 = .ok (.bipush 9, 2) := by decide +kernel
theorem dX12_topRibbon_6 : decode cX12_topRibbon 6 = .ok (.iload_n 1, 1) := by decide +kernel
theorem dX12_topRibbon_7 : decode cX12_topRibbon 7 = .ok (.imul, 1) := by decide +kernel
theorem dX12_topRibbon_8 : decode cX12_topRibbon 8 = .ok (.iload_n 2, 1) := by decide +kernel
theorem dX12_topRibbon_9 : decode cX12_topRibbon 9 = .ok (.iadd, 1) := by decide +kernel
theorem dX12_topRibbon_10 : decode cX12_topRibbon 10 = .ok (.iaload, 1) := by decide +kernel
theorem dX12_topRibbon_11 : decode cX12_topRibbon 11 = .ok (.iconst 1, 1) := by decide +kernel
theorem dX12_topRibbon_12 : decode cX12_topRibbon 12 = .ok (.if_icmp .ne 40, 3) := by decide +kernel
theorem dX12_topRibbon_15 : decode cX12_topRibbon 15 = .ok (.aload_n 0, 1) := by decide +kernel
theorem dX12_topRibbon_16 : decode cX12_topRibbon 16 = .ok (.getfield 69, 3) := by decide +kernel
theorem dX12_topRibbon_19 : decode cX12_topRibbon 19 = .ok (.bipush 9, 2) := by decide +kernel
theorem dX12_topRibbon_21 : decode cX12_topRibbon 21 = .ok (.iload_n 1, 1) := by decide +kernel
theorem dX12_topRibbon_22 : decode cX12_topRibbon 22 = .ok (.imul, 1) := by decide +kernel
theorem dX12_topRibbon_23 : decode cX12_topRibbon 23 = .ok (.aload_n 0, 1) := by decide +kernel
theorem dX12_topRibbon_24 : decode cX12_topRibbon 24 = .ok (.iload_n 2, 1) := by decide +kernel
theorem dX12_topRibbon_25 : decode cX12_topRibbon 25 = .ok (.invokevirtual 219, 3) := by decide +kernel
theorem dX12_topRibbon_28 : decode cX12_topRibbon 28 = .ok (.iadd, 1) := by decide +kernel
theorem dX12_topRibbon_29 : decode cX12_topRibbon 29 = .ok (.iaload, 1) := by decide +kernel
theorem dX12_topRibbon_30 : decode cX12_topRibbon 30 = .ok (.iconst 2, 1) := by decide +kernel
theorem dX12_topRibbon_31 : decode cX12_topRibbon 31 = .ok (.if_icmp .eq 21, 3) := by decide +kernel
theorem dX12_topRibbon_34 : decode cX12_topRibbon 34 = .ok (.aload_n 0, 1) := by decide +kernel
theorem dX12_topRibbon_35 : decode cX12_topRibbon 35 = .ok (.getfield 66, 3) := by decide +kernel
theorem dX12_topRibbon_38 : decode cX12_topRibbon 38 = .ok (.bipush 9, 2) := by decide +kernel
theorem dX12_topRibbon_40 : decode cX12_topRibbon 40 = .ok (.iload_n 1, 1) := by decide +kernel
theorem dX12_topRibbon_41 : decode cX12_topRibbon 41 = .ok (.imul, 1) := by decide +kernel
theorem dX12_topRibbon_42 : decode cX12_topRibbon 42 = .ok (.aload_n 0, 1) := by decide +kernel
theorem dX12_topRibbon_43 : decode cX12_topRibbon 43 = .ok (.iload_n 2, 1) := by decide +kernel
theorem dX12_topRibbon_44 : decode cX12_topRibbon 44 = .ok (.invokevirtual 207, 3) := by decide +kernel
theorem dX12_topRibbon_47 : decode cX12_topRibbon 47 = .ok (.iadd, 1) := by decide +kernel
theorem dX12_topRibbon_48 : decode cX12_topRibbon 48 = .ok (.iaload, 1) := by decide +kernel
theorem dX12_topRibbon_49 : decode cX12_topRibbon 49 = .ok (.goto 14, 3) := by decide +kernel
theorem dX12_topRibbon_52 : decode cX12_topRibbon 52 = .ok (.aload_n 0, 1) := by decide +kernel
theorem dX12_topRibbon_53 : decode cX12_topRibbon 53 = .ok (.getfield 66, 3) := by decide +kernel
theorem dX12_topRibbon_56 : decode cX12_topRibbon 56 = .ok (.bipush 9, 2) := by decide +kernel
theorem dX12_topRibbon_58 : decode cX12_topRibbon 58 = .ok (.iload_n 1, 1) := by decide +kernel
theorem dX12_topRibbon_59 : decode cX12_topRibbon 59 = .ok (.imul, 1) := by decide +kernel
theorem dX12_topRibbon_60 : decode cX12_topRibbon 60 = .ok (.iload_n 2, 1) := by decide +kernel
theorem dX12_topRibbon_61 : decode cX12_topRibbon 61 = .ok (.iadd, 1) := by decide +kernel
theorem dX12_topRibbon_62 : decode cX12_topRibbon 62 = .ok (.iaload, 1) := by decide +kernel
theorem dX12_topRibbon_63 : decode cX12_topRibbon 63 = .ok (.ireturn, 1) := by decide +kernel
theorem dX12_cloth_0 : decode cX12_cloth 0 = .ok (.aload_n 0, 1) := by decide +kernel
theorem dX12_cloth_1 : decode cX12_cloth 1 = .ok (.iload_n 1, 1) := by decide +kernel
theorem dX12_cloth_2 : decode cX12_cloth 2 = .ok (.iconst 0, 1) := by decide +kernel
theorem dX12_cloth_3 : decode cX12_cloth 3 = .ok (.aload_n 0, 1) := by decide +kernel
theorem dX12_cloth_4 : decode cX12_cloth 4 = .ok (.getfield 57, 3) := by decide +kernel
theorem dX12_cloth_7 : decode cX12_cloth 7 = .ok (.iconst 1, 1) := by decide +kernel
theorem dX12_cloth_8 : decode cX12_cloth 8 = .ok (.isub, 1) := by decide +kernel
theorem dX12_cloth_9 : decode cX12_cloth 9 = .ok (.invokevirtual 195, 3) := by decide +kernel
theorem dX12_cloth_12 : decode cX12_cloth 12 = .ok (.ifCond .eq 21, 3) := by decide +kernel
theorem dX12_cloth_15 : decode cX12_cloth 15 = .ok (.aload_n 0, 1) := by decide +kernel
theorem dX12_cloth_16 : decode cX12_cloth 16 = .ok (.iload_n 2, 1) := by decide +kernel
theorem dX12_cloth_17 : decode cX12_cloth 17 = .ok (.invokevirtual 199, 3) := by decide +kernel
theorem dX12_cloth_20 : decode cX12_cloth 20 = .ok (.ifCond .eq 13, 3) := by decide +kernel
theorem dX12_cloth_23 : decode cX12_cloth 23 = .ok (.aload_n 0, 1) := by decide +kernel
theorem dX12_cloth_24 : decode cX12_cloth 24 = .ok (.iload_n 3, 1) := by decide +kernel
theorem dX12_cloth_25 : decode cX12_cloth 25 = .ok (.iconst 0, 1) := by decide +kernel
theorem dX12_cloth_26 : decode cX12_cloth 26 = .ok (.iconst 2, 1) := by decide +kernel
theorem dX12_cloth_27 : decode cX12_cloth 27 = .ok (.invokevirtual 195, 3) := by decide +kernel
theorem dX12_cloth_30 : decode cX12_cloth 30 = .ok (.ifCond .ne 5, 3) := by decide +kernel
theorem dX12_cloth_33 : decode cX12_cloth 33 = .ok (.iconst (-1), 1) := by decide +kernel
theorem dX12_cloth_34 : decode cX12_cloth 34 = .ok (.ireturn, 1) := by decide +kernel
theorem dX12_cloth_35 : decode cX12_cloth 35 = .ok (.iload_n 3, 1) := by decide +kernel
theorem dX12_cloth_36 : decode cX12_cloth 36 = .ok (.ifCond .ne 17, 3) := by decide +kernel
theorem dX12_cloth_39 : decode cX12_cloth 39 = .ok (.aload_n 0, 1) := by decide +kernel
theorem dX12_cloth_40 : decode cX12_cloth 40 = .ok (.getfield 66, 3) := by decide +kernel
theorem dX12_cloth_43 : decode cX12_cloth 43 = .ok (.bipush 9, 2) := by decide +kernel
theorem dX12_cloth_45 : decode cX12_cloth 45 = .ok (.iload_n 1, 1) := by decide +kernel
theorem dX12_cloth_46 : decode cX12_cloth 46 = .ok (.imul, 1) := by decide +kernel
theorem dX12_cloth_47 : decode cX12_cloth 47 = .ok (.iload_n 2, 1) := by decide +kernel
theorem dX12_cloth_48 : decode cX12_cloth 48 = .ok (.iadd, 1) := by decide +kernel
theorem dX12_cloth_49 : decode cX12_cloth 49 = .ok (.iaload, 1) := by decide +kernel
theorem dX12_cloth_50 : decode cX12_cloth 50 = .ok (.goto 33, 3) := by decide +kernel
theorem dX12_cloth_53 : decode cX12_cloth 53 = .ok (.iload_n 3, 1) := by decide +kernel
theorem dX12_cloth_54 : decode cX12_cloth 54 = .ok (.iconst 1, 1) := by decide +kernel
theorem dX12_cloth_55 : decode cX12_cloth 55 = .ok (.if_icmp .ne 17, 3) := by decide +kernel
theorem dX12_cloth_58 : decode cX12_cloth 58 = .ok (.aload_n 0, 1) := by decide +kernel
theorem dX12_cloth_59 : decode cX12_cloth 59 = .ok (.getfield 69, 3) := by decide +kernel
theorem dX12_cloth_62 : decode cX12_cloth 62 = .ok (.bipush 9, 2) := by decide +kernel
theorem dX12_cloth_64 : decode cX12_cloth 64 = .ok (.iload_n 1, 1) := by decide +kernel
theorem dX12_cloth_65 : decode cX12_cloth 65 = .ok (.imul, 1) := by decide +kernel
theorem dX12_cloth_66 : decode cX12_cloth 66 = .ok (.iload_n 2, 1) := by decide +kernel
theorem dX12_cloth_67 : decode cX12_cloth 67 = .ok (.iadd, 1) := by decide +kernel
theorem dX12_cloth_68 : decode cX12_cloth 68 = .ok (.iaload, 1) := by decide +kernel
theorem dX12_cloth_69 : decode cX12_cloth 69 = .ok (.goto 14, 3) := by decide +kernel
theorem dX12_cloth_72 : decode cX12_cloth 72 = .ok (.aload_n 0, 1) := by decide +kernel
theorem dX12_cloth_73 : decode cX12_cloth 73 = .ok (.getfield 41, 3) := by decide +kernel
theorem dX12_cloth_76 : decode cX12_cloth 76 = .ok (.aload_n 0, 1) := by decide +kernel
theorem dX12_cloth_77 : decode cX12_cloth 77 = .ok (.iload_n 1, 1) := by decide +kernel
theorem dX12_cloth_78 : decode cX12_cloth 78 = .ok (.iload_n 2, 1) := by decide +kernel
theorem dX12_cloth_79 : decode cX12_cloth 79 = .ok (.invokevirtual 222, 3) := by decide +kernel
theorem dX12_cloth_82 : decode cX12_cloth 82 = .ok (.iaload, 1) := by decide +kernel
theorem dX12_cloth_83 : decode cX12_cloth 83 = .ok (.ireturn, 1) := by decide +kernel
theorem dX12_areLike_0 : decode cX12_areLike 0 = .ok (.iconst 1, 1) := by decide +kernel
theorem dX12_areLike_1 : decode cX12_areLike 1 = .ok (.istore_n 3, 1) := by decide +kernel
theorem dX12_areLike_2 : decode cX12_areLike 2 = .ok (.iconst 0, 1) := by decide +kernel
theorem dX12_areLike_3 : decode cX12_areLike 3 = .ok (.istore 4, 2) := by decide +kernel
theorem dX12_areLike_5 : decode cX12_areLike 5 = .ok (.iload 4, 2) := by decide +kernel
theorem dX12_areLike_7 : decode cX12_areLike 7 = .ok (.aload_n 0, 1) := by decide +kernel
theorem dX12_areLike_8 : decode cX12_areLike 8 = .ok (.getfield 13, 3) := by decide +kernel
theorem dX12_areLike_11 : decode cX12_areLike 11 = .ok (.if_icmp .ge 46, 3) := by decide +kernel
theorem dX12_areLike_14 : decode cX12_areLike 14 = .ok (.iload_n 3, 1) := by decide +kernel
theorem dX12_areLike_15 : decode cX12_areLike 15 = .ok (.ifCond .eq 34, 3) := by decide +kernel
theorem dX12_areLike_18 : decode cX12_areLike 18 = .ok (.aload_n 0, 1) := by decide +kernel
theorem dX12_areLike_19 : decode cX12_areLike 19 = .ok (.getfield 41, 3) := by decide +kernel
theorem dX12_areLike_22 : decode cX12_areLike 22 = .ok (.aload_n 0, 1) := by decide +kernel
theorem dX12_areLike_23 : decode cX12_areLike 23 = .ok (.iload_n 1, 1) := by decide +kernel
theorem dX12_areLike_24 : decode cX12_areLike 24 = .ok (.iload 4, 2) := by decide +kernel
theorem dX12_areLike_26 : decode cX12_areLike 26 = .ok (.invokevirtual 222, 3) := by decide +kernel
theorem dX12_areLike_29 : decode cX12_areLike 29 = .ok (.iaload, 1) := by decide +kernel
theorem dX12_areLike_30 : decode cX12_areLike 30 = .ok (.aload_n 0, 1) := by decide +kernel
theorem dX12_areLike_31 : decode cX12_areLike 31 = .ok (.getfield 41, 3) := by decide +kernel
theorem dX12_areLike_34 : decode cX12_areLike 34 = .ok (.aload_n 0, 1) := by decide +kernel
theorem dX12_areLike_35 : decode cX12_areLike 35 = .ok (.iload_n 2, 1) := by decide +kernel
theorem dX12_areLike_36 : decode cX12_areLike 36 = .ok (.iload 4, 2) := by decide +kernel
theorem dX12_areLike_38 : decode cX12_areLike 38 = .ok (.invokevirtual 222, 3) := by decide +kernel
theorem dX12_areLike_41 : decode cX12_areLike 41 = .ok (.iaload, 1) := by decide +kernel
theorem dX12_areLike_42 : decode cX12_areLike 42 = .ok (.if_icmp .ne 7, 3) := by decide +kernel
theorem dX12_areLike_45 : decode cX12_areLike 45 = .ok (.iconst 1, 1) := by decide +kernel
theorem dX12_areLike_46 : decode cX12_areLike 46 = .ok (.goto 4, 3) := by decide +kernel
theorem dX12_areLike_49 : decode cX12_areLike 49 = .ok (.iconst 0, 1) := by decide +kernel
theorem dX12_areLike_50 : decode cX12_areLike 50 = .ok (.istore_n 3, 1) := by decide +kernel
theorem dX12_areLike_51 : decode cX12_areLike 51 = .ok (.iinc 4 1, 3) := by decide +kernel
theorem dX12_areLike_54 : decode cX12_areLike 54 = .ok (.goto (-49), 3) := by decide +kernel
theorem dX12_areLike_57 : decode cX12_areLike 57 = .ok (.iload_n 3, 1) := by decide +kernel
theorem dX12_areLike_58 : decode cX12_areLike 58 = .ok (.ireturn, 1) := by decide +kernel
theorem dX12_beat_0 : decode cX12_beat 0 = .ok (.aload_n 0, 1) := by decide +kernel
theorem dX12_beat_1 : decode cX12_beat 1 = .ok (.getfield 57, 3) := by decide +kernel
theorem dX12_beat_4 : decode cX12_beat 4 = .ok (.ifCond .ne 6, 3) := by decide +kernel
theorem dX12_beat_7 : decode cX12_beat 7 = .ok (.bipush (-3), 2) := by decide +kernel
theorem dX12_beat_9 : decode cX12_beat 9 = .ok (.ireturn, 1) := by decide +kernel
theorem dX12_beat_10 : decode cX12_beat 10 = .ok (.iconst 1, 1) := by decide +kernel
theorem dX12_beat_11 : decode cX12_beat 11 = .ok (.istore_n 1, 1) := by decide +kernel
theorem dX12_beat_12 : decode cX12_beat 12 = .ok (.iload_n 1, 1) := by decide +kernel
theorem dX12_beat_13 : decode cX12_beat 13 = .ok (.aload_n 0, 1) := by decide +kernel
theorem dX12_beat_14 : decode cX12_beat 14 = .ok (.getfield 57, 3) := by decide +kernel
theorem dX12_beat_17 : decode cX12_beat 17 = .ok (.if_icmp .ge 54, 3) := by decide +kernel
theorem dX12_beat_20 : decode cX12_beat 20 = .ok (.iconst 1, 1) := by decide +kernel
theorem dX12_beat_21 : decode cX12_beat 21 = .ok (.istore_n 2, 1) := by decide +kernel
theorem dX12_beat_22 : decode cX12_beat 22 = .ok (.iload_n 1, 1) := by decide +kernel
theorem dX12_beat_23 : decode cX12_beat 23 = .ok (.istore_n 3, 1) := by decide +kernel
theorem dX12_beat_24 : decode cX12_beat 24 = .ok (.iload_n 3, 1) := by decide +kernel
theorem dX12_beat_25 : decode cX12_beat 25 = .ok (.aload_n 0, 1) := by decide +kernel
theorem dX12_beat_26 : decode cX12_beat 26 = .ok (.getfield 57, 3) := by decide +kernel
theorem dX12_beat_29 : decode cX12_beat 29 = .ok (.if_icmp .ge 30, 3) := by decide +kernel
theorem dX12_beat_32 : decode cX12_beat 32 = .ok (.iload_n 2, 1) := by decide +kernel
theorem dX12_beat_33 : decode cX12_beat 33 = .ok (.ifCond .eq 18, 3) := by decide +kernel
theorem dX12_beat_36 : decode cX12_beat 36 = .ok (.aload_n 0, 1) := by decide +kernel
theorem dX12_beat_37 : decode cX12_beat 37 = .ok (.iload_n 3, 1) := by decide +kernel
theorem dX12_beat_38 : decode cX12_beat 38 = .ok (.iload_n 3, 1) := by decide +kernel
theorem dX12_beat_39 : decode cX12_beat 39 = .ok (.iload_n 1, 1) := by decide +kernel
theorem dX12_beat_40 : decode cX12_beat 40 = .ok (.isub, 1) := by decide +kernel
theorem dX12_beat_41 : decode cX12_beat 41 = .ok (.invokevirtual 226, 3) := by decide +kernel
theorem dX12_beat_44 : decode cX12_beat 44 = .ok (.ifCond .eq 7, 3) := by decide +kernel
theorem dX12_beat_47 : decode cX12_beat 47 = .ok (.iconst 1, 1) := by decide +kernel
theorem dX12_beat_48 : decode cX12_beat 48 = .ok (.goto 4, 3) := by decide +kernel
theorem dX12_beat_51 : decode cX12_beat 51 = .ok (.iconst 0, 1) := by decide +kernel
theorem dX12_beat_52 : decode cX12_beat 52 = .ok (.istore_n 2, 1) := by decide +kernel
theorem dX12_beat_53 : decode cX12_beat 53 = .ok (.iinc 3 1, 3) := by decide +kernel
theorem dX12_beat_56 : decode cX12_beat 56 = .ok (.goto (-32), 3) := by decide +kernel
theorem dX12_beat_59 : decode cX12_beat 59 = .ok (.iload_n 2, 1) := by decide +kernel
theorem dX12_beat_60 : decode cX12_beat 60 = .ok (.ifCond .eq 5, 3) := by decide +kernel
theorem dX12_beat_63 : decode cX12_beat 63 = .ok (.iload_n 1, 1) := by decide +kernel
theorem dX12_beat_64 : decode cX12_beat 64 = .ok (.ireturn, 1) := by decide +kernel
theorem dX12_beat_65 : decode cX12_beat 65 = .ok (.iinc 1 1, 3) := by decide +kernel
theorem dX12_beat_68 : decode cX12_beat 68 = .ok (.goto (-56), 3) := by decide +kernel
theorem dX12_beat_71 : decode cX12_beat 71 = .ok (.aload_n 0, 1) := by decide +kernel
theorem dX12_beat_72 : decode cX12_beat 72 = .ok (.getfield 57, 3) := by decide +kernel
theorem dX12_beat_75 : decode cX12_beat 75 = .ok (.ireturn, 1) := by decide +kernel
theorem dX12_picture_0 : decode cX12_picture 0 = .ok (.aload_n 0, 1) := by decide +kernel
theorem dX12_picture_1 : decode cX12_picture 1 = .ok (.iload_n 1, 1) := by decide +kernel
theorem dX12_picture_2 : decode cX12_picture 2 = .ok (.iconst 0, 1) := by decide +kernel
theorem dX12_picture_3 : decode cX12_picture 3 = .ok (.bipush 99, 2) := by decide +kernel
theorem dX12_picture_5 : decode cX12_picture 5 = .ok (.invokevirtual 195, 3) := by decide +kernel
theorem dX12_picture_8 : decode cX12_picture 8 = .ok (.ifCond .eq 14, 3) := by decide +kernel
theorem dX12_picture_11 : decode cX12_picture 11 = .ok (.aload_n 0, 1) := by decide +kernel
theorem dX12_picture_12 : decode cX12_picture 12 = .ok (.iload_n 2, 1) := by decide +kernel
theorem dX12_picture_13 : decode cX12_picture 13 = .ok (.iconst 0, 1) := by decide +kernel
theorem dX12_picture_14 : decode cX12_picture 14 = .ok (.bipush 8, 2) := by decide +kernel
theorem dX12_picture_16 : decode cX12_picture 16 = .ok (.invokevirtual 195, 3) := by decide +kernel
theorem dX12_picture_19 : decode cX12_picture 19 = .ok (.ifCond .ne 5, 3) := by decide +kernel
theorem dX12_picture_22 : decode cX12_picture 22 = .ok (.iconst (-1), 1) := by decide +kernel
theorem dX12_picture_23 : decode cX12_picture 23 = .ok (.ireturn, 1) := by decide +kernel
theorem dX12_picture_24 : decode cX12_picture 24 = .ok (.aload_n 0, 1) := by decide +kernel
theorem dX12_picture_25 : decode cX12_picture 25 = .ok (.iload_n 3, 1) := by decide +kernel
theorem dX12_picture_26 : decode cX12_picture 26 = .ok (.iconst 0, 1) := by decide +kernel
theorem dX12_picture_27 : decode cX12_picture 27 = .ok (.bipush 7, 2) := by decide +kernel
theorem dX12_picture_29 : decode cX12_picture 29 = .ok (.invokevirtual 195, 3) := by decide +kernel
theorem dX12_picture_32 : decode cX12_picture 32 = .ok (.ifCond .ne 6, 3) := by decide +kernel
theorem dX12_picture_35 : decode cX12_picture 35 = .ok (.bipush (-2), 2) := by decide +kernel
theorem dX12_picture_37 : decode cX12_picture 37 = .ok (.ireturn, 1) := by decide +kernel
theorem dX12_picture_38 : decode cX12_picture 38 = .ok (.aload_n 0, 1) := by decide +kernel
theorem dX12_picture_39 : decode cX12_picture 39 = .ok (.getfield 72, 3) := by decide +kernel
theorem dX12_picture_42 : decode cX12_picture 42 = .ok (.bipush 40, 2) := by decide +kernel
theorem dX12_picture_44 : decode cX12_picture 44 = .ok (.if_icmp .ne 6, 3) := by decide +kernel
theorem dX12_picture_47 : decode cX12_picture 47 = .ok (.bipush (-4), 2) := by decide +kernel
theorem dX12_picture_49 : decode cX12_picture 49 = .ok (.ireturn, 1) := by decide +kernel
theorem dX12_picture_50 : decode cX12_picture 50 = .ok (.aload_n 0, 1) := by decide +kernel
theorem dX12_picture_51 : decode cX12_picture 51 = .ok (.getfield 75, 3) := by decide +kernel
theorem dX12_picture_54 : decode cX12_picture 54 = .ok (.aload_n 0, 1) := by decide +kernel
theorem dX12_picture_55 : decode cX12_picture 55 = .ok (.getfield 72, 3) := by decide +kernel
theorem dX12_picture_58 : decode cX12_picture 58 = .ok (.iload_n 1, 1) := by decide +kernel
theorem dX12_picture_59 : decode cX12_picture 59 = .ok (.iastore, 1) := by decide +kernel
theorem dX12_picture_60 : decode cX12_picture 60 = .ok (.aload_n 0, 1) := by decide +kernel
theorem dX12_picture_61 : decode cX12_picture 61 = .ok (.getfield 78, 3) := by decide +kernel
theorem dX12_picture_64 : decode cX12_picture 64 = .ok (.aload_n 0, 1) := by decide +kernel
theorem dX12_picture_65 : decode cX12_picture 65 = .ok (.getfield 72, 3) := by decide +kernel
theorem dX12_picture_68 : decode cX12_picture 68 = .ok (.iload_n 2, 1) := by decide +kernel
theorem dX12_picture_69 : decode cX12_picture 69 = .ok (.iastore, 1) := by decide +kernel
theorem dX12_picture_70 : decode cX12_picture 70 = .ok (.aload_n 0, 1) := by decide +kernel
theorem dX12_picture_71 : decode cX12_picture 71 = .ok (.getfield 81, 3) := by decide +kernel
theorem dX12_picture_74 : decode cX12_picture 74 = .ok (.aload_n 0, 1) := by decide +kernel
theorem dX12_picture_75 : decode cX12_picture 75 = .ok (.getfield 72, 3) := by decide +kernel
theorem dX12_picture_78 : decode cX12_picture 78 = .ok (.iload_n 3, 1) := by decide +kernel
theorem dX12_picture_79 : decode cX12_picture 79 = .ok (.iastore, 1) := by decide +kernel
theorem dX12_picture_80 : decode cX12_picture 80 = .ok (.aload_n 0, 1) := by decide +kernel
theorem dX12_picture_81 : decode cX12_picture 81 = .ok (.dup, 1) := by decide +kernel
theorem dX12_picture_82 : decode cX12_picture 82 = .ok (.getfield 72, 3) := by decide +kernel
theorem dX12_picture_85 : decode cX12_picture 85 = .ok (.iconst 1, 1) := by decide +kernel
theorem dX12_picture_86 : decode cX12_picture 86 = .ok (.iadd, 1) := by decide +kernel
theorem dX12_picture_87 : decode cX12_picture 87 = .ok (.putfield 72, 3) := by decide +kernel
theorem dX12_picture_90 : decode cX12_picture 90 = .ok (.aload_n 0, 1) := by decide +kernel
theorem dX12_picture_91 : decode cX12_picture 91 = .ok (.getfield 72, 3) := by decide +kernel
theorem dX12_picture_94 : decode cX12_picture 94 = .ok (.ireturn, 1) := by decide +kernel
theorem dX12_pictureless_0 : decode cX12_pictureless 0 = .ok (.aload_n 0, 1) := by decide +kernel
theorem dX12_pictureless_1 : decode cX12_pictureless 1 = .ok (.getfield 72, 3) := by decide +kernel
theorem dX12_pictureless_4 : decode cX12_pictureless 4 = .ok (.istore_n 1, 1) := by decide +kernel
theorem dX12_pictureless_5 : decode cX12_pictureless 5 = .ok (.aload_n 0, 1) := by decide +kernel
theorem dX12_pictureless_6 : decode cX12_pictureless 6 = .ok (.iconst 0, 1) := by decide +kernel
theorem dX12_pictureless_7 : decode cX12_pictureless 7 = .ok (.putfield 72, 3) := by decide +kernel
theorem dX12_pictureless_10 : decode cX12_pictureless 10 = .ok (.iload_n 1, 1) := by decide +kernel
theorem dX12_pictureless_11 : decode cX12_pictureless 11 = .ok (.ireturn, 1) := by decide +kernel
theorem dX12_wrongWith_0 : decode cX12_wrongWith 0 = .ok (.iconst 0, 1) := by decide +kernel
theorem dX12_wrongWith_1 : decode cX12_wrongWith 1 = .ok (.istore_n 2, 1) := by decide +kernel
theorem dX12_wrongWith_2 : decode cX12_wrongWith 2 = .ok (.iconst 0, 1) := by decide +kernel
theorem dX12_wrongWith_3 : decode cX12_wrongWith 3 = .ok (.istore_n 3, 1) := by decide +kernel
theorem dX12_wrongWith_4 : decode cX12_wrongWith 4 = .ok (.iload_n 3, 1) := by decide +kernel
theorem dX12_wrongWith_5 : decode cX12_wrongWith 5 = .ok (.aload_n 0, 1) := by decide +kernel
theorem dX12_wrongWith_6 : decode cX12_wrongWith 6 = .ok (.getfield 72, 3) := by decide +kernel
theorem dX12_wrongWith_9 : decode cX12_wrongWith 9 = .ok (.if_icmp .ge 70, 3) := by decide +kernel
theorem dX12_wrongWith_12 : decode cX12_wrongWith 12 = .ok (.iload_n 2, 1) := by decide +kernel
theorem dX12_wrongWith_13 : decode cX12_wrongWith 13 = .ok (.aload_n 0, 1) := by decide +kernel
theorem dX12_wrongWith_14 : decode cX12_wrongWith 14 = .ok (.getfield 75, 3) := by decide +kernel
theorem dX12_wrongWith_17 : decode cX12_wrongWith 17 = .ok (.iload_n 3, 1) := by decide +kernel
theorem dX12_wrongWith_18 : decode cX12_wrongWith 18 = .ok (.iaload, 1) := by decide +kernel
theorem dX12_wrongWith_19 : decode cX12_wrongWith 19 = .ok (.aload_n 0, 1) := by decide +kernel
theorem dX12_wrongWith_20 : decode cX12_wrongWith 20 = .ok (.getfield 57, 3) := by decide +kernel
theorem dX12_wrongWith_23 : decode cX12_wrongWith 23 = .ok (.if_icmp .ge 43, 3) := by decide +kernel
theorem dX12_wrongWith_26 : decode cX12_wrongWith 26 = .ok (.aload_n 0, 1) := by decide +kernel
theorem dX12_wrongWith_27 : decode cX12_wrongWith 27 = .ok (.getfield 78, 3) := by decide +kernel
theorem dX12_wrongWith_30 : decode cX12_wrongWith 30 = .ok (.iload_n 3, 1) := by decide +kernel
theorem dX12_wrongWith_31 : decode cX12_wrongWith 31 = .ok (.iaload, 1) := by decide +kernel
theorem dX12_wrongWith_32 : decode cX12_wrongWith 32 = .ok (.aload_n 0, 1) := by decide +kernel
theorem dX12_wrongWith_33 : decode cX12_wrongWith 33 = .ok (.getfield 13, 3) := by decide +kernel
theorem dX12_wrongWith_36 : decode cX12_wrongWith 36 = .ok (.if_icmp .ge 30, 3) := by decide +kernel
theorem dX12_wrongWith_39 : decode cX12_wrongWith 39 = .ok (.aload_n 1, 1) := by decide +kernel
theorem dX12_wrongWith_40 : decode cX12_wrongWith 40 = .ok (.aload_n 0, 1) := by decide +kernel
theorem dX12_wrongWith_41 : decode cX12_wrongWith 41 = .ok (.aload_n 0, 1) := by decide +kernel
theorem dX12_wrongWith_42 : decode cX12_wrongWith 42 = .ok (.getfield 75, 3) := by decide +kernel
theorem dX12_wrongWith_45 : decode cX12_wrongWith 45 = .ok (.iload_n 3, 1) := by decide +kernel
theorem dX12_wrongWith_46 : decode cX12_wrongWith 46 = .ok (.iaload, 1) := by decide +kernel
theorem dX12_wrongWith_47 : decode cX12_wrongWith 47 = .ok (.aload_n 0, 1) := by decide +kernel
theorem dX12_wrongWith_48 : decode cX12_wrongWith 48 = .ok (.getfield 78, 3) := by decide +kernel
theorem dX12_wrongWith_51 : decode cX12_wrongWith 51 = .ok (.iload_n 3, 1) := by decide +kernel
theorem dX12_wrongWith_52 : decode cX12_wrongWith 52 = .ok (.iaload, 1) := by decide +kernel
theorem dX12_wrongWith_53 : decode cX12_wrongWith 53 = .ok (.invokevirtual 222, 3) := by decide +kernel
theorem dX12_wrongWith_56 : decode cX12_wrongWith 56 = .ok (.iaload, 1) := by decide +kernel
theorem dX12_wrongWith_57 : decode cX12_wrongWith 57 = .ok (.aload_n 0, 1) := by decide +kernel
theorem dX12_wrongWith_58 : decode cX12_wrongWith 58 = .ok (.getfield 81, 3) := by decide +kernel
theorem dX12_wrongWith_61 : decode cX12_wrongWith 61 = .ok (.iload_n 3, 1) := by decide +kernel
theorem dX12_wrongWith_62 : decode cX12_wrongWith 62 = .ok (.iaload, 1) := by decide +kernel
theorem dX12_wrongWith_63 : decode cX12_wrongWith 63 = .ok (.if_icmp .eq 7, 3) := by decide +kernel
theorem dX12_wrongWith_66 : decode cX12_wrongWith 66 = .ok (.iconst 1, 1) := by decide +kernel
theorem dX12_wrongWith_67 : decode cX12_wrongWith 67 = .ok (.goto 4, 3) := by decide +kernel
theorem dX12_wrongWith_70 : decode cX12_wrongWith 70 = .ok (.iconst 0, 1) := by decide +kernel
theorem dX12_wrongWith_71 : decode cX12_wrongWith 71 = .ok (.iadd, 1) := by decide +kernel
theorem dX12_wrongWith_72 : decode cX12_wrongWith 72 = .ok (.istore_n 2, 1) := by decide +kernel
theorem dX12_wrongWith_73 : decode cX12_wrongWith 73 = .ok (.iinc 3 1, 3) := by decide +kernel
theorem dX12_wrongWith_76 : decode cX12_wrongWith 76 = .ok (.goto (-72), 3) := by decide +kernel
theorem dX12_wrongWith_79 : decode cX12_wrongWith 79 = .ok (.iload_n 2, 1) := by decide +kernel
theorem dX12_wrongWith_80 : decode cX12_wrongWith 80 = .ok (.ireturn, 1) := by decide +kernel
theorem dX12_wrong_0 : decode cX12_wrong 0 = .ok (.aload_n 0, 1) := by decide +kernel
theorem dX12_wrong_1 : decode cX12_wrong 1 = .ok (.aload_n 0, 1) := by decide +kernel
theorem dX12_wrong_2 : decode cX12_wrong 2 = .ok (.getfield 41, 3) := by decide +kernel
theorem dX12_wrong_5 : decode cX12_wrong 5 = .ok (.invokevirtual 230, 3) := by decide +kernel
theorem dX12_wrong_8 : decode cX12_wrong 8 = .ok (.ireturn, 1) := by decide +kernel
theorem dX12_colours_0 : decode cX12_colours 0 = .ok (.aload_n 0, 1) := by decide +kernel
theorem dX12_colours_1 : decode cX12_colours 1 = .ok (.iload_n 2, 1) := by decide +kernel
theorem dX12_colours_2 : decode cX12_colours 2 = .ok (.iconst (-1), 1) := by decide +kernel
theorem dX12_colours_3 : decode cX12_colours 3 = .ok (.aload_n 0, 1) := by decide +kernel
theorem dX12_colours_4 : decode cX12_colours 4 = .ok (.getfield 13, 3) := by decide +kernel
theorem dX12_colours_7 : decode cX12_colours 7 = .ok (.iconst 1, 1) := by decide +kernel
theorem dX12_colours_8 : decode cX12_colours 8 = .ok (.isub, 1) := by decide +kernel
theorem dX12_colours_9 : decode cX12_colours 9 = .ok (.invokevirtual 195, 3) := by decide +kernel
theorem dX12_colours_12 : decode cX12_colours 12 = .ok (.ifCond .ne 5, 3) := by decide +kernel
theorem dX12_colours_15 : decode cX12_colours 15 = .ok (.iconst (-1), 1) := by decide +kernel
theorem dX12_colours_16 : decode cX12_colours 16 = .ok (.ireturn, 1) := by decide +kernel
theorem dX12_colours_17 : decode cX12_colours 17 = .ok (.aload_n 0, 1) := by decide +kernel
theorem dX12_colours_18 : decode cX12_colours 18 = .ok (.iload_n 1, 1) := by decide +kernel
theorem dX12_colours_19 : decode cX12_colours 19 = .ok (.iconst 1, 1) := by decide +kernel
theorem dX12_colours_20 : decode cX12_colours 20 = .ok (.iconst 4, 1) := by decide +kernel
theorem dX12_colours_21 : decode cX12_colours 21 = .ok (.invokevirtual 195, 3) := by decide +kernel
theorem dX12_colours_24 : decode cX12_colours 24 = .ok (.ifCond .ne 6, 3) := by decide +kernel
theorem dX12_colours_27 : decode cX12_colours 27 = .ok (.bipush (-2), 2) := by decide +kernel
theorem dX12_colours_29 : decode cX12_colours 29 = .ok (.ireturn, 1) := by decide +kernel
theorem dX12_colours_30 : decode cX12_colours 30 = .ok (.aload_n 0, 1) := by decide +kernel
theorem dX12_colours_31 : decode cX12_colours 31 = .ok (.getfield 57, 3) := by decide +kernel
theorem dX12_colours_34 : decode cX12_colours 34 = .ok (.ifCond .eq 12, 3) := by decide +kernel
theorem dX12_colours_37 : decode cX12_colours 37 = .ok (.aload_n 0, 1) := by decide +kernel
theorem dX12_colours_38 : decode cX12_colours 38 = .ok (.getfield 13, 3) := by decide +kernel
theorem dX12_colours_41 : decode cX12_colours 41 = .ok (.bipush 6, 2) := by decide +kernel
theorem dX12_colours_43 : decode cX12_colours 43 = .ok (.if_icmp .le 6, 3) := by decide +kernel
theorem dX12_colours_46 : decode cX12_colours 46 = .ok (.bipush (-3), 2) := by decide +kernel
theorem dX12_colours_48 : decode cX12_colours 48 = .ok (.ireturn, 1) := by decide +kernel
theorem dX12_colours_49 : decode cX12_colours 49 = .ok (.iconst 1, 1) := by decide +kernel
theorem dX12_colours_50 : decode cX12_colours 50 = .ok (.istore_n 3, 1) := by decide +kernel
theorem dX12_colours_51 : decode cX12_colours 51 = .ok (.iconst 0, 1) := by decide +kernel
theorem dX12_colours_52 : decode cX12_colours 52 = .ok (.istore 4, 2) := by decide +kernel
theorem dX12_colours_54 : decode cX12_colours 54 = .ok (.iload 4, 2) := by decide +kernel
theorem dX12_colours_56 : decode cX12_colours 56 = .ok (.aload_n 0, 1) := by decide +kernel
theorem dX12_colours_57 : decode cX12_colours 57 = .ok (.getfield 13, 3) := by decide +kernel
theorem dX12_colours_60 : decode cX12_colours 60 = .ok (.if_icmp .ge 13, 3) := by decide +kernel
theorem dX12_colours_63 : decode cX12_colours 63 = .ok (.iload_n 3, 1) := by decide +kernel
theorem dX12_colours_64 : decode cX12_colours 64 = .ok (.iload_n 1, 1) := by decide +kernel
theorem dX12_colours_65 : decode cX12_colours 65 = .ok (.imul, 1) := by decide +kernel
theorem dX12_colours_66 : decode cX12_colours 66 = .ok (.istore_n 3, 1) := by decide +kernel
theorem dX12_colours_67 : decode cX12_colours 67 = .ok (.iinc 4 1, 3) := by decide +kernel
theorem dX12_colours_70 : decode cX12_colours 70 = .ok (.goto (-16), 3) := by decide +kernel
theorem dX12_colours_73 : decode cX12_colours 73 = .ok (.sipush 1000, 3) := by decide +kernel
theorem dX12_colours_76 : decode cX12_colours 76 = .ok (.istore 4, 2) := by decide +kernel
theorem dX12_colours_78 : decode cX12_colours 78 = .ok (.iconst 0, 1) := by decide +kernel
theorem dX12_colours_79 : decode cX12_colours 79 = .ok (.istore 5, 2) := by decide +kernel
theorem dX12_colours_81 : decode cX12_colours 81 = .ok (.iload 5, 2) := by decide +kernel
theorem dX12_colours_83 : decode cX12_colours 83 = .ok (.iload_n 3, 1) := by decide +kernel
theorem dX12_colours_84 : decode cX12_colours 84 = .ok (.if_icmp .ge 105, 3) := by decide +kernel
theorem dX12_colours_87 : decode cX12_colours 87 = .ok (.iload 5, 2) := by decide +kernel
theorem dX12_colours_89 : decode cX12_colours 89 = .ok (.istore 6, 2) := by decide +kernel
theorem dX12_colours_91 : decode cX12_colours 91 = .ok (.aload_n 0, 1) := by decide +kernel
theorem dX12_colours_92 : decode cX12_colours 92 = .ok (.getfield 13, 3) := by decide +kernel
theorem dX12_colours_95 : decode cX12_colours 95 = .ok (.iconst 1, 1) := by decide +kernel
theorem dX12_colours_96 : decode cX12_colours 96 = .ok (.isub, 1) := by decide +kernel
theorem dX12_colours_97 : decode cX12_colours 97 = .ok (.istore 7, 2) := by decide +kernel
theorem dX12_colours_99 : decode cX12_colours 99 = .ok (.iload 7, 2) := by decide +kernel
theorem dX12_colours_101 : decode cX12_colours 101 = .ok (.ifCond .lt 26, 3) := by decide +kernel
theorem dX12_colours_104 : decode cX12_colours 104 = .ok (.aload_n 0, 1) := by decide +kernel
theorem dX12_colours_105 : decode cX12_colours 105 = .ok (.getfield 84, 3) := by decide +kernel
theorem dX12_colours_108 : decode cX12_colours 108 = .ok (.iload 7, 2) := by decide +kernel
theorem dX12_colours_110 : decode cX12_colours 110 = .ok (.iload 6, 2) := by decide +kernel
theorem dX12_colours_112 : decode cX12_colours 112 = .ok (.iload_n 1, 1) := by decide +kernel
theorem dX12_colours_113 : decode cX12_colours 113 = .ok (.irem, 1) := by decide +kernel
theorem dX12_colours_114 : decode cX12_colours 114 = .ok (.iastore, 1) := by decide +kernel
theorem dX12_colours_115 : decode cX12_colours 115 = .ok (.iload 6, 2) := by decide +kernel
theorem dX12_colours_117 : decode cX12_colours 117 = .ok (.iload_n 1, 1) := by decide +kernel
theorem dX12_colours_118 : decode cX12_colours 118 = .ok (.idiv, 1) := by decide +kernel
theorem dX12_colours_119 : decode cX12_colours 119 = .ok (.istore 6, 2) := by decide +kernel
theorem dX12_colours_121 : decode cX12_colours 121 = .ok (.iinc 7 (-1), 3) := by decide +kernel
theorem dX12_colours_124 : decode cX12_colours 124 = .ok (.goto (-25), 3) := by decide +kernel
theorem dX12_colours_127 : decode cX12_colours 127 = .ok (.aload_n 0, 1) := by decide +kernel
theorem dX12_colours_128 : decode cX12_colours 128 = .ok (.aload_n 0, 1) := by decide +kernel
theorem dX12_colours_129 : decode cX12_colours 129 = .ok (.getfield 84, 3) := by decide +kernel
theorem dX12_colours_132 : decode cX12_colours 132 = .ok (.invokevirtual 230, 3) := by decide +kernel
theorem dX12_colours_135 : decode cX12_colours 135 = .ok (.istore 7, 2) := by decide +kernel
theorem dX12_colours_137 : decode cX12_colours 137 = .ok (.iload 7, 2) := by decide +kernel
theorem dX12_colours_139 : decode cX12_colours 139 = .ok (.iload 4, 2) := by decide +kernel
theorem dX12_colours_141 : decode cX12_colours 141 = .ok (.if_icmp .lt 6, 3) := by decide +kernel
theorem dX12_colours_144 : decode cX12_colours 144 = .ok (.goto 39, 3) := by decide +kernel
theorem dX12_colours_147 : decode cX12_colours 147 = .ok (.iload 7, 2) := by decide +kernel
theorem dX12_colours_149 : decode cX12_colours 149 = .ok (.istore 4, 2) := by decide +kernel
theorem dX12_colours_151 : decode cX12_colours 151 = .ok (.iconst 0, 1) := by decide +kernel
theorem dX12_colours_152 : decode cX12_colours 152 = .ok (.istore 8, 2) := by decide +kernel
theorem dX12_colours_154 : decode cX12_colours 154 = .ok (.iload 8, 2) := by decide +kernel
theorem dX12_colours_156 : decode cX12_colours 156 = .ok (.aload_n 0, 1) := by decide +kernel
theorem dX12_colours_157 : decode cX12_colours 157 = .ok (.getfield 13, 3) := by decide +kernel
theorem dX12_colours_160 : decode cX12_colours 160 = .ok (.if_icmp .ge 23, 3) := by decide +kernel
theorem dX12_colours_163 : decode cX12_colours 163 = .ok (.aload_n 0, 1) := by decide +kernel
theorem dX12_colours_164 : decode cX12_colours 164 = .ok (.getfield 87, 3) := by decide +kernel
theorem dX12_colours_167 : decode cX12_colours 167 = .ok (.iload 8, 2) := by decide +kernel
theorem dX12_colours_169 : decode cX12_colours 169 = .ok (.aload_n 0, 1) := by decide +kernel
theorem dX12_colours_170 : decode cX12_colours 170 = .ok (.getfield 84, 3) := by decide +kernel
theorem dX12_colours_173 : decode cX12_colours 173 = .ok (.iload 8, 2) := by decide +kernel
theorem dX12_colours_175 : decode cX12_colours 175 = .ok (.iaload, 1) := by decide +kernel
theorem dX12_colours_176 : decode cX12_colours 176 = .ok (.iastore, 1) := by decide +kernel
theorem dX12_colours_177 : decode cX12_colours 177 = .ok (.iinc 8 1, 3) := by decide +kernel
theorem dX12_colours_180 : decode cX12_colours 180 = .ok (.goto (-26), 3) := by decide +kernel
theorem dX12_colours_183 : decode cX12_colours 183 = .ok (.iinc 5 1, 3) := by decide +kernel
theorem dX12_colours_186 : decode cX12_colours 186 = .ok (.goto (-105), 3) := by decide +kernel
theorem dX12_colours_189 : decode cX12_colours 189 = .ok (.iload_n 2, 1) := by decide +kernel
theorem dX12_colours_190 : decode cX12_colours 190 = .ok (.ifCond .ge 8, 3) := by decide +kernel
theorem dX12_colours_193 : decode cX12_colours 193 = .ok (.iload 4, 2) := by decide +kernel
theorem dX12_colours_195 : decode cX12_colours 195 = .ok (.goto 9, 3) := by decide +kernel
theorem dX12_colours_198 : decode cX12_colours 198 = .ok (.aload_n 0, 1) := by decide +kernel
theorem dX12_colours_199 : decode cX12_colours 199 = .ok (.getfield 87, 3) := by decide +kernel
theorem dX12_colours_202 : decode cX12_colours 202 = .ok (.iload_n 2, 1) := by decide +kernel
theorem dX12_colours_203 : decode cX12_colours 203 = .ok (.iaload, 1) := by decide +kernel
theorem dX12_colours_204 : decode cX12_colours 204 = .ok (.ireturn, 1) := by decide +kernel
theorem dX12_isFigure_0 : decode cX12_isFigure 0 = .ok (.aload_n 0, 1) := by decide +kernel
theorem dX12_isFigure_1 : decode cX12_isFigure 1 = .ok (.iload_n 1, 1) := by decide +kernel
theorem dX12_isFigure_2 : decode cX12_isFigure 2 = .ok (.iconst 0, 1) := by decide +kernel
theorem dX12_isFigure_3 : decode cX12_isFigure 3 = .ok (.aload_n 0, 1) := by decide +kernel
theorem dX12_isFigure_4 : decode cX12_isFigure 4 = .ok (.getfield 90, 3) := by decide +kernel
theorem dX12_isFigure_7 : decode cX12_isFigure 7 = .ok (.iconst 1, 1) := by decide +kernel
theorem dX12_isFigure_8 : decode cX12_isFigure 8 = .ok (.isub, 1) := by decide +kernel
theorem dX12_isFigure_9 : decode cX12_isFigure 9 = .ok (.invokevirtual 195, 3) := by decide +kernel
theorem dX12_isFigure_12 : decode cX12_isFigure 12 = .ok (.ireturn, 1) := by decide +kernel
theorem dX12_feed_0 : decode cX12_feed 0 = .ok (.aload_n 0, 1) := by decide +kernel
theorem dX12_feed_1 : decode cX12_feed 1 = .ok (.iload_n 2, 1) := by decide +kernel
theorem dX12_feed_2 : decode cX12_feed 2 = .ok (.iconst 0, 1) := by decide +kernel
theorem dX12_feed_3 : decode cX12_feed 3 = .ok (.iconst 4, 1) := by decide +kernel
theorem dX12_feed_4 : decode cX12_feed 4 = .ok (.invokevirtual 195, 3) := by decide +kernel
theorem dX12_feed_7 : decode cX12_feed 7 = .ok (.ifCond .ne 6, 3) := by decide +kernel
theorem dX12_feed_10 : decode cX12_feed 10 = .ok (.bipush (-2), 2) := by decide +kernel
theorem dX12_feed_12 : decode cX12_feed 12 = .ok (.ireturn, 1) := by decide +kernel
theorem dX12_feed_13 : decode cX12_feed 13 = .ok (.aload_n 0, 1) := by decide +kernel
theorem dX12_feed_14 : decode cX12_feed 14 = .ok (.getfield 93, 3) := by decide +kernel
theorem dX12_feed_17 : decode cX12_feed 17 = .ok (.iload_n 2, 1) := by decide +kernel
theorem dX12_feed_18 : decode cX12_feed 18 = .ok (.iadd, 1) := by decide +kernel
theorem dX12_feed_19 : decode cX12_feed 19 = .ok (.bipush 80, 2) := by decide +kernel
theorem dX12_feed_21 : decode cX12_feed 21 = .ok (.if_icmp .le 6, 3) := by decide +kernel
theorem dX12_feed_24 : decode cX12_feed 24 = .ok (.bipush (-4), 2) := by decide +kernel
theorem dX12_feed_26 : decode cX12_feed 26 = .ok (.ireturn, 1) := by decide +kernel
theorem dX12_feed_27 : decode cX12_feed 27 = .ok (.iload_n 2, 1) := by decide +kernel
theorem dX12_feed_28 : decode cX12_feed 28 = .ok (.iconst 1, 1) := by decide +kernel
theorem dX12_feed_29 : decode cX12_feed 29 = .ok (.isub, 1) := by decide +kernel
theorem dX12_feed_30 : decode cX12_feed 30 = .ok (.istore_n 3, 1) := by decide +kernel
theorem dX12_feed_31 : decode cX12_feed 31 = .ok (.iload_n 3, 1) := by decide +kernel
theorem dX12_feed_32 : decode cX12_feed 32 = .ok (.ifCond .lt 35, 3) := by decide +kernel
theorem dX12_feed_35 : decode cX12_feed 35 = .ok (.aload_n 0, 1) := by decide +kernel
theorem dX12_feed_36 : decode cX12_feed 36 = .ok (.getfield 102, 3) := by decide +kernel
theorem dX12_feed_39 : decode cX12_feed 39 = .ok (.aload_n 0, 1) := by decide +kernel
theorem dX12_feed_40 : decode cX12_feed 40 = .ok (.getfield 93, 3) := by decide +kernel
theorem dX12_feed_43 : decode cX12_feed 43 = .ok (.iload_n 1, 1) := by decide +kernel
theorem dX12_feed_44 : decode cX12_feed 44 = .ok (.bipush 8, 2) := by decide +kernel
theorem dX12_feed_46 : decode cX12_feed 46 = .ok (.iload_n 3, 1) := by decide +kernel
theorem dX12_feed_47 : decode cX12_feed 47 = .ok (.imul, 1) := by decide +kernel
theorem dX12_feed_48 : decode cX12_feed 48 = .ok (.ishr, 1) := by decide +kernel
theorem dX12_feed_49 : decode cX12_feed 49 = .ok (.i2b, 1) := by decide +kernel
theorem dX12_feed_50 : decode cX12_feed 50 = .ok (.iastore, 1) := by decide +kernel
theorem dX12_feed_51 : decode cX12_feed 51 = .ok (.aload_n 0, 1) := by decide +kernel
theorem dX12_feed_52 : decode cX12_feed 52 = .ok (.dup, 1) := by decide +kernel
theorem dX12_feed_53 : decode cX12_feed 53 = .ok (.getfield 93, 3) := by decide +kernel
theorem dX12_feed_56 : decode cX12_feed 56 = .ok (.iconst 1, 1) := by decide +kernel
theorem dX12_feed_57 : decode cX12_feed 57 = .ok (.iadd, 1) := by decide +kernel
theorem dX12_feed_58 : decode cX12_feed 58 = .ok (.putfield 93, 3) := by decide +kernel
theorem dX12_feed_61 : decode cX12_feed 61 = .ok (.iinc 3 (-1), 3) := by decide +kernel
theorem dX12_feed_64 : decode cX12_feed 64 = .ok (.goto (-33), 3) := by decide +kernel
theorem dX12_feed_67 : decode cX12_feed 67 = .ok (.aload_n 0, 1) := by decide +kernel
theorem dX12_feed_68 : decode cX12_feed 68 = .ok (.getfield 93, 3) := by decide +kernel
theorem dX12_feed_71 : decode cX12_feed 71 = .ok (.ireturn, 1) := by decide +kernel
theorem dX12_add_0 : decode cX12_add 0 = .ok (.aload_n 0, 1) := by decide +kernel
theorem dX12_add_1 : decode cX12_add 1 = .ok (.getfield 96, 3) := by decide +kernel
theorem dX12_add_4 : decode cX12_add 4 = .ok (.bipush 10, 2) := by decide +kernel
theorem dX12_add_6 : decode cX12_add 6 = .ok (.iaload, 1) := by decide +kernel
theorem dX12_add_7 : decode cX12_add 7 = .ok (.sipush 300, 3) := by decide +kernel
theorem dX12_add_10 : decode cX12_add 10 = .ok (.if_icmp .ne 9, 3) := by decide +kernel
theorem dX12_add_13 : decode cX12_add 13 = .ok (.aload_n 0, 1) := by decide +kernel
theorem dX12_add_14 : decode cX12_add 14 = .ok (.iconst 1, 1) := by decide +kernel
theorem dX12_add_15 : decode cX12_add 15 = .ok (.putfield 108, 3) := by decide +kernel
theorem dX12_add_18 : decode cX12_add 18 = .ok (.return_, 1) := by decide +kernel
theorem dX12_add_19 : decode cX12_add 19 = .ok (.aload_n 0, 1) := by decide +kernel
theorem dX12_add_20 : decode cX12_add 20 = .ok (.getfield 99, 3) := by decide +kernel
theorem dX12_add_23 : decode cX12_add 23 = .ok (.sipush 3000, 3) := by decide +kernel
theorem dX12_add_26 : decode cX12_add 26 = .ok (.aload_n 0, 1) := by decide +kernel
theorem dX12_add_27 : decode cX12_add 27 = .ok (.getfield 96, 3) := by decide +kernel
theorem dX12_add_30 : decode cX12_add 30 = .ok (.bipush 10, 2) := by decide +kernel
theorem dX12_add_32 : decode cX12_add 32 = .ok (.iaload, 1) := by decide +kernel
theorem dX12_add_33 : decode cX12_add 33 = .ok (.iadd, 1) := by decide +kernel
theorem dX12_add_34 : decode cX12_add 34 = .ok (.iload_n 1, 1) := by decide +kernel
theorem dX12_add_35 : decode cX12_add 35 = .ok (.iastore, 1) := by decide +kernel
theorem dX12_add_36 : decode cX12_add 36 = .ok (.aload_n 0, 1) := by decide +kernel
theorem dX12_add_37 : decode cX12_add 37 = .ok (.getfield 96, 3) := by decide +kernel
theorem dX12_add_40 : decode cX12_add 40 = .ok (.bipush 10, 2) := by decide +kernel
theorem dX12_add_42 : decode cX12_add 42 = .ok (.dup2, 1) := by decide +kernel
theorem dX12_add_43 : decode cX12_add 43 = .ok (.iaload, 1) := by decide +kernel
theorem dX12_add_44 : decode cX12_add 44 = .ok (.iconst 1, 1) := by decide +kernel
theorem dX12_add_45 : decode cX12_add 45 = .ok (.iadd, 1) := by decide +kernel
theorem dX12_add_46 : decode cX12_add 46 = .ok (.iastore, 1) := by decide +kernel
theorem dX12_add_47 : decode cX12_add 47 = .ok (.return_, 1) := by decide +kernel
theorem dX12_undoing_0 : decode cX12_undoing 0 = .ok (.iload_n 1, 1) := by decide +kernel
theorem dX12_undoing_1 : decode cX12_undoing 1 = .ok (.bipush 100, 2) := by decide +kernel
theorem dX12_undoing_3 : decode cX12_undoing 3 = .ok (.if_icmp .lt 11, 3) := by decide +kernel
theorem dX12_undoing_6 : decode cX12_undoing 6 = .ok (.sipush 201, 3) := by decide +kernel
theorem dX12_undoing_9 : decode cX12_undoing 9 = .ok (.iload_n 1, 1) := by decide +kernel
theorem dX12_undoing_10 : decode cX12_undoing 10 = .ok (.isub, 1) := by decide +kernel
theorem dX12_undoing_11 : decode cX12_undoing 11 = .ok (.goto 6, 3) := by decide +kernel
theorem dX12_undoing_14 : decode cX12_undoing 14 = .ok (.iload_n 1, 1) := by decide +kernel
theorem dX12_undoing_15 : decode cX12_undoing 15 = .ok (.iconst 1, 1) := by decide +kernel
theorem dX12_undoing_16 : decode cX12_undoing 16 = .ok (.ixor, 1) := by decide +kernel
theorem dX12_undoing_17 : decode cX12_undoing 17 = .ok (.ireturn, 1) := by decide +kernel
theorem dX12_undo_0 : decode cX12_undo 0 = .ok (.sipush 3000, 3) := by decide +kernel
theorem dX12_undo_3 : decode cX12_undo 3 = .ok (.iload_n 1, 1) := by decide +kernel
theorem dX12_undo_4 : decode cX12_undo 4 = .ok (.iadd, 1) := by decide +kernel
theorem dX12_undo_5 : decode cX12_undo 5 = .ok (.istore_n 2, 1) := by decide +kernel
theorem dX12_undo_6 : decode cX12_undo 6 = .ok (.sipush 2999, 3) := by decide +kernel
theorem dX12_undo_9 : decode cX12_undo 9 = .ok (.aload_n 0, 1) := by decide +kernel
theorem dX12_undo_10 : decode cX12_undo 10 = .ok (.getfield 96, 3) := by decide +kernel
theorem dX12_undo_13 : decode cX12_undo 13 = .ok (.bipush 10, 2) := by decide +kernel
theorem dX12_undo_15 : decode cX12_undo 15 = .ok (.iaload, 1) := by decide +kernel
theorem dX12_undo_16 : decode cX12_undo 16 = .ok (.iadd, 1) := by decide +kernel
theorem dX12_undo_17 : decode cX12_undo 17 = .ok (.istore_n 3, 1) := by decide +kernel
theorem dX12_undo_18 : decode cX12_undo 18 = .ok (.iload_n 2, 1) := by decide +kernel
theorem dX12_undo_19 : decode cX12_undo 19 = .ok (.iload_n 3, 1) := by decide +kernel
theorem dX12_undo_20 : decode cX12_undo 20 = .ok (.if_icmp .ge 48, 3) := by decide +kernel
theorem dX12_undo_23 : decode cX12_undo 23 = .ok (.aload_n 0, 1) := by decide +kernel
theorem dX12_undo_24 : decode cX12_undo 24 = .ok (.getfield 99, 3) := by decide +kernel
theorem dX12_undo_27 : decode cX12_undo 27 = .ok (.iload_n 2, 1) := by decide +kernel
theorem dX12_undo_28 : decode cX12_undo 28 = .ok (.iaload, 1) := by decide +kernel
theorem dX12_undo_29 : decode cX12_undo 29 = .ok (.istore 4, 2) := by decide +kernel
theorem dX12_undo_31 : decode cX12_undo 31 = .ok (.aload_n 0, 1) := by decide +kernel
theorem dX12_undo_32 : decode cX12_undo 32 = .ok (.getfield 99, 3) := by decide +kernel
theorem dX12_undo_35 : decode cX12_undo 35 = .ok (.iload_n 2, 1) := by decide +kernel
theorem dX12_undo_36 : decode cX12_undo 36 = .ok (.aload_n 0, 1) := by decide +kernel
theorem dX12_undo_37 : decode cX12_undo 37 = .ok (.aload_n 0, 1) := by decide +kernel
theorem dX12_undo_38 : decode cX12_undo 38 = .ok (.getfield 99, 3) := by decide +kernel
theorem dX12_undo_41 : decode cX12_undo 41 = .ok (.iload_n 3, 1) := by decide +kernel
theorem dX12_undo_42 : decode cX12_undo 42 = .ok (.iaload, 1) := by decide +kernel
theorem dX12_undo_43 : decode cX12_undo 43 = .ok (.invokevirtual 234, 3) := by decide +kernel
theorem dX12_undo_46 : decode cX12_undo 46 = .ok (.iastore, 1) := by decide +kernel
theorem dX12_undo_47 : decode cX12_undo 47 = .ok (.aload_n 0, 1) := by decide +kernel
theorem dX12_undo_48 : decode cX12_undo 48 = .ok (.getfield 99, 3) := by decide +kernel
theorem dX12_undo_51 : decode cX12_undo 51 = .ok (.iload_n 3, 1) := by decide +kernel
theorem dX12_undo_52 : decode cX12_undo 52 = .ok (.aload_n 0, 1) := by decide +kernel
theorem dX12_undo_53 : decode cX12_undo 53 = .ok (.iload 4, 2) := by decide +kernel
theorem dX12_undo_55 : decode cX12_undo 55 = .ok (.invokevirtual 234, 3) := by decide +kernel
theorem dX12_undo_58 : decode cX12_undo 58 = .ok (.iastore, 1) := by decide +kernel
theorem dX12_undo_59 : decode cX12_undo 59 = .ok (.iinc 2 1, 3) := by decide +kernel
theorem dX12_undo_62 : decode cX12_undo 62 = .ok (.iinc 3 (-1), 3) := by decide +kernel
theorem dX12_undo_65 : decode cX12_undo 65 = .ok (.goto (-47), 3) := by decide +kernel
theorem dX12_undo_68 : decode cX12_undo 68 = .ok (.iload_n 2, 1) := by decide +kernel
theorem dX12_undo_69 : decode cX12_undo 69 = .ok (.iload_n 3, 1) := by decide +kernel
theorem dX12_undo_70 : decode cX12_undo 70 = .ok (.if_icmp .ne 19, 3) := by decide +kernel
theorem dX12_undo_73 : decode cX12_undo 73 = .ok (.aload_n 0, 1) := by decide +kernel
theorem dX12_undo_74 : decode cX12_undo 74 = .ok (.getfield 99, 3) := by decide +kernel
theorem dX12_undo_77 : decode cX12_undo 77 = .ok (.iload_n 2, 1) := by decide +kernel
theorem dX12_undo_78 : decode cX12_undo 78 = .ok (.aload_n 0, 1) := by decide +kernel
theorem dX12_undo_79 : decode cX12_undo 79 = .ok (.aload_n 0, 1) := by decide +kernel
theorem dX12_undo_80 : decode cX12_undo 80 = .ok (.getfield 99, 3) := by decide +kernel
theorem dX12_undo_83 : decode cX12_undo 83 = .ok (.iload_n 2, 1) := by decide +kernel
theorem dX12_undo_84 : decode cX12_undo 84 = .ok (.iaload, 1) := by decide +kernel
theorem dX12_undo_85 : decode cX12_undo 85 = .ok (.invokevirtual 234, 3) := by decide +kernel
theorem dX12_undo_88 : decode cX12_undo 88 = .ok (.iastore, 1) := by decide +kernel
theorem dX12_undo_89 : decode cX12_undo 89 = .ok (.return_, 1) := by decide +kernel
theorem dX12_repeat_0 : decode cX12_repeat 0 = .ok (.aload_n 0, 1) := by decide +kernel
theorem dX12_repeat_1 : decode cX12_repeat 1 = .ok (.getfield 96, 3) := by decide +kernel
theorem dX12_repeat_4 : decode cX12_repeat 4 = .ok (.bipush 10, 2) := by decide +kernel
theorem dX12_repeat_6 : decode cX12_repeat 6 = .ok (.iaload, 1) := by decide +kernel
theorem dX12_repeat_7 : decode cX12_repeat 7 = .ok (.istore_n 3, 1) := by decide +kernel
theorem dX12_repeat_8 : decode cX12_repeat 8 = .ok (.iconst 1, 1) := by decide +kernel
theorem dX12_repeat_9 : decode cX12_repeat 9 = .ok (.istore 4, 2) := by decide +kernel
theorem dX12_repeat_11 : decode cX12_repeat 11 = .ok (.iload 4, 2) := by decide +kernel
theorem dX12_repeat_13 : decode cX12_repeat 13 = .ok (.iload_n 2, 1) := by decide +kernel
theorem dX12_repeat_14 : decode cX12_repeat 14 = .ok (.if_icmp .ge 46, 3) := by decide +kernel
theorem dX12_repeat_17 : decode cX12_repeat 17 = .ok (.aload_n 0, 1) := by decide +kernel
theorem dX12_repeat_18 : decode cX12_repeat 18 = .ok (.getfield 108, 3) := by decide +kernel
theorem dX12_repeat_21 : decode cX12_repeat 21 = .ok (.ifCond .ne 39, 3) := by decide +kernel
theorem dX12_repeat_24 : decode cX12_repeat 24 = .ok (.iload_n 1, 1) := by decide +kernel
theorem dX12_repeat_25 : decode cX12_repeat 25 = .ok (.istore 5, 2) := by decide +kernel
theorem dX12_repeat_27 : decode cX12_repeat 27 = .ok (.iload 5, 2) := by decide +kernel
theorem dX12_repeat_29 : decode cX12_repeat 29 = .ok (.iload_n 3, 1) := by decide +kernel
theorem dX12_repeat_30 : decode cX12_repeat 30 = .ok (.if_icmp .ge 24, 3) := by decide +kernel
theorem dX12_repeat_33 : decode cX12_repeat 33 = .ok (.aload_n 0, 1) := by decide +kernel
theorem dX12_repeat_34 : decode cX12_repeat 34 = .ok (.aload_n 0, 1) := by decide +kernel
theorem dX12_repeat_35 : decode cX12_repeat 35 = .ok (.getfield 99, 3) := by decide +kernel
theorem dX12_repeat_38 : decode cX12_repeat 38 = .ok (.sipush 3000, 3) := by decide +kernel
theorem dX12_repeat_41 : decode cX12_repeat 41 = .ok (.iload 5, 2) := by decide +kernel
theorem dX12_repeat_43 : decode cX12_repeat 43 = .ok (.iadd, 1) := by decide +kernel
theorem dX12_repeat_44 : decode cX12_repeat 44 = .ok (.iaload, 1) := by decide +kernel
theorem dX12_repeat_45 : decode cX12_repeat 45 = .ok (.invokevirtual 237, 3) := by decide +kernel
theorem dX12_repeat_48 : decode cX12_repeat 48 = .ok (.iinc 5 1, 3) := by decide +kernel
theorem dX12_repeat_51 : decode cX12_repeat 51 = .ok (.goto (-24), 3) := by decide +kernel
theorem dX12_repeat_54 : decode cX12_repeat 54 = .ok (.iinc 4 1, 3) := by decide +kernel
theorem dX12_repeat_57 : decode cX12_repeat 57 = .ok (.goto (-46), 3) := by decide +kernel
theorem dX12_repeat_60 : decode cX12_repeat 60 = .ok (.return_, 1) := by decide +kernel
theorem dX12_next_0 : decode cX12_next 0 = .ok (.aload_n 0, 1) := by decide +kernel
theorem dX12_next_1 : decode cX12_next 1 = .ok (.getfield 105, 3) := by decide +kernel
theorem dX12_next_4 : decode cX12_next 4 = .ok (.aload_n 0, 1) := by decide +kernel
theorem dX12_next_5 : decode cX12_next 5 = .ok (.getfield 93, 3) := by decide +kernel
theorem dX12_next_8 : decode cX12_next 8 = .ok (.if_icmp .ge 15, 3) := by decide +kernel
theorem dX12_next_11 : decode cX12_next 11 = .ok (.aload_n 0, 1) := by decide +kernel
theorem dX12_next_12 : decode cX12_next 12 = .ok (.getfield 102, 3) := by decide +kernel
theorem dX12_next_15 : decode cX12_next 15 = .ok (.aload_n 0, 1) := by decide +kernel
theorem dX12_next_16 : decode cX12_next 16 = .ok (.getfield 105, 3) := by decide +kernel
theorem dX12_next_19 : decode cX12_next 19 = .ok (.iaload, 1) := by decide +kernel
theorem dX12_next_20 : decode cX12_next 20 = .ok (.goto 4, 3) := by decide +kernel
theorem dX12_next_23 : decode cX12_next 23 = .ok (.iconst (-1), 1) := by decide +kernel
theorem dX12_next_24 : decode cX12_next 24 = .ok (.ireturn, 1) := by decide +kernel
theorem dX12_reads_0 : decode cX12_reads 0 = .ok (.aload_n 0, 1) := by decide +kernel
theorem dX12_reads_1 : decode cX12_reads 1 = .ok (.iconst 0, 1) := by decide +kernel
theorem dX12_reads_2 : decode cX12_reads 2 = .ok (.putfield 105, 3) := by decide +kernel
theorem dX12_reads_5 : decode cX12_reads 5 = .ok (.aload_n 0, 1) := by decide +kernel
theorem dX12_reads_6 : decode cX12_reads 6 = .ok (.getfield 96, 3) := by decide +kernel
theorem dX12_reads_9 : decode cX12_reads 9 = .ok (.bipush 10, 2) := by decide +kernel
theorem dX12_reads_11 : decode cX12_reads 11 = .ok (.iconst 0, 1) := by decide +kernel
theorem dX12_reads_12 : decode cX12_reads 12 = .ok (.iastore, 1) := by decide +kernel
theorem dX12_reads_13 : decode cX12_reads 13 = .ok (.aload_n 0, 1) := by decide +kernel
theorem dX12_reads_14 : decode cX12_reads 14 = .ok (.iconst 0, 1) := by decide +kernel
theorem dX12_reads_15 : decode cX12_reads 15 = .ok (.putfield 108, 3) := by decide +kernel
theorem dX12_reads_18 : decode cX12_reads 18 = .ok (.iconst 0, 1) := by decide +kernel
theorem dX12_reads_19 : decode cX12_reads 19 = .ok (.istore_n 1, 1) := by decide +kernel
theorem dX12_reads_20 : decode cX12_reads 20 = .ok (.aload_n 0, 1) := by decide +kernel
theorem dX12_reads_21 : decode cX12_reads 21 = .ok (.getfield 114, 3) := by decide +kernel
theorem dX12_reads_24 : decode cX12_reads 24 = .ok (.iconst 0, 1) := by decide +kernel
theorem dX12_reads_25 : decode cX12_reads 25 = .ok (.iconst 0, 1) := by decide +kernel
theorem dX12_reads_26 : decode cX12_reads 26 = .ok (.iastore, 1) := by decide +kernel
theorem dX12_reads_27 : decode cX12_reads 27 = .ok (.aload_n 0, 1) := by decide +kernel
theorem dX12_reads_28 : decode cX12_reads 28 = .ok (.getfield 105, 3) := by decide +kernel
theorem dX12_reads_31 : decode cX12_reads 31 = .ok (.aload_n 0, 1) := by decide +kernel
theorem dX12_reads_32 : decode cX12_reads 32 = .ok (.getfield 93, 3) := by decide +kernel
theorem dX12_reads_35 : decode cX12_reads 35 = .ok (.if_icmp .ge 333, 3) := by decide +kernel
theorem dX12_reads_38 : decode cX12_reads 38 = .ok (.aload_n 0, 1) := by decide +kernel
theorem dX12_reads_39 : decode cX12_reads 39 = .ok (.invokevirtual 241, 3) := by decide +kernel
theorem dX12_reads_42 : decode cX12_reads 42 = .ok (.istore_n 2, 1) := by decide +kernel
theorem dX12_reads_43 : decode cX12_reads 43 = .ok (.aload_n 0, 1) := by decide +kernel
theorem dX12_reads_44 : decode cX12_reads 44 = .ok (.iload_n 2, 1) := by decide +kernel
theorem dX12_reads_45 : decode cX12_reads 45 = .ok (.bipush 48, 2) := by decide +kernel
theorem dX12_reads_47 : decode cX12_reads 47 = .ok (.bipush 57, 2) := by decide +kernel
theorem dX12_reads_49 : decode cX12_reads 49 = .ok (.invokevirtual 195, 3) := by decide +kernel
theorem dX12_reads_52 : decode cX12_reads 52 = .ok (.ifCond .eq 62, 3) := by decide +kernel
theorem dX12_reads_55 : decode cX12_reads 55 = .ok (.aload_n 0, 1) := by decide +kernel
theorem dX12_reads_56 : decode cX12_reads 56 = .ok (.dup, 1) := by decide +kernel
theorem dX12_reads_57 : decode cX12_reads 57 = .ok (.getfield 105, 3) := by decide +kernel
theorem dX12_reads_60 : decode cX12_reads 60 = .ok (.iconst 1, 1) := by decide +kernel
theorem dX12_reads_61 : decode cX12_reads 61 = .ok (.iadd, 1) := by decide +kernel
theorem dX12_reads_62 : decode cX12_reads 62 = .ok (.putfield 105, 3) := by decide +kernel
theorem dX12_reads_65 : decode cX12_reads 65 = .ok (.aload_n 0, 1) := by decide +kernel
theorem dX12_reads_66 : decode cX12_reads 66 = .ok (.invokevirtual 241, 3) := by decide +kernel
theorem dX12_reads_69 : decode cX12_reads 69 = .ok (.bipush 60, 2) := by decide +kernel
theorem dX12_reads_71 : decode cX12_reads 71 = .ok (.if_icmp .eq 14, 3) := by decide +kernel
theorem dX12_reads_74 : decode cX12_reads 74 = .ok (.aload_n 0, 1) := by decide +kernel
theorem dX12_reads_75 : decode cX12_reads 75 = .ok (.invokevirtual 241, 3) := by decide +kernel
theorem dX12_reads_78 : decode cX12_reads 78 = .ok (.bipush 62, 2) := by decide +kernel
theorem dX12_reads_80 : decode cX12_reads 80 = .ok (.if_icmp .eq 5, 3) := by decide +kernel
theorem dX12_reads_83 : decode cX12_reads 83 = .ok (.iconst 0, 1) := by decide +kernel
theorem dX12_reads_84 : decode cX12_reads 84 = .ok (.ireturn, 1) := by decide +kernel
theorem dX12_reads_85 : decode cX12_reads 85 = .ok (.aload_n 0, 1) := by decide +kernel
theorem dX12_reads_86 : decode cX12_reads 86 = .ok (.bipush 10, 2) := by decide +kernel
theorem dX12_reads_88 : decode cX12_reads 88 = .ok (.iload_n 2, 1) := by decide +kernel
theorem dX12_reads_89 : decode cX12_reads 89 = .ok (.bipush 48, 2) := by decide +kernel
theorem dX12_reads_91 : decode cX12_reads 91 = .ok (.isub, 1) := by decide +kernel
theorem dX12_reads_92 : decode cX12_reads 92 = .ok (.imul, 1) := by decide +kernel
theorem dX12_reads_93 : decode cX12_reads 93 = .ok (.aload_n 0, 1) := by decide +kernel
theorem dX12_reads_94 : decode cX12_reads 94 = .ok (.invokevirtual 241, 3) := by decide +kernel
theorem dX12_reads_97 : decode cX12_reads 97 = .ok (.bipush 60, 2) := by decide +kernel
theorem dX12_reads_99 : decode cX12_reads 99 = .ok (.if_icmp .ne 7, 3) := by decide +kernel
theorem dX12_reads_102 : decode cX12_reads 102 = .ok (.iconst 0, 1) := by decide +kernel
theorem dX12_reads_103 : decode cX12_reads 103 = .ok (.goto 4, 3) := by decide +kernel
theorem dX12_reads_106 : decode cX12_reads 106 = .ok (.iconst 1, 1) := by decide +kernel
theorem dX12_reads_107 : decode cX12_reads 107 = .ok (.iadd, 1) := by decide +kernel
theorem dX12_reads_108 : decode cX12_reads 108 = .ok (.invokevirtual 237, 3) := by decide +kernel
theorem dX12_reads_111 : decode cX12_reads 111 = .ok (.goto 234, 3) := by decide +kernel
theorem dX12_reads_114 : decode cX12_reads 114 = .ok (.iload_n 2, 1) := by decide +kernel
theorem dX12_reads_115 : decode cX12_reads 115 = .ok (.bipush 119, 2) := by decide +kernel
theorem dX12_reads_117 : decode cX12_reads 117 = .ok (.if_icmp .eq 9, 3) := by decide +kernel
theorem dX12_reads_120 : decode cX12_reads 120 = .ok (.iload_n 2, 1) := by decide +kernel
theorem dX12_reads_121 : decode cX12_reads 121 = .ok (.bipush 118, 2) := by decide +kernel
theorem dX12_reads_123 : decode cX12_reads 123 = .ok (.if_icmp .ne 23, 3) := by decide +kernel
theorem dX12_reads_126 : decode cX12_reads 126 = .ok (.aload_n 0, 1) := by decide +kernel
theorem dX12_reads_127 : decode cX12_reads 127 = .ok (.iload_n 2, 1) := by decide +kernel
theorem dX12_reads_128 : decode cX12_reads 128 = .ok (.bipush 119, 2) := by decide +kernel
theorem dX12_reads_130 : decode cX12_reads 130 = .ok (.if_icmp .ne 8, 3) := by decide +kernel
theorem dX12_reads_133 : decode cX12_reads 133 = .ok (.bipush 100, 2) := by decide +kernel
theorem dX12_reads_135 : decode cX12_reads 135 = .ok (.goto 5, 3) := by decide +kernel
theorem dX12_reads_138 : decode cX12_reads 138 = .ok (.bipush 101, 2) := by decide +kernel
theorem dX12_reads_140 : decode cX12_reads 140 = .ok (.invokevirtual 237, 3) := by decide +kernel
theorem dX12_reads_143 : decode cX12_reads 143 = .ok (.goto 202, 3) := by decide +kernel
theorem dX12_reads_146 : decode cX12_reads 146 = .ok (.aload_n 0, 1) := by decide +kernel
theorem dX12_reads_147 : decode cX12_reads 147 = .ok (.iload_n 2, 1) := by decide +kernel
theorem dX12_reads_148 : decode cX12_reads 148 = .ok (.bipush 65, 2) := by decide +kernel
theorem dX12_reads_150 : decode cX12_reads 150 = .ok (.bipush 74, 2) := by decide +kernel
theorem dX12_reads_152 : decode cX12_reads 152 = .ok (.invokevirtual 195, 3) := by decide +kernel
theorem dX12_reads_155 : decode cX12_reads 155 = .ok (.ifCond .eq 57, 3) := by decide +kernel
theorem dX12_reads_158 : decode cX12_reads 158 = .ok (.aload_n 0, 1) := by decide +kernel
theorem dX12_reads_159 : decode cX12_reads 159 = .ok (.iload_n 2, 1) := by decide +kernel
theorem dX12_reads_160 : decode cX12_reads 160 = .ok (.bipush 65, 2) := by decide +kernel
theorem dX12_reads_162 : decode cX12_reads 162 = .ok (.isub, 1) := by decide +kernel
theorem dX12_reads_163 : decode cX12_reads 163 = .ok (.invokevirtual 244, 3) := by decide +kernel
theorem dX12_reads_166 : decode cX12_reads 166 = .ok (.ifCond .eq 46, 3) := by decide +kernel
theorem dX12_reads_169 : decode cX12_reads 169 = .ok (.iconst 0, 1) := by decide +kernel
theorem dX12_reads_170 : decode cX12_reads 170 = .ok (.istore_n 3, 1) := by decide +kernel
theorem dX12_reads_171 : decode cX12_reads 171 = .ok (.iload_n 3, 1) := by decide +kernel
theorem dX12_reads_172 : decode cX12_reads 172 = .ok (.aload_n 0, 1) := by decide +kernel
theorem dX12_reads_173 : decode cX12_reads 173 = .ok (.getfield 96, 3) := by decide +kernel
theorem dX12_reads_176 : decode cX12_reads 176 = .ok (.iload_n 2, 1) := by decide +kernel
theorem dX12_reads_177 : decode cX12_reads 177 = .ok (.bipush 65, 2) := by decide +kernel
theorem dX12_reads_179 : decode cX12_reads 179 = .ok (.isub, 1) := by decide +kernel
theorem dX12_reads_180 : decode cX12_reads 180 = .ok (.iaload, 1) := by decide +kernel
theorem dX12_reads_181 : decode cX12_reads 181 = .ok (.if_icmp .ge 28, 3) := by decide +kernel
theorem dX12_reads_184 : decode cX12_reads 184 = .ok (.aload_n 0, 1) := by decide +kernel
theorem dX12_reads_185 : decode cX12_reads 185 = .ok (.aload_n 0, 1) := by decide +kernel
theorem dX12_reads_186 : decode cX12_reads 186 = .ok (.getfield 99, 3) := by decide +kernel
theorem dX12_reads_189 : decode cX12_reads 189 = .ok (.sipush 300, 3) := by decide +kernel
theorem dX12_reads_192 : decode cX12_reads 192 = .ok (.iload_n 2, 1) := by decide +kernel
theorem dX12_reads_193 : decode cX12_reads 193 = .ok (.bipush 65, 2) := by decide +kernel
theorem dX12_reads_195 : decode cX12_reads 195 = .ok (.isub, 1) := by decide +kernel
theorem dX12_reads_196 : decode cX12_reads 196 = .ok (.imul, 1) := by decide +kernel
theorem dX12_reads_197 : decode cX12_reads 197 = .ok (.iload_n 3, 1) := by decide +kernel
theorem dX12_reads_198 : decode cX12_reads 198 = .ok (.iadd, 1) := by decide +kernel
theorem dX12_reads_199 : decode cX12_reads 199 = .ok (.iaload, 1) := by decide +kernel
theorem dX12_reads_200 : decode cX12_reads 200 = .ok (.invokevirtual 237, 3) := by decide +kernel
theorem dX12_reads_203 : decode cX12_reads 203 = .ok (.iinc 3 1, 3) := by decide +kernel
theorem dX12_reads_206 : decode cX12_reads 206 = .ok (.goto (-35), 3) := by decide +kernel
theorem dX12_reads_209 : decode cX12_reads 209 = .ok (.goto 136, 3) := by decide +kernel
theorem dX12_reads_212 : decode cX12_reads 212 = .ok (.iload_n 2, 1) := by decide +kernel
theorem dX12_reads_213 : decode cX12_reads 213 = .ok (.bipush 40, 2) := by decide +kernel
theorem dX12_reads_215 : decode cX12_reads 215 = .ok (.if_icmp .ne 34, 3) := by decide +kernel
theorem dX12_reads_218 : decode cX12_reads 218 = .ok (.iload_n 1, 1) := by decide +kernel
theorem dX12_reads_219 : decode cX12_reads 219 = .ok (.iconst 4, 1) := by decide +kernel
theorem dX12_reads_220 : decode cX12_reads 220 = .ok (.if_icmp .ge 29, 3) := by decide +kernel
theorem dX12_reads_223 : decode cX12_reads 223 = .ok (.iinc 1 1, 3) := by decide +kernel
theorem dX12_reads_226 : decode cX12_reads 226 = .ok (.aload_n 0, 1) := by decide +kernel
theorem dX12_reads_227 : decode cX12_reads 227 = .ok (.getfield 111, 3) := by decide +kernel
theorem dX12_reads_230 : decode cX12_reads 230 = .ok (.iload_n 1, 1) := by decide +kernel
theorem dX12_reads_231 : decode cX12_reads 231 = .ok (.aload_n 0, 1) := by decide +kernel
theorem dX12_reads_232 : decode cX12_reads 232 = .ok (.getfield 96, 3) := by decide +kernel
theorem dX12_reads_235 : decode cX12_reads 235 = .ok (.bipush 10, 2) := by decide +kernel
theorem dX12_reads_237 : decode cX12_reads 237 = .ok (.iaload, 1) := by decide +kernel
theorem dX12_reads_238 : decode cX12_reads 238 = .ok (.iastore, 1) := by decide +kernel
theorem dX12_reads_239 : decode cX12_reads 239 = .ok (.aload_n 0, 1) := by decide +kernel
theorem dX12_reads_240 : decode cX12_reads 240 = .ok (.getfield 114, 3) := by decide +kernel
theorem dX12_reads_243 : decode cX12_reads 243 = .ok (.iload_n 1, 1) := by decide +kernel
theorem dX12_reads_244 : decode cX12_reads 244 = .ok (.iconst (-1), 1) := by decide +kernel
theorem dX12_reads_245 : decode cX12_reads 245 = .ok (.iastore, 1) := by decide +kernel
theorem dX12_reads_246 : decode cX12_reads 246 = .ok (.goto 99, 3) := by decide +kernel
theorem dX12_reads_249 : decode cX12_reads 249 = .ok (.iload_n 2, 1) := by decide +kernel
theorem dX12_reads_250 : decode cX12_reads 250 = .ok (.bipush 41, 2) := by decide +kernel
theorem dX12_reads_252 : decode cX12_reads 252 = .ok (.if_icmp .ne 91, 3) := by decide +kernel
theorem dX12_reads_255 : decode cX12_reads 255 = .ok (.iload_n 1, 1) := by decide +kernel
theorem dX12_reads_256 : decode cX12_reads 256 = .ok (.ifCond .le 87, 3) := by decide +kernel
theorem dX12_reads_259 : decode cX12_reads 259 = .ok (.aload_n 0, 1) := by decide +kernel
theorem dX12_reads_260 : decode cX12_reads 260 = .ok (.getfield 114, 3) := by decide +kernel
theorem dX12_reads_263 : decode cX12_reads 263 = .ok (.iload_n 1, 1) := by decide +kernel
theorem dX12_reads_264 : decode cX12_reads 264 = .ok (.iaload, 1) := by decide +kernel
theorem dX12_reads_265 : decode cX12_reads 265 = .ok (.ifCond .le 78, 3) := by decide +kernel
theorem dX12_reads_268 : decode cX12_reads 268 = .ok (.aload_n 0, 1) := by decide +kernel
theorem dX12_reads_269 : decode cX12_reads 269 = .ok (.dup, 1) := by decide +kernel
theorem dX12_reads_270 : decode cX12_reads 270 = .ok (.getfield 105, 3) := by decide +kernel
theorem dX12_reads_273 : decode cX12_reads 273 = .ok (.iconst 1, 1) := by decide +kernel
theorem dX12_reads_274 : decode cX12_reads 274 = .ok (.iadd, 1) := by decide +kernel
theorem dX12_reads_275 : decode cX12_reads 275 = .ok (.putfield 105, 3) := by decide +kernel
theorem dX12_reads_278 : decode cX12_reads 278 = .ok (.aload_n 0, 1) := by decide +kernel
theorem dX12_reads_279 : decode cX12_reads 279 = .ok (.aload_n 0, 1) := by decide +kernel
theorem dX12_reads_280 : decode cX12_reads 280 = .ok (.invokevirtual 241, 3) := by decide +kernel
theorem dX12_reads_283 : decode cX12_reads 283 = .ok (.bipush 50, 2) := by decide +kernel
theorem dX12_reads_285 : decode cX12_reads 285 = .ok (.bipush 57, 2) := by decide +kernel
theorem dX12_reads_287 : decode cX12_reads 287 = .ok (.invokevirtual 195, 3) := by decide +kernel
theorem dX12_reads_290 : decode cX12_reads 290 = .ok (.ifCond .eq 23, 3) := by decide +kernel
theorem dX12_reads_293 : decode cX12_reads 293 = .ok (.aload_n 0, 1) := by decide +kernel
theorem dX12_reads_294 : decode cX12_reads 294 = .ok (.aload_n 0, 1) := by decide +kernel
theorem dX12_reads_295 : decode cX12_reads 295 = .ok (.getfield 111, 3) := by decide +kernel
theorem dX12_reads_298 : decode cX12_reads 298 = .ok (.iload_n 1, 1) := by decide +kernel
theorem dX12_reads_299 : decode cX12_reads 299 = .ok (.iaload, 1) := by decide +kernel
theorem dX12_reads_300 : decode cX12_reads 300 = .ok (.aload_n 0, 1) := by decide +kernel
theorem dX12_reads_301 : decode cX12_reads 301 = .ok (.invokevirtual 241, 3) := by decide +kernel
theorem dX12_reads_304 : decode cX12_reads 304 = .ok (.bipush 48, 2) := by decide +kernel
theorem dX12_reads_306 : decode cX12_reads 306 = .ok (.isub, 1) := by decide +kernel
theorem dX12_reads_307 : decode cX12_reads 307 = .ok (.invokevirtual 247, 3) := by decide +kernel
theorem dX12_reads_310 : decode cX12_reads 310 = .ok (.goto 27, 3) := by decide +kernel
theorem dX12_reads_313 : decode cX12_reads 313 = .ok (.aload_n 0, 1) := by decide +kernel
theorem dX12_reads_314 : decode cX12_reads 314 = .ok (.invokevirtual 241, 3) := by decide +kernel
theorem dX12_reads_317 : decode cX12_reads 317 = .ok (.bipush 45, 2) := by decide +kernel
theorem dX12_reads_319 : decode cX12_reads 319 = .ok (.if_icmp .ne 16, 3) := by decide +kernel
theorem dX12_reads_322 : decode cX12_reads 322 = .ok (.aload_n 0, 1) := by decide +kernel
theorem dX12_reads_323 : decode cX12_reads 323 = .ok (.aload_n 0, 1) := by decide +kernel
theorem dX12_reads_324 : decode cX12_reads 324 = .ok (.getfield 111, 3) := by decide +kernel
theorem dX12_reads_327 : decode cX12_reads 327 = .ok (.iload_n 1, 1) := by decide +kernel
theorem dX12_reads_328 : decode cX12_reads 328 = .ok (.iaload, 1) := by decide +kernel
theorem dX12_reads_329 : decode cX12_reads 329 = .ok (.invokevirtual 251, 3) := by decide +kernel
theorem dX12_reads_332 : decode cX12_reads 332 = .ok (.goto 5, 3) := by decide +kernel
theorem dX12_reads_335 : decode cX12_reads 335 = .ok (.iconst 0, 1) := by decide +kernel
theorem dX12_reads_336 : decode cX12_reads 336 = .ok (.ireturn, 1) := by decide +kernel
theorem dX12_reads_337 : decode cX12_reads 337 = .ok (.iinc 1 (-1), 3) := by decide +kernel
theorem dX12_reads_340 : decode cX12_reads 340 = .ok (.goto 5, 3) := by decide +kernel
theorem dX12_reads_343 : decode cX12_reads 343 = .ok (.iconst 0, 1) := by decide +kernel
theorem dX12_reads_344 : decode cX12_reads 344 = .ok (.ireturn, 1) := by decide +kernel
theorem dX12_reads_345 : decode cX12_reads 345 = .ok (.aload_n 0, 1) := by decide +kernel
theorem dX12_reads_346 : decode cX12_reads 346 = .ok (.getfield 114, 3) := by decide +kernel
theorem dX12_reads_349 : decode cX12_reads 349 = .ok (.iload_n 1, 1) := by decide +kernel
theorem dX12_reads_350 : decode cX12_reads 350 = .ok (.dup2, 1) := by decide +kernel
theorem dX12_reads_351 : decode cX12_reads 351 = .ok (.iaload, 1) := by decide +kernel
theorem dX12_reads_352 : decode cX12_reads 352 = .ok (.iconst 1, 1) := by decide +kernel
theorem dX12_reads_353 : decode cX12_reads 353 = .ok (.iadd, 1) := by decide +kernel
theorem dX12_reads_354 : decode cX12_reads 354 = .ok (.iastore, 1) := by decide +kernel
theorem dX12_reads_355 : decode cX12_reads 355 = .ok (.aload_n 0, 1) := by decide +kernel
theorem dX12_reads_356 : decode cX12_reads 356 = .ok (.dup, 1) := by decide +kernel
theorem dX12_reads_357 : decode cX12_reads 357 = .ok (.getfield 105, 3) := by decide +kernel
end
section
theorem dX12_reads_360 : decode cX12_reads 360 = .ok (.iconst 1, 1) := by decide +kernel
theorem dX12_reads_361 : decode cX12_reads 361 = .ok (.iadd, 1) := by decide +kernel
theorem dX12_reads_362 : decode cX12_reads 362 = .ok (.putfield 105, 3) := by decide +kernel
theorem dX12_reads_365 : decode cX12_reads 365 = .ok (.goto (-338), 3) := by decide +kernel
theorem dX12_reads_368 : decode cX12_reads 368 = .ok (.iload_n 1, 1) := by decide +kernel
theorem dX12_reads_369 : decode cX12_reads 369 = .ok (.ifCond .ne 16, 3) := by decide +kernel
theorem dX12_reads_372 : decode cX12_reads 372 = .ok (.aload_n 0, 1) := by decide +kernel
theorem dX12_reads_373 : decode cX12_reads 373 = .ok (.getfield 114, 3) := by decide +kernel
theorem dX12_reads_376 : decode cX12_reads 376 = .ok (.iconst 0, 1) := by decide +kernel
theorem dX12_reads_377 : decode cX12_reads 377 = .ok (.iaload, 1) := by decide +kernel
theorem dX12_reads_378 : decode cX12_reads 378 = .ok (.ifCond .le 7, 3) := by decide +kernel
theorem dX12_reads_381 : decode cX12_reads 381 = .ok (.iconst 1, 1) := by decide +kernel
theorem dX12_reads_382 : decode cX12_reads 382 = .ok (.goto 4, 3) := by decide +kernel
theorem dX12_reads_385 : decode cX12_reads 385 = .ok (.iconst 0, 1) := by decide +kernel
theorem dX12_reads_386 : decode cX12_reads 386 = .ok (.ireturn, 1) := by decide +kernel
theorem dX12_figure_0 : decode cX12_figure 0 = .ok (.aload_n 0, 1) := by decide +kernel
theorem dX12_figure_1 : decode cX12_figure 1 = .ok (.getfield 90, 3) := by decide +kernel
theorem dX12_figure_4 : decode cX12_figure 4 = .ok (.bipush 10, 2) := by decide +kernel
theorem dX12_figure_6 : decode cX12_figure 6 = .ok (.if_icmp .ne 6, 3) := by decide +kernel
theorem dX12_figure_9 : decode cX12_figure 9 = .ok (.bipush (-4), 2) := by decide +kernel
theorem dX12_figure_11 : decode cX12_figure 11 = .ok (.ireturn, 1) := by decide +kernel
theorem dX12_figure_12 : decode cX12_figure 12 = .ok (.aload_n 0, 1) := by decide +kernel
theorem dX12_figure_13 : decode cX12_figure 13 = .ok (.invokevirtual 254, 3) := by decide +kernel
theorem dX12_figure_16 : decode cX12_figure 16 = .ok (.istore_n 1, 1) := by decide +kernel
theorem dX12_figure_17 : decode cX12_figure 17 = .ok (.aload_n 0, 1) := by decide +kernel
theorem dX12_figure_18 : decode cX12_figure 18 = .ok (.iconst 0, 1) := by decide +kernel
theorem dX12_figure_19 : decode cX12_figure 19 = .ok (.putfield 93, 3) := by decide +kernel
theorem dX12_figure_22 : decode cX12_figure 22 = .ok (.iload_n 1, 1) := by decide +kernel
theorem dX12_figure_23 : decode cX12_figure 23 = .ok (.ifCond .ne 11, 3) := by decide +kernel
theorem dX12_figure_26 : decode cX12_figure 26 = .ok (.bipush (-10), 2) := by decide +kernel
theorem dX12_figure_28 : decode cX12_figure 28 = .ok (.aload_n 0, 1) := by decide +kernel
theorem dX12_figure_29 : decode cX12_figure 29 = .ok (.getfield 105, 3) := by decide +kernel
theorem dX12_figure_32 : decode cX12_figure 32 = .ok (.isub, 1) := by decide +kernel
theorem dX12_figure_33 : decode cX12_figure 33 = .ok (.ireturn, 1) := by decide +kernel
theorem dX12_figure_34 : decode cX12_figure 34 = .ok (.aload_n 0, 1) := by decide +kernel
theorem dX12_figure_35 : decode cX12_figure 35 = .ok (.getfield 108, 3) := by decide +kernel
theorem dX12_figure_38 : decode cX12_figure 38 = .ok (.ifCond .eq 6, 3) := by decide +kernel
theorem dX12_figure_41 : decode cX12_figure 41 = .ok (.bipush (-2), 2) := by decide +kernel
theorem dX12_figure_43 : decode cX12_figure 43 = .ok (.ireturn, 1) := by decide +kernel
theorem dX12_figure_44 : decode cX12_figure 44 = .ok (.aload_n 0, 1) := by decide +kernel
theorem dX12_figure_45 : decode cX12_figure 45 = .ok (.getfield 96, 3) := by decide +kernel
theorem dX12_figure_48 : decode cX12_figure 48 = .ok (.aload_n 0, 1) := by decide +kernel
theorem dX12_figure_49 : decode cX12_figure 49 = .ok (.getfield 90, 3) := by decide +kernel
theorem dX12_figure_52 : decode cX12_figure 52 = .ok (.aload_n 0, 1) := by decide +kernel
theorem dX12_figure_53 : decode cX12_figure 53 = .ok (.getfield 96, 3) := by decide +kernel
theorem dX12_figure_56 : decode cX12_figure 56 = .ok (.bipush 10, 2) := by decide +kernel
theorem dX12_figure_58 : decode cX12_figure 58 = .ok (.iaload, 1) := by decide +kernel
theorem dX12_figure_59 : decode cX12_figure 59 = .ok (.iastore, 1) := by decide +kernel
theorem dX12_figure_60 : decode cX12_figure 60 = .ok (.iconst 0, 1) := by decide +kernel
theorem dX12_figure_61 : decode cX12_figure 61 = .ok (.istore_n 2, 1) := by decide +kernel
theorem dX12_figure_62 : decode cX12_figure 62 = .ok (.iload_n 2, 1) := by decide +kernel
theorem dX12_figure_63 : decode cX12_figure 63 = .ok (.aload_n 0, 1) := by decide +kernel
theorem dX12_figure_64 : decode cX12_figure 64 = .ok (.getfield 96, 3) := by decide +kernel
theorem dX12_figure_67 : decode cX12_figure 67 = .ok (.bipush 10, 2) := by decide +kernel
theorem dX12_figure_69 : decode cX12_figure 69 = .ok (.iaload, 1) := by decide +kernel
theorem dX12_figure_70 : decode cX12_figure 70 = .ok (.if_icmp .ge 34, 3) := by decide +kernel
theorem dX12_figure_73 : decode cX12_figure 73 = .ok (.aload_n 0, 1) := by decide +kernel
theorem dX12_figure_74 : decode cX12_figure 74 = .ok (.getfield 99, 3) := by decide +kernel
theorem dX12_figure_77 : decode cX12_figure 77 = .ok (.sipush 300, 3) := by decide +kernel
theorem dX12_figure_80 : decode cX12_figure 80 = .ok (.aload_n 0, 1) := by decide +kernel
theorem dX12_figure_81 : decode cX12_figure 81 = .ok (.getfield 90, 3) := by decide +kernel
theorem dX12_figure_84 : decode cX12_figure 84 = .ok (.imul, 1) := by decide +kernel
theorem dX12_figure_85 : decode cX12_figure 85 = .ok (.iload_n 2, 1) := by decide +kernel
theorem dX12_figure_86 : decode cX12_figure 86 = .ok (.iadd, 1) := by decide +kernel
theorem dX12_figure_87 : decode cX12_figure 87 = .ok (.aload_n 0, 1) := by decide +kernel
theorem dX12_figure_88 : decode cX12_figure 88 = .ok (.getfield 99, 3) := by decide +kernel
theorem dX12_figure_91 : decode cX12_figure 91 = .ok (.sipush 3000, 3) := by decide +kernel
theorem dX12_figure_94 : decode cX12_figure 94 = .ok (.iload_n 2, 1) := by decide +kernel
theorem dX12_figure_95 : decode cX12_figure 95 = .ok (.iadd, 1) := by decide +kernel
theorem dX12_figure_96 : decode cX12_figure 96 = .ok (.iaload, 1) := by decide +kernel
theorem dX12_figure_97 : decode cX12_figure 97 = .ok (.iastore, 1) := by decide +kernel
theorem dX12_figure_98 : decode cX12_figure 98 = .ok (.iinc 2 1, 3) := by decide +kernel
theorem dX12_figure_101 : decode cX12_figure 101 = .ok (.goto (-39), 3) := by decide +kernel
theorem dX12_figure_104 : decode cX12_figure 104 = .ok (.aload_n 0, 1) := by decide +kernel
theorem dX12_figure_105 : decode cX12_figure 105 = .ok (.dup, 1) := by decide +kernel
theorem dX12_figure_106 : decode cX12_figure 106 = .ok (.getfield 90, 3) := by decide +kernel
theorem dX12_figure_109 : decode cX12_figure 109 = .ok (.iconst 1, 1) := by decide +kernel
theorem dX12_figure_110 : decode cX12_figure 110 = .ok (.iadd, 1) := by decide +kernel
theorem dX12_figure_111 : decode cX12_figure 111 = .ok (.putfield 90, 3) := by decide +kernel
theorem dX12_figure_114 : decode cX12_figure 114 = .ok (.aload_n 0, 1) := by decide +kernel
theorem dX12_figure_115 : decode cX12_figure 115 = .ok (.getfield 90, 3) := by decide +kernel
theorem dX12_figure_118 : decode cX12_figure 118 = .ok (.iconst 1, 1) := by decide +kernel
theorem dX12_figure_119 : decode cX12_figure 119 = .ok (.isub, 1) := by decide +kernel
theorem dX12_figure_120 : decode cX12_figure 120 = .ok (.ireturn, 1) := by decide +kernel
theorem dX12_told_0 : decode cX12_told 0 = .ok (.aload_n 0, 1) := by decide +kernel
theorem dX12_told_1 : decode cX12_told 1 = .ok (.iload_n 1, 1) := by decide +kernel
theorem dX12_told_2 : decode cX12_told 2 = .ok (.invokevirtual 244, 3) := by decide +kernel
theorem dX12_told_5 : decode cX12_told 5 = .ok (.ifCond .ne 7, 3) := by decide +kernel
theorem dX12_told_8 : decode cX12_told 8 = .ok (.iconst (-1), 1) := by decide +kernel
theorem dX12_told_9 : decode cX12_told 9 = .ok (.goto 50, 3) := by decide +kernel
theorem dX12_told_12 : decode cX12_told 12 = .ok (.iload_n 2, 1) := by decide +kernel
theorem dX12_told_13 : decode cX12_told 13 = .ok (.iconst (-1), 1) := by decide +kernel
theorem dX12_told_14 : decode cX12_told 14 = .ok (.if_icmp .ne 12, 3) := by decide +kernel
theorem dX12_told_17 : decode cX12_told 17 = .ok (.aload_n 0, 1) := by decide +kernel
theorem dX12_told_18 : decode cX12_told 18 = .ok (.getfield 96, 3) := by decide +kernel
theorem dX12_told_21 : decode cX12_told 21 = .ok (.iload_n 1, 1) := by decide +kernel
theorem dX12_told_22 : decode cX12_told 22 = .ok (.iaload, 1) := by decide +kernel
theorem dX12_told_23 : decode cX12_told 23 = .ok (.goto 36, 3) := by decide +kernel
theorem dX12_told_26 : decode cX12_told 26 = .ok (.aload_n 0, 1) := by decide +kernel
theorem dX12_told_27 : decode cX12_told 27 = .ok (.iload_n 2, 1) := by decide +kernel
theorem dX12_told_28 : decode cX12_told 28 = .ok (.iconst 0, 1) := by decide +kernel
theorem dX12_told_29 : decode cX12_told 29 = .ok (.aload_n 0, 1) := by decide +kernel
theorem dX12_told_30 : decode cX12_told 30 = .ok (.getfield 96, 3) := by decide +kernel
theorem dX12_told_33 : decode cX12_told 33 = .ok (.iload_n 1, 1) := by decide +kernel
theorem dX12_told_34 : decode cX12_told 34 = .ok (.iaload, 1) := by decide +kernel
theorem dX12_told_35 : decode cX12_told 35 = .ok (.iconst 1, 1) := by decide +kernel
theorem dX12_told_36 : decode cX12_told 36 = .ok (.isub, 1) := by decide +kernel
theorem dX12_told_37 : decode cX12_told 37 = .ok (.invokevirtual 195, 3) := by decide +kernel
theorem dX12_told_40 : decode cX12_told 40 = .ok (.ifCond .eq 18, 3) := by decide +kernel
theorem dX12_told_43 : decode cX12_told 43 = .ok (.aload_n 0, 1) := by decide +kernel
theorem dX12_told_44 : decode cX12_told 44 = .ok (.getfield 99, 3) := by decide +kernel
theorem dX12_told_47 : decode cX12_told 47 = .ok (.sipush 300, 3) := by decide +kernel
theorem dX12_told_50 : decode cX12_told 50 = .ok (.iload_n 1, 1) := by decide +kernel
theorem dX12_told_51 : decode cX12_told 51 = .ok (.imul, 1) := by decide +kernel
theorem dX12_told_52 : decode cX12_told 52 = .ok (.iload_n 2, 1) := by decide +kernel
theorem dX12_told_53 : decode cX12_told 53 = .ok (.iadd, 1) := by decide +kernel
theorem dX12_told_54 : decode cX12_told 54 = .ok (.iaload, 1) := by decide +kernel
theorem dX12_told_55 : decode cX12_told 55 = .ok (.goto 4, 3) := by decide +kernel
theorem dX12_told_58 : decode cX12_told 58 = .ok (.iconst (-1), 1) := by decide +kernel
theorem dX12_told_59 : decode cX12_told 59 = .ok (.ireturn, 1) := by decide +kernel
theorem dX12_dance_0 : decode cX12_dance 0 = .ok (.aload_n 0, 1) := by decide +kernel
theorem dX12_dance_1 : decode cX12_dance 1 = .ok (.iload_n 1, 1) := by decide +kernel
theorem dX12_dance_2 : decode cX12_dance 2 = .ok (.invokevirtual 244, 3) := by decide +kernel
theorem dX12_dance_5 : decode cX12_dance 5 = .ok (.ifCond .ne 5, 3) := by decide +kernel
theorem dX12_dance_8 : decode cX12_dance 8 = .ok (.iconst (-1), 1) := by decide +kernel
theorem dX12_dance_9 : decode cX12_dance 9 = .ok (.ireturn, 1) := by decide +kernel
theorem dX12_dance_10 : decode cX12_dance 10 = .ok (.aload_n 0, 1) := by decide +kernel
theorem dX12_dance_11 : decode cX12_dance 11 = .ok (.getfield 44, 3) := by decide +kernel
theorem dX12_dance_14 : decode cX12_dance 14 = .ok (.ifCond .ne 6, 3) := by decide +kernel
theorem dX12_dance_17 : decode cX12_dance 17 = .ok (.bipush (-3), 2) := by decide +kernel
theorem dX12_dance_19 : decode cX12_dance 19 = .ok (.ireturn, 1) := by decide +kernel
theorem dX12_dance_20 : decode cX12_dance 20 = .ok (.iconst 0, 1) := by decide +kernel
theorem dX12_dance_21 : decode cX12_dance 21 = .ok (.istore_n 2, 1) := by decide +kernel
theorem dX12_dance_22 : decode cX12_dance 22 = .ok (.iconst 1, 1) := by decide +kernel
theorem dX12_dance_23 : decode cX12_dance 23 = .ok (.istore_n 3, 1) := by decide +kernel
theorem dX12_dance_24 : decode cX12_dance 24 = .ok (.iload_n 3, 1) := by decide +kernel
theorem dX12_dance_25 : decode cX12_dance 25 = .ok (.ifCond .eq 84, 3) := by decide +kernel
theorem dX12_dance_28 : decode cX12_dance 28 = .ok (.iload_n 2, 1) := by decide +kernel
theorem dX12_dance_29 : decode cX12_dance 29 = .ok (.aload_n 0, 1) := by decide +kernel
theorem dX12_dance_30 : decode cX12_dance 30 = .ok (.getfield 96, 3) := by decide +kernel
theorem dX12_dance_33 : decode cX12_dance 33 = .ok (.iload_n 1, 1) := by decide +kernel
theorem dX12_dance_34 : decode cX12_dance 34 = .ok (.iaload, 1) := by decide +kernel
theorem dX12_dance_35 : decode cX12_dance 35 = .ok (.if_icmp .ge 74, 3) := by decide +kernel
theorem dX12_dance_38 : decode cX12_dance 38 = .ok (.aload_n 0, 1) := by decide +kernel
theorem dX12_dance_39 : decode cX12_dance 39 = .ok (.getfield 99, 3) := by decide +kernel
theorem dX12_dance_42 : decode cX12_dance 42 = .ok (.sipush 300, 3) := by decide +kernel
theorem dX12_dance_45 : decode cX12_dance 45 = .ok (.iload_n 1, 1) := by decide +kernel
theorem dX12_dance_46 : decode cX12_dance 46 = .ok (.imul, 1) := by decide +kernel
theorem dX12_dance_47 : decode cX12_dance 47 = .ok (.iload_n 2, 1) := by decide +kernel
theorem dX12_dance_48 : decode cX12_dance 48 = .ok (.iadd, 1) := by decide +kernel
theorem dX12_dance_49 : decode cX12_dance 49 = .ok (.iaload, 1) := by decide +kernel
theorem dX12_dance_50 : decode cX12_dance 50 = .ok (.istore 4, 2) := by decide +kernel
theorem dX12_dance_52 : decode cX12_dance 52 = .ok (.iload 4, 2) := by decide +kernel
theorem dX12_dance_54 : decode cX12_dance 54 = .ok (.bipush 100, 2) := by decide +kernel
theorem dX12_dance_56 : decode cX12_dance 56 = .ok (.if_icmp .lt 15, 3) := by decide +kernel
theorem dX12_dance_59 : decode cX12_dance 59 = .ok (.aload_n 0, 1) := by decide +kernel
theorem dX12_dance_60 : decode cX12_dance 60 = .ok (.iload 4, 2) := by decide +kernel
theorem dX12_dance_62 : decode cX12_dance 62 = .ok (.bipush 100, 2) := by decide +kernel
theorem dX12_dance_64 : decode cX12_dance 64 = .ok (.isub, 1) := by decide +kernel
theorem dX12_dance_65 : decode cX12_dance 65 = .ok (.invokevirtual 258, 3) := by decide +kernel
theorem dX12_dance_68 : decode cX12_dance 68 = .ok (.goto 17, 3) := by decide +kernel
theorem dX12_dance_71 : decode cX12_dance 71 = .ok (.aload_n 0, 1) := by decide +kernel
theorem dX12_dance_72 : decode cX12_dance 72 = .ok (.iload 4, 2) := by decide +kernel
theorem dX12_dance_74 : decode cX12_dance 74 = .ok (.bipush 10, 2) := by decide +kernel
theorem dX12_dance_76 : decode cX12_dance 76 = .ok (.idiv, 1) := by decide +kernel
theorem dX12_dance_77 : decode cX12_dance 77 = .ok (.iload 4, 2) := by decide +kernel
theorem dX12_dance_79 : decode cX12_dance 79 = .ok (.bipush 10, 2) := by decide +kernel
theorem dX12_dance_81 : decode cX12_dance 81 = .ok (.irem, 1) := by decide +kernel
theorem dX12_dance_82 : decode cX12_dance 82 = .ok (.invokevirtual 261, 3) := by decide +kernel
theorem dX12_dance_85 : decode cX12_dance 85 = .ok (.ifCond .le 7, 3) := by decide +kernel
theorem dX12_dance_88 : decode cX12_dance 88 = .ok (.iconst 1, 1) := by decide +kernel
theorem dX12_dance_89 : decode cX12_dance 89 = .ok (.goto 4, 3) := by decide +kernel
theorem dX12_dance_92 : decode cX12_dance 92 = .ok (.iconst 0, 1) := by decide +kernel
theorem dX12_dance_93 : decode cX12_dance 93 = .ok (.istore_n 3, 1) := by decide +kernel
theorem dX12_dance_94 : decode cX12_dance 94 = .ok (.iload_n 2, 1) := by decide +kernel
theorem dX12_dance_95 : decode cX12_dance 95 = .ok (.iload_n 3, 1) := by decide +kernel
theorem dX12_dance_96 : decode cX12_dance 96 = .ok (.ifCond .eq 7, 3) := by decide +kernel
theorem dX12_dance_99 : decode cX12_dance 99 = .ok (.iconst 1, 1) := by decide +kernel
theorem dX12_dance_100 : decode cX12_dance 100 = .ok (.goto 4, 3) := by decide +kernel
theorem dX12_dance_103 : decode cX12_dance 103 = .ok (.iconst 0, 1) := by decide +kernel
theorem dX12_dance_104 : decode cX12_dance 104 = .ok (.iadd, 1) := by decide +kernel
theorem dX12_dance_105 : decode cX12_dance 105 = .ok (.istore_n 2, 1) := by decide +kernel
theorem dX12_dance_106 : decode cX12_dance 106 = .ok (.goto (-82), 3) := by decide +kernel
theorem dX12_dance_109 : decode cX12_dance 109 = .ok (.iload_n 2, 1) := by decide +kernel
theorem dX12_dance_110 : decode cX12_dance 110 = .ok (.ireturn, 1) := by decide +kernel
theorem dX12_stepOf_0 : decode cX12_stepOf 0 = .ok (.iload_n 1, 1) := by decide +kernel
theorem dX12_stepOf_1 : decode cX12_stepOf 1 = .ok (.ifCond .ge 12, 3) := by decide +kernel
theorem dX12_stepOf_4 : decode cX12_stepOf 4 = .ok (.aload_n 0, 1) := by decide +kernel
theorem dX12_stepOf_5 : decode cX12_stepOf 5 = .ok (.getfield 60, 3) := by decide +kernel
theorem dX12_stepOf_8 : decode cX12_stepOf 8 = .ok (.iload_n 2, 1) := by decide +kernel
theorem dX12_stepOf_9 : decode cX12_stepOf 9 = .ok (.iaload, 1) := by decide +kernel
theorem dX12_stepOf_10 : decode cX12_stepOf 10 = .ok (.goto 15, 3) := by decide +kernel
theorem dX12_stepOf_13 : decode cX12_stepOf 13 = .ok (.aload_n 0, 1) := by decide +kernel
theorem dX12_stepOf_14 : decode cX12_stepOf 14 = .ok (.getfield 99, 3) := by decide +kernel
theorem dX12_stepOf_17 : decode cX12_stepOf 17 = .ok (.sipush 300, 3) := by decide +kernel
theorem dX12_stepOf_20 : decode cX12_stepOf 20 = .ok (.iload_n 1, 1) := by decide +kernel
theorem dX12_stepOf_21 : decode cX12_stepOf 21 = .ok (.imul, 1) := by decide +kernel
theorem dX12_stepOf_22 : decode cX12_stepOf 22 = .ok (.iload_n 2, 1) := by decide +kernel
theorem dX12_stepOf_23 : decode cX12_stepOf 23 = .ok (.iadd, 1) := by decide +kernel
theorem dX12_stepOf_24 : decode cX12_stepOf 24 = .ok (.iaload, 1) := by decide +kernel
theorem dX12_stepOf_25 : decode cX12_stepOf 25 = .ok (.ireturn, 1) := by decide +kernel
theorem dX12_stepsOf_0 : decode cX12_stepsOf 0 = .ok (.iload_n 1, 1) := by decide +kernel
theorem dX12_stepsOf_1 : decode cX12_stepsOf 1 = .ok (.ifCond .ge 10, 3) := by decide +kernel
theorem dX12_stepsOf_4 : decode cX12_stepsOf 4 = .ok (.aload_n 0, 1) := by decide +kernel
theorem dX12_stepsOf_5 : decode cX12_stepsOf 5 = .ok (.getfield 54, 3) := by decide +kernel
theorem dX12_stepsOf_8 : decode cX12_stepsOf 8 = .ok (.goto 9, 3) := by decide +kernel
theorem dX12_stepsOf_11 : decode cX12_stepsOf 11 = .ok (.aload_n 0, 1) := by decide +kernel
theorem dX12_stepsOf_12 : decode cX12_stepsOf 12 = .ok (.getfield 96, 3) := by decide +kernel
theorem dX12_stepsOf_15 : decode cX12_stepsOf 15 = .ok (.iload_n 1, 1) := by decide +kernel
theorem dX12_stepsOf_16 : decode cX12_stepsOf 16 = .ok (.iaload, 1) := by decide +kernel
theorem dX12_stepsOf_17 : decode cX12_stepsOf 17 = .ok (.ireturn, 1) := by decide +kernel
theorem dX12_areFar_0 : decode cX12_areFar 0 = .ok (.aload_n 0, 1) := by decide +kernel
theorem dX12_areFar_1 : decode cX12_areFar 1 = .ok (.iload_n 1, 1) := by decide +kernel
theorem dX12_areFar_2 : decode cX12_areFar 2 = .ok (.iload_n 2, 1) := by decide +kernel
theorem dX12_areFar_3 : decode cX12_areFar 3 = .ok (.isub, 1) := by decide +kernel
theorem dX12_areFar_4 : decode cX12_areFar 4 = .ok (.invokevirtual 264, 3) := by decide +kernel
theorem dX12_areFar_7 : decode cX12_areFar 7 = .ok (.istore_n 3, 1) := by decide +kernel
theorem dX12_areFar_8 : decode cX12_areFar 8 = .ok (.iload_n 3, 1) := by decide +kernel
theorem dX12_areFar_9 : decode cX12_areFar 9 = .ok (.iconst 1, 1) := by decide +kernel
theorem dX12_areFar_10 : decode cX12_areFar 10 = .ok (.if_icmp .le 17, 3) := by decide +kernel
theorem dX12_areFar_13 : decode cX12_areFar 13 = .ok (.iload_n 3, 1) := by decide +kernel
theorem dX12_areFar_14 : decode cX12_areFar 14 = .ok (.aload_n 0, 1) := by decide +kernel
theorem dX12_areFar_15 : decode cX12_areFar 15 = .ok (.getfield 13, 3) := by decide +kernel
theorem dX12_areFar_18 : decode cX12_areFar 18 = .ok (.iconst 1, 1) := by decide +kernel
theorem dX12_areFar_19 : decode cX12_areFar 19 = .ok (.isub, 1) := by decide +kernel
theorem dX12_areFar_20 : decode cX12_areFar 20 = .ok (.if_icmp .ge 7, 3) := by decide +kernel
theorem dX12_areFar_23 : decode cX12_areFar 23 = .ok (.iconst 1, 1) := by decide +kernel
theorem dX12_areFar_24 : decode cX12_areFar 24 = .ok (.goto 4, 3) := by decide +kernel
theorem dX12_areFar_27 : decode cX12_areFar 27 = .ok (.iconst 0, 1) := by decide +kernel
theorem dX12_areFar_28 : decode cX12_areFar 28 = .ok (.ireturn, 1) := by decide +kernel
theorem dX12_findForm_0 : decode cX12_findForm 0 = .ok (.aload_n 0, 1) := by decide +kernel
theorem dX12_findForm_1 : decode cX12_findForm 1 = .ok (.iconst 0, 1) := by decide +kernel
theorem dX12_findForm_2 : decode cX12_findForm 2 = .ok (.putfield 126, 3) := by decide +kernel
theorem dX12_findForm_5 : decode cX12_findForm 5 = .ok (.aload_n 0, 1) := by decide +kernel
theorem dX12_findForm_6 : decode cX12_findForm 6 = .ok (.iconst 0, 1) := by decide +kernel
theorem dX12_findForm_7 : decode cX12_findForm 7 = .ok (.putfield 123, 3) := by decide +kernel
theorem dX12_findForm_10 : decode cX12_findForm 10 = .ok (.iconst 0, 1) := by decide +kernel
theorem dX12_findForm_11 : decode cX12_findForm 11 = .ok (.istore_n 2, 1) := by decide +kernel
theorem dX12_findForm_12 : decode cX12_findForm 12 = .ok (.iload_n 2, 1) := by decide +kernel
theorem dX12_findForm_13 : decode cX12_findForm 13 = .ok (.aload_n 0, 1) := by decide +kernel
theorem dX12_findForm_14 : decode cX12_findForm 14 = .ok (.iload_n 1, 1) := by decide +kernel
theorem dX12_findForm_15 : decode cX12_findForm 15 = .ok (.invokevirtual 267, 3) := by decide +kernel
theorem dX12_findForm_18 : decode cX12_findForm 18 = .ok (.if_icmp .ge 98, 3) := by decide +kernel
theorem dX12_findForm_21 : decode cX12_findForm 21 = .ok (.aload_n 0, 1) := by decide +kernel
theorem dX12_findForm_22 : decode cX12_findForm 22 = .ok (.iload_n 1, 1) := by decide +kernel
theorem dX12_findForm_23 : decode cX12_findForm 23 = .ok (.iload_n 2, 1) := by decide +kernel
theorem dX12_findForm_24 : decode cX12_findForm 24 = .ok (.invokevirtual 270, 3) := by decide +kernel
theorem dX12_findForm_27 : decode cX12_findForm 27 = .ok (.istore_n 3, 1) := by decide +kernel
theorem dX12_findForm_28 : decode cX12_findForm 28 = .ok (.iload_n 3, 1) := by decide +kernel
theorem dX12_findForm_29 : decode cX12_findForm 29 = .ok (.bipush 100, 2) := by decide +kernel
theorem dX12_findForm_31 : decode cX12_findForm 31 = .ok (.if_icmp .lt 26, 3) := by decide +kernel
theorem dX12_findForm_34 : decode cX12_findForm 34 = .ok (.aload_n 0, 1) := by decide +kernel
theorem dX12_findForm_35 : decode cX12_findForm 35 = .ok (.dup, 1) := by decide +kernel
theorem dX12_findForm_36 : decode cX12_findForm 36 = .ok (.getfield 126, 3) := by decide +kernel
theorem dX12_findForm_39 : decode cX12_findForm 39 = .ok (.iload_n 3, 1) := by decide +kernel
theorem dX12_findForm_40 : decode cX12_findForm 40 = .ok (.bipush 100, 2) := by decide +kernel
theorem dX12_findForm_42 : decode cX12_findForm 42 = .ok (.if_icmp .ne 7, 3) := by decide +kernel
theorem dX12_findForm_45 : decode cX12_findForm 45 = .ok (.iconst 1, 1) := by decide +kernel
theorem dX12_findForm_46 : decode cX12_findForm 46 = .ok (.goto 4, 3) := by decide +kernel
theorem dX12_findForm_49 : decode cX12_findForm 49 = .ok (.iconst (-1), 1) := by decide +kernel
theorem dX12_findForm_50 : decode cX12_findForm 50 = .ok (.iadd, 1) := by decide +kernel
theorem dX12_findForm_51 : decode cX12_findForm 51 = .ok (.putfield 126, 3) := by decide +kernel
theorem dX12_findForm_54 : decode cX12_findForm 54 = .ok (.goto 56, 3) := by decide +kernel
theorem dX12_findForm_57 : decode cX12_findForm 57 = .ok (.iload_n 3, 1) := by decide +kernel
theorem dX12_findForm_58 : decode cX12_findForm 58 = .ok (.bipush 10, 2) := by decide +kernel
theorem dX12_findForm_60 : decode cX12_findForm 60 = .ok (.idiv, 1) := by decide +kernel
theorem dX12_findForm_61 : decode cX12_findForm 61 = .ok (.aload_n 0, 1) := by decide +kernel
theorem dX12_findForm_62 : decode cX12_findForm 62 = .ok (.getfield 13, 3) := by decide +kernel
theorem dX12_findForm_65 : decode cX12_findForm 65 = .ok (.if_icmp .lt 5, 3) := by decide +kernel
theorem dX12_findForm_68 : decode cX12_findForm 68 = .ok (.iconst 0, 1) := by decide +kernel
theorem dX12_findForm_69 : decode cX12_findForm 69 = .ok (.ireturn, 1) := by decide +kernel
theorem dX12_findForm_70 : decode cX12_findForm 70 = .ok (.iload_n 3, 1) := by decide +kernel
theorem dX12_findForm_71 : decode cX12_findForm 71 = .ok (.bipush 10, 2) := by decide +kernel
theorem dX12_findForm_73 : decode cX12_findForm 73 = .ok (.idiv, 1) := by decide +kernel
theorem dX12_findForm_74 : decode cX12_findForm 74 = .ok (.aload_n 0, 1) := by decide +kernel
theorem dX12_findForm_75 : decode cX12_findForm 75 = .ok (.getfield 126, 3) := by decide +kernel
theorem dX12_findForm_78 : decode cX12_findForm 78 = .ok (.isub, 1) := by decide +kernel
theorem dX12_findForm_79 : decode cX12_findForm 79 = .ok (.aload_n 0, 1) := by decide +kernel
theorem dX12_findForm_80 : decode cX12_findForm 80 = .ok (.getfield 13, 3) := by decide +kernel
theorem dX12_findForm_83 : decode cX12_findForm 83 = .ok (.irem, 1) := by decide +kernel
theorem dX12_findForm_84 : decode cX12_findForm 84 = .ok (.aload_n 0, 1) := by decide +kernel
theorem dX12_findForm_85 : decode cX12_findForm 85 = .ok (.getfield 13, 3) := by decide +kernel
theorem dX12_findForm_88 : decode cX12_findForm 88 = .ok (.iadd, 1) := by decide +kernel
theorem dX12_findForm_89 : decode cX12_findForm 89 = .ok (.aload_n 0, 1) := by decide +kernel
theorem dX12_findForm_90 : decode cX12_findForm 90 = .ok (.getfield 13, 3) := by decide +kernel
theorem dX12_findForm_93 : decode cX12_findForm 93 = .ok (.irem, 1) := by decide +kernel
theorem dX12_findForm_94 : decode cX12_findForm 94 = .ok (.istore 4, 2) := by decide +kernel
theorem dX12_findForm_96 : decode cX12_findForm 96 = .ok (.aload_n 0, 1) := by decide +kernel
theorem dX12_findForm_97 : decode cX12_findForm 97 = .ok (.bipush 10, 2) := by decide +kernel
theorem dX12_findForm_99 : decode cX12_findForm 99 = .ok (.iload 4, 2) := by decide +kernel
theorem dX12_findForm_101 : decode cX12_findForm 101 = .ok (.imul, 1) := by decide +kernel
theorem dX12_findForm_102 : decode cX12_findForm 102 = .ok (.iload_n 3, 1) := by decide +kernel
theorem dX12_findForm_103 : decode cX12_findForm 103 = .ok (.bipush 10, 2) := by decide +kernel
theorem dX12_findForm_105 : decode cX12_findForm 105 = .ok (.irem, 1) := by decide +kernel
theorem dX12_findForm_106 : decode cX12_findForm 106 = .ok (.iadd, 1) := by decide +kernel
theorem dX12_findForm_107 : decode cX12_findForm 107 = .ok (.invokevirtual 273, 3) := by decide +kernel
theorem dX12_findForm_110 : decode cX12_findForm 110 = .ok (.iinc 2 1, 3) := by decide +kernel
theorem dX12_findForm_113 : decode cX12_findForm 113 = .ok (.goto (-101), 3) := by decide +kernel
theorem dX12_findForm_116 : decode cX12_findForm 116 = .ok (.iconst 0, 1) := by decide +kernel
theorem dX12_findForm_117 : decode cX12_findForm 117 = .ok (.istore_n 2, 1) := by decide +kernel
theorem dX12_findForm_118 : decode cX12_findForm 118 = .ok (.iload_n 2, 1) := by decide +kernel
theorem dX12_findForm_119 : decode cX12_findForm 119 = .ok (.aload_n 0, 1) := by decide +kernel
theorem dX12_findForm_120 : decode cX12_findForm 120 = .ok (.getfield 123, 3) := by decide +kernel
theorem dX12_findForm_123 : decode cX12_findForm 123 = .ok (.if_icmp .ge 14, 3) := by decide +kernel
theorem dX12_findForm_126 : decode cX12_findForm 126 = .ok (.aload_n 0, 1) := by decide +kernel
theorem dX12_findForm_127 : decode cX12_findForm 127 = .ok (.iload_n 2, 1) := by decide +kernel
theorem dX12_findForm_128 : decode cX12_findForm 128 = .ok (.invokevirtual 276, 3) := by decide +kernel
theorem dX12_findForm_131 : decode cX12_findForm 131 = .ok (.iinc 2 1, 3) := by decide +kernel
theorem dX12_findForm_134 : decode cX12_findForm 134 = .ok (.goto (-16), 3) := by decide +kernel
theorem dX12_findForm_137 : decode cX12_findForm 137 = .ok (.iconst 1, 1) := by decide +kernel
theorem dX12_findForm_138 : decode cX12_findForm 138 = .ok (.ireturn, 1) := by decide +kernel
theorem dX12_take_0 : decode cX12_take 0 = .ok (.aload_n 0, 1) := by decide +kernel
theorem dX12_take_1 : decode cX12_take 1 = .ok (.getfield 123, 3) := by decide +kernel
theorem dX12_take_4 : decode cX12_take 4 = .ok (.iconst 1, 1) := by decide +kernel
theorem dX12_take_5 : decode cX12_take 5 = .ok (.isub, 1) := by decide +kernel
theorem dX12_take_6 : decode cX12_take 6 = .ok (.istore_n 2, 1) := by decide +kernel
theorem dX12_take_7 : decode cX12_take 7 = .ok (.iload_n 2, 1) := by decide +kernel
theorem dX12_take_8 : decode cX12_take 8 = .ok (.ifCond .lt 29, 3) := by decide +kernel
theorem dX12_take_11 : decode cX12_take 11 = .ok (.aload_n 0, 1) := by decide +kernel
theorem dX12_take_12 : decode cX12_take 12 = .ok (.aload_n 0, 1) := by decide +kernel
theorem dX12_take_13 : decode cX12_take 13 = .ok (.getfield 117, 3) := by decide +kernel
theorem dX12_take_16 : decode cX12_take 16 = .ok (.iload_n 2, 1) := by decide +kernel
theorem dX12_take_17 : decode cX12_take 17 = .ok (.iaload, 1) := by decide +kernel
theorem dX12_take_18 : decode cX12_take 18 = .ok (.bipush 10, 2) := by decide +kernel
theorem dX12_take_20 : decode cX12_take 20 = .ok (.idiv, 1) := by decide +kernel
theorem dX12_take_21 : decode cX12_take 21 = .ok (.iload_n 1, 1) := by decide +kernel
theorem dX12_take_22 : decode cX12_take 22 = .ok (.bipush 10, 2) := by decide +kernel
theorem dX12_take_24 : decode cX12_take 24 = .ok (.idiv, 1) := by decide +kernel
theorem dX12_take_25 : decode cX12_take 25 = .ok (.invokevirtual 279, 3) := by decide +kernel
theorem dX12_take_28 : decode cX12_take 28 = .ok (.ifCond .eq 9, 3) := by decide +kernel
theorem dX12_take_31 : decode cX12_take 31 = .ok (.iinc 2 (-1), 3) := by decide +kernel
theorem dX12_take_34 : decode cX12_take 34 = .ok (.goto (-27), 3) := by decide +kernel
theorem dX12_take_37 : decode cX12_take 37 = .ok (.iload_n 2, 1) := by decide +kernel
theorem dX12_take_38 : decode cX12_take 38 = .ok (.ifCond .lt 56, 3) := by decide +kernel
theorem dX12_take_41 : decode cX12_take 41 = .ok (.aload_n 0, 1) := by decide +kernel
theorem dX12_take_42 : decode cX12_take 42 = .ok (.getfield 117, 3) := by decide +kernel
theorem dX12_take_45 : decode cX12_take 45 = .ok (.iload_n 2, 1) := by decide +kernel
theorem dX12_take_46 : decode cX12_take 46 = .ok (.iaload, 1) := by decide +kernel
theorem dX12_take_47 : decode cX12_take 47 = .ok (.iload_n 1, 1) := by decide +kernel
theorem dX12_take_48 : decode cX12_take 48 = .ok (.iconst 1, 1) := by decide +kernel
theorem dX12_take_49 : decode cX12_take 49 = .ok (.ixor, 1) := by decide +kernel
theorem dX12_take_50 : decode cX12_take 50 = .ok (.if_icmp .ne 44, 3) := by decide +kernel
theorem dX12_take_53 : decode cX12_take 53 = .ok (.aload_n 0, 1) := by decide +kernel
theorem dX12_take_54 : decode cX12_take 54 = .ok (.dup, 1) := by decide +kernel
theorem dX12_take_55 : decode cX12_take 55 = .ok (.getfield 123, 3) := by decide +kernel
theorem dX12_take_58 : decode cX12_take 58 = .ok (.iconst 1, 1) := by decide +kernel
theorem dX12_take_59 : decode cX12_take 59 = .ok (.isub, 1) := by decide +kernel
theorem dX12_take_60 : decode cX12_take 60 = .ok (.putfield 123, 3) := by decide +kernel
theorem dX12_take_63 : decode cX12_take 63 = .ok (.iload_n 2, 1) := by decide +kernel
theorem dX12_take_64 : decode cX12_take 64 = .ok (.istore_n 3, 1) := by decide +kernel
theorem dX12_take_65 : decode cX12_take 65 = .ok (.iload_n 3, 1) := by decide +kernel
theorem dX12_take_66 : decode cX12_take 66 = .ok (.aload_n 0, 1) := by decide +kernel
theorem dX12_take_67 : decode cX12_take 67 = .ok (.getfield 123, 3) := by decide +kernel
theorem dX12_take_70 : decode cX12_take 70 = .ok (.if_icmp .ge 23, 3) := by decide +kernel
theorem dX12_take_73 : decode cX12_take 73 = .ok (.aload_n 0, 1) := by decide +kernel
theorem dX12_take_74 : decode cX12_take 74 = .ok (.getfield 117, 3) := by decide +kernel
theorem dX12_take_77 : decode cX12_take 77 = .ok (.iload_n 3, 1) := by decide +kernel
theorem dX12_take_78 : decode cX12_take 78 = .ok (.aload_n 0, 1) := by decide +kernel
theorem dX12_take_79 : decode cX12_take 79 = .ok (.getfield 117, 3) := by decide +kernel
theorem dX12_take_82 : decode cX12_take 82 = .ok (.iload_n 3, 1) := by decide +kernel
theorem dX12_take_83 : decode cX12_take 83 = .ok (.iconst 1, 1) := by decide +kernel
theorem dX12_take_84 : decode cX12_take 84 = .ok (.iadd, 1) := by decide +kernel
theorem dX12_take_85 : decode cX12_take 85 = .ok (.iaload, 1) := by decide +kernel
theorem dX12_take_86 : decode cX12_take 86 = .ok (.iastore, 1) := by decide +kernel
theorem dX12_take_87 : decode cX12_take 87 = .ok (.iinc 3 1, 3) := by decide +kernel
theorem dX12_take_90 : decode cX12_take 90 = .ok (.goto (-25), 3) := by decide +kernel
theorem dX12_take_93 : decode cX12_take 93 = .ok (.return_, 1) := by decide +kernel
theorem dX12_take_94 : decode cX12_take 94 = .ok (.aload_n 0, 1) := by decide +kernel
theorem dX12_take_95 : decode cX12_take 95 = .ok (.getfield 117, 3) := by decide +kernel
theorem dX12_take_98 : decode cX12_take 98 = .ok (.aload_n 0, 1) := by decide +kernel
theorem dX12_take_99 : decode cX12_take 99 = .ok (.getfield 123, 3) := by decide +kernel
theorem dX12_take_102 : decode cX12_take 102 = .ok (.iload_n 1, 1) := by decide +kernel
theorem dX12_take_103 : decode cX12_take 103 = .ok (.iastore, 1) := by decide +kernel
theorem dX12_take_104 : decode cX12_take 104 = .ok (.aload_n 0, 1) := by decide +kernel
theorem dX12_take_105 : decode cX12_take 105 = .ok (.dup, 1) := by decide +kernel
theorem dX12_take_106 : decode cX12_take 106 = .ok (.getfield 123, 3) := by decide +kernel
theorem dX12_take_109 : decode cX12_take 109 = .ok (.iconst 1, 1) := by decide +kernel
theorem dX12_take_110 : decode cX12_take 110 = .ok (.iadd, 1) := by decide +kernel
theorem dX12_take_111 : decode cX12_take 111 = .ok (.putfield 123, 3) := by decide +kernel
theorem dX12_take_114 : decode cX12_take 114 = .ok (.return_, 1) := by decide +kernel
theorem dX12_bringLeast_0 : decode cX12_bringLeast 0 = .ok (.iload_n 1, 1) := by decide +kernel
theorem dX12_bringLeast_1 : decode cX12_bringLeast 1 = .ok (.istore_n 2, 1) := by decide +kernel
theorem dX12_bringLeast_2 : decode cX12_bringLeast 2 = .ok (.iload_n 1, 1) := by decide +kernel
theorem dX12_bringLeast_3 : decode cX12_bringLeast 3 = .ok (.iconst 1, 1) := by decide +kernel
theorem dX12_bringLeast_4 : decode cX12_bringLeast 4 = .ok (.iadd, 1) := by decide +kernel
theorem dX12_bringLeast_5 : decode cX12_bringLeast 5 = .ok (.istore_n 3, 1) := by decide +kernel
theorem dX12_bringLeast_6 : decode cX12_bringLeast 6 = .ok (.iload_n 3, 1) := by decide +kernel
theorem dX12_bringLeast_7 : decode cX12_bringLeast 7 = .ok (.aload_n 0, 1) := by decide +kernel
theorem dX12_bringLeast_8 : decode cX12_bringLeast 8 = .ok (.getfield 123, 3) := by decide +kernel
theorem dX12_bringLeast_11 : decode cX12_bringLeast 11 = .ok (.if_icmp .ge 91, 3) := by decide +kernel
theorem dX12_bringLeast_14 : decode cX12_bringLeast 14 = .ok (.aload_n 0, 1) := by decide +kernel
theorem dX12_bringLeast_15 : decode cX12_bringLeast 15 = .ok (.getfield 117, 3) := by decide +kernel
theorem dX12_bringLeast_18 : decode cX12_bringLeast 18 = .ok (.iload_n 3, 1) := by decide +kernel
theorem dX12_bringLeast_19 : decode cX12_bringLeast 19 = .ok (.iaload, 1) := by decide +kernel
theorem dX12_bringLeast_20 : decode cX12_bringLeast 20 = .ok (.aload_n 0, 1) := by decide +kernel
theorem dX12_bringLeast_21 : decode cX12_bringLeast 21 = .ok (.getfield 117, 3) := by decide +kernel
theorem dX12_bringLeast_24 : decode cX12_bringLeast 24 = .ok (.iload_n 2, 1) := by decide +kernel
theorem dX12_bringLeast_25 : decode cX12_bringLeast 25 = .ok (.iaload, 1) := by decide +kernel
theorem dX12_bringLeast_26 : decode cX12_bringLeast 26 = .ok (.if_icmp .ge 7, 3) := by decide +kernel
theorem dX12_bringLeast_29 : decode cX12_bringLeast 29 = .ok (.iconst 1, 1) := by decide +kernel
theorem dX12_bringLeast_30 : decode cX12_bringLeast 30 = .ok (.goto 4, 3) := by decide +kernel
theorem dX12_bringLeast_33 : decode cX12_bringLeast 33 = .ok (.iconst 0, 1) := by decide +kernel
theorem dX12_bringLeast_34 : decode cX12_bringLeast 34 = .ok (.istore 4, 2) := by decide +kernel
theorem dX12_bringLeast_36 : decode cX12_bringLeast 36 = .ok (.iload_n 1, 1) := by decide +kernel
theorem dX12_bringLeast_37 : decode cX12_bringLeast 37 = .ok (.istore 5, 2) := by decide +kernel
theorem dX12_bringLeast_39 : decode cX12_bringLeast 39 = .ok (.iload 5, 2) := by decide +kernel
theorem dX12_bringLeast_41 : decode cX12_bringLeast 41 = .ok (.iload_n 3, 1) := by decide +kernel
theorem dX12_bringLeast_42 : decode cX12_bringLeast 42 = .ok (.if_icmp .ge 47, 3) := by decide +kernel
theorem dX12_bringLeast_45 : decode cX12_bringLeast 45 = .ok (.iload 4, 2) := by decide +kernel
theorem dX12_bringLeast_47 : decode cX12_bringLeast 47 = .ok (.ifCond .eq 33, 3) := by decide +kernel
theorem dX12_bringLeast_50 : decode cX12_bringLeast 50 = .ok (.aload_n 0, 1) := by decide +kernel
theorem dX12_bringLeast_51 : decode cX12_bringLeast 51 = .ok (.aload_n 0, 1) := by decide +kernel
theorem dX12_bringLeast_52 : decode cX12_bringLeast 52 = .ok (.getfield 117, 3) := by decide +kernel
theorem dX12_bringLeast_55 : decode cX12_bringLeast 55 = .ok (.iload 5, 2) := by decide +kernel
theorem dX12_bringLeast_57 : decode cX12_bringLeast 57 = .ok (.iaload, 1) := by decide +kernel
theorem dX12_bringLeast_58 : decode cX12_bringLeast 58 = .ok (.bipush 10, 2) := by decide +kernel
theorem dX12_bringLeast_60 : decode cX12_bringLeast 60 = .ok (.idiv, 1) := by decide +kernel
theorem dX12_bringLeast_61 : decode cX12_bringLeast 61 = .ok (.aload_n 0, 1) := by decide +kernel
theorem dX12_bringLeast_62 : decode cX12_bringLeast 62 = .ok (.getfield 117, 3) := by decide +kernel
theorem dX12_bringLeast_65 : decode cX12_bringLeast 65 = .ok (.iload_n 3, 1) := by decide +kernel
theorem dX12_bringLeast_66 : decode cX12_bringLeast 66 = .ok (.iaload, 1) := by decide +kernel
theorem dX12_bringLeast_67 : decode cX12_bringLeast 67 = .ok (.bipush 10, 2) := by decide +kernel
theorem dX12_bringLeast_69 : decode cX12_bringLeast 69 = .ok (.idiv, 1) := by decide +kernel
theorem dX12_bringLeast_70 : decode cX12_bringLeast 70 = .ok (.invokevirtual 279, 3) := by decide +kernel
theorem dX12_bringLeast_73 : decode cX12_bringLeast 73 = .ok (.ifCond .eq 7, 3) := by decide +kernel
theorem dX12_bringLeast_76 : decode cX12_bringLeast 76 = .ok (.iconst 1, 1) := by decide +kernel
theorem dX12_bringLeast_77 : decode cX12_bringLeast 77 = .ok (.goto 4, 3) := by decide +kernel
theorem dX12_bringLeast_80 : decode cX12_bringLeast 80 = .ok (.iconst 0, 1) := by decide +kernel
theorem dX12_bringLeast_81 : decode cX12_bringLeast 81 = .ok (.istore 4, 2) := by decide +kernel
theorem dX12_bringLeast_83 : decode cX12_bringLeast 83 = .ok (.iinc 5 1, 3) := by decide +kernel
theorem dX12_bringLeast_86 : decode cX12_bringLeast 86 = .ok (.goto (-47), 3) := by decide +kernel
theorem dX12_bringLeast_89 : decode cX12_bringLeast 89 = .ok (.iload 4, 2) := by decide +kernel
theorem dX12_bringLeast_91 : decode cX12_bringLeast 91 = .ok (.ifCond .eq 5, 3) := by decide +kernel
theorem dX12_bringLeast_94 : decode cX12_bringLeast 94 = .ok (.iload_n 3, 1) := by decide +kernel
theorem dX12_bringLeast_95 : decode cX12_bringLeast 95 = .ok (.istore_n 2, 1) := by decide +kernel
theorem dX12_bringLeast_96 : decode cX12_bringLeast 96 = .ok (.iinc 3 1, 3) := by decide +kernel
theorem dX12_bringLeast_99 : decode cX12_bringLeast 99 = .ok (.goto (-93), 3) := by decide +kernel
theorem dX12_bringLeast_102 : decode cX12_bringLeast 102 = .ok (.aload_n 0, 1) := by decide +kernel
theorem dX12_bringLeast_103 : decode cX12_bringLeast 103 = .ok (.getfield 117, 3) := by decide +kernel
theorem dX12_bringLeast_106 : decode cX12_bringLeast 106 = .ok (.iload_n 2, 1) := by decide +kernel
theorem dX12_bringLeast_107 : decode cX12_bringLeast 107 = .ok (.iaload, 1) := by decide +kernel
theorem dX12_bringLeast_108 : decode cX12_bringLeast 108 = .ok (.istore_n 3, 1) := by decide +kernel
theorem dX12_bringLeast_109 : decode cX12_bringLeast 109 = .ok (.iload_n 2, 1) := by decide +kernel
theorem dX12_bringLeast_110 : decode cX12_bringLeast 110 = .ok (.istore 4, 2) := by decide +kernel
theorem dX12_bringLeast_112 : decode cX12_bringLeast 112 = .ok (.iload 4, 2) := by decide +kernel
theorem dX12_bringLeast_114 : decode cX12_bringLeast 114 = .ok (.iload_n 1, 1) := by decide +kernel
theorem dX12_bringLeast_115 : decode cX12_bringLeast 115 = .ok (.if_icmp .le 25, 3) := by decide +kernel
theorem dX12_bringLeast_118 : decode cX12_bringLeast 118 = .ok (.aload_n 0, 1) := by decide +kernel
theorem dX12_bringLeast_119 : decode cX12_bringLeast 119 = .ok (.getfield 117, 3) := by decide +kernel
theorem dX12_bringLeast_122 : decode cX12_bringLeast 122 = .ok (.iload 4, 2) := by decide +kernel
theorem dX12_bringLeast_124 : decode cX12_bringLeast 124 = .ok (.aload_n 0, 1) := by decide +kernel
theorem dX12_bringLeast_125 : decode cX12_bringLeast 125 = .ok (.getfield 117, 3) := by decide +kernel
theorem dX12_bringLeast_128 : decode cX12_bringLeast 128 = .ok (.iload 4, 2) := by decide +kernel
theorem dX12_bringLeast_130 : decode cX12_bringLeast 130 = .ok (.iconst 1, 1) := by decide +kernel
theorem dX12_bringLeast_131 : decode cX12_bringLeast 131 = .ok (.isub, 1) := by decide +kernel
theorem dX12_bringLeast_132 : decode cX12_bringLeast 132 = .ok (.iaload, 1) := by decide +kernel
theorem dX12_bringLeast_133 : decode cX12_bringLeast 133 = .ok (.iastore, 1) := by decide +kernel
theorem dX12_bringLeast_134 : decode cX12_bringLeast 134 = .ok (.iinc 4 (-1), 3) := by decide +kernel
theorem dX12_bringLeast_137 : decode cX12_bringLeast 137 = .ok (.goto (-25), 3) := by decide +kernel
theorem dX12_bringLeast_140 : decode cX12_bringLeast 140 = .ok (.aload_n 0, 1) := by decide +kernel
theorem dX12_bringLeast_141 : decode cX12_bringLeast 141 = .ok (.getfield 117, 3) := by decide +kernel
theorem dX12_bringLeast_144 : decode cX12_bringLeast 144 = .ok (.iload_n 1, 1) := by decide +kernel
theorem dX12_bringLeast_145 : decode cX12_bringLeast 145 = .ok (.iload_n 3, 1) := by decide +kernel
theorem dX12_bringLeast_146 : decode cX12_bringLeast 146 = .ok (.iastore, 1) := by decide +kernel
theorem dX12_bringLeast_147 : decode cX12_bringLeast 147 = .ok (.return_, 1) := by decide +kernel
theorem dX12_form_0 : decode cX12_form 0 = .ok (.iload_n 1, 1) := by decide +kernel
theorem dX12_form_1 : decode cX12_form 1 = .ok (.iconst (-1), 1) := by decide +kernel
theorem dX12_form_2 : decode cX12_form 2 = .ok (.if_icmp .eq 11, 3) := by decide +kernel
theorem dX12_form_5 : decode cX12_form 5 = .ok (.aload_n 0, 1) := by decide +kernel
theorem dX12_form_6 : decode cX12_form 6 = .ok (.iload_n 1, 1) := by decide +kernel
theorem dX12_form_7 : decode cX12_form 7 = .ok (.invokevirtual 244, 3) := by decide +kernel
theorem dX12_form_10 : decode cX12_form 10 = .ok (.ifCond .eq 9, 3) := by decide +kernel
theorem dX12_form_13 : decode cX12_form 13 = .ok (.iload_n 2, 1) := by decide +kernel
theorem dX12_form_14 : decode cX12_form 14 = .ok (.bipush (-2), 2) := by decide +kernel
theorem dX12_form_16 : decode cX12_form 16 = .ok (.if_icmp .ge 6, 3) := by decide +kernel
theorem dX12_form_19 : decode cX12_form 19 = .ok (.bipush (-99), 2) := by decide +kernel
theorem dX12_form_21 : decode cX12_form 21 = .ok (.ireturn, 1) := by decide +kernel
theorem dX12_form_22 : decode cX12_form 22 = .ok (.aload_n 0, 1) := by decide +kernel
theorem dX12_form_23 : decode cX12_form 23 = .ok (.getfield 13, 3) := by decide +kernel
theorem dX12_form_26 : decode cX12_form 26 = .ok (.ifCond .ne 6, 3) := by decide +kernel
theorem dX12_form_29 : decode cX12_form 29 = .ok (.bipush (-98), 2) := by decide +kernel
theorem dX12_form_31 : decode cX12_form 31 = .ok (.ireturn, 1) := by decide +kernel
theorem dX12_form_32 : decode cX12_form 32 = .ok (.aload_n 0, 1) := by decide +kernel
theorem dX12_form_33 : decode cX12_form 33 = .ok (.iload_n 1, 1) := by decide +kernel
theorem dX12_form_34 : decode cX12_form 34 = .ok (.invokevirtual 282, 3) := by decide +kernel
theorem dX12_form_37 : decode cX12_form 37 = .ok (.ifCond .ne 6, 3) := by decide +kernel
theorem dX12_form_40 : decode cX12_form 40 = .ok (.bipush (-97), 2) := by decide +kernel
theorem dX12_form_42 : decode cX12_form 42 = .ok (.ireturn, 1) := by decide +kernel
theorem dX12_form_43 : decode cX12_form 43 = .ok (.iload_n 2, 1) := by decide +kernel
theorem dX12_form_44 : decode cX12_form 44 = .ok (.bipush (-2), 2) := by decide +kernel
theorem dX12_form_46 : decode cX12_form 46 = .ok (.if_icmp .ne 10, 3) := by decide +kernel
theorem dX12_form_49 : decode cX12_form 49 = .ok (.aload_n 0, 1) := by decide +kernel
theorem dX12_form_50 : decode cX12_form 50 = .ok (.getfield 126, 3) := by decide +kernel
theorem dX12_form_53 : decode cX12_form 53 = .ok (.goto 34, 3) := by decide +kernel
theorem dX12_form_56 : decode cX12_form 56 = .ok (.iload_n 2, 1) := by decide +kernel
theorem dX12_form_57 : decode cX12_form 57 = .ok (.iconst (-1), 1) := by decide +kernel
theorem dX12_form_58 : decode cX12_form 58 = .ok (.if_icmp .ne 10, 3) := by decide +kernel
theorem dX12_form_61 : decode cX12_form 61 = .ok (.aload_n 0, 1) := by decide +kernel
theorem dX12_form_62 : decode cX12_form 62 = .ok (.getfield 123, 3) := by decide +kernel
theorem dX12_form_65 : decode cX12_form 65 = .ok (.goto 22, 3) := by decide +kernel
theorem dX12_form_68 : decode cX12_form 68 = .ok (.iload_n 2, 1) := by decide +kernel
theorem dX12_form_69 : decode cX12_form 69 = .ok (.aload_n 0, 1) := by decide +kernel
theorem dX12_form_70 : decode cX12_form 70 = .ok (.getfield 123, 3) := by decide +kernel
theorem dX12_form_73 : decode cX12_form 73 = .ok (.if_icmp .ge 12, 3) := by decide +kernel
theorem dX12_form_76 : decode cX12_form 76 = .ok (.aload_n 0, 1) := by decide +kernel
theorem dX12_form_77 : decode cX12_form 77 = .ok (.getfield 117, 3) := by decide +kernel
theorem dX12_form_80 : decode cX12_form 80 = .ok (.iload_n 2, 1) := by decide +kernel
theorem dX12_form_81 : decode cX12_form 81 = .ok (.iaload, 1) := by decide +kernel
theorem dX12_form_82 : decode cX12_form 82 = .ok (.goto 5, 3) := by decide +kernel
theorem dX12_form_85 : decode cX12_form 85 = .ok (.bipush (-99), 2) := by decide +kernel
theorem dX12_form_87 : decode cX12_form 87 = .ok (.ireturn, 1) := by decide +kernel
theorem dX12_akin_0 : decode cX12_akin 0 = .ok (.iload_n 1, 1) := by decide +kernel
theorem dX12_akin_1 : decode cX12_akin 1 = .ok (.iconst (-1), 1) := by decide +kernel
theorem dX12_akin_2 : decode cX12_akin 2 = .ok (.if_icmp .eq 11, 3) := by decide +kernel
theorem dX12_akin_5 : decode cX12_akin 5 = .ok (.aload_n 0, 1) := by decide +kernel
theorem dX12_akin_6 : decode cX12_akin 6 = .ok (.iload_n 1, 1) := by decide +kernel
theorem dX12_akin_7 : decode cX12_akin 7 = .ok (.invokevirtual 244, 3) := by decide +kernel
theorem dX12_akin_10 : decode cX12_akin 10 = .ok (.ifCond .eq 16, 3) := by decide +kernel
theorem dX12_akin_13 : decode cX12_akin 13 = .ok (.iload_n 2, 1) := by decide +kernel
theorem dX12_akin_14 : decode cX12_akin 14 = .ok (.iconst (-1), 1) := by decide +kernel
theorem dX12_akin_15 : decode cX12_akin 15 = .ok (.if_icmp .eq 13, 3) := by decide +kernel
theorem dX12_akin_18 : decode cX12_akin 18 = .ok (.aload_n 0, 1) := by decide +kernel
theorem dX12_akin_19 : decode cX12_akin 19 = .ok (.iload_n 2, 1) := by decide +kernel
theorem dX12_akin_20 : decode cX12_akin 20 = .ok (.invokevirtual 244, 3) := by decide +kernel
theorem dX12_akin_23 : decode cX12_akin 23 = .ok (.ifCond .ne 5, 3) := by decide +kernel
theorem dX12_akin_26 : decode cX12_akin 26 = .ok (.iconst (-1), 1) := by decide +kernel
theorem dX12_akin_27 : decode cX12_akin 27 = .ok (.ireturn, 1) := by decide +kernel
theorem dX12_akin_28 : decode cX12_akin 28 = .ok (.aload_n 0, 1) := by decide +kernel
theorem dX12_akin_29 : decode cX12_akin 29 = .ok (.getfield 13, 3) := by decide +kernel
theorem dX12_akin_32 : decode cX12_akin 32 = .ok (.ifCond .eq 11, 3) := by decide +kernel
theorem dX12_akin_35 : decode cX12_akin 35 = .ok (.aload_n 0, 1) := by decide +kernel
theorem dX12_akin_36 : decode cX12_akin 36 = .ok (.iload_n 1, 1) := by decide +kernel
theorem dX12_akin_37 : decode cX12_akin 37 = .ok (.invokevirtual 282, 3) := by decide +kernel
theorem dX12_akin_40 : decode cX12_akin 40 = .ok (.ifCond .ne 6, 3) := by decide +kernel
theorem dX12_akin_43 : decode cX12_akin 43 = .ok (.bipush (-3), 2) := by decide +kernel
theorem dX12_akin_45 : decode cX12_akin 45 = .ok (.ireturn, 1) := by decide +kernel
theorem dX12_akin_46 : decode cX12_akin 46 = .ok (.aload_n 0, 1) := by decide +kernel
theorem dX12_akin_47 : decode cX12_akin 47 = .ok (.getfield 126, 3) := by decide +kernel
theorem dX12_akin_50 : decode cX12_akin 50 = .ok (.istore_n 3, 1) := by decide +kernel
theorem dX12_akin_51 : decode cX12_akin 51 = .ok (.aload_n 0, 1) := by decide +kernel
theorem dX12_akin_52 : decode cX12_akin 52 = .ok (.getfield 123, 3) := by decide +kernel
theorem dX12_akin_55 : decode cX12_akin 55 = .ok (.istore 4, 2) := by decide +kernel
theorem dX12_akin_57 : decode cX12_akin 57 = .ok (.iconst 0, 1) := by decide +kernel
theorem dX12_akin_58 : decode cX12_akin 58 = .ok (.istore 5, 2) := by decide +kernel
theorem dX12_akin_60 : decode cX12_akin 60 = .ok (.iload 5, 2) := by decide +kernel
theorem dX12_akin_62 : decode cX12_akin 62 = .ok (.iload 4, 2) := by decide +kernel
theorem dX12_akin_64 : decode cX12_akin 64 = .ok (.if_icmp .ge 23, 3) := by decide +kernel
theorem dX12_akin_67 : decode cX12_akin 67 = .ok (.aload_n 0, 1) := by decide +kernel
theorem dX12_akin_68 : decode cX12_akin 68 = .ok (.getfield 120, 3) := by decide +kernel
theorem dX12_akin_71 : decode cX12_akin 71 = .ok (.iload 5, 2) := by decide +kernel
theorem dX12_akin_73 : decode cX12_akin 73 = .ok (.aload_n 0, 1) := by decide +kernel
theorem dX12_akin_74 : decode cX12_akin 74 = .ok (.getfield 117, 3) := by decide +kernel
theorem dX12_akin_77 : decode cX12_akin 77 = .ok (.iload 5, 2) := by decide +kernel
theorem dX12_akin_79 : decode cX12_akin 79 = .ok (.iaload, 1) := by decide +kernel
theorem dX12_akin_80 : decode cX12_akin 80 = .ok (.iastore, 1) := by decide +kernel
theorem dX12_akin_81 : decode cX12_akin 81 = .ok (.iinc 5 1, 3) := by decide +kernel
theorem dX12_akin_84 : decode cX12_akin 84 = .ok (.goto (-24), 3) := by decide +kernel
theorem dX12_akin_87 : decode cX12_akin 87 = .ok (.aload_n 0, 1) := by decide +kernel
theorem dX12_akin_88 : decode cX12_akin 88 = .ok (.iload_n 2, 1) := by decide +kernel
theorem dX12_akin_89 : decode cX12_akin 89 = .ok (.invokevirtual 282, 3) := by decide +kernel
theorem dX12_akin_92 : decode cX12_akin 92 = .ok (.ifCond .ne 6, 3) := by decide +kernel
theorem dX12_akin_95 : decode cX12_akin 95 = .ok (.bipush (-3), 2) := by decide +kernel
theorem dX12_akin_97 : decode cX12_akin 97 = .ok (.ireturn, 1) := by decide +kernel
theorem dX12_akin_98 : decode cX12_akin 98 = .ok (.iload_n 3, 1) := by decide +kernel
theorem dX12_akin_99 : decode cX12_akin 99 = .ok (.aload_n 0, 1) := by decide +kernel
theorem dX12_akin_100 : decode cX12_akin 100 = .ok (.getfield 126, 3) := by decide +kernel
theorem dX12_akin_103 : decode cX12_akin 103 = .ok (.if_icmp .ne 16, 3) := by decide +kernel
theorem dX12_akin_106 : decode cX12_akin 106 = .ok (.iload 4, 2) := by decide +kernel
theorem dX12_akin_108 : decode cX12_akin 108 = .ok (.aload_n 0, 1) := by decide +kernel
theorem dX12_akin_109 : decode cX12_akin 109 = .ok (.getfield 123, 3) := by decide +kernel
theorem dX12_akin_112 : decode cX12_akin 112 = .ok (.if_icmp .ne 7, 3) := by decide +kernel
theorem dX12_akin_115 : decode cX12_akin 115 = .ok (.iconst 1, 1) := by decide +kernel
theorem dX12_akin_116 : decode cX12_akin 116 = .ok (.goto 4, 3) := by decide +kernel
theorem dX12_akin_119 : decode cX12_akin 119 = .ok (.iconst 0, 1) := by decide +kernel
theorem dX12_akin_120 : decode cX12_akin 120 = .ok (.istore 5, 2) := by decide +kernel
theorem dX12_akin_122 : decode cX12_akin 122 = .ok (.iconst 0, 1) := by decide +kernel
theorem dX12_akin_123 : decode cX12_akin 123 = .ok (.istore 6, 2) := by decide +kernel
theorem dX12_akin_125 : decode cX12_akin 125 = .ok (.iload 6, 2) := by decide +kernel
theorem dX12_akin_127 : decode cX12_akin 127 = .ok (.iload 4, 2) := by decide +kernel
theorem dX12_akin_129 : decode cX12_akin 129 = .ok (.if_icmp .ge 38, 3) := by decide +kernel
theorem dX12_akin_132 : decode cX12_akin 132 = .ok (.iload 5, 2) := by decide +kernel
theorem dX12_akin_134 : decode cX12_akin 134 = .ok (.ifCond .eq 33, 3) := by decide +kernel
theorem dX12_akin_137 : decode cX12_akin 137 = .ok (.aload_n 0, 1) := by decide +kernel
theorem dX12_akin_138 : decode cX12_akin 138 = .ok (.getfield 117, 3) := by decide +kernel
theorem dX12_akin_141 : decode cX12_akin 141 = .ok (.iload 6, 2) := by decide +kernel
theorem dX12_akin_143 : decode cX12_akin 143 = .ok (.iaload, 1) := by decide +kernel
theorem dX12_akin_144 : decode cX12_akin 144 = .ok (.aload_n 0, 1) := by decide +kernel
theorem dX12_akin_145 : decode cX12_akin 145 = .ok (.getfield 120, 3) := by decide +kernel
theorem dX12_akin_148 : decode cX12_akin 148 = .ok (.iload 6, 2) := by decide +kernel
theorem dX12_akin_150 : decode cX12_akin 150 = .ok (.iaload, 1) := by decide +kernel
theorem dX12_akin_151 : decode cX12_akin 151 = .ok (.if_icmp .ne 7, 3) := by decide +kernel
theorem dX12_akin_154 : decode cX12_akin 154 = .ok (.iconst 1, 1) := by decide +kernel
theorem dX12_akin_155 : decode cX12_akin 155 = .ok (.goto 4, 3) := by decide +kernel
theorem dX12_akin_158 : decode cX12_akin 158 = .ok (.iconst 0, 1) := by decide +kernel
theorem dX12_akin_159 : decode cX12_akin 159 = .ok (.istore 5, 2) := by decide +kernel
theorem dX12_akin_161 : decode cX12_akin 161 = .ok (.iinc 6 1, 3) := by decide +kernel
theorem dX12_akin_164 : decode cX12_akin 164 = .ok (.goto (-39), 3) := by decide +kernel
theorem dX12_akin_167 : decode cX12_akin 167 = .ok (.iload 5, 2) := by decide +kernel
theorem dX12_akin_169 : decode cX12_akin 169 = .ok (.ifCond .eq 7, 3) := by decide +kernel
theorem dX12_akin_172 : decode cX12_akin 172 = .ok (.iconst 1, 1) := by decide +kernel
theorem dX12_akin_173 : decode cX12_akin 173 = .ok (.goto 4, 3) := by decide +kernel
theorem dX12_akin_176 : decode cX12_akin 176 = .ok (.iconst 0, 1) := by decide +kernel
theorem dX12_akin_177 : decode cX12_akin 177 = .ok (.ireturn, 1) := by decide +kernel
theorem dX12_tryBegin_0 : decode cX12_tryBegin 0 = .ok (.aload_n 0, 1) := by decide +kernel
theorem dX12_tryBegin_1 : decode cX12_tryBegin 1 = .ok (.iconst 0, 1) := by decide +kernel
theorem dX12_tryBegin_2 : decode cX12_tryBegin 2 = .ok (.putfield 138, 3) := by decide +kernel
theorem dX12_tryBegin_5 : decode cX12_tryBegin 5 = .ok (.aload_n 0, 1) := by decide +kernel
theorem dX12_tryBegin_6 : decode cX12_tryBegin 6 = .ok (.iconst 0, 1) := by decide +kernel
theorem dX12_tryBegin_7 : decode cX12_tryBegin 7 = .ok (.putfield 141, 3) := by decide +kernel
theorem dX12_tryBegin_10 : decode cX12_tryBegin 10 = .ok (.iconst 0, 1) := by decide +kernel
theorem dX12_tryBegin_11 : decode cX12_tryBegin 11 = .ok (.istore_n 1, 1) := by decide +kernel
theorem dX12_tryBegin_12 : decode cX12_tryBegin 12 = .ok (.iload_n 1, 1) := by decide +kernel
theorem dX12_tryBegin_13 : decode cX12_tryBegin 13 = .ok (.aload_n 0, 1) := by decide +kernel
theorem dX12_tryBegin_14 : decode cX12_tryBegin 14 = .ok (.getfield 13, 3) := by decide +kernel
theorem dX12_tryBegin_17 : decode cX12_tryBegin 17 = .ok (.if_icmp .ge 35, 3) := by decide +kernel
theorem dX12_tryBegin_20 : decode cX12_tryBegin 20 = .ok (.aload_n 0, 1) := by decide +kernel
theorem dX12_tryBegin_21 : decode cX12_tryBegin 21 = .ok (.getfield 129, 3) := by decide +kernel
theorem dX12_tryBegin_24 : decode cX12_tryBegin 24 = .ok (.iload_n 1, 1) := by decide +kernel
theorem dX12_tryBegin_25 : decode cX12_tryBegin 25 = .ok (.iload_n 1, 1) := by decide +kernel
theorem dX12_tryBegin_26 : decode cX12_tryBegin 26 = .ok (.iastore, 1) := by decide +kernel
theorem dX12_tryBegin_27 : decode cX12_tryBegin 27 = .ok (.aload_n 0, 1) := by decide +kernel
theorem dX12_tryBegin_28 : decode cX12_tryBegin 28 = .ok (.getfield 132, 3) := by decide +kernel
theorem dX12_tryBegin_31 : decode cX12_tryBegin 31 = .ok (.iload_n 1, 1) := by decide +kernel
theorem dX12_tryBegin_32 : decode cX12_tryBegin 32 = .ok (.aload_n 0, 1) := by decide +kernel
theorem dX12_tryBegin_33 : decode cX12_tryBegin 33 = .ok (.getfield 38, 3) := by decide +kernel
theorem dX12_tryBegin_36 : decode cX12_tryBegin 36 = .ok (.iload_n 1, 1) := by decide +kernel
theorem dX12_tryBegin_37 : decode cX12_tryBegin 37 = .ok (.iaload, 1) := by decide +kernel
theorem dX12_tryBegin_38 : decode cX12_tryBegin 38 = .ok (.iastore, 1) := by decide +kernel
theorem dX12_tryBegin_39 : decode cX12_tryBegin 39 = .ok (.aload_n 0, 1) := by decide +kernel
theorem dX12_tryBegin_40 : decode cX12_tryBegin 40 = .ok (.getfield 135, 3) := by decide +kernel
theorem dX12_tryBegin_43 : decode cX12_tryBegin 43 = .ok (.iload_n 1, 1) := by decide +kernel
theorem dX12_tryBegin_44 : decode cX12_tryBegin 44 = .ok (.iconst 0, 1) := by decide +kernel
theorem dX12_tryBegin_45 : decode cX12_tryBegin 45 = .ok (.iastore, 1) := by decide +kernel
theorem dX12_tryBegin_46 : decode cX12_tryBegin 46 = .ok (.iinc 1 1, 3) := by decide +kernel
theorem dX12_tryBegin_49 : decode cX12_tryBegin 49 = .ok (.goto (-37), 3) := by decide +kernel
theorem dX12_tryBegin_52 : decode cX12_tryBegin 52 = .ok (.return_, 1) := by decide +kernel
theorem dX12_tryPass_0 : decode cX12_tryPass 0 = .ok (.iload_n 1, 1) := by decide +kernel
theorem dX12_tryPass_1 : decode cX12_tryPass 1 = .ok (.aload_n 0, 1) := by decide +kernel
theorem dX12_tryPass_2 : decode cX12_tryPass 2 = .ok (.getfield 13, 3) := by decide +kernel
theorem dX12_tryPass_5 : decode cX12_tryPass 5 = .ok (.if_icmp .lt 5, 3) := by decide +kernel
theorem dX12_tryPass_8 : decode cX12_tryPass 8 = .ok (.iconst 0, 1) := by decide +kernel
theorem dX12_tryPass_9 : decode cX12_tryPass 9 = .ok (.ireturn, 1) := by decide +kernel
theorem dX12_tryPass_10 : decode cX12_tryPass 10 = .ok (.aload_n 0, 1) := by decide +kernel
theorem dX12_tryPass_11 : decode cX12_tryPass 11 = .ok (.iload_n 1, 1) := by decide +kernel
theorem dX12_tryPass_12 : decode cX12_tryPass 12 = .ok (.invokevirtual 207, 3) := by decide +kernel
theorem dX12_tryPass_15 : decode cX12_tryPass 15 = .ok (.istore_n 3, 1) := by decide +kernel
theorem dX12_tryPass_16 : decode cX12_tryPass 16 = .ok (.iload_n 2, 1) := by decide +kernel
theorem dX12_tryPass_17 : decode cX12_tryPass 17 = .ok (.ifCond .ne 12, 3) := by decide +kernel
theorem dX12_tryPass_20 : decode cX12_tryPass 20 = .ok (.aload_n 0, 1) := by decide +kernel
theorem dX12_tryPass_21 : decode cX12_tryPass 21 = .ok (.getfield 129, 3) := by decide +kernel
theorem dX12_tryPass_24 : decode cX12_tryPass 24 = .ok (.iload_n 1, 1) := by decide +kernel
theorem dX12_tryPass_25 : decode cX12_tryPass 25 = .ok (.iaload, 1) := by decide +kernel
theorem dX12_tryPass_26 : decode cX12_tryPass 26 = .ok (.goto 9, 3) := by decide +kernel
theorem dX12_tryPass_29 : decode cX12_tryPass 29 = .ok (.aload_n 0, 1) := by decide +kernel
theorem dX12_tryPass_30 : decode cX12_tryPass 30 = .ok (.getfield 129, 3) := by decide +kernel
theorem dX12_tryPass_33 : decode cX12_tryPass 33 = .ok (.iload_n 3, 1) := by decide +kernel
theorem dX12_tryPass_34 : decode cX12_tryPass 34 = .ok (.iaload, 1) := by decide +kernel
theorem dX12_tryPass_35 : decode cX12_tryPass 35 = .ok (.istore 4, 2) := by decide +kernel
theorem dX12_tryPass_37 : decode cX12_tryPass 37 = .ok (.iload_n 2, 1) := by decide +kernel
theorem dX12_tryPass_38 : decode cX12_tryPass 38 = .ok (.ifCond .ne 12, 3) := by decide +kernel
theorem dX12_tryPass_41 : decode cX12_tryPass 41 = .ok (.aload_n 0, 1) := by decide +kernel
theorem dX12_tryPass_42 : decode cX12_tryPass 42 = .ok (.getfield 129, 3) := by decide +kernel
theorem dX12_tryPass_45 : decode cX12_tryPass 45 = .ok (.iload_n 3, 1) := by decide +kernel
theorem dX12_tryPass_46 : decode cX12_tryPass 46 = .ok (.iaload, 1) := by decide +kernel
theorem dX12_tryPass_47 : decode cX12_tryPass 47 = .ok (.goto 9, 3) := by decide +kernel
theorem dX12_tryPass_50 : decode cX12_tryPass 50 = .ok (.aload_n 0, 1) := by decide +kernel
theorem dX12_tryPass_51 : decode cX12_tryPass 51 = .ok (.getfield 129, 3) := by decide +kernel
theorem dX12_tryPass_54 : decode cX12_tryPass 54 = .ok (.iload_n 1, 1) := by decide +kernel
theorem dX12_tryPass_55 : decode cX12_tryPass 55 = .ok (.iaload, 1) := by decide +kernel
theorem dX12_tryPass_56 : decode cX12_tryPass 56 = .ok (.istore 5, 2) := by decide +kernel
theorem dX12_tryPass_58 : decode cX12_tryPass 58 = .ok (.aload_n 0, 1) := by decide +kernel
theorem dX12_tryPass_59 : decode cX12_tryPass 59 = .ok (.getfield 132, 3) := by decide +kernel
theorem dX12_tryPass_62 : decode cX12_tryPass 62 = .ok (.iload 4, 2) := by decide +kernel
theorem dX12_tryPass_64 : decode cX12_tryPass 64 = .ok (.iaload, 1) := by decide +kernel
theorem dX12_tryPass_65 : decode cX12_tryPass 65 = .ok (.iconst 1, 1) := by decide +kernel
theorem dX12_tryPass_66 : decode cX12_tryPass 66 = .ok (.if_icmp .lt 14, 3) := by decide +kernel
theorem dX12_tryPass_69 : decode cX12_tryPass 69 = .ok (.aload_n 0, 1) := by decide +kernel
theorem dX12_tryPass_70 : decode cX12_tryPass 70 = .ok (.getfield 132, 3) := by decide +kernel
theorem dX12_tryPass_73 : decode cX12_tryPass 73 = .ok (.iload 5, 2) := by decide +kernel
theorem dX12_tryPass_75 : decode cX12_tryPass 75 = .ok (.iaload, 1) := by decide +kernel
theorem dX12_tryPass_76 : decode cX12_tryPass 76 = .ok (.iconst 2, 1) := by decide +kernel
theorem dX12_tryPass_77 : decode cX12_tryPass 77 = .ok (.if_icmp .ge 5, 3) := by decide +kernel
theorem dX12_tryPass_80 : decode cX12_tryPass 80 = .ok (.iconst 0, 1) := by decide +kernel
theorem dX12_tryPass_81 : decode cX12_tryPass 81 = .ok (.ireturn, 1) := by decide +kernel
theorem dX12_tryPass_82 : decode cX12_tryPass 82 = .ok (.aload_n 0, 1) := by decide +kernel
theorem dX12_tryPass_83 : decode cX12_tryPass 83 = .ok (.getfield 132, 3) := by decide +kernel
theorem dX12_tryPass_86 : decode cX12_tryPass 86 = .ok (.iload 4, 2) := by decide +kernel
theorem dX12_tryPass_88 : decode cX12_tryPass 88 = .ok (.dup2, 1) := by decide +kernel
theorem dX12_tryPass_89 : decode cX12_tryPass 89 = .ok (.iaload, 1) := by decide +kernel
theorem dX12_tryPass_90 : decode cX12_tryPass 90 = .ok (.iconst 1, 1) := by decide +kernel
theorem dX12_tryPass_91 : decode cX12_tryPass 91 = .ok (.isub, 1) := by decide +kernel
theorem dX12_tryPass_92 : decode cX12_tryPass 92 = .ok (.iastore, 1) := by decide +kernel
theorem dX12_tryPass_93 : decode cX12_tryPass 93 = .ok (.aload_n 0, 1) := by decide +kernel
theorem dX12_tryPass_94 : decode cX12_tryPass 94 = .ok (.getfield 132, 3) := by decide +kernel
theorem dX12_tryPass_97 : decode cX12_tryPass 97 = .ok (.iload 5, 2) := by decide +kernel
theorem dX12_tryPass_99 : decode cX12_tryPass 99 = .ok (.dup2, 1) := by decide +kernel
theorem dX12_tryPass_100 : decode cX12_tryPass 100 = .ok (.iaload, 1) := by decide +kernel
theorem dX12_tryPass_101 : decode cX12_tryPass 101 = .ok (.iconst 2, 1) := by decide +kernel
theorem dX12_tryPass_102 : decode cX12_tryPass 102 = .ok (.isub, 1) := by decide +kernel
theorem dX12_tryPass_103 : decode cX12_tryPass 103 = .ok (.iastore, 1) := by decide +kernel
theorem dX12_tryPass_104 : decode cX12_tryPass 104 = .ok (.aload_n 0, 1) := by decide +kernel
theorem dX12_tryPass_105 : decode cX12_tryPass 105 = .ok (.getfield 129, 3) := by decide +kernel
theorem dX12_tryPass_108 : decode cX12_tryPass 108 = .ok (.iload_n 1, 1) := by decide +kernel
theorem dX12_tryPass_109 : decode cX12_tryPass 109 = .ok (.iaload, 1) := by decide +kernel
theorem dX12_tryPass_110 : decode cX12_tryPass 110 = .ok (.istore 6, 2) := by decide +kernel
theorem dX12_tryPass_112 : decode cX12_tryPass 112 = .ok (.aload_n 0, 1) := by decide +kernel
theorem dX12_tryPass_113 : decode cX12_tryPass 113 = .ok (.getfield 129, 3) := by decide +kernel
theorem dX12_tryPass_116 : decode cX12_tryPass 116 = .ok (.iload_n 1, 1) := by decide +kernel
theorem dX12_tryPass_117 : decode cX12_tryPass 117 = .ok (.aload_n 0, 1) := by decide +kernel
theorem dX12_tryPass_118 : decode cX12_tryPass 118 = .ok (.getfield 129, 3) := by decide +kernel
theorem dX12_tryPass_121 : decode cX12_tryPass 121 = .ok (.iload_n 3, 1) := by decide +kernel
theorem dX12_tryPass_122 : decode cX12_tryPass 122 = .ok (.iaload, 1) := by decide +kernel
theorem dX12_tryPass_123 : decode cX12_tryPass 123 = .ok (.iastore, 1) := by decide +kernel
theorem dX12_tryPass_124 : decode cX12_tryPass 124 = .ok (.aload_n 0, 1) := by decide +kernel
theorem dX12_tryPass_125 : decode cX12_tryPass 125 = .ok (.getfield 129, 3) := by decide +kernel
theorem dX12_tryPass_128 : decode cX12_tryPass 128 = .ok (.iload_n 3, 1) := by decide +kernel
theorem dX12_tryPass_129 : decode cX12_tryPass 129 = .ok (.iload 6, 2) := by decide +kernel
theorem dX12_tryPass_131 : decode cX12_tryPass 131 = .ok (.iastore, 1) := by decide +kernel
theorem dX12_tryPass_132 : decode cX12_tryPass 132 = .ok (.aload_n 0, 1) := by decide +kernel
theorem dX12_tryPass_133 : decode cX12_tryPass 133 = .ok (.getfield 135, 3) := by decide +kernel
theorem dX12_tryPass_136 : decode cX12_tryPass 136 = .ok (.iload_n 1, 1) := by decide +kernel
theorem dX12_tryPass_137 : decode cX12_tryPass 137 = .ok (.iload_n 2, 1) := by decide +kernel
theorem dX12_tryPass_138 : decode cX12_tryPass 138 = .ok (.iconst 1, 1) := by decide +kernel
theorem dX12_tryPass_139 : decode cX12_tryPass 139 = .ok (.iadd, 1) := by decide +kernel
theorem dX12_tryPass_140 : decode cX12_tryPass 140 = .ok (.iastore, 1) := by decide +kernel
theorem dX12_tryPass_141 : decode cX12_tryPass 141 = .ok (.iconst 1, 1) := by decide +kernel
theorem dX12_tryPass_142 : decode cX12_tryPass 142 = .ok (.ireturn, 1) := by decide +kernel
theorem dX12_tryWalk_0 : decode cX12_tryWalk 0 = .ok (.bipush 10, 2) := by decide +kernel
theorem dX12_tryWalk_2 : decode cX12_tryWalk 2 = .ok (.aload_n 0, 1) := by decide +kernel
theorem dX12_tryWalk_3 : decode cX12_tryWalk 3 = .ok (.getfield 138, 3) := by decide +kernel
theorem dX12_tryWalk_6 : decode cX12_tryWalk 6 = .ok (.iconst 3, 1) := by decide +kernel
theorem dX12_tryWalk_7 : decode cX12_tryWalk 7 = .ok (.idiv, 1) := by decide +kernel
theorem dX12_tryWalk_8 : decode cX12_tryWalk 8 = .ok (.iadd, 1) := by decide +kernel
theorem dX12_tryWalk_9 : decode cX12_tryWalk 9 = .ok (.istore_n 2, 1) := by decide +kernel
theorem dX12_tryWalk_10 : decode cX12_tryWalk 10 = .ok (.aload_n 0, 1) := by decide +kernel
theorem dX12_tryWalk_11 : decode cX12_tryWalk 11 = .ok (.getfield 138, 3) := by decide +kernel
theorem dX12_tryWalk_14 : decode cX12_tryWalk 14 = .ok (.aload_n 0, 1) := by decide +kernel
theorem dX12_tryWalk_15 : decode cX12_tryWalk 15 = .ok (.getfield 57, 3) := by decide +kernel
theorem dX12_tryWalk_18 : decode cX12_tryWalk 18 = .ok (.if_icmp .ge 7, 3) := by decide +kernel
theorem dX12_tryWalk_21 : decode cX12_tryWalk 21 = .ok (.iconst 1, 1) := by decide +kernel
theorem dX12_tryWalk_22 : decode cX12_tryWalk 22 = .ok (.goto 4, 3) := by decide +kernel
theorem dX12_tryWalk_25 : decode cX12_tryWalk 25 = .ok (.iconst 0, 1) := by decide +kernel
theorem dX12_tryWalk_26 : decode cX12_tryWalk 26 = .ok (.istore_n 3, 1) := by decide +kernel
theorem dX12_tryWalk_27 : decode cX12_tryWalk 27 = .ok (.iconst 0, 1) := by decide +kernel
theorem dX12_tryWalk_28 : decode cX12_tryWalk 28 = .ok (.istore 4, 2) := by decide +kernel
theorem dX12_tryWalk_30 : decode cX12_tryWalk 30 = .ok (.iload 4, 2) := by decide +kernel
theorem dX12_tryWalk_32 : decode cX12_tryWalk 32 = .ok (.aload_n 0, 1) := by decide +kernel
theorem dX12_tryWalk_33 : decode cX12_tryWalk 33 = .ok (.getfield 13, 3) := by decide +kernel
theorem dX12_tryWalk_36 : decode cX12_tryWalk 36 = .ok (.if_icmp .ge 30, 3) := by decide +kernel
theorem dX12_tryWalk_39 : decode cX12_tryWalk 39 = .ok (.iload_n 3, 1) := by decide +kernel
theorem dX12_tryWalk_40 : decode cX12_tryWalk 40 = .ok (.ifCond .eq 18, 3) := by decide +kernel
theorem dX12_tryWalk_43 : decode cX12_tryWalk 43 = .ok (.aload_n 0, 1) := by decide +kernel
theorem dX12_tryWalk_44 : decode cX12_tryWalk 44 = .ok (.getfield 132, 3) := by decide +kernel
theorem dX12_tryWalk_47 : decode cX12_tryWalk 47 = .ok (.iload 4, 2) := by decide +kernel
theorem dX12_tryWalk_49 : decode cX12_tryWalk 49 = .ok (.iaload, 1) := by decide +kernel
theorem dX12_tryWalk_50 : decode cX12_tryWalk 50 = .ok (.iload_n 2, 1) := by decide +kernel
theorem dX12_tryWalk_51 : decode cX12_tryWalk 51 = .ok (.if_icmp .lt 7, 3) := by decide +kernel
theorem dX12_tryWalk_54 : decode cX12_tryWalk 54 = .ok (.iconst 1, 1) := by decide +kernel
theorem dX12_tryWalk_55 : decode cX12_tryWalk 55 = .ok (.goto 4, 3) := by decide +kernel
theorem dX12_tryWalk_58 : decode cX12_tryWalk 58 = .ok (.iconst 0, 1) := by decide +kernel
theorem dX12_tryWalk_59 : decode cX12_tryWalk 59 = .ok (.istore_n 3, 1) := by decide +kernel
theorem dX12_tryWalk_60 : decode cX12_tryWalk 60 = .ok (.iinc 4 1, 3) := by decide +kernel
theorem dX12_tryWalk_63 : decode cX12_tryWalk 63 = .ok (.goto (-33), 3) := by decide +kernel
theorem dX12_tryWalk_66 : decode cX12_tryWalk 66 = .ok (.iload_n 3, 1) := by decide +kernel
theorem dX12_tryWalk_67 : decode cX12_tryWalk 67 = .ok (.ifCond .ne 5, 3) := by decide +kernel
theorem dX12_tryWalk_70 : decode cX12_tryWalk 70 = .ok (.iconst 0, 1) := by decide +kernel
theorem dX12_tryWalk_71 : decode cX12_tryWalk 71 = .ok (.ireturn, 1) := by decide +kernel
theorem dX12_tryWalk_72 : decode cX12_tryWalk 72 = .ok (.aload_n 0, 1) := by decide +kernel
theorem dX12_tryWalk_73 : decode cX12_tryWalk 73 = .ok (.aload_n 0, 1) := by decide +kernel
theorem dX12_tryWalk_74 : decode cX12_tryWalk 74 = .ok (.getfield 129, 3) := by decide +kernel
theorem dX12_tryWalk_77 : decode cX12_tryWalk 77 = .ok (.iload_n 1, 1) := by decide +kernel
theorem dX12_tryWalk_78 : decode cX12_tryWalk 78 = .ok (.invokevirtual 215, 3) := by decide +kernel
theorem dX12_tryWalk_81 : decode cX12_tryWalk 81 = .ok (.iconst 0, 1) := by decide +kernel
theorem dX12_tryWalk_82 : decode cX12_tryWalk 82 = .ok (.istore 4, 2) := by decide +kernel
theorem dX12_tryWalk_84 : decode cX12_tryWalk 84 = .ok (.iload 4, 2) := by decide +kernel
theorem dX12_tryWalk_86 : decode cX12_tryWalk 86 = .ok (.aload_n 0, 1) := by decide +kernel
theorem dX12_tryWalk_87 : decode cX12_tryWalk 87 = .ok (.getfield 13, 3) := by decide +kernel
theorem dX12_tryWalk_90 : decode cX12_tryWalk 90 = .ok (.if_icmp .ge 88, 3) := by decide +kernel
theorem dX12_tryWalk_93 : decode cX12_tryWalk 93 = .ok (.aload_n 0, 1) := by decide +kernel
theorem dX12_tryWalk_94 : decode cX12_tryWalk 94 = .ok (.getfield 132, 3) := by decide +kernel
theorem dX12_tryWalk_97 : decode cX12_tryWalk 97 = .ok (.iload 4, 2) := by decide +kernel
theorem dX12_tryWalk_99 : decode cX12_tryWalk 99 = .ok (.dup2, 1) := by decide +kernel
theorem dX12_tryWalk_100 : decode cX12_tryWalk 100 = .ok (.iaload, 1) := by decide +kernel
theorem dX12_tryWalk_101 : decode cX12_tryWalk 101 = .ok (.iload_n 2, 1) := by decide +kernel
theorem dX12_tryWalk_102 : decode cX12_tryWalk 102 = .ok (.isub, 1) := by decide +kernel
theorem dX12_tryWalk_103 : decode cX12_tryWalk 103 = .ok (.iastore, 1) := by decide +kernel
theorem dX12_tryWalk_104 : decode cX12_tryWalk 104 = .ok (.iload_n 3, 1) := by decide +kernel
theorem dX12_tryWalk_105 : decode cX12_tryWalk 105 = .ok (.ifCond .eq 57, 3) := by decide +kernel
theorem dX12_tryWalk_108 : decode cX12_tryWalk 108 = .ok (.aload_n 0, 1) := by decide +kernel
theorem dX12_tryWalk_109 : decode cX12_tryWalk 109 = .ok (.getfield 129, 3) := by decide +kernel
theorem dX12_tryWalk_112 : decode cX12_tryWalk 112 = .ok (.iload 4, 2) := by decide +kernel
theorem dX12_tryWalk_114 : decode cX12_tryWalk 114 = .ok (.iaload, 1) := by decide +kernel
theorem dX12_tryWalk_115 : decode cX12_tryWalk 115 = .ok (.aload_n 0, 1) := by decide +kernel
theorem dX12_tryWalk_116 : decode cX12_tryWalk 116 = .ok (.getfield 66, 3) := by decide +kernel
theorem dX12_tryWalk_119 : decode cX12_tryWalk 119 = .ok (.bipush 9, 2) := by decide +kernel
theorem dX12_tryWalk_121 : decode cX12_tryWalk 121 = .ok (.aload_n 0, 1) := by decide +kernel
theorem dX12_tryWalk_122 : decode cX12_tryWalk 122 = .ok (.getfield 138, 3) := by decide +kernel
theorem dX12_tryWalk_125 : decode cX12_tryWalk 125 = .ok (.imul, 1) := by decide +kernel
theorem dX12_tryWalk_126 : decode cX12_tryWalk 126 = .ok (.iload 4, 2) := by decide +kernel
theorem dX12_tryWalk_128 : decode cX12_tryWalk 128 = .ok (.iadd, 1) := by decide +kernel
theorem dX12_tryWalk_129 : decode cX12_tryWalk 129 = .ok (.iaload, 1) := by decide +kernel
theorem dX12_tryWalk_130 : decode cX12_tryWalk 130 = .ok (.if_icmp .ne 32, 3) := by decide +kernel
theorem dX12_tryWalk_133 : decode cX12_tryWalk 133 = .ok (.aload_n 0, 1) := by decide +kernel
theorem dX12_tryWalk_134 : decode cX12_tryWalk 134 = .ok (.getfield 135, 3) := by decide +kernel
theorem dX12_tryWalk_137 : decode cX12_tryWalk 137 = .ok (.iload 4, 2) := by decide +kernel
theorem dX12_tryWalk_139 : decode cX12_tryWalk 139 = .ok (.iaload, 1) := by decide +kernel
theorem dX12_tryWalk_140 : decode cX12_tryWalk 140 = .ok (.aload_n 0, 1) := by decide +kernel
theorem dX12_tryWalk_141 : decode cX12_tryWalk 141 = .ok (.getfield 69, 3) := by decide +kernel
theorem dX12_tryWalk_144 : decode cX12_tryWalk 144 = .ok (.bipush 9, 2) := by decide +kernel
theorem dX12_tryWalk_146 : decode cX12_tryWalk 146 = .ok (.aload_n 0, 1) := by decide +kernel
theorem dX12_tryWalk_147 : decode cX12_tryWalk 147 = .ok (.getfield 138, 3) := by decide +kernel
theorem dX12_tryWalk_150 : decode cX12_tryWalk 150 = .ok (.imul, 1) := by decide +kernel
theorem dX12_tryWalk_151 : decode cX12_tryWalk 151 = .ok (.iload 4, 2) := by decide +kernel
theorem dX12_tryWalk_153 : decode cX12_tryWalk 153 = .ok (.iadd, 1) := by decide +kernel
theorem dX12_tryWalk_154 : decode cX12_tryWalk 154 = .ok (.iaload, 1) := by decide +kernel
theorem dX12_tryWalk_155 : decode cX12_tryWalk 155 = .ok (.if_icmp .ne 7, 3) := by decide +kernel
theorem dX12_tryWalk_158 : decode cX12_tryWalk 158 = .ok (.iconst 1, 1) := by decide +kernel
theorem dX12_tryWalk_159 : decode cX12_tryWalk 159 = .ok (.goto 4, 3) := by decide +kernel
theorem dX12_tryWalk_162 : decode cX12_tryWalk 162 = .ok (.iconst 0, 1) := by decide +kernel
theorem dX12_tryWalk_163 : decode cX12_tryWalk 163 = .ok (.istore_n 3, 1) := by decide +kernel
theorem dX12_tryWalk_164 : decode cX12_tryWalk 164 = .ok (.aload_n 0, 1) := by decide +kernel
theorem dX12_tryWalk_165 : decode cX12_tryWalk 165 = .ok (.getfield 135, 3) := by decide +kernel
theorem dX12_tryWalk_168 : decode cX12_tryWalk 168 = .ok (.iload 4, 2) := by decide +kernel
theorem dX12_tryWalk_170 : decode cX12_tryWalk 170 = .ok (.iconst 0, 1) := by decide +kernel
theorem dX12_tryWalk_171 : decode cX12_tryWalk 171 = .ok (.iastore, 1) := by decide +kernel
theorem dX12_tryWalk_172 : decode cX12_tryWalk 172 = .ok (.iinc 4 1, 3) := by decide +kernel
theorem dX12_tryWalk_175 : decode cX12_tryWalk 175 = .ok (.goto (-91), 3) := by decide +kernel
theorem dX12_tryWalk_178 : decode cX12_tryWalk 178 = .ok (.aload_n 0, 1) := by decide +kernel
theorem dX12_tryWalk_179 : decode cX12_tryWalk 179 = .ok (.dup, 1) := by decide +kernel
theorem dX12_tryWalk_180 : decode cX12_tryWalk 180 = .ok (.getfield 138, 3) := by decide +kernel
theorem dX12_tryWalk_183 : decode cX12_tryWalk 183 = .ok (.iconst 1, 1) := by decide +kernel
theorem dX12_tryWalk_184 : decode cX12_tryWalk 184 = .ok (.iadd, 1) := by decide +kernel
theorem dX12_tryWalk_185 : decode cX12_tryWalk 185 = .ok (.putfield 138, 3) := by decide +kernel
theorem dX12_tryWalk_188 : decode cX12_tryWalk 188 = .ok (.iload_n 3, 1) := by decide +kernel
theorem dX12_tryWalk_189 : decode cX12_tryWalk 189 = .ok (.ireturn, 1) := by decide +kernel
theorem dX12_tryStep_0 : decode cX12_tryStep 0 = .ok (.aload_n 0, 1) := by decide +kernel
theorem dX12_tryStep_1 : decode cX12_tryStep 1 = .ok (.getfield 141, 3) := by decide +kernel
theorem dX12_tryStep_4 : decode cX12_tryStep 4 = .ok (.sipush 300, 3) := by decide +kernel
theorem dX12_tryStep_7 : decode cX12_tryStep 7 = .ok (.if_icmp .ne 5, 3) := by decide +kernel
theorem dX12_tryStep_10 : decode cX12_tryStep 10 = .ok (.iconst 0, 1) := by decide +kernel
theorem dX12_tryStep_11 : decode cX12_tryStep 11 = .ok (.ireturn, 1) := by decide +kernel
theorem dX12_tryStep_12 : decode cX12_tryStep 12 = .ok (.aload_n 0, 1) := by decide +kernel
theorem dX12_tryStep_13 : decode cX12_tryStep 13 = .ok (.dup, 1) := by decide +kernel
theorem dX12_tryStep_14 : decode cX12_tryStep 14 = .ok (.getfield 141, 3) := by decide +kernel
theorem dX12_tryStep_17 : decode cX12_tryStep 17 = .ok (.iconst 1, 1) := by decide +kernel
theorem dX12_tryStep_18 : decode cX12_tryStep 18 = .ok (.iadd, 1) := by decide +kernel
theorem dX12_tryStep_19 : decode cX12_tryStep 19 = .ok (.putfield 141, 3) := by decide +kernel
theorem dX12_tryStep_22 : decode cX12_tryStep 22 = .ok (.iload_n 1, 1) := by decide +kernel
theorem dX12_tryStep_23 : decode cX12_tryStep 23 = .ok (.bipush 100, 2) := by decide +kernel
theorem dX12_tryStep_25 : decode cX12_tryStep 25 = .ok (.if_icmp .lt 14, 3) := by decide +kernel
theorem dX12_tryStep_28 : decode cX12_tryStep 28 = .ok (.aload_n 0, 1) := by decide +kernel
theorem dX12_tryStep_29 : decode cX12_tryStep 29 = .ok (.iload_n 1, 1) := by decide +kernel
theorem dX12_tryStep_30 : decode cX12_tryStep 30 = .ok (.bipush 100, 2) := by decide +kernel
theorem dX12_tryStep_32 : decode cX12_tryStep 32 = .ok (.isub, 1) := by decide +kernel
theorem dX12_tryStep_33 : decode cX12_tryStep 33 = .ok (.invokevirtual 285, 3) := by decide +kernel
theorem dX12_tryStep_36 : decode cX12_tryStep 36 = .ok (.goto 15, 3) := by decide +kernel
theorem dX12_tryStep_39 : decode cX12_tryStep 39 = .ok (.aload_n 0, 1) := by decide +kernel
theorem dX12_tryStep_40 : decode cX12_tryStep 40 = .ok (.iload_n 1, 1) := by decide +kernel
theorem dX12_tryStep_41 : decode cX12_tryStep 41 = .ok (.bipush 10, 2) := by decide +kernel
theorem dX12_tryStep_43 : decode cX12_tryStep 43 = .ok (.idiv, 1) := by decide +kernel
theorem dX12_tryStep_44 : decode cX12_tryStep 44 = .ok (.iload_n 1, 1) := by decide +kernel
theorem dX12_tryStep_45 : decode cX12_tryStep 45 = .ok (.bipush 10, 2) := by decide +kernel
theorem dX12_tryStep_47 : decode cX12_tryStep 47 = .ok (.irem, 1) := by decide +kernel
theorem dX12_tryStep_48 : decode cX12_tryStep 48 = .ok (.invokevirtual 288, 3) := by decide +kernel
theorem dX12_tryStep_51 : decode cX12_tryStep 51 = .ok (.ireturn, 1) := by decide +kernel
theorem dX12_makes_0 : decode cX12_makes 0 = .ok (.aload_n 0, 1) := by decide +kernel
theorem dX12_makes_1 : decode cX12_makes 1 = .ok (.invokevirtual 291, 3) := by decide +kernel
theorem dX12_makes_4 : decode cX12_makes 4 = .ok (.iconst 0, 1) := by decide +kernel
theorem dX12_makes_5 : decode cX12_makes 5 = .ok (.istore 4, 2) := by decide +kernel
theorem dX12_makes_7 : decode cX12_makes 7 = .ok (.iload 4, 2) := by decide +kernel
theorem dX12_makes_9 : decode cX12_makes 9 = .ok (.aload_n 0, 1) := by decide +kernel
theorem dX12_makes_10 : decode cX12_makes 10 = .ok (.getfield 96, 3) := by decide +kernel
theorem dX12_makes_13 : decode cX12_makes 13 = .ok (.iload_n 1, 1) := by decide +kernel
theorem dX12_makes_14 : decode cX12_makes 14 = .ok (.iaload, 1) := by decide +kernel
theorem dX12_makes_15 : decode cX12_makes 15 = .ok (.if_icmp .ge 90, 3) := by decide +kernel
theorem dX12_makes_18 : decode cX12_makes 18 = .ok (.aload_n 0, 1) := by decide +kernel
theorem dX12_makes_19 : decode cX12_makes 19 = .ok (.getfield 99, 3) := by decide +kernel
theorem dX12_makes_22 : decode cX12_makes 22 = .ok (.sipush 300, 3) := by decide +kernel
theorem dX12_makes_25 : decode cX12_makes 25 = .ok (.iload_n 1, 1) := by decide +kernel
theorem dX12_makes_26 : decode cX12_makes 26 = .ok (.imul, 1) := by decide +kernel
theorem dX12_makes_27 : decode cX12_makes 27 = .ok (.iload 4, 2) := by decide +kernel
theorem dX12_makes_29 : decode cX12_makes 29 = .ok (.iadd, 1) := by decide +kernel
theorem dX12_makes_30 : decode cX12_makes 30 = .ok (.iaload, 1) := by decide +kernel
theorem dX12_makes_31 : decode cX12_makes 31 = .ok (.istore 5, 2) := by decide +kernel
theorem dX12_makes_33 : decode cX12_makes 33 = .ok (.iload 4, 2) := by decide +kernel
theorem dX12_makes_35 : decode cX12_makes 35 = .ok (.iload_n 2, 1) := by decide +kernel
theorem dX12_makes_36 : decode cX12_makes 36 = .ok (.if_icmp .ne 10, 3) := by decide +kernel
theorem dX12_makes_39 : decode cX12_makes 39 = .ok (.iload_n 3, 1) := by decide +kernel
theorem dX12_makes_40 : decode cX12_makes 40 = .ok (.ifCond .ne 6, 3) := by decide +kernel
theorem dX12_makes_43 : decode cX12_makes 43 = .ok (.goto 56, 3) := by decide +kernel
theorem dX12_makes_46 : decode cX12_makes 46 = .ok (.aload_n 0, 1) := by decide +kernel
theorem dX12_makes_47 : decode cX12_makes 47 = .ok (.iload 4, 2) := by decide +kernel
theorem dX12_makes_49 : decode cX12_makes 49 = .ok (.iload_n 2, 1) := by decide +kernel
theorem dX12_makes_50 : decode cX12_makes 50 = .ok (.if_icmp .ne 17, 3) := by decide +kernel
theorem dX12_makes_53 : decode cX12_makes 53 = .ok (.iload_n 3, 1) := by decide +kernel
theorem dX12_makes_54 : decode cX12_makes 54 = .ok (.iconst 1, 1) := by decide +kernel
theorem dX12_makes_55 : decode cX12_makes 55 = .ok (.if_icmp .ne 12, 3) := by decide +kernel
theorem dX12_makes_58 : decode cX12_makes 58 = .ok (.aload_n 0, 1) := by decide +kernel
theorem dX12_makes_59 : decode cX12_makes 59 = .ok (.iload 5, 2) := by decide +kernel
theorem dX12_makes_61 : decode cX12_makes 61 = .ok (.invokevirtual 234, 3) := by decide +kernel
theorem dX12_makes_64 : decode cX12_makes 64 = .ok (.goto 5, 3) := by decide +kernel
theorem dX12_makes_67 : decode cX12_makes 67 = .ok (.iload 5, 2) := by decide +kernel
theorem dX12_makes_69 : decode cX12_makes 69 = .ok (.invokevirtual 294, 3) := by decide +kernel
theorem dX12_makes_72 : decode cX12_makes 72 = .ok (.ifCond .ne 5, 3) := by decide +kernel
theorem dX12_makes_75 : decode cX12_makes 75 = .ok (.iconst 0, 1) := by decide +kernel
theorem dX12_makes_76 : decode cX12_makes 76 = .ok (.ireturn, 1) := by decide +kernel
theorem dX12_makes_77 : decode cX12_makes 77 = .ok (.iload 4, 2) := by decide +kernel
theorem dX12_makes_79 : decode cX12_makes 79 = .ok (.iload_n 2, 1) := by decide +kernel
theorem dX12_makes_80 : decode cX12_makes 80 = .ok (.if_icmp .ne 19, 3) := by decide +kernel
theorem dX12_makes_83 : decode cX12_makes 83 = .ok (.iload_n 3, 1) := by decide +kernel
theorem dX12_makes_84 : decode cX12_makes 84 = .ok (.iconst 2, 1) := by decide +kernel
theorem dX12_makes_85 : decode cX12_makes 85 = .ok (.if_icmp .ne 14, 3) := by decide +kernel
theorem dX12_makes_88 : decode cX12_makes 88 = .ok (.aload_n 0, 1) := by decide +kernel
theorem dX12_makes_89 : decode cX12_makes 89 = .ok (.iload 5, 2) := by decide +kernel
theorem dX12_makes_91 : decode cX12_makes 91 = .ok (.invokevirtual 294, 3) := by decide +kernel
theorem dX12_makes_94 : decode cX12_makes 94 = .ok (.ifCond .ne 5, 3) := by decide +kernel
theorem dX12_makes_97 : decode cX12_makes 97 = .ok (.iconst 0, 1) := by decide +kernel
theorem dX12_makes_98 : decode cX12_makes 98 = .ok (.ireturn, 1) := by decide +kernel
theorem dX12_makes_99 : decode cX12_makes 99 = .ok (.iinc 4 1, 3) := by decide +kernel
theorem dX12_makes_102 : decode cX12_makes 102 = .ok (.goto (-95), 3) := by decide +kernel
theorem dX12_makes_105 : decode cX12_makes 105 = .ok (.aload_n 0, 1) := by decide +kernel
theorem dX12_makes_106 : decode cX12_makes 106 = .ok (.getfield 138, 3) := by decide +kernel
theorem dX12_makes_109 : decode cX12_makes 109 = .ok (.aload_n 0, 1) := by decide +kernel
theorem dX12_makes_110 : decode cX12_makes 110 = .ok (.getfield 57, 3) := by decide +kernel
theorem dX12_makes_113 : decode cX12_makes 113 = .ok (.if_icmp .ne 7, 3) := by decide +kernel
theorem dX12_makes_116 : decode cX12_makes 116 = .ok (.iconst 1, 1) := by decide +kernel
theorem dX12_makes_117 : decode cX12_makes 117 = .ok (.goto 4, 3) := by decide +kernel
theorem dX12_makes_120 : decode cX12_makes 120 = .ok (.iconst 0, 1) := by decide +kernel
theorem dX12_makes_121 : decode cX12_makes 121 = .ok (.ireturn, 1) := by decide +kernel
theorem dX12_right_0 : decode cX12_right 0 = .ok (.aload_n 0, 1) := by decide +kernel
theorem dX12_right_1 : decode cX12_right 1 = .ok (.iload_n 1, 1) := by decide +kernel
theorem dX12_right_2 : decode cX12_right 2 = .ok (.invokevirtual 244, 3) := by decide +kernel
theorem dX12_right_5 : decode cX12_right 5 = .ok (.ifCond .ne 5, 3) := by decide +kernel
theorem dX12_right_8 : decode cX12_right 8 = .ok (.iconst (-1), 1) := by decide +kernel
theorem dX12_right_9 : decode cX12_right 9 = .ok (.ireturn, 1) := by decide +kernel
theorem dX12_right_10 : decode cX12_right 10 = .ok (.aload_n 0, 1) := by decide +kernel
theorem dX12_right_11 : decode cX12_right 11 = .ok (.getfield 44, 3) := by decide +kernel
theorem dX12_right_14 : decode cX12_right 14 = .ok (.ifCond .ne 6, 3) := by decide +kernel
theorem dX12_right_17 : decode cX12_right 17 = .ok (.bipush (-3), 2) := by decide +kernel
theorem dX12_right_19 : decode cX12_right 19 = .ok (.ireturn, 1) := by decide +kernel
theorem dX12_right_20 : decode cX12_right 20 = .ok (.aload_n 0, 1) := by decide +kernel
theorem dX12_right_21 : decode cX12_right 21 = .ok (.iload_n 1, 1) := by decide +kernel
theorem dX12_right_22 : decode cX12_right 22 = .ok (.iconst (-1), 1) := by decide +kernel
theorem dX12_right_23 : decode cX12_right 23 = .ok (.iconst (-1), 1) := by decide +kernel
theorem dX12_right_24 : decode cX12_right 24 = .ok (.invokevirtual 297, 3) := by decide +kernel
theorem dX12_right_27 : decode cX12_right 27 = .ok (.ifCond .eq 7, 3) := by decide +kernel
theorem dX12_right_30 : decode cX12_right 30 = .ok (.iconst 1, 1) := by decide +kernel
theorem dX12_right_31 : decode cX12_right 31 = .ok (.goto 4, 3) := by decide +kernel
theorem dX12_right_34 : decode cX12_right 34 = .ok (.iconst 0, 1) := by decide +kernel
theorem dX12_right_35 : decode cX12_right 35 = .ok (.ireturn, 1) := by decide +kernel
theorem dX12_slips_0 : decode cX12_slips 0 = .ok (.aload_n 0, 1) := by decide +kernel
theorem dX12_slips_1 : decode cX12_slips 1 = .ok (.iload_n 1, 1) := by decide +kernel
theorem dX12_slips_2 : decode cX12_slips 2 = .ok (.invokevirtual 244, 3) := by decide +kernel
theorem dX12_slips_5 : decode cX12_slips 5 = .ok (.ifCond .eq 8, 3) := by decide +kernel
theorem dX12_slips_8 : decode cX12_slips 8 = .ok (.iload_n 2, 1) := by decide +kernel
theorem dX12_slips_9 : decode cX12_slips 9 = .ok (.iconst (-1), 1) := by decide +kernel
theorem dX12_slips_10 : decode cX12_slips 10 = .ok (.if_icmp .ge 5, 3) := by decide +kernel
theorem dX12_slips_13 : decode cX12_slips 13 = .ok (.iconst (-1), 1) := by decide +kernel
theorem dX12_slips_14 : decode cX12_slips 14 = .ok (.ireturn, 1) := by decide +kernel
theorem dX12_slips_15 : decode cX12_slips 15 = .ok (.aload_n 0, 1) := by decide +kernel
theorem dX12_slips_16 : decode cX12_slips 16 = .ok (.getfield 44, 3) := by decide +kernel
theorem dX12_slips_19 : decode cX12_slips 19 = .ok (.ifCond .ne 6, 3) := by decide +kernel
theorem dX12_slips_22 : decode cX12_slips 22 = .ok (.bipush (-3), 2) := by decide +kernel
theorem dX12_slips_24 : decode cX12_slips 24 = .ok (.ireturn, 1) := by decide +kernel
theorem dX12_slips_25 : decode cX12_slips 25 = .ok (.iconst 0, 1) := by decide +kernel
theorem dX12_slips_26 : decode cX12_slips 26 = .ok (.istore_n 3, 1) := by decide +kernel
theorem dX12_slips_27 : decode cX12_slips 27 = .ok (.iconst 0, 1) := by decide +kernel
theorem dX12_slips_28 : decode cX12_slips 28 = .ok (.istore 4, 2) := by decide +kernel
theorem dX12_slips_30 : decode cX12_slips 30 = .ok (.iload 4, 2) := by decide +kernel
theorem dX12_slips_32 : decode cX12_slips 32 = .ok (.iconst 3, 1) := by decide +kernel
theorem dX12_slips_33 : decode cX12_slips 33 = .ok (.aload_n 0, 1) := by decide +kernel
theorem dX12_slips_34 : decode cX12_slips 34 = .ok (.getfield 96, 3) := by decide +kernel
theorem dX12_slips_37 : decode cX12_slips 37 = .ok (.iload_n 1, 1) := by decide +kernel
theorem dX12_slips_38 : decode cX12_slips 38 = .ok (.iaload, 1) := by decide +kernel
theorem dX12_slips_39 : decode cX12_slips 39 = .ok (.imul, 1) := by decide +kernel
theorem dX12_slips_40 : decode cX12_slips 40 = .ok (.if_icmp .ge 49, 3) := by decide +kernel
theorem dX12_slips_43 : decode cX12_slips 43 = .ok (.aload_n 0, 1) := by decide +kernel
theorem dX12_slips_44 : decode cX12_slips 44 = .ok (.iload_n 1, 1) := by decide +kernel
theorem dX12_slips_45 : decode cX12_slips 45 = .ok (.iload 4, 2) := by decide +kernel
theorem dX12_slips_47 : decode cX12_slips 47 = .ok (.iconst 3, 1) := by decide +kernel
theorem dX12_slips_48 : decode cX12_slips 48 = .ok (.idiv, 1) := by decide +kernel
theorem dX12_slips_49 : decode cX12_slips 49 = .ok (.iload 4, 2) := by decide +kernel
theorem dX12_slips_51 : decode cX12_slips 51 = .ok (.iconst 3, 1) := by decide +kernel
theorem dX12_slips_52 : decode cX12_slips 52 = .ok (.irem, 1) := by decide +kernel
theorem dX12_slips_53 : decode cX12_slips 53 = .ok (.invokevirtual 297, 3) := by decide +kernel
theorem dX12_slips_56 : decode cX12_slips 56 = .ok (.ifCond .ne 6, 3) := by decide +kernel
theorem dX12_slips_59 : decode cX12_slips 59 = .ok (.goto 24, 3) := by decide +kernel
theorem dX12_slips_62 : decode cX12_slips 62 = .ok (.iload_n 3, 1) := by decide +kernel
theorem dX12_slips_63 : decode cX12_slips 63 = .ok (.iload_n 2, 1) := by decide +kernel
theorem dX12_slips_64 : decode cX12_slips 64 = .ok (.if_icmp .ne 16, 3) := by decide +kernel
theorem dX12_slips_67 : decode cX12_slips 67 = .ok (.bipush 10, 2) := by decide +kernel
theorem dX12_slips_69 : decode cX12_slips 69 = .ok (.iload 4, 2) := by decide +kernel
theorem dX12_slips_71 : decode cX12_slips 71 = .ok (.iconst 3, 1) := by decide +kernel
theorem dX12_slips_72 : decode cX12_slips 72 = .ok (.idiv, 1) := by decide +kernel
theorem dX12_slips_73 : decode cX12_slips 73 = .ok (.imul, 1) := by decide +kernel
theorem dX12_slips_74 : decode cX12_slips 74 = .ok (.iload 4, 2) := by decide +kernel
theorem dX12_slips_76 : decode cX12_slips 76 = .ok (.iconst 3, 1) := by decide +kernel
theorem dX12_slips_77 : decode cX12_slips 77 = .ok (.irem, 1) := by decide +kernel
theorem dX12_slips_78 : decode cX12_slips 78 = .ok (.iadd, 1) := by decide +kernel
theorem dX12_slips_79 : decode cX12_slips 79 = .ok (.ireturn, 1) := by decide +kernel
theorem dX12_slips_80 : decode cX12_slips 80 = .ok (.iinc 3 1, 3) := by decide +kernel
theorem dX12_slips_83 : decode cX12_slips 83 = .ok (.iinc 4 1, 3) := by decide +kernel
theorem dX12_slips_86 : decode cX12_slips 86 = .ok (.goto (-56), 3) := by decide +kernel
theorem dX12_slips_89 : decode cX12_slips 89 = .ok (.iload_n 2, 1) := by decide +kernel
theorem dX12_slips_90 : decode cX12_slips 90 = .ok (.iconst (-1), 1) := by decide +kernel
theorem dX12_slips_91 : decode cX12_slips 91 = .ok (.if_icmp .ne 7, 3) := by decide +kernel
theorem dX12_slips_94 : decode cX12_slips 94 = .ok (.iload_n 3, 1) := by decide +kernel
theorem dX12_slips_95 : decode cX12_slips 95 = .ok (.goto 4, 3) := by decide +kernel
theorem dX12_slips_98 : decode cX12_slips 98 = .ok (.iconst (-1), 1) := by decide +kernel
theorem dX12_slips_99 : decode cX12_slips 99 = .ok (.ireturn, 1) := by decide +kernel
theorem dX12_rank_0 : decode cX12_rank 0 = .ok (.iconst 0, 1) := by decide +kernel
theorem dX12_rank_1 : decode cX12_rank 1 = .ok (.istore_n 2, 1) := by decide +kernel
theorem dX12_rank_2 : decode cX12_rank 2 = .ok (.iconst 0, 1) := by decide +kernel
theorem dX12_rank_3 : decode cX12_rank 3 = .ok (.istore_n 3, 1) := by decide +kernel
theorem dX12_rank_4 : decode cX12_rank 4 = .ok (.iload_n 3, 1) := by decide +kernel
theorem dX12_rank_5 : decode cX12_rank 5 = .ok (.aload_n 0, 1) := by decide +kernel
theorem dX12_rank_6 : decode cX12_rank 6 = .ok (.getfield 13, 3) := by decide +kernel
theorem dX12_rank_9 : decode cX12_rank 9 = .ok (.if_icmp .ge 64, 3) := by decide +kernel
theorem dX12_rank_12 : decode cX12_rank 12 = .ok (.iconst 0, 1) := by decide +kernel
theorem dX12_rank_13 : decode cX12_rank 13 = .ok (.istore 4, 2) := by decide +kernel
theorem dX12_rank_15 : decode cX12_rank 15 = .ok (.iload_n 3, 1) := by decide +kernel
theorem dX12_rank_16 : decode cX12_rank 16 = .ok (.iconst 1, 1) := by decide +kernel
theorem dX12_rank_17 : decode cX12_rank 17 = .ok (.iadd, 1) := by decide +kernel
theorem dX12_rank_18 : decode cX12_rank 18 = .ok (.istore 5, 2) := by decide +kernel
theorem dX12_rank_20 : decode cX12_rank 20 = .ok (.iload 5, 2) := by decide +kernel
theorem dX12_rank_22 : decode cX12_rank 22 = .ok (.aload_n 0, 1) := by decide +kernel
theorem dX12_rank_23 : decode cX12_rank 23 = .ok (.getfield 13, 3) := by decide +kernel
theorem dX12_rank_26 : decode cX12_rank 26 = .ok (.if_icmp .ge 29, 3) := by decide +kernel
theorem dX12_rank_29 : decode cX12_rank 29 = .ok (.iload 4, 2) := by decide +kernel
theorem dX12_rank_31 : decode cX12_rank 31 = .ok (.aload_n 1, 1) := by decide +kernel
theorem dX12_rank_32 : decode cX12_rank 32 = .ok (.iload 5, 2) := by decide +kernel
theorem dX12_rank_34 : decode cX12_rank 34 = .ok (.iaload, 1) := by decide +kernel
theorem dX12_rank_35 : decode cX12_rank 35 = .ok (.aload_n 1, 1) := by decide +kernel
theorem dX12_rank_36 : decode cX12_rank 36 = .ok (.iload_n 3, 1) := by decide +kernel
theorem dX12_rank_37 : decode cX12_rank 37 = .ok (.iaload, 1) := by decide +kernel
theorem dX12_rank_38 : decode cX12_rank 38 = .ok (.if_icmp .ge 7, 3) := by decide +kernel
theorem dX12_rank_41 : decode cX12_rank 41 = .ok (.iconst 1, 1) := by decide +kernel
theorem dX12_rank_42 : decode cX12_rank 42 = .ok (.goto 4, 3) := by decide +kernel
theorem dX12_rank_45 : decode cX12_rank 45 = .ok (.iconst 0, 1) := by decide +kernel
theorem dX12_rank_46 : decode cX12_rank 46 = .ok (.iadd, 1) := by decide +kernel
theorem dX12_rank_47 : decode cX12_rank 47 = .ok (.istore 4, 2) := by decide +kernel
theorem dX12_rank_49 : decode cX12_rank 49 = .ok (.iinc 5 1, 3) := by decide +kernel
theorem dX12_rank_52 : decode cX12_rank 52 = .ok (.goto (-32), 3) := by decide +kernel
theorem dX12_rank_55 : decode cX12_rank 55 = .ok (.iload_n 2, 1) := by decide +kernel
theorem dX12_rank_56 : decode cX12_rank 56 = .ok (.aload_n 0, 1) := by decide +kernel
theorem dX12_rank_57 : decode cX12_rank 57 = .ok (.getfield 13, 3) := by decide +kernel
theorem dX12_rank_60 : decode cX12_rank 60 = .ok (.iload_n 3, 1) := by decide +kernel
theorem dX12_rank_61 : decode cX12_rank 61 = .ok (.isub, 1) := by decide +kernel
theorem dX12_rank_62 : decode cX12_rank 62 = .ok (.imul, 1) := by decide +kernel
theorem dX12_rank_63 : decode cX12_rank 63 = .ok (.iload 4, 2) := by decide +kernel
theorem dX12_rank_65 : decode cX12_rank 65 = .ok (.iadd, 1) := by decide +kernel
theorem dX12_rank_66 : decode cX12_rank 66 = .ok (.istore_n 2, 1) := by decide +kernel
theorem dX12_rank_67 : decode cX12_rank 67 = .ok (.iinc 3 1, 3) := by decide +kernel
theorem dX12_rank_70 : decode cX12_rank 70 = .ok (.goto (-66), 3) := by decide +kernel
theorem dX12_rank_73 : decode cX12_rank 73 = .ok (.iload_n 2, 1) := by decide +kernel
theorem dX12_rank_74 : decode cX12_rank 74 = .ok (.ireturn, 1) := by decide +kernel
theorem dX12_unrank_0 : decode cX12_unrank 0 = .ok (.iload_n 1, 1) := by decide +kernel
theorem dX12_unrank_1 : decode cX12_unrank 1 = .ok (.istore_n 3, 1) := by decide +kernel
theorem dX12_unrank_2 : decode cX12_unrank 2 = .ok (.aload_n 0, 1) := by decide +kernel
theorem dX12_unrank_3 : decode cX12_unrank 3 = .ok (.getfield 13, 3) := by decide +kernel
theorem dX12_unrank_6 : decode cX12_unrank 6 = .ok (.iconst 1, 1) := by decide +kernel
theorem dX12_unrank_7 : decode cX12_unrank 7 = .ok (.isub, 1) := by decide +kernel
theorem dX12_unrank_8 : decode cX12_unrank 8 = .ok (.istore 4, 2) := by decide +kernel
theorem dX12_unrank_10 : decode cX12_unrank 10 = .ok (.iload 4, 2) := by decide +kernel
theorem dX12_unrank_12 : decode cX12_unrank 12 = .ok (.ifCond .lt 35, 3) := by decide +kernel
theorem dX12_unrank_15 : decode cX12_unrank 15 = .ok (.aload_n 0, 1) := by decide +kernel
theorem dX12_unrank_16 : decode cX12_unrank 16 = .ok (.getfield 162, 3) := by decide +kernel
theorem dX12_unrank_19 : decode cX12_unrank 19 = .ok (.iload 4, 2) := by decide +kernel
theorem dX12_unrank_21 : decode cX12_unrank 21 = .ok (.iload_n 3, 1) := by decide +kernel
theorem dX12_unrank_22 : decode cX12_unrank 22 = .ok (.aload_n 0, 1) := by decide +kernel
theorem dX12_unrank_23 : decode cX12_unrank 23 = .ok (.getfield 13, 3) := by decide +kernel
theorem dX12_unrank_26 : decode cX12_unrank 26 = .ok (.iload 4, 2) := by decide +kernel
theorem dX12_unrank_28 : decode cX12_unrank 28 = .ok (.isub, 1) := by decide +kernel
theorem dX12_unrank_29 : decode cX12_unrank 29 = .ok (.irem, 1) := by decide +kernel
theorem dX12_unrank_30 : decode cX12_unrank 30 = .ok (.iastore, 1) := by decide +kernel
theorem dX12_unrank_31 : decode cX12_unrank 31 = .ok (.iload_n 3, 1) := by decide +kernel
theorem dX12_unrank_32 : decode cX12_unrank 32 = .ok (.aload_n 0, 1) := by decide +kernel
theorem dX12_unrank_33 : decode cX12_unrank 33 = .ok (.getfield 13, 3) := by decide +kernel
theorem dX12_unrank_36 : decode cX12_unrank 36 = .ok (.iload 4, 2) := by decide +kernel
theorem dX12_unrank_38 : decode cX12_unrank 38 = .ok (.isub, 1) := by decide +kernel
theorem dX12_unrank_39 : decode cX12_unrank 39 = .ok (.idiv, 1) := by decide +kernel
theorem dX12_unrank_40 : decode cX12_unrank 40 = .ok (.istore_n 3, 1) := by decide +kernel
theorem dX12_unrank_41 : decode cX12_unrank 41 = .ok (.iinc 4 (-1), 3) := by decide +kernel
theorem dX12_unrank_44 : decode cX12_unrank 44 = .ok (.goto (-34), 3) := by decide +kernel
theorem dX12_unrank_47 : decode cX12_unrank 47 = .ok (.iconst 0, 1) := by decide +kernel
theorem dX12_unrank_48 : decode cX12_unrank 48 = .ok (.istore 4, 2) := by decide +kernel
theorem dX12_unrank_50 : decode cX12_unrank 50 = .ok (.iconst 0, 1) := by decide +kernel
theorem dX12_unrank_51 : decode cX12_unrank 51 = .ok (.istore 5, 2) := by decide +kernel
theorem dX12_unrank_53 : decode cX12_unrank 53 = .ok (.iload 5, 2) := by decide +kernel
theorem dX12_unrank_55 : decode cX12_unrank 55 = .ok (.aload_n 0, 1) := by decide +kernel
theorem dX12_unrank_56 : decode cX12_unrank 56 = .ok (.getfield 13, 3) := by decide +kernel
theorem dX12_unrank_59 : decode cX12_unrank 59 = .ok (.if_icmp .ge 79, 3) := by decide +kernel
theorem dX12_unrank_62 : decode cX12_unrank 62 = .ok (.iconst 0, 1) := by decide +kernel
theorem dX12_unrank_63 : decode cX12_unrank 63 = .ok (.istore 6, 2) := by decide +kernel
theorem dX12_unrank_65 : decode cX12_unrank 65 = .ok (.aload_n 0, 1) := by decide +kernel
theorem dX12_unrank_66 : decode cX12_unrank 66 = .ok (.getfield 162, 3) := by decide +kernel
theorem dX12_unrank_69 : decode cX12_unrank 69 = .ok (.iload 5, 2) := by decide +kernel
theorem dX12_unrank_71 : decode cX12_unrank 71 = .ok (.iaload, 1) := by decide +kernel
theorem dX12_unrank_72 : decode cX12_unrank 72 = .ok (.istore 7, 2) := by decide +kernel
theorem dX12_unrank_74 : decode cX12_unrank 74 = .ok (.iload 4, 2) := by decide +kernel
theorem dX12_unrank_76 : decode cX12_unrank 76 = .ok (.iload 6, 2) := by decide +kernel
theorem dX12_unrank_78 : decode cX12_unrank 78 = .ok (.ishr, 1) := by decide +kernel
theorem dX12_unrank_79 : decode cX12_unrank 79 = .ok (.iconst 1, 1) := by decide +kernel
theorem dX12_unrank_80 : decode cX12_unrank 80 = .ok (.iand, 1) := by decide +kernel
theorem dX12_unrank_81 : decode cX12_unrank 81 = .ok (.iconst 1, 1) := by decide +kernel
theorem dX12_unrank_82 : decode cX12_unrank 82 = .ok (.if_icmp .eq 8, 3) := by decide +kernel
theorem dX12_unrank_85 : decode cX12_unrank 85 = .ok (.iload 7, 2) := by decide +kernel
theorem dX12_unrank_87 : decode cX12_unrank 87 = .ok (.ifCond .le 30, 3) := by decide +kernel
theorem dX12_unrank_90 : decode cX12_unrank 90 = .ok (.iload 7, 2) := by decide +kernel
theorem dX12_unrank_92 : decode cX12_unrank 92 = .ok (.iload 4, 2) := by decide +kernel
theorem dX12_unrank_94 : decode cX12_unrank 94 = .ok (.iload 6, 2) := by decide +kernel
theorem dX12_unrank_96 : decode cX12_unrank 96 = .ok (.ishr, 1) := by decide +kernel
theorem dX12_unrank_97 : decode cX12_unrank 97 = .ok (.iconst 1, 1) := by decide +kernel
theorem dX12_unrank_98 : decode cX12_unrank 98 = .ok (.iand, 1) := by decide +kernel
theorem dX12_unrank_99 : decode cX12_unrank 99 = .ok (.iconst 1, 1) := by decide +kernel
theorem dX12_unrank_100 : decode cX12_unrank 100 = .ok (.if_icmp .ne 7, 3) := by decide +kernel
theorem dX12_unrank_103 : decode cX12_unrank 103 = .ok (.iconst 0, 1) := by decide +kernel
theorem dX12_unrank_104 : decode cX12_unrank 104 = .ok (.goto 4, 3) := by decide +kernel
theorem dX12_unrank_107 : decode cX12_unrank 107 = .ok (.iconst 1, 1) := by decide +kernel
theorem dX12_unrank_108 : decode cX12_unrank 108 = .ok (.isub, 1) := by decide +kernel
theorem dX12_unrank_109 : decode cX12_unrank 109 = .ok (.istore 7, 2) := by decide +kernel
theorem dX12_unrank_111 : decode cX12_unrank 111 = .ok (.iinc 6 1, 3) := by decide +kernel
theorem dX12_unrank_114 : decode cX12_unrank 114 = .ok (.goto (-40), 3) := by decide +kernel
theorem dX12_unrank_117 : decode cX12_unrank 117 = .ok (.aload_n 2, 1) := by decide +kernel
theorem dX12_unrank_118 : decode cX12_unrank 118 = .ok (.iload 5, 2) := by decide +kernel
theorem dX12_unrank_120 : decode cX12_unrank 120 = .ok (.iload 6, 2) := by decide +kernel
theorem dX12_unrank_122 : decode cX12_unrank 122 = .ok (.iastore, 1) := by decide +kernel
theorem dX12_unrank_123 : decode cX12_unrank 123 = .ok (.iload 4, 2) := by decide +kernel
theorem dX12_unrank_125 : decode cX12_unrank 125 = .ok (.iconst 1, 1) := by decide +kernel
theorem dX12_unrank_126 : decode cX12_unrank 126 = .ok (.iload 6, 2) := by decide +kernel
theorem dX12_unrank_128 : decode cX12_unrank 128 = .ok (.ishl, 1) := by decide +kernel
theorem dX12_unrank_129 : decode cX12_unrank 129 = .ok (.ior, 1) := by decide +kernel
theorem dX12_unrank_130 : decode cX12_unrank 130 = .ok (.istore 4, 2) := by decide +kernel
theorem dX12_unrank_132 : decode cX12_unrank 132 = .ok (.iinc 5 1, 3) := by decide +kernel
theorem dX12_unrank_135 : decode cX12_unrank 135 = .ok (.goto (-82), 3) := by decide +kernel
theorem dX12_unrank_138 : decode cX12_unrank 138 = .ok (.return_, 1) := by decide +kernel
theorem dX12_swap_0 : decode cX12_swap 0 = .ok (.aload_n 1, 1) := by decide +kernel
theorem dX12_swap_1 : decode cX12_swap 1 = .ok (.iload_n 2, 1) := by decide +kernel
theorem dX12_swap_2 : decode cX12_swap 2 = .ok (.iaload, 1) := by decide +kernel
theorem dX12_swap_3 : decode cX12_swap 3 = .ok (.istore_n 3, 1) := by decide +kernel
theorem dX12_swap_4 : decode cX12_swap 4 = .ok (.aload_n 1, 1) := by decide +kernel
theorem dX12_swap_5 : decode cX12_swap 5 = .ok (.iload_n 2, 1) := by decide +kernel
theorem dX12_swap_6 : decode cX12_swap 6 = .ok (.aload_n 1, 1) := by decide +kernel
theorem dX12_swap_7 : decode cX12_swap 7 = .ok (.aload_n 0, 1) := by decide +kernel
theorem dX12_swap_8 : decode cX12_swap 8 = .ok (.iload_n 2, 1) := by decide +kernel
theorem dX12_swap_9 : decode cX12_swap 9 = .ok (.invokevirtual 207, 3) := by decide +kernel
theorem dX12_swap_12 : decode cX12_swap 12 = .ok (.iaload, 1) := by decide +kernel
theorem dX12_swap_13 : decode cX12_swap 13 = .ok (.iastore, 1) := by decide +kernel
theorem dX12_swap_14 : decode cX12_swap 14 = .ok (.aload_n 1, 1) := by decide +kernel
theorem dX12_swap_15 : decode cX12_swap 15 = .ok (.aload_n 0, 1) := by decide +kernel
theorem dX12_swap_16 : decode cX12_swap 16 = .ok (.iload_n 2, 1) := by decide +kernel
theorem dX12_swap_17 : decode cX12_swap 17 = .ok (.invokevirtual 207, 3) := by decide +kernel
theorem dX12_swap_20 : decode cX12_swap 20 = .ok (.iload_n 3, 1) := by decide +kernel
theorem dX12_swap_21 : decode cX12_swap 21 = .ok (.iastore, 1) := by decide +kernel
theorem dX12_swap_22 : decode cX12_swap 22 = .ok (.return_, 1) := by decide +kernel
theorem dX12_findFar_0 : decode cX12_findFar 0 = .ok (.iconst 1, 1) := by decide +kernel
theorem dX12_findFar_1 : decode cX12_findFar 1 = .ok (.istore_n 1, 1) := by decide +kernel
theorem dX12_findFar_2 : decode cX12_findFar 2 = .ok (.iconst 2, 1) := by decide +kernel
theorem dX12_findFar_3 : decode cX12_findFar 3 = .ok (.istore_n 2, 1) := by decide +kernel
theorem dX12_findFar_4 : decode cX12_findFar 4 = .ok (.iload_n 2, 1) := by decide +kernel
theorem dX12_findFar_5 : decode cX12_findFar 5 = .ok (.aload_n 0, 1) := by decide +kernel
theorem dX12_findFar_6 : decode cX12_findFar 6 = .ok (.getfield 13, 3) := by decide +kernel
theorem dX12_findFar_9 : decode cX12_findFar 9 = .ok (.if_icmp .gt 13, 3) := by decide +kernel
theorem dX12_findFar_12 : decode cX12_findFar 12 = .ok (.iload_n 1, 1) := by decide +kernel
theorem dX12_findFar_13 : decode cX12_findFar 13 = .ok (.iload_n 2, 1) := by decide +kernel
theorem dX12_findFar_14 : decode cX12_findFar 14 = .ok (.imul, 1) := by decide +kernel
theorem dX12_findFar_15 : decode cX12_findFar 15 = .ok (.istore_n 1, 1) := by decide +kernel
theorem dX12_findFar_16 : decode cX12_findFar 16 = .ok (.iinc 2 1, 3) := by decide +kernel
theorem dX12_findFar_19 : decode cX12_findFar 19 = .ok (.goto (-15), 3) := by decide +kernel
theorem dX12_findFar_22 : decode cX12_findFar 22 = .ok (.iconst 0, 1) := by decide +kernel
theorem dX12_findFar_23 : decode cX12_findFar 23 = .ok (.istore_n 2, 1) := by decide +kernel
theorem dX12_findFar_24 : decode cX12_findFar 24 = .ok (.iload_n 2, 1) := by decide +kernel
theorem dX12_findFar_25 : decode cX12_findFar 25 = .ok (.iload_n 1, 1) := by decide +kernel
theorem dX12_findFar_26 : decode cX12_findFar 26 = .ok (.if_icmp .ge 16, 3) := by decide +kernel
theorem dX12_findFar_29 : decode cX12_findFar 29 = .ok (.aload_n 0, 1) := by decide +kernel
theorem dX12_findFar_30 : decode cX12_findFar 30 = .ok (.getfield 150, 3) := by decide +kernel
theorem dX12_findFar_33 : decode cX12_findFar 33 = .ok (.iload_n 2, 1) := by decide +kernel
theorem dX12_findFar_34 : decode cX12_findFar 34 = .ok (.iconst (-1), 1) := by decide +kernel
theorem dX12_findFar_35 : decode cX12_findFar 35 = .ok (.iastore, 1) := by decide +kernel
theorem dX12_findFar_36 : decode cX12_findFar 36 = .ok (.iinc 2 1, 3) := by decide +kernel
theorem dX12_findFar_39 : decode cX12_findFar 39 = .ok (.goto (-15), 3) := by decide +kernel
theorem dX12_findFar_42 : decode cX12_findFar 42 = .ok (.iconst 0, 1) := by decide +kernel
theorem dX12_findFar_43 : decode cX12_findFar 43 = .ok (.istore_n 2, 1) := by decide +kernel
theorem dX12_findFar_44 : decode cX12_findFar 44 = .ok (.iconst 1, 1) := by decide +kernel
theorem dX12_findFar_45 : decode cX12_findFar 45 = .ok (.istore_n 3, 1) := by decide +kernel
theorem dX12_findFar_46 : decode cX12_findFar 46 = .ok (.aload_n 0, 1) := by decide +kernel
theorem dX12_findFar_47 : decode cX12_findFar 47 = .ok (.getfield 153, 3) := by decide +kernel
theorem dX12_findFar_50 : decode cX12_findFar 50 = .ok (.iconst 0, 1) := by decide +kernel
theorem dX12_findFar_51 : decode cX12_findFar 51 = .ok (.aload_n 0, 1) := by decide +kernel
theorem dX12_findFar_52 : decode cX12_findFar 52 = .ok (.aload_n 0, 1) := by decide +kernel
theorem dX12_findFar_53 : decode cX12_findFar 53 = .ok (.getfield 147, 3) := by decide +kernel
theorem dX12_findFar_56 : decode cX12_findFar 56 = .ok (.invokevirtual 300, 3) := by decide +kernel
theorem dX12_findFar_59 : decode cX12_findFar 59 = .ok (.iastore, 1) := by decide +kernel
theorem dX12_findFar_60 : decode cX12_findFar 60 = .ok (.aload_n 0, 1) := by decide +kernel
theorem dX12_findFar_61 : decode cX12_findFar 61 = .ok (.getfield 150, 3) := by decide +kernel
theorem dX12_findFar_64 : decode cX12_findFar 64 = .ok (.aload_n 0, 1) := by decide +kernel
theorem dX12_findFar_65 : decode cX12_findFar 65 = .ok (.getfield 153, 3) := by decide +kernel
theorem dX12_findFar_68 : decode cX12_findFar 68 = .ok (.iconst 0, 1) := by decide +kernel
theorem dX12_findFar_69 : decode cX12_findFar 69 = .ok (.iaload, 1) := by decide +kernel
theorem dX12_findFar_70 : decode cX12_findFar 70 = .ok (.iconst 0, 1) := by decide +kernel
end
section
theorem dX12_findFar_71 : decode cX12_findFar 71 = .ok (.iastore, 1) := by decide +kernel
theorem dX12_findFar_72 : decode cX12_findFar 72 = .ok (.iload_n 2, 1) := by decide +kernel
theorem dX12_findFar_73 : decode cX12_findFar 73 = .ok (.iload_n 3, 1) := by decide +kernel
theorem dX12_findFar_74 : decode cX12_findFar 74 = .ok (.if_icmp .ge 116, 3) := by decide +kernel
theorem dX12_findFar_77 : decode cX12_findFar 77 = .ok (.aload_n 0, 1) := by decide +kernel
theorem dX12_findFar_78 : decode cX12_findFar 78 = .ok (.getfield 150, 3) := by decide +kernel
theorem dX12_findFar_81 : decode cX12_findFar 81 = .ok (.aload_n 0, 1) := by decide +kernel
theorem dX12_findFar_82 : decode cX12_findFar 82 = .ok (.getfield 153, 3) := by decide +kernel
theorem dX12_findFar_85 : decode cX12_findFar 85 = .ok (.iload_n 2, 1) := by decide +kernel
theorem dX12_findFar_86 : decode cX12_findFar 86 = .ok (.iaload, 1) := by decide +kernel
theorem dX12_findFar_87 : decode cX12_findFar 87 = .ok (.iaload, 1) := by decide +kernel
theorem dX12_findFar_88 : decode cX12_findFar 88 = .ok (.istore 4, 2) := by decide +kernel
theorem dX12_findFar_90 : decode cX12_findFar 90 = .ok (.aload_n 0, 1) := by decide +kernel
theorem dX12_findFar_91 : decode cX12_findFar 91 = .ok (.aload_n 0, 1) := by decide +kernel
theorem dX12_findFar_92 : decode cX12_findFar 92 = .ok (.getfield 153, 3) := by decide +kernel
theorem dX12_findFar_95 : decode cX12_findFar 95 = .ok (.iload_n 2, 1) := by decide +kernel
theorem dX12_findFar_96 : decode cX12_findFar 96 = .ok (.iaload, 1) := by decide +kernel
theorem dX12_findFar_97 : decode cX12_findFar 97 = .ok (.aload_n 0, 1) := by decide +kernel
theorem dX12_findFar_98 : decode cX12_findFar 98 = .ok (.getfield 144, 3) := by decide +kernel
theorem dX12_findFar_101 : decode cX12_findFar 101 = .ok (.invokevirtual 303, 3) := by decide +kernel
theorem dX12_findFar_104 : decode cX12_findFar 104 = .ok (.iinc 2 1, 3) := by decide +kernel
theorem dX12_findFar_107 : decode cX12_findFar 107 = .ok (.iconst 0, 1) := by decide +kernel
theorem dX12_findFar_108 : decode cX12_findFar 108 = .ok (.istore 5, 2) := by decide +kernel
theorem dX12_findFar_110 : decode cX12_findFar 110 = .ok (.iload 5, 2) := by decide +kernel
theorem dX12_findFar_112 : decode cX12_findFar 112 = .ok (.aload_n 0, 1) := by decide +kernel
theorem dX12_findFar_113 : decode cX12_findFar 113 = .ok (.getfield 13, 3) := by decide +kernel
theorem dX12_findFar_116 : decode cX12_findFar 116 = .ok (.if_icmp .ge 71, 3) := by decide +kernel
theorem dX12_findFar_119 : decode cX12_findFar 119 = .ok (.aload_n 0, 1) := by decide +kernel
theorem dX12_findFar_120 : decode cX12_findFar 120 = .ok (.aload_n 0, 1) := by decide +kernel
theorem dX12_findFar_121 : decode cX12_findFar 121 = .ok (.getfield 144, 3) := by decide +kernel
theorem dX12_findFar_124 : decode cX12_findFar 124 = .ok (.iload 5, 2) := by decide +kernel
theorem dX12_findFar_126 : decode cX12_findFar 126 = .ok (.invokevirtual 307, 3) := by decide +kernel
theorem dX12_findFar_129 : decode cX12_findFar 129 = .ok (.aload_n 0, 1) := by decide +kernel
theorem dX12_findFar_130 : decode cX12_findFar 130 = .ok (.aload_n 0, 1) := by decide +kernel
theorem dX12_findFar_131 : decode cX12_findFar 131 = .ok (.getfield 144, 3) := by decide +kernel
theorem dX12_findFar_134 : decode cX12_findFar 134 = .ok (.invokevirtual 300, 3) := by decide +kernel
theorem dX12_findFar_137 : decode cX12_findFar 137 = .ok (.istore 6, 2) := by decide +kernel
theorem dX12_findFar_139 : decode cX12_findFar 139 = .ok (.aload_n 0, 1) := by decide +kernel
theorem dX12_findFar_140 : decode cX12_findFar 140 = .ok (.getfield 150, 3) := by decide +kernel
theorem dX12_findFar_143 : decode cX12_findFar 143 = .ok (.iload 6, 2) := by decide +kernel
theorem dX12_findFar_145 : decode cX12_findFar 145 = .ok (.iaload, 1) := by decide +kernel
theorem dX12_findFar_146 : decode cX12_findFar 146 = .ok (.ifCond .ge 25, 3) := by decide +kernel
theorem dX12_findFar_149 : decode cX12_findFar 149 = .ok (.aload_n 0, 1) := by decide +kernel
theorem dX12_findFar_150 : decode cX12_findFar 150 = .ok (.getfield 150, 3) := by decide +kernel
theorem dX12_findFar_153 : decode cX12_findFar 153 = .ok (.iload 6, 2) := by decide +kernel
theorem dX12_findFar_155 : decode cX12_findFar 155 = .ok (.iload 4, 2) := by decide +kernel
theorem dX12_findFar_157 : decode cX12_findFar 157 = .ok (.iconst 1, 1) := by decide +kernel
theorem dX12_findFar_158 : decode cX12_findFar 158 = .ok (.iadd, 1) := by decide +kernel
theorem dX12_findFar_159 : decode cX12_findFar 159 = .ok (.iastore, 1) := by decide +kernel
theorem dX12_findFar_160 : decode cX12_findFar 160 = .ok (.aload_n 0, 1) := by decide +kernel
theorem dX12_findFar_161 : decode cX12_findFar 161 = .ok (.getfield 153, 3) := by decide +kernel
theorem dX12_findFar_164 : decode cX12_findFar 164 = .ok (.iload_n 3, 1) := by decide +kernel
theorem dX12_findFar_165 : decode cX12_findFar 165 = .ok (.iload 6, 2) := by decide +kernel
theorem dX12_findFar_167 : decode cX12_findFar 167 = .ok (.iastore, 1) := by decide +kernel
theorem dX12_findFar_168 : decode cX12_findFar 168 = .ok (.iinc 3 1, 3) := by decide +kernel
theorem dX12_findFar_171 : decode cX12_findFar 171 = .ok (.aload_n 0, 1) := by decide +kernel
theorem dX12_findFar_172 : decode cX12_findFar 172 = .ok (.aload_n 0, 1) := by decide +kernel
theorem dX12_findFar_173 : decode cX12_findFar 173 = .ok (.getfield 144, 3) := by decide +kernel
theorem dX12_findFar_176 : decode cX12_findFar 176 = .ok (.iload 5, 2) := by decide +kernel
theorem dX12_findFar_178 : decode cX12_findFar 178 = .ok (.invokevirtual 307, 3) := by decide +kernel
theorem dX12_findFar_181 : decode cX12_findFar 181 = .ok (.iinc 5 1, 3) := by decide +kernel
theorem dX12_findFar_184 : decode cX12_findFar 184 = .ok (.goto (-74), 3) := by decide +kernel
theorem dX12_findFar_187 : decode cX12_findFar 187 = .ok (.goto (-115), 3) := by decide +kernel
theorem dX12_findFar_190 : decode cX12_findFar 190 = .ok (.return_, 1) := by decide +kernel
theorem dX12_fewest_0 : decode cX12_fewest 0 = .ok (.aload_n 0, 1) := by decide +kernel
theorem dX12_fewest_1 : decode cX12_fewest 1 = .ok (.iload_n 1, 1) := by decide +kernel
theorem dX12_fewest_2 : decode cX12_fewest 2 = .ok (.invokevirtual 310, 3) := by decide +kernel
theorem dX12_fewest_5 : decode cX12_fewest 5 = .ok (.ifCond .eq 8, 3) := by decide +kernel
theorem dX12_fewest_8 : decode cX12_fewest 8 = .ok (.iload_n 2, 1) := by decide +kernel
theorem dX12_fewest_9 : decode cX12_fewest 9 = .ok (.iconst (-1), 1) := by decide +kernel
theorem dX12_fewest_10 : decode cX12_fewest 10 = .ok (.if_icmp .ge 5, 3) := by decide +kernel
theorem dX12_fewest_13 : decode cX12_fewest 13 = .ok (.iconst (-1), 1) := by decide +kernel
theorem dX12_fewest_14 : decode cX12_fewest 14 = .ok (.ireturn, 1) := by decide +kernel
theorem dX12_fewest_15 : decode cX12_fewest 15 = .ok (.aload_n 0, 1) := by decide +kernel
theorem dX12_fewest_16 : decode cX12_fewest 16 = .ok (.getfield 13, 3) := by decide +kernel
theorem dX12_fewest_19 : decode cX12_fewest 19 = .ok (.ifCond .eq 12, 3) := by decide +kernel
theorem dX12_fewest_22 : decode cX12_fewest 22 = .ok (.aload_n 0, 1) := by decide +kernel
theorem dX12_fewest_23 : decode cX12_fewest 23 = .ok (.getfield 13, 3) := by decide +kernel
theorem dX12_fewest_26 : decode cX12_fewest 26 = .ok (.bipush 7, 2) := by decide +kernel
theorem dX12_fewest_28 : decode cX12_fewest 28 = .ok (.if_icmp .le 6, 3) := by decide +kernel
theorem dX12_fewest_31 : decode cX12_fewest 31 = .ok (.bipush (-3), 2) := by decide +kernel
theorem dX12_fewest_33 : decode cX12_fewest 33 = .ok (.ireturn, 1) := by decide +kernel
theorem dX12_fewest_34 : decode cX12_fewest 34 = .ok (.aload_n 0, 1) := by decide +kernel
theorem dX12_fewest_35 : decode cX12_fewest 35 = .ok (.getfield 183, 3) := by decide +kernel
theorem dX12_fewest_38 : decode cX12_fewest 38 = .ok (.iload_n 1, 1) := by decide +kernel
theorem dX12_fewest_39 : decode cX12_fewest 39 = .ok (.iaload, 1) := by decide +kernel
theorem dX12_fewest_40 : decode cX12_fewest 40 = .ok (.ifCond .ge 6, 3) := by decide +kernel
theorem dX12_fewest_43 : decode cX12_fewest 43 = .ok (.bipush (-11), 2) := by decide +kernel
theorem dX12_fewest_45 : decode cX12_fewest 45 = .ok (.ireturn, 1) := by decide +kernel
theorem dX12_fewest_46 : decode cX12_fewest 46 = .ok (.aload_n 0, 1) := by decide +kernel
theorem dX12_fewest_47 : decode cX12_fewest 47 = .ok (.getfield 183, 3) := by decide +kernel
theorem dX12_fewest_50 : decode cX12_fewest 50 = .ok (.iload_n 1, 1) := by decide +kernel
theorem dX12_fewest_51 : decode cX12_fewest 51 = .ok (.iaload, 1) := by decide +kernel
theorem dX12_fewest_52 : decode cX12_fewest 52 = .ok (.ifCond .eq 6, 3) := by decide +kernel
theorem dX12_fewest_55 : decode cX12_fewest 55 = .ok (.bipush (-12), 2) := by decide +kernel
theorem dX12_fewest_57 : decode cX12_fewest 57 = .ok (.ireturn, 1) := by decide +kernel
theorem dX12_fewest_58 : decode cX12_fewest 58 = .ok (.aload_n 0, 1) := by decide +kernel
theorem dX12_fewest_59 : decode cX12_fewest 59 = .ok (.getfield 186, 3) := by decide +kernel
theorem dX12_fewest_62 : decode cX12_fewest 62 = .ok (.iload_n 1, 1) := by decide +kernel
theorem dX12_fewest_63 : decode cX12_fewest 63 = .ok (.iaload, 1) := by decide +kernel
theorem dX12_fewest_64 : decode cX12_fewest 64 = .ok (.aload_n 0, 1) := by decide +kernel
theorem dX12_fewest_65 : decode cX12_fewest 65 = .ok (.getfield 13, 3) := by decide +kernel
theorem dX12_fewest_68 : decode cX12_fewest 68 = .ok (.if_icmp .ge 6, 3) := by decide +kernel
theorem dX12_fewest_71 : decode cX12_fewest 71 = .ok (.bipush (-13), 2) := by decide +kernel
theorem dX12_fewest_73 : decode cX12_fewest 73 = .ok (.ireturn, 1) := by decide +kernel
theorem dX12_fewest_74 : decode cX12_fewest 74 = .ok (.iconst 0, 1) := by decide +kernel
theorem dX12_fewest_75 : decode cX12_fewest 75 = .ok (.istore_n 3, 1) := by decide +kernel
theorem dX12_fewest_76 : decode cX12_fewest 76 = .ok (.iconst 0, 1) := by decide +kernel
theorem dX12_fewest_77 : decode cX12_fewest 77 = .ok (.istore 4, 2) := by decide +kernel
theorem dX12_fewest_79 : decode cX12_fewest 79 = .ok (.iload 4, 2) := by decide +kernel
theorem dX12_fewest_81 : decode cX12_fewest 81 = .ok (.aload_n 0, 1) := by decide +kernel
theorem dX12_fewest_82 : decode cX12_fewest 82 = .ok (.getfield 13, 3) := by decide +kernel
theorem dX12_fewest_85 : decode cX12_fewest 85 = .ok (.if_icmp .ge 51, 3) := by decide +kernel
theorem dX12_fewest_88 : decode cX12_fewest 88 = .ok (.aload_n 0, 1) := by decide +kernel
theorem dX12_fewest_89 : decode cX12_fewest 89 = .ok (.getfield 189, 3) := by decide +kernel
theorem dX12_fewest_92 : decode cX12_fewest 92 = .ok (.bipush 60, 2) := by decide +kernel
theorem dX12_fewest_94 : decode cX12_fewest 94 = .ok (.iload_n 1, 1) := by decide +kernel
theorem dX12_fewest_95 : decode cX12_fewest 95 = .ok (.imul, 1) := by decide +kernel
theorem dX12_fewest_96 : decode cX12_fewest 96 = .ok (.iload 4, 2) := by decide +kernel
theorem dX12_fewest_98 : decode cX12_fewest 98 = .ok (.iadd, 1) := by decide +kernel
theorem dX12_fewest_99 : decode cX12_fewest 99 = .ok (.iaload, 1) := by decide +kernel
theorem dX12_fewest_100 : decode cX12_fewest 100 = .ok (.istore 5, 2) := by decide +kernel
theorem dX12_fewest_102 : decode cX12_fewest 102 = .ok (.aload_n 0, 1) := by decide +kernel
theorem dX12_fewest_103 : decode cX12_fewest 103 = .ok (.iload 5, 2) := by decide +kernel
theorem dX12_fewest_105 : decode cX12_fewest 105 = .ok (.invokevirtual 199, 3) := by decide +kernel
theorem dX12_fewest_108 : decode cX12_fewest 108 = .ok (.ifCond .ne 6, 3) := by decide +kernel
theorem dX12_fewest_111 : decode cX12_fewest 111 = .ok (.bipush (-2), 2) := by decide +kernel
theorem dX12_fewest_113 : decode cX12_fewest 113 = .ok (.ireturn, 1) := by decide +kernel
theorem dX12_fewest_114 : decode cX12_fewest 114 = .ok (.iload_n 3, 1) := by decide +kernel
theorem dX12_fewest_115 : decode cX12_fewest 115 = .ok (.iconst 1, 1) := by decide +kernel
theorem dX12_fewest_116 : decode cX12_fewest 116 = .ok (.iload 5, 2) := by decide +kernel
theorem dX12_fewest_118 : decode cX12_fewest 118 = .ok (.ishl, 1) := by decide +kernel
theorem dX12_fewest_119 : decode cX12_fewest 119 = .ok (.ior, 1) := by decide +kernel
theorem dX12_fewest_120 : decode cX12_fewest 120 = .ok (.istore_n 3, 1) := by decide +kernel
theorem dX12_fewest_121 : decode cX12_fewest 121 = .ok (.aload_n 0, 1) := by decide +kernel
theorem dX12_fewest_122 : decode cX12_fewest 122 = .ok (.getfield 147, 3) := by decide +kernel
theorem dX12_fewest_125 : decode cX12_fewest 125 = .ok (.iload 4, 2) := by decide +kernel
theorem dX12_fewest_127 : decode cX12_fewest 127 = .ok (.iload 5, 2) := by decide +kernel
theorem dX12_fewest_129 : decode cX12_fewest 129 = .ok (.iastore, 1) := by decide +kernel
theorem dX12_fewest_130 : decode cX12_fewest 130 = .ok (.iinc 4 1, 3) := by decide +kernel
theorem dX12_fewest_133 : decode cX12_fewest 133 = .ok (.goto (-54), 3) := by decide +kernel
theorem dX12_fewest_136 : decode cX12_fewest 136 = .ok (.iload_n 3, 1) := by decide +kernel
theorem dX12_fewest_137 : decode cX12_fewest 137 = .ok (.iconst 1, 1) := by decide +kernel
theorem dX12_fewest_138 : decode cX12_fewest 138 = .ok (.aload_n 0, 1) := by decide +kernel
theorem dX12_fewest_139 : decode cX12_fewest 139 = .ok (.getfield 13, 3) := by decide +kernel
theorem dX12_fewest_142 : decode cX12_fewest 142 = .ok (.ishl, 1) := by decide +kernel
theorem dX12_fewest_143 : decode cX12_fewest 143 = .ok (.iconst 1, 1) := by decide +kernel
theorem dX12_fewest_144 : decode cX12_fewest 144 = .ok (.isub, 1) := by decide +kernel
theorem dX12_fewest_145 : decode cX12_fewest 145 = .ok (.if_icmp .eq 6, 3) := by decide +kernel
theorem dX12_fewest_148 : decode cX12_fewest 148 = .ok (.bipush (-2), 2) := by decide +kernel
theorem dX12_fewest_150 : decode cX12_fewest 150 = .ok (.ireturn, 1) := by decide +kernel
theorem dX12_fewest_151 : decode cX12_fewest 151 = .ok (.aload_n 0, 1) := by decide +kernel
theorem dX12_fewest_152 : decode cX12_fewest 152 = .ok (.invokevirtual 313, 3) := by decide +kernel
theorem dX12_fewest_155 : decode cX12_fewest 155 = .ok (.iconst 0, 1) := by decide +kernel
theorem dX12_fewest_156 : decode cX12_fewest 156 = .ok (.istore 4, 2) := by decide +kernel
theorem dX12_fewest_158 : decode cX12_fewest 158 = .ok (.iload 4, 2) := by decide +kernel
theorem dX12_fewest_160 : decode cX12_fewest 160 = .ok (.aload_n 0, 1) := by decide +kernel
theorem dX12_fewest_161 : decode cX12_fewest 161 = .ok (.getfield 13, 3) := by decide +kernel
theorem dX12_fewest_164 : decode cX12_fewest 164 = .ok (.if_icmp .ge 23, 3) := by decide +kernel
theorem dX12_fewest_167 : decode cX12_fewest 167 = .ok (.aload_n 0, 1) := by decide +kernel
theorem dX12_fewest_168 : decode cX12_fewest 168 = .ok (.getfield 144, 3) := by decide +kernel
theorem dX12_fewest_171 : decode cX12_fewest 171 = .ok (.iload 4, 2) := by decide +kernel
theorem dX12_fewest_173 : decode cX12_fewest 173 = .ok (.aload_n 0, 1) := by decide +kernel
theorem dX12_fewest_174 : decode cX12_fewest 174 = .ok (.getfield 29, 3) := by decide +kernel
theorem dX12_fewest_177 : decode cX12_fewest 177 = .ok (.iload 4, 2) := by decide +kernel
theorem dX12_fewest_179 : decode cX12_fewest 179 = .ok (.iaload, 1) := by decide +kernel
theorem dX12_fewest_180 : decode cX12_fewest 180 = .ok (.iastore, 1) := by decide +kernel
theorem dX12_fewest_181 : decode cX12_fewest 181 = .ok (.iinc 4 1, 3) := by decide +kernel
theorem dX12_fewest_184 : decode cX12_fewest 184 = .ok (.goto (-26), 3) := by decide +kernel
theorem dX12_fewest_187 : decode cX12_fewest 187 = .ok (.aload_n 0, 1) := by decide +kernel
theorem dX12_fewest_188 : decode cX12_fewest 188 = .ok (.iconst 0, 1) := by decide +kernel
theorem dX12_fewest_189 : decode cX12_fewest 189 = .ok (.putfield 159, 3) := by decide +kernel
theorem dX12_fewest_192 : decode cX12_fewest 192 = .ok (.aload_n 0, 1) := by decide +kernel
theorem dX12_fewest_193 : decode cX12_fewest 193 = .ok (.getfield 150, 3) := by decide +kernel
theorem dX12_fewest_196 : decode cX12_fewest 196 = .ok (.aload_n 0, 1) := by decide +kernel
theorem dX12_fewest_197 : decode cX12_fewest 197 = .ok (.aload_n 0, 1) := by decide +kernel
theorem dX12_fewest_198 : decode cX12_fewest 198 = .ok (.getfield 144, 3) := by decide +kernel
theorem dX12_fewest_201 : decode cX12_fewest 201 = .ok (.invokevirtual 300, 3) := by decide +kernel
theorem dX12_fewest_204 : decode cX12_fewest 204 = .ok (.iaload, 1) := by decide +kernel
theorem dX12_fewest_205 : decode cX12_fewest 205 = .ok (.ifCond .le 100, 3) := by decide +kernel
theorem dX12_fewest_208 : decode cX12_fewest 208 = .ok (.aload_n 0, 1) := by decide +kernel
theorem dX12_fewest_209 : decode cX12_fewest 209 = .ok (.getfield 150, 3) := by decide +kernel
theorem dX12_fewest_212 : decode cX12_fewest 212 = .ok (.aload_n 0, 1) := by decide +kernel
theorem dX12_fewest_213 : decode cX12_fewest 213 = .ok (.aload_n 0, 1) := by decide +kernel
theorem dX12_fewest_214 : decode cX12_fewest 214 = .ok (.getfield 144, 3) := by decide +kernel
theorem dX12_fewest_217 : decode cX12_fewest 217 = .ok (.invokevirtual 300, 3) := by decide +kernel
theorem dX12_fewest_220 : decode cX12_fewest 220 = .ok (.iaload, 1) := by decide +kernel
theorem dX12_fewest_221 : decode cX12_fewest 221 = .ok (.istore 4, 2) := by decide +kernel
theorem dX12_fewest_223 : decode cX12_fewest 223 = .ok (.iconst 0, 1) := by decide +kernel
theorem dX12_fewest_224 : decode cX12_fewest 224 = .ok (.istore 5, 2) := by decide +kernel
theorem dX12_fewest_226 : decode cX12_fewest 226 = .ok (.aload_n 0, 1) := by decide +kernel
theorem dX12_fewest_227 : decode cX12_fewest 227 = .ok (.aload_n 0, 1) := by decide +kernel
theorem dX12_fewest_228 : decode cX12_fewest 228 = .ok (.getfield 144, 3) := by decide +kernel
theorem dX12_fewest_231 : decode cX12_fewest 231 = .ok (.iconst 0, 1) := by decide +kernel
theorem dX12_fewest_232 : decode cX12_fewest 232 = .ok (.invokevirtual 307, 3) := by decide +kernel
theorem dX12_fewest_235 : decode cX12_fewest 235 = .ok (.aload_n 0, 1) := by decide +kernel
theorem dX12_fewest_236 : decode cX12_fewest 236 = .ok (.getfield 150, 3) := by decide +kernel
theorem dX12_fewest_239 : decode cX12_fewest 239 = .ok (.aload_n 0, 1) := by decide +kernel
theorem dX12_fewest_240 : decode cX12_fewest 240 = .ok (.aload_n 0, 1) := by decide +kernel
theorem dX12_fewest_241 : decode cX12_fewest 241 = .ok (.getfield 144, 3) := by decide +kernel
theorem dX12_fewest_244 : decode cX12_fewest 244 = .ok (.invokevirtual 300, 3) := by decide +kernel
theorem dX12_fewest_247 : decode cX12_fewest 247 = .ok (.iaload, 1) := by decide +kernel
theorem dX12_fewest_248 : decode cX12_fewest 248 = .ok (.iload 4, 2) := by decide +kernel
theorem dX12_fewest_250 : decode cX12_fewest 250 = .ok (.iconst 1, 1) := by decide +kernel
theorem dX12_fewest_251 : decode cX12_fewest 251 = .ok (.isub, 1) := by decide +kernel
theorem dX12_fewest_252 : decode cX12_fewest 252 = .ok (.if_icmp .eq 29, 3) := by decide +kernel
theorem dX12_fewest_255 : decode cX12_fewest 255 = .ok (.aload_n 0, 1) := by decide +kernel
theorem dX12_fewest_256 : decode cX12_fewest 256 = .ok (.aload_n 0, 1) := by decide +kernel
theorem dX12_fewest_257 : decode cX12_fewest 257 = .ok (.getfield 144, 3) := by decide +kernel
theorem dX12_fewest_260 : decode cX12_fewest 260 = .ok (.iload 5, 2) := by decide +kernel
theorem dX12_fewest_262 : decode cX12_fewest 262 = .ok (.invokevirtual 307, 3) := by decide +kernel
theorem dX12_fewest_265 : decode cX12_fewest 265 = .ok (.iinc 5 1, 3) := by decide +kernel
theorem dX12_fewest_268 : decode cX12_fewest 268 = .ok (.aload_n 0, 1) := by decide +kernel
theorem dX12_fewest_269 : decode cX12_fewest 269 = .ok (.aload_n 0, 1) := by decide +kernel
theorem dX12_fewest_270 : decode cX12_fewest 270 = .ok (.getfield 144, 3) := by decide +kernel
theorem dX12_fewest_273 : decode cX12_fewest 273 = .ok (.iload 5, 2) := by decide +kernel
theorem dX12_fewest_275 : decode cX12_fewest 275 = .ok (.invokevirtual 307, 3) := by decide +kernel
theorem dX12_fewest_278 : decode cX12_fewest 278 = .ok (.goto (-43), 3) := by decide +kernel
theorem dX12_fewest_281 : decode cX12_fewest 281 = .ok (.aload_n 0, 1) := by decide +kernel
theorem dX12_fewest_282 : decode cX12_fewest 282 = .ok (.getfield 156, 3) := by decide +kernel
theorem dX12_fewest_285 : decode cX12_fewest 285 = .ok (.aload_n 0, 1) := by decide +kernel
theorem dX12_fewest_286 : decode cX12_fewest 286 = .ok (.getfield 159, 3) := by decide +kernel
theorem dX12_fewest_289 : decode cX12_fewest 289 = .ok (.iload 5, 2) := by decide +kernel
theorem dX12_fewest_291 : decode cX12_fewest 291 = .ok (.iastore, 1) := by decide +kernel
theorem dX12_fewest_292 : decode cX12_fewest 292 = .ok (.aload_n 0, 1) := by decide +kernel
theorem dX12_fewest_293 : decode cX12_fewest 293 = .ok (.dup, 1) := by decide +kernel
theorem dX12_fewest_294 : decode cX12_fewest 294 = .ok (.getfield 159, 3) := by decide +kernel
theorem dX12_fewest_297 : decode cX12_fewest 297 = .ok (.iconst 1, 1) := by decide +kernel
theorem dX12_fewest_298 : decode cX12_fewest 298 = .ok (.iadd, 1) := by decide +kernel
theorem dX12_fewest_299 : decode cX12_fewest 299 = .ok (.putfield 159, 3) := by decide +kernel
theorem dX12_fewest_302 : decode cX12_fewest 302 = .ok (.goto (-110), 3) := by decide +kernel
theorem dX12_fewest_305 : decode cX12_fewest 305 = .ok (.iload_n 2, 1) := by decide +kernel
theorem dX12_fewest_306 : decode cX12_fewest 306 = .ok (.iconst (-1), 1) := by decide +kernel
theorem dX12_fewest_307 : decode cX12_fewest 307 = .ok (.if_icmp .ne 10, 3) := by decide +kernel
theorem dX12_fewest_310 : decode cX12_fewest 310 = .ok (.aload_n 0, 1) := by decide +kernel
theorem dX12_fewest_311 : decode cX12_fewest 311 = .ok (.getfield 159, 3) := by decide +kernel
theorem dX12_fewest_314 : decode cX12_fewest 314 = .ok (.goto 21, 3) := by decide +kernel
theorem dX12_fewest_317 : decode cX12_fewest 317 = .ok (.iload_n 2, 1) := by decide +kernel
theorem dX12_fewest_318 : decode cX12_fewest 318 = .ok (.aload_n 0, 1) := by decide +kernel
theorem dX12_fewest_319 : decode cX12_fewest 319 = .ok (.getfield 159, 3) := by decide +kernel
theorem dX12_fewest_322 : decode cX12_fewest 322 = .ok (.if_icmp .ge 12, 3) := by decide +kernel
theorem dX12_fewest_325 : decode cX12_fewest 325 = .ok (.aload_n 0, 1) := by decide +kernel
theorem dX12_fewest_326 : decode cX12_fewest 326 = .ok (.getfield 156, 3) := by decide +kernel
theorem dX12_fewest_329 : decode cX12_fewest 329 = .ok (.iload_n 2, 1) := by decide +kernel
theorem dX12_fewest_330 : decode cX12_fewest 330 = .ok (.iaload, 1) := by decide +kernel
theorem dX12_fewest_331 : decode cX12_fewest 331 = .ok (.goto 4, 3) := by decide +kernel
theorem dX12_fewest_334 : decode cX12_fewest 334 = .ok (.iconst (-1), 1) := by decide +kernel
theorem dX12_fewest_335 : decode cX12_fewest 335 = .ok (.ireturn, 1) := by decide +kernel
theorem dX12_findSet_0 : decode cX12_findSet 0 = .ok (.aload_n 0, 1) := by decide +kernel
theorem dX12_findSet_1 : decode cX12_findSet 1 = .ok (.getfield 13, 3) := by decide +kernel
theorem dX12_findSet_4 : decode cX12_findSet 4 = .ok (.ifCond .eq 12, 3) := by decide +kernel
theorem dX12_findSet_7 : decode cX12_findSet 7 = .ok (.aload_n 0, 1) := by decide +kernel
theorem dX12_findSet_8 : decode cX12_findSet 8 = .ok (.getfield 13, 3) := by decide +kernel
theorem dX12_findSet_11 : decode cX12_findSet 11 = .ok (.bipush 7, 2) := by decide +kernel
theorem dX12_findSet_13 : decode cX12_findSet 13 = .ok (.if_icmp .le 6, 3) := by decide +kernel
theorem dX12_findSet_16 : decode cX12_findSet 16 = .ok (.bipush (-3), 2) := by decide +kernel
theorem dX12_findSet_18 : decode cX12_findSet 18 = .ok (.ireturn, 1) := by decide +kernel
theorem dX12_findSet_19 : decode cX12_findSet 19 = .ok (.iload_n 1, 1) := by decide +kernel
theorem dX12_findSet_20 : decode cX12_findSet 20 = .ok (.ifCond .lt 12, 3) := by decide +kernel
theorem dX12_findSet_23 : decode cX12_findSet 23 = .ok (.iload_n 1, 1) := by decide +kernel
theorem dX12_findSet_24 : decode cX12_findSet 24 = .ok (.aload_n 0, 1) := by decide +kernel
theorem dX12_findSet_25 : decode cX12_findSet 25 = .ok (.getfield 7, 3) := by decide +kernel
theorem dX12_findSet_28 : decode cX12_findSet 28 = .ok (.ishr, 1) := by decide +kernel
theorem dX12_findSet_29 : decode cX12_findSet 29 = .ok (.ifCond .eq 6, 3) := by decide +kernel
theorem dX12_findSet_32 : decode cX12_findSet 32 = .ok (.bipush (-2), 2) := by decide +kernel
theorem dX12_findSet_34 : decode cX12_findSet 34 = .ok (.ireturn, 1) := by decide +kernel
theorem dX12_findSet_35 : decode cX12_findSet 35 = .ok (.iconst 0, 1) := by decide +kernel
theorem dX12_findSet_36 : decode cX12_findSet 36 = .ok (.istore_n 2, 1) := by decide +kernel
theorem dX12_findSet_37 : decode cX12_findSet 37 = .ok (.iconst 0, 1) := by decide +kernel
theorem dX12_findSet_38 : decode cX12_findSet 38 = .ok (.istore_n 3, 1) := by decide +kernel
theorem dX12_findSet_39 : decode cX12_findSet 39 = .ok (.iload_n 3, 1) := by decide +kernel
theorem dX12_findSet_40 : decode cX12_findSet 40 = .ok (.aload_n 0, 1) := by decide +kernel
theorem dX12_findSet_41 : decode cX12_findSet 41 = .ok (.getfield 7, 3) := by decide +kernel
theorem dX12_findSet_44 : decode cX12_findSet 44 = .ok (.if_icmp .ge 51, 3) := by decide +kernel
theorem dX12_findSet_47 : decode cX12_findSet 47 = .ok (.iload_n 1, 1) := by decide +kernel
theorem dX12_findSet_48 : decode cX12_findSet 48 = .ok (.iload_n 3, 1) := by decide +kernel
theorem dX12_findSet_49 : decode cX12_findSet 49 = .ok (.ishr, 1) := by decide +kernel
theorem dX12_findSet_50 : decode cX12_findSet 50 = .ok (.iconst 1, 1) := by decide +kernel
theorem dX12_findSet_51 : decode cX12_findSet 51 = .ok (.iand, 1) := by decide +kernel
theorem dX12_findSet_52 : decode cX12_findSet 52 = .ok (.ifCond .ne 6, 3) := by decide +kernel
theorem dX12_findSet_55 : decode cX12_findSet 55 = .ok (.goto 34, 3) := by decide +kernel
theorem dX12_findSet_58 : decode cX12_findSet 58 = .ok (.aload_n 0, 1) := by decide +kernel
theorem dX12_findSet_59 : decode cX12_findSet 59 = .ok (.getfield 16, 3) := by decide +kernel
theorem dX12_findSet_62 : decode cX12_findSet 62 = .ok (.iload_n 3, 1) := by decide +kernel
theorem dX12_findSet_63 : decode cX12_findSet 63 = .ok (.iaload, 1) := by decide +kernel
theorem dX12_findSet_64 : decode cX12_findSet 64 = .ok (.iconst 4, 1) := by decide +kernel
theorem dX12_findSet_65 : decode cX12_findSet 65 = .ok (.if_icmp .eq 11, 3) := by decide +kernel
theorem dX12_findSet_68 : decode cX12_findSet 68 = .ok (.iload_n 2, 1) := by decide +kernel
theorem dX12_findSet_69 : decode cX12_findSet 69 = .ok (.aload_n 0, 1) := by decide +kernel
theorem dX12_findSet_70 : decode cX12_findSet 70 = .ok (.getfield 13, 3) := by decide +kernel
theorem dX12_findSet_73 : decode cX12_findSet 73 = .ok (.if_icmp .ne 6, 3) := by decide +kernel
theorem dX12_findSet_76 : decode cX12_findSet 76 = .ok (.bipush (-2), 2) := by decide +kernel
theorem dX12_findSet_78 : decode cX12_findSet 78 = .ok (.ireturn, 1) := by decide +kernel
theorem dX12_findSet_79 : decode cX12_findSet 79 = .ok (.aload_n 0, 1) := by decide +kernel
theorem dX12_findSet_80 : decode cX12_findSet 80 = .ok (.getfield 165, 3) := by decide +kernel
theorem dX12_findSet_83 : decode cX12_findSet 83 = .ok (.iload_n 2, 1) := by decide +kernel
theorem dX12_findSet_84 : decode cX12_findSet 84 = .ok (.iload_n 3, 1) := by decide +kernel
theorem dX12_findSet_85 : decode cX12_findSet 85 = .ok (.iastore, 1) := by decide +kernel
theorem dX12_findSet_86 : decode cX12_findSet 86 = .ok (.iinc 2 1, 3) := by decide +kernel
theorem dX12_findSet_89 : decode cX12_findSet 89 = .ok (.iinc 3 1, 3) := by decide +kernel
theorem dX12_findSet_92 : decode cX12_findSet 92 = .ok (.goto (-53), 3) := by decide +kernel
theorem dX12_findSet_95 : decode cX12_findSet 95 = .ok (.iload_n 2, 1) := by decide +kernel
theorem dX12_findSet_96 : decode cX12_findSet 96 = .ok (.aload_n 0, 1) := by decide +kernel
theorem dX12_findSet_97 : decode cX12_findSet 97 = .ok (.getfield 13, 3) := by decide +kernel
theorem dX12_findSet_100 : decode cX12_findSet 100 = .ok (.if_icmp .eq 6, 3) := by decide +kernel
theorem dX12_findSet_103 : decode cX12_findSet 103 = .ok (.bipush (-2), 2) := by decide +kernel
theorem dX12_findSet_105 : decode cX12_findSet 105 = .ok (.ireturn, 1) := by decide +kernel
theorem dX12_findSet_106 : decode cX12_findSet 106 = .ok (.iconst 1, 1) := by decide +kernel
theorem dX12_findSet_107 : decode cX12_findSet 107 = .ok (.istore_n 3, 1) := by decide +kernel
theorem dX12_findSet_108 : decode cX12_findSet 108 = .ok (.iconst 2, 1) := by decide +kernel
theorem dX12_findSet_109 : decode cX12_findSet 109 = .ok (.istore 4, 2) := by decide +kernel
theorem dX12_findSet_111 : decode cX12_findSet 111 = .ok (.iload 4, 2) := by decide +kernel
theorem dX12_findSet_113 : decode cX12_findSet 113 = .ok (.aload_n 0, 1) := by decide +kernel
theorem dX12_findSet_114 : decode cX12_findSet 114 = .ok (.getfield 13, 3) := by decide +kernel
theorem dX12_findSet_117 : decode cX12_findSet 117 = .ok (.if_icmp .gt 14, 3) := by decide +kernel
theorem dX12_findSet_120 : decode cX12_findSet 120 = .ok (.iload_n 3, 1) := by decide +kernel
theorem dX12_findSet_121 : decode cX12_findSet 121 = .ok (.iload 4, 2) := by decide +kernel
theorem dX12_findSet_123 : decode cX12_findSet 123 = .ok (.imul, 1) := by decide +kernel
theorem dX12_findSet_124 : decode cX12_findSet 124 = .ok (.istore_n 3, 1) := by decide +kernel
theorem dX12_findSet_125 : decode cX12_findSet 125 = .ok (.iinc 4 1, 3) := by decide +kernel
theorem dX12_findSet_128 : decode cX12_findSet 128 = .ok (.goto (-17), 3) := by decide +kernel
theorem dX12_findSet_131 : decode cX12_findSet 131 = .ok (.aload_n 0, 1) := by decide +kernel
theorem dX12_findSet_132 : decode cX12_findSet 132 = .ok (.ldc_w 316, 3) := by decide +kernel
theorem dX12_findSet_135 : decode cX12_findSet 135 = .ok (.putfield 174, 3) := by decide +kernel
theorem dX12_findSet_138 : decode cX12_findSet 138 = .ok (.iconst 0, 1) := by decide +kernel
theorem dX12_findSet_139 : decode cX12_findSet 139 = .ok (.istore 4, 2) := by decide +kernel
theorem dX12_findSet_141 : decode cX12_findSet 141 = .ok (.iload 4, 2) := by decide +kernel
theorem dX12_findSet_143 : decode cX12_findSet 143 = .ok (.iload_n 3, 1) := by decide +kernel
theorem dX12_findSet_144 : decode cX12_findSet 144 = .ok (.if_icmp .ge 143, 3) := by decide +kernel
theorem dX12_findSet_147 : decode cX12_findSet 147 = .ok (.aload_n 0, 1) := by decide +kernel
theorem dX12_findSet_148 : decode cX12_findSet 148 = .ok (.iload 4, 2) := by decide +kernel
theorem dX12_findSet_150 : decode cX12_findSet 150 = .ok (.aload_n 0, 1) := by decide +kernel
theorem dX12_findSet_151 : decode cX12_findSet 151 = .ok (.getfield 168, 3) := by decide +kernel
theorem dX12_findSet_154 : decode cX12_findSet 154 = .ok (.invokevirtual 303, 3) := by decide +kernel
theorem dX12_findSet_157 : decode cX12_findSet 157 = .ok (.iconst 0, 1) := by decide +kernel
theorem dX12_findSet_158 : decode cX12_findSet 158 = .ok (.istore 5, 2) := by decide +kernel
theorem dX12_findSet_160 : decode cX12_findSet 160 = .ok (.iconst 0, 1) := by decide +kernel
theorem dX12_findSet_161 : decode cX12_findSet 161 = .ok (.istore 6, 2) := by decide +kernel
theorem dX12_findSet_163 : decode cX12_findSet 163 = .ok (.iload 6, 2) := by decide +kernel
theorem dX12_findSet_165 : decode cX12_findSet 165 = .ok (.aload_n 0, 1) := by decide +kernel
theorem dX12_findSet_166 : decode cX12_findSet 166 = .ok (.getfield 13, 3) := by decide +kernel
theorem dX12_findSet_169 : decode cX12_findSet 169 = .ok (.if_icmp .ge 57, 3) := by decide +kernel
theorem dX12_findSet_172 : decode cX12_findSet 172 = .ok (.iload 5, 2) := by decide +kernel
theorem dX12_findSet_174 : decode cX12_findSet 174 = .ok (.aload_n 0, 1) := by decide +kernel
theorem dX12_findSet_175 : decode cX12_findSet 175 = .ok (.aload_n 0, 1) := by decide +kernel
theorem dX12_findSet_176 : decode cX12_findSet 176 = .ok (.getfield 20, 3) := by decide +kernel
theorem dX12_findSet_179 : decode cX12_findSet 179 = .ok (.aload_n 0, 1) := by decide +kernel
theorem dX12_findSet_180 : decode cX12_findSet 180 = .ok (.getfield 165, 3) := by decide +kernel
theorem dX12_findSet_183 : decode cX12_findSet 183 = .ok (.aload_n 0, 1) := by decide +kernel
theorem dX12_findSet_184 : decode cX12_findSet 184 = .ok (.getfield 168, 3) := by decide +kernel
theorem dX12_findSet_187 : decode cX12_findSet 187 = .ok (.iload 6, 2) := by decide +kernel
theorem dX12_findSet_189 : decode cX12_findSet 189 = .ok (.iaload, 1) := by decide +kernel
theorem dX12_findSet_190 : decode cX12_findSet 190 = .ok (.iaload, 1) := by decide +kernel
theorem dX12_findSet_191 : decode cX12_findSet 191 = .ok (.iaload, 1) := by decide +kernel
theorem dX12_findSet_192 : decode cX12_findSet 192 = .ok (.aload_n 0, 1) := by decide +kernel
theorem dX12_findSet_193 : decode cX12_findSet 193 = .ok (.getfield 20, 3) := by decide +kernel
theorem dX12_findSet_196 : decode cX12_findSet 196 = .ok (.aload_n 0, 1) := by decide +kernel
theorem dX12_findSet_197 : decode cX12_findSet 197 = .ok (.getfield 165, 3) := by decide +kernel
theorem dX12_findSet_200 : decode cX12_findSet 200 = .ok (.aload_n 0, 1) := by decide +kernel
theorem dX12_findSet_201 : decode cX12_findSet 201 = .ok (.getfield 168, 3) := by decide +kernel
theorem dX12_findSet_204 : decode cX12_findSet 204 = .ok (.aload_n 0, 1) := by decide +kernel
theorem dX12_findSet_205 : decode cX12_findSet 205 = .ok (.iload 6, 2) := by decide +kernel
theorem dX12_findSet_207 : decode cX12_findSet 207 = .ok (.invokevirtual 207, 3) := by decide +kernel
theorem dX12_findSet_210 : decode cX12_findSet 210 = .ok (.iaload, 1) := by decide +kernel
theorem dX12_findSet_211 : decode cX12_findSet 211 = .ok (.iaload, 1) := by decide +kernel
theorem dX12_findSet_212 : decode cX12_findSet 212 = .ok (.iaload, 1) := by decide +kernel
theorem dX12_findSet_213 : decode cX12_findSet 213 = .ok (.isub, 1) := by decide +kernel
theorem dX12_findSet_214 : decode cX12_findSet 214 = .ok (.invokevirtual 264, 3) := by decide +kernel
theorem dX12_findSet_217 : decode cX12_findSet 217 = .ok (.iadd, 1) := by decide +kernel
theorem dX12_findSet_218 : decode cX12_findSet 218 = .ok (.istore 5, 2) := by decide +kernel
theorem dX12_findSet_220 : decode cX12_findSet 220 = .ok (.iinc 6 1, 3) := by decide +kernel
theorem dX12_findSet_223 : decode cX12_findSet 223 = .ok (.goto (-60), 3) := by decide +kernel
theorem dX12_findSet_226 : decode cX12_findSet 226 = .ok (.iload 5, 2) := by decide +kernel
theorem dX12_findSet_228 : decode cX12_findSet 228 = .ok (.aload_n 0, 1) := by decide +kernel
theorem dX12_findSet_229 : decode cX12_findSet 229 = .ok (.getfield 174, 3) := by decide +kernel
theorem dX12_findSet_232 : decode cX12_findSet 232 = .ok (.if_icmp .lt 6, 3) := by decide +kernel
theorem dX12_findSet_235 : decode cX12_findSet 235 = .ok (.goto 46, 3) := by decide +kernel
theorem dX12_findSet_238 : decode cX12_findSet 238 = .ok (.aload_n 0, 1) := by decide +kernel
theorem dX12_findSet_239 : decode cX12_findSet 239 = .ok (.iload 5, 2) := by decide +kernel
theorem dX12_findSet_241 : decode cX12_findSet 241 = .ok (.putfield 174, 3) := by decide +kernel
theorem dX12_findSet_244 : decode cX12_findSet 244 = .ok (.iconst 0, 1) := by decide +kernel
theorem dX12_findSet_245 : decode cX12_findSet 245 = .ok (.istore 6, 2) := by decide +kernel
theorem dX12_findSet_247 : decode cX12_findSet 247 = .ok (.iload 6, 2) := by decide +kernel
theorem dX12_findSet_249 : decode cX12_findSet 249 = .ok (.aload_n 0, 1) := by decide +kernel
theorem dX12_findSet_250 : decode cX12_findSet 250 = .ok (.getfield 13, 3) := by decide +kernel
theorem dX12_findSet_253 : decode cX12_findSet 253 = .ok (.if_icmp .ge 28, 3) := by decide +kernel
theorem dX12_findSet_256 : decode cX12_findSet 256 = .ok (.aload_n 0, 1) := by decide +kernel
theorem dX12_findSet_257 : decode cX12_findSet 257 = .ok (.getfield 171, 3) := by decide +kernel
theorem dX12_findSet_260 : decode cX12_findSet 260 = .ok (.iload 6, 2) := by decide +kernel
theorem dX12_findSet_262 : decode cX12_findSet 262 = .ok (.aload_n 0, 1) := by decide +kernel
theorem dX12_findSet_263 : decode cX12_findSet 263 = .ok (.getfield 165, 3) := by decide +kernel
theorem dX12_findSet_266 : decode cX12_findSet 266 = .ok (.aload_n 0, 1) := by decide +kernel
theorem dX12_findSet_267 : decode cX12_findSet 267 = .ok (.getfield 168, 3) := by decide +kernel
theorem dX12_findSet_270 : decode cX12_findSet 270 = .ok (.iload 6, 2) := by decide +kernel
theorem dX12_findSet_272 : decode cX12_findSet 272 = .ok (.iaload, 1) := by decide +kernel
theorem dX12_findSet_273 : decode cX12_findSet 273 = .ok (.iaload, 1) := by decide +kernel
theorem dX12_findSet_274 : decode cX12_findSet 274 = .ok (.iastore, 1) := by decide +kernel
theorem dX12_findSet_275 : decode cX12_findSet 275 = .ok (.iinc 6 1, 3) := by decide +kernel
theorem dX12_findSet_278 : decode cX12_findSet 278 = .ok (.goto (-31), 3) := by decide +kernel
theorem dX12_findSet_281 : decode cX12_findSet 281 = .ok (.iinc 4 1, 3) := by decide +kernel
theorem dX12_findSet_284 : decode cX12_findSet 284 = .ok (.goto (-143), 3) := by decide +kernel
theorem dX12_findSet_287 : decode cX12_findSet 287 = .ok (.iconst 0, 1) := by decide +kernel
theorem dX12_findSet_288 : decode cX12_findSet 288 = .ok (.ireturn, 1) := by decide +kernel
theorem dX12_set_0 : decode cX12_set 0 = .ok (.aload_n 0, 1) := by decide +kernel
theorem dX12_set_1 : decode cX12_set 1 = .ok (.iload_n 1, 1) := by decide +kernel
theorem dX12_set_2 : decode cX12_set 2 = .ok (.invokevirtual 317, 3) := by decide +kernel
theorem dX12_set_5 : decode cX12_set 5 = .ok (.istore_n 3, 1) := by decide +kernel
theorem dX12_set_6 : decode cX12_set 6 = .ok (.iload_n 3, 1) := by decide +kernel
theorem dX12_set_7 : decode cX12_set 7 = .ok (.ifCond .eq 5, 3) := by decide +kernel
theorem dX12_set_10 : decode cX12_set 10 = .ok (.iload_n 3, 1) := by decide +kernel
theorem dX12_set_11 : decode cX12_set 11 = .ok (.ireturn, 1) := by decide +kernel
theorem dX12_set_12 : decode cX12_set 12 = .ok (.iload_n 2, 1) := by decide +kernel
theorem dX12_set_13 : decode cX12_set 13 = .ok (.iconst (-1), 1) := by decide +kernel
theorem dX12_set_14 : decode cX12_set 14 = .ok (.if_icmp .ne 10, 3) := by decide +kernel
theorem dX12_set_17 : decode cX12_set 17 = .ok (.aload_n 0, 1) := by decide +kernel
theorem dX12_set_18 : decode cX12_set 18 = .ok (.getfield 174, 3) := by decide +kernel
theorem dX12_set_21 : decode cX12_set 21 = .ok (.goto 28, 3) := by decide +kernel
theorem dX12_set_24 : decode cX12_set 24 = .ok (.aload_n 0, 1) := by decide +kernel
theorem dX12_set_25 : decode cX12_set 25 = .ok (.iload_n 2, 1) := by decide +kernel
theorem dX12_set_26 : decode cX12_set 26 = .ok (.iconst 0, 1) := by decide +kernel
theorem dX12_set_27 : decode cX12_set 27 = .ok (.aload_n 0, 1) := by decide +kernel
theorem dX12_set_28 : decode cX12_set 28 = .ok (.getfield 13, 3) := by decide +kernel
theorem dX12_set_31 : decode cX12_set 31 = .ok (.iconst 1, 1) := by decide +kernel
theorem dX12_set_32 : decode cX12_set 32 = .ok (.isub, 1) := by decide +kernel
theorem dX12_set_33 : decode cX12_set 33 = .ok (.invokevirtual 195, 3) := by decide +kernel
theorem dX12_set_36 : decode cX12_set 36 = .ok (.ifCond .eq 12, 3) := by decide +kernel
theorem dX12_set_39 : decode cX12_set 39 = .ok (.aload_n 0, 1) := by decide +kernel
theorem dX12_set_40 : decode cX12_set 40 = .ok (.getfield 171, 3) := by decide +kernel
theorem dX12_set_43 : decode cX12_set 43 = .ok (.iload_n 2, 1) := by decide +kernel
theorem dX12_set_44 : decode cX12_set 44 = .ok (.iaload, 1) := by decide +kernel
theorem dX12_set_45 : decode cX12_set 45 = .ok (.goto 4, 3) := by decide +kernel
theorem dX12_set_48 : decode cX12_set 48 = .ok (.iconst (-1), 1) := by decide +kernel
theorem dX12_set_49 : decode cX12_set 49 = .ok (.ireturn, 1) := by decide +kernel
theorem dX12_spent_0 : decode cX12_spent 0 = .ok (.aload_n 0, 1) := by decide +kernel
theorem dX12_spent_1 : decode cX12_spent 1 = .ok (.iload_n 2, 1) := by decide +kernel
theorem dX12_spent_2 : decode cX12_spent 2 = .ok (.invokevirtual 244, 3) := by decide +kernel
theorem dX12_spent_5 : decode cX12_spent 5 = .ok (.ifCond .ne 5, 3) := by decide +kernel
theorem dX12_spent_8 : decode cX12_spent 8 = .ok (.iconst (-1), 1) := by decide +kernel
theorem dX12_spent_9 : decode cX12_spent 9 = .ok (.ireturn, 1) := by decide +kernel
theorem dX12_spent_10 : decode cX12_spent 10 = .ok (.aload_n 0, 1) := by decide +kernel
theorem dX12_spent_11 : decode cX12_spent 11 = .ok (.iload_n 1, 1) := by decide +kernel
theorem dX12_spent_12 : decode cX12_spent 12 = .ok (.invokevirtual 317, 3) := by decide +kernel
theorem dX12_spent_15 : decode cX12_spent 15 = .ok (.istore_n 3, 1) := by decide +kernel
theorem dX12_spent_16 : decode cX12_spent 16 = .ok (.iload_n 3, 1) := by decide +kernel
theorem dX12_spent_17 : decode cX12_spent 17 = .ok (.ifCond .eq 5, 3) := by decide +kernel
theorem dX12_spent_20 : decode cX12_spent 20 = .ok (.iload_n 3, 1) := by decide +kernel
theorem dX12_spent_21 : decode cX12_spent 21 = .ok (.ireturn, 1) := by decide +kernel
theorem dX12_spent_22 : decode cX12_spent 22 = .ok (.iconst 0, 1) := by decide +kernel
theorem dX12_spent_23 : decode cX12_spent 23 = .ok (.istore 4, 2) := by decide +kernel
theorem dX12_spent_25 : decode cX12_spent 25 = .ok (.iconst 0, 1) := by decide +kernel
theorem dX12_spent_26 : decode cX12_spent 26 = .ok (.istore 5, 2) := by decide +kernel
theorem dX12_spent_28 : decode cX12_spent 28 = .ok (.iconst 0, 1) := by decide +kernel
theorem dX12_spent_29 : decode cX12_spent 29 = .ok (.istore 6, 2) := by decide +kernel
theorem dX12_spent_31 : decode cX12_spent 31 = .ok (.iload 6, 2) := by decide +kernel
theorem dX12_spent_33 : decode cX12_spent 33 = .ok (.aload_n 0, 1) := by decide +kernel
theorem dX12_spent_34 : decode cX12_spent 34 = .ok (.getfield 13, 3) := by decide +kernel
theorem dX12_spent_37 : decode cX12_spent 37 = .ok (.if_icmp .ge 45, 3) := by decide +kernel
theorem dX12_spent_40 : decode cX12_spent 40 = .ok (.aload_n 0, 1) := by decide +kernel
theorem dX12_spent_41 : decode cX12_spent 41 = .ok (.getfield 23, 3) := by decide +kernel
theorem dX12_spent_44 : decode cX12_spent 44 = .ok (.aload_n 0, 1) := by decide +kernel
theorem dX12_spent_45 : decode cX12_spent 45 = .ok (.getfield 171, 3) := by decide +kernel
theorem dX12_spent_48 : decode cX12_spent 48 = .ok (.iload 6, 2) := by decide +kernel
theorem dX12_spent_50 : decode cX12_spent 50 = .ok (.iaload, 1) := by decide +kernel
theorem dX12_spent_51 : decode cX12_spent 51 = .ok (.iaload, 1) := by decide +kernel
theorem dX12_spent_52 : decode cX12_spent 52 = .ok (.iload 5, 2) := by decide +kernel
theorem dX12_spent_54 : decode cX12_spent 54 = .ok (.if_icmp .le 18, 3) := by decide +kernel
theorem dX12_spent_57 : decode cX12_spent 57 = .ok (.aload_n 0, 1) := by decide +kernel
theorem dX12_spent_58 : decode cX12_spent 58 = .ok (.getfield 23, 3) := by decide +kernel
theorem dX12_spent_61 : decode cX12_spent 61 = .ok (.aload_n 0, 1) := by decide +kernel
theorem dX12_spent_62 : decode cX12_spent 62 = .ok (.getfield 171, 3) := by decide +kernel
theorem dX12_spent_65 : decode cX12_spent 65 = .ok (.iload 6, 2) := by decide +kernel
theorem dX12_spent_67 : decode cX12_spent 67 = .ok (.iaload, 1) := by decide +kernel
theorem dX12_spent_68 : decode cX12_spent 68 = .ok (.iaload, 1) := by decide +kernel
theorem dX12_spent_69 : decode cX12_spent 69 = .ok (.goto 5, 3) := by decide +kernel
theorem dX12_spent_72 : decode cX12_spent 72 = .ok (.iload 5, 2) := by decide +kernel
theorem dX12_spent_74 : decode cX12_spent 74 = .ok (.istore 5, 2) := by decide +kernel
theorem dX12_spent_76 : decode cX12_spent 76 = .ok (.iinc 6 1, 3) := by decide +kernel
theorem dX12_spent_79 : decode cX12_spent 79 = .ok (.goto (-48), 3) := by decide +kernel
theorem dX12_spent_82 : decode cX12_spent 82 = .ok (.iconst 0, 1) := by decide +kernel
theorem dX12_spent_83 : decode cX12_spent 83 = .ok (.istore 6, 2) := by decide +kernel
theorem dX12_spent_85 : decode cX12_spent 85 = .ok (.iload 6, 2) := by decide +kernel
theorem dX12_spent_87 : decode cX12_spent 87 = .ok (.aload_n 0, 1) := by decide +kernel
theorem dX12_spent_88 : decode cX12_spent 88 = .ok (.getfield 96, 3) := by decide +kernel
theorem dX12_spent_91 : decode cX12_spent 91 = .ok (.iload_n 2, 1) := by decide +kernel
theorem dX12_spent_92 : decode cX12_spent 92 = .ok (.iaload, 1) := by decide +kernel
theorem dX12_spent_93 : decode cX12_spent 93 = .ok (.if_icmp .ge 117, 3) := by decide +kernel
theorem dX12_spent_96 : decode cX12_spent 96 = .ok (.aload_n 0, 1) := by decide +kernel
theorem dX12_spent_97 : decode cX12_spent 97 = .ok (.getfield 99, 3) := by decide +kernel
theorem dX12_spent_100 : decode cX12_spent 100 = .ok (.sipush 300, 3) := by decide +kernel
theorem dX12_spent_103 : decode cX12_spent 103 = .ok (.iload_n 2, 1) := by decide +kernel
theorem dX12_spent_104 : decode cX12_spent 104 = .ok (.imul, 1) := by decide +kernel
theorem dX12_spent_105 : decode cX12_spent 105 = .ok (.iload 6, 2) := by decide +kernel
theorem dX12_spent_107 : decode cX12_spent 107 = .ok (.iadd, 1) := by decide +kernel
theorem dX12_spent_108 : decode cX12_spent 108 = .ok (.iaload, 1) := by decide +kernel
theorem dX12_spent_109 : decode cX12_spent 109 = .ok (.istore 7, 2) := by decide +kernel
theorem dX12_spent_111 : decode cX12_spent 111 = .ok (.iload 7, 2) := by decide +kernel
theorem dX12_spent_113 : decode cX12_spent 113 = .ok (.bipush 100, 2) := by decide +kernel
theorem dX12_spent_115 : decode cX12_spent 115 = .ok (.if_icmp .lt 26, 3) := by decide +kernel
theorem dX12_spent_118 : decode cX12_spent 118 = .ok (.iload 4, 2) := by decide +kernel
theorem dX12_spent_120 : decode cX12_spent 120 = .ok (.iload 5, 2) := by decide +kernel
theorem dX12_spent_122 : decode cX12_spent 122 = .ok (.iadd, 1) := by decide +kernel
theorem dX12_spent_123 : decode cX12_spent 123 = .ok (.istore 4, 2) := by decide +kernel
theorem dX12_spent_125 : decode cX12_spent 125 = .ok (.aload_n 0, 1) := by decide +kernel
theorem dX12_spent_126 : decode cX12_spent 126 = .ok (.aload_n 0, 1) := by decide +kernel
theorem dX12_spent_127 : decode cX12_spent 127 = .ok (.getfield 171, 3) := by decide +kernel
theorem dX12_spent_130 : decode cX12_spent 130 = .ok (.iload 7, 2) := by decide +kernel
theorem dX12_spent_132 : decode cX12_spent 132 = .ok (.bipush 100, 2) := by decide +kernel
theorem dX12_spent_134 : decode cX12_spent 134 = .ok (.isub, 1) := by decide +kernel
theorem dX12_spent_135 : decode cX12_spent 135 = .ok (.invokevirtual 215, 3) := by decide +kernel
theorem dX12_spent_138 : decode cX12_spent 138 = .ok (.goto 66, 3) := by decide +kernel
theorem dX12_spent_141 : decode cX12_spent 141 = .ok (.iload 7, 2) := by decide +kernel
theorem dX12_spent_143 : decode cX12_spent 143 = .ok (.bipush 10, 2) := by decide +kernel
theorem dX12_spent_145 : decode cX12_spent 145 = .ok (.idiv, 1) := by decide +kernel
theorem dX12_spent_146 : decode cX12_spent 146 = .ok (.istore 8, 2) := by decide +kernel
theorem dX12_spent_148 : decode cX12_spent 148 = .ok (.iload 8, 2) := by decide +kernel
theorem dX12_spent_150 : decode cX12_spent 150 = .ok (.aload_n 0, 1) := by decide +kernel
theorem dX12_spent_151 : decode cX12_spent 151 = .ok (.getfield 13, 3) := by decide +kernel
theorem dX12_spent_154 : decode cX12_spent 154 = .ok (.if_icmp .lt 6, 3) := by decide +kernel
theorem dX12_spent_157 : decode cX12_spent 157 = .ok (.bipush (-3), 2) := by decide +kernel
theorem dX12_spent_159 : decode cX12_spent 159 = .ok (.ireturn, 1) := by decide +kernel
theorem dX12_spent_160 : decode cX12_spent 160 = .ok (.iload 4, 2) := by decide +kernel
theorem dX12_spent_162 : decode cX12_spent 162 = .ok (.aload_n 0, 1) := by decide +kernel
theorem dX12_spent_163 : decode cX12_spent 163 = .ok (.getfield 23, 3) := by decide +kernel
theorem dX12_spent_166 : decode cX12_spent 166 = .ok (.aload_n 0, 1) := by decide +kernel
theorem dX12_spent_167 : decode cX12_spent 167 = .ok (.getfield 171, 3) := by decide +kernel
theorem dX12_spent_170 : decode cX12_spent 170 = .ok (.iload 8, 2) := by decide +kernel
theorem dX12_spent_172 : decode cX12_spent 172 = .ok (.iaload, 1) := by decide +kernel
theorem dX12_spent_173 : decode cX12_spent 173 = .ok (.iaload, 1) := by decide +kernel
theorem dX12_spent_174 : decode cX12_spent 174 = .ok (.aload_n 0, 1) := by decide +kernel
theorem dX12_spent_175 : decode cX12_spent 175 = .ok (.getfield 23, 3) := by decide +kernel
theorem dX12_spent_178 : decode cX12_spent 178 = .ok (.aload_n 0, 1) := by decide +kernel
theorem dX12_spent_179 : decode cX12_spent 179 = .ok (.getfield 171, 3) := by decide +kernel
theorem dX12_spent_182 : decode cX12_spent 182 = .ok (.aload_n 0, 1) := by decide +kernel
theorem dX12_spent_183 : decode cX12_spent 183 = .ok (.iload 8, 2) := by decide +kernel
theorem dX12_spent_185 : decode cX12_spent 185 = .ok (.invokevirtual 207, 3) := by decide +kernel
theorem dX12_spent_188 : decode cX12_spent 188 = .ok (.iaload, 1) := by decide +kernel
theorem dX12_spent_189 : decode cX12_spent 189 = .ok (.iaload, 1) := by decide +kernel
theorem dX12_spent_190 : decode cX12_spent 190 = .ok (.iadd, 1) := by decide +kernel
theorem dX12_spent_191 : decode cX12_spent 191 = .ok (.iadd, 1) := by decide +kernel
theorem dX12_spent_192 : decode cX12_spent 192 = .ok (.istore 4, 2) := by decide +kernel
theorem dX12_spent_194 : decode cX12_spent 194 = .ok (.aload_n 0, 1) := by decide +kernel
theorem dX12_spent_195 : decode cX12_spent 195 = .ok (.aload_n 0, 1) := by decide +kernel
theorem dX12_spent_196 : decode cX12_spent 196 = .ok (.getfield 171, 3) := by decide +kernel
theorem dX12_spent_199 : decode cX12_spent 199 = .ok (.iload 8, 2) := by decide +kernel
theorem dX12_spent_201 : decode cX12_spent 201 = .ok (.invokevirtual 307, 3) := by decide +kernel
theorem dX12_spent_204 : decode cX12_spent 204 = .ok (.iinc 6 1, 3) := by decide +kernel
theorem dX12_spent_207 : decode cX12_spent 207 = .ok (.goto (-122), 3) := by decide +kernel
theorem dX12_spent_210 : decode cX12_spent 210 = .ok (.iload 4, 2) := by decide +kernel
theorem dX12_spent_212 : decode cX12_spent 212 = .ok (.ireturn, 1) := by decide +kernel
theorem dX12_body_0 : decode cX12_body 0 = .ok (.aload_n 0, 1) := by decide +kernel
theorem dX12_body_1 : decode cX12_body 1 = .ok (.getfield 177, 3) := by decide +kernel
theorem dX12_body_4 : decode cX12_body 4 = .ok (.bipush 20, 2) := by decide +kernel
theorem dX12_body_6 : decode cX12_body 6 = .ok (.if_icmp .ge 13, 3) := by decide +kernel
theorem dX12_body_9 : decode cX12_body 9 = .ok (.aload_n 0, 1) := by decide +kernel
theorem dX12_body_10 : decode cX12_body 10 = .ok (.getfield 180, 3) := by decide +kernel
theorem dX12_body_13 : decode cX12_body 13 = .ok (.aload_n 0, 1) := by decide +kernel
theorem dX12_body_14 : decode cX12_body 14 = .ok (.getfield 177, 3) := by decide +kernel
theorem dX12_body_17 : decode cX12_body 17 = .ok (.iload_n 1, 1) := by decide +kernel
theorem dX12_body_18 : decode cX12_body 18 = .ok (.iastore, 1) := by decide +kernel
theorem dX12_body_19 : decode cX12_body 19 = .ok (.aload_n 0, 1) := by decide +kernel
theorem dX12_body_20 : decode cX12_body 20 = .ok (.dup, 1) := by decide +kernel
theorem dX12_body_21 : decode cX12_body 21 = .ok (.getfield 177, 3) := by decide +kernel
theorem dX12_body_24 : decode cX12_body 24 = .ok (.iconst 1, 1) := by decide +kernel
theorem dX12_body_25 : decode cX12_body 25 = .ok (.iadd, 1) := by decide +kernel
theorem dX12_body_26 : decode cX12_body 26 = .ok (.putfield 177, 3) := by decide +kernel
theorem dX12_body_29 : decode cX12_body 29 = .ok (.return_, 1) := by decide +kernel
theorem dX12_plainGreets_0 : decode cX12_plainGreets 0 = .ok (.aload_n 0, 1) := by decide +kernel
theorem dX12_plainGreets_1 : decode cX12_plainGreets 1 = .ok (.bipush 10, 2) := by decide +kernel
theorem dX12_plainGreets_3 : decode cX12_plainGreets 3 = .ok (.invokevirtual 320, 3) := by decide +kernel
theorem dX12_plainGreets_6 : decode cX12_plainGreets 6 = .ok (.iload_n 2, 1) := by decide +kernel
theorem dX12_plainGreets_7 : decode cX12_plainGreets 7 = .ok (.aload_n 0, 1) := by decide +kernel
theorem dX12_plainGreets_8 : decode cX12_plainGreets 8 = .ok (.getfield 20, 3) := by decide +kernel
theorem dX12_plainGreets_11 : decode cX12_plainGreets 11 = .ok (.iload_n 1, 1) := by decide +kernel
theorem dX12_plainGreets_12 : decode cX12_plainGreets 12 = .ok (.iaload, 1) := by decide +kernel
theorem dX12_plainGreets_13 : decode cX12_plainGreets 13 = .ok (.iadd, 1) := by decide +kernel
theorem dX12_plainGreets_14 : decode cX12_plainGreets 14 = .ok (.ireturn, 1) := by decide +kernel
theorem dX12_greetsOf_0 : decode cX12_greetsOf 0 = .ok (.aload_n 0, 1) := by decide +kernel
theorem dX12_greetsOf_1 : decode cX12_greetsOf 1 = .ok (.getfield 16, 3) := by decide +kernel
theorem dX12_greetsOf_4 : decode cX12_greetsOf 4 = .ok (.iload_n 1, 1) := by decide +kernel
theorem dX12_greetsOf_5 : decode cX12_greetsOf 5 = .ok (.iaload, 1) := by decide +kernel
theorem dX12_greetsOf_6 : decode cX12_greetsOf 6 = .ok (.iconst 1, 1) := by decide +kernel
theorem dX12_greetsOf_7 : decode cX12_greetsOf 7 = .ok (.if_icmp .ne 18, 3) := by decide +kernel
theorem dX12_greetsOf_10 : decode cX12_greetsOf 10 = .ok (.aload_n 0, 1) := by decide +kernel
theorem dX12_greetsOf_11 : decode cX12_greetsOf 11 = .ok (.bipush 20, 2) := by decide +kernel
theorem dX12_greetsOf_13 : decode cX12_greetsOf 13 = .ok (.invokevirtual 320, 3) := by decide +kernel
theorem dX12_greetsOf_16 : decode cX12_greetsOf 16 = .ok (.aload_n 0, 1) := by decide +kernel
theorem dX12_greetsOf_17 : decode cX12_greetsOf 17 = .ok (.iload_n 1, 1) := by decide +kernel
theorem dX12_greetsOf_18 : decode cX12_greetsOf 18 = .ok (.iload_n 2, 1) := by decide +kernel
theorem dX12_greetsOf_19 : decode cX12_greetsOf 19 = .ok (.invokevirtual 323, 3) := by decide +kernel
theorem dX12_greetsOf_22 : decode cX12_greetsOf 22 = .ok (.iconst 4, 1) := by decide +kernel
theorem dX12_greetsOf_23 : decode cX12_greetsOf 23 = .ok (.isub, 1) := by decide +kernel
theorem dX12_greetsOf_24 : decode cX12_greetsOf 24 = .ok (.ireturn, 1) := by decide +kernel
theorem dX12_greetsOf_25 : decode cX12_greetsOf 25 = .ok (.aload_n 0, 1) := by decide +kernel
theorem dX12_greetsOf_26 : decode cX12_greetsOf 26 = .ok (.getfield 16, 3) := by decide +kernel
theorem dX12_greetsOf_29 : decode cX12_greetsOf 29 = .ok (.iload_n 1, 1) := by decide +kernel
theorem dX12_greetsOf_30 : decode cX12_greetsOf 30 = .ok (.iaload, 1) := by decide +kernel
theorem dX12_greetsOf_31 : decode cX12_greetsOf 31 = .ok (.iconst 3, 1) := by decide +kernel
theorem dX12_greetsOf_32 : decode cX12_greetsOf 32 = .ok (.if_icmp .ne 18, 3) := by decide +kernel
theorem dX12_greetsOf_35 : decode cX12_greetsOf 35 = .ok (.aload_n 0, 1) := by decide +kernel
theorem dX12_greetsOf_36 : decode cX12_greetsOf 36 = .ok (.bipush 40, 2) := by decide +kernel
theorem dX12_greetsOf_38 : decode cX12_greetsOf 38 = .ok (.invokevirtual 320, 3) := by decide +kernel
theorem dX12_greetsOf_41 : decode cX12_greetsOf 41 = .ok (.aload_n 0, 1) := by decide +kernel
theorem dX12_greetsOf_42 : decode cX12_greetsOf 42 = .ok (.iload_n 1, 1) := by decide +kernel
theorem dX12_greetsOf_43 : decode cX12_greetsOf 43 = .ok (.iload_n 2, 1) := by decide +kernel
theorem dX12_greetsOf_44 : decode cX12_greetsOf 44 = .ok (.iconst 3, 1) := by decide +kernel
theorem dX12_greetsOf_45 : decode cX12_greetsOf 45 = .ok (.imul, 1) := by decide +kernel
theorem dX12_greetsOf_46 : decode cX12_greetsOf 46 = .ok (.invokevirtual 323, 3) := by decide +kernel
theorem dX12_greetsOf_49 : decode cX12_greetsOf 49 = .ok (.ireturn, 1) := by decide +kernel
theorem dX12_greetsOf_50 : decode cX12_greetsOf 50 = .ok (.aload_n 0, 1) := by decide +kernel
theorem dX12_greetsOf_51 : decode cX12_greetsOf 51 = .ok (.iload_n 1, 1) := by decide +kernel
theorem dX12_greetsOf_52 : decode cX12_greetsOf 52 = .ok (.iload_n 2, 1) := by decide +kernel
theorem dX12_greetsOf_53 : decode cX12_greetsOf 53 = .ok (.invokevirtual 323, 3) := by decide +kernel
theorem dX12_greetsOf_56 : decode cX12_greetsOf 56 = .ok (.ireturn, 1) := by decide +kernel
theorem dX12_plainLeads_0 : decode cX12_plainLeads 0 = .ok (.aload_n 0, 1) := by decide +kernel
theorem dX12_plainLeads_1 : decode cX12_plainLeads 1 = .ok (.bipush 11, 2) := by decide +kernel
theorem dX12_plainLeads_3 : decode cX12_plainLeads 3 = .ok (.invokevirtual 320, 3) := by decide +kernel
theorem dX12_plainLeads_6 : decode cX12_plainLeads 6 = .ok (.aload_n 0, 1) := by decide +kernel
theorem dX12_plainLeads_7 : decode cX12_plainLeads 7 = .ok (.iload_n 1, 1) := by decide +kernel
theorem dX12_plainLeads_8 : decode cX12_plainLeads 8 = .ok (.iload_n 2, 1) := by decide +kernel
theorem dX12_plainLeads_9 : decode cX12_plainLeads 9 = .ok (.invokevirtual 326, 3) := by decide +kernel
theorem dX12_plainLeads_12 : decode cX12_plainLeads 12 = .ok (.aload_n 0, 1) := by decide +kernel
theorem dX12_plainLeads_13 : decode cX12_plainLeads 13 = .ok (.getfield 23, 3) := by decide +kernel
theorem dX12_plainLeads_16 : decode cX12_plainLeads 16 = .ok (.iload_n 1, 1) := by decide +kernel
theorem dX12_plainLeads_17 : decode cX12_plainLeads 17 = .ok (.iaload, 1) := by decide +kernel
theorem dX12_plainLeads_18 : decode cX12_plainLeads 18 = .ok (.isub, 1) := by decide +kernel
theorem dX12_plainLeads_19 : decode cX12_plainLeads 19 = .ok (.ireturn, 1) := by decide +kernel
theorem dX12_leaderLeads_0 : decode cX12_leaderLeads 0 = .ok (.aload_n 0, 1) := by decide +kernel
theorem dX12_leaderLeads_1 : decode cX12_leaderLeads 1 = .ok (.bipush 30, 2) := by decide +kernel
theorem dX12_leaderLeads_3 : decode cX12_leaderLeads 3 = .ok (.invokevirtual 320, 3) := by decide +kernel
theorem dX12_leaderLeads_6 : decode cX12_leaderLeads 6 = .ok (.aload_n 0, 1) := by decide +kernel
theorem dX12_leaderLeads_7 : decode cX12_leaderLeads 7 = .ok (.iload_n 1, 1) := by decide +kernel
theorem dX12_leaderLeads_8 : decode cX12_leaderLeads 8 = .ok (.iload_n 2, 1) := by decide +kernel
theorem dX12_leaderLeads_9 : decode cX12_leaderLeads 9 = .ok (.invokevirtual 329, 3) := by decide +kernel
theorem dX12_leaderLeads_12 : decode cX12_leaderLeads 12 = .ok (.istore_n 3, 1) := by decide +kernel
theorem dX12_leaderLeads_13 : decode cX12_leaderLeads 13 = .ok (.iload_n 3, 1) := by decide +kernel
theorem dX12_leaderLeads_14 : decode cX12_leaderLeads 14 = .ok (.aload_n 0, 1) := by decide +kernel
theorem dX12_leaderLeads_15 : decode cX12_leaderLeads 15 = .ok (.iload_n 1, 1) := by decide +kernel
theorem dX12_leaderLeads_16 : decode cX12_leaderLeads 16 = .ok (.iload_n 2, 1) := by decide +kernel
theorem dX12_leaderLeads_17 : decode cX12_leaderLeads 17 = .ok (.invokevirtual 326, 3) := by decide +kernel
theorem dX12_leaderLeads_20 : decode cX12_leaderLeads 20 = .ok (.iadd, 1) := by decide +kernel
theorem dX12_leaderLeads_21 : decode cX12_leaderLeads 21 = .ok (.ireturn, 1) := by decide +kernel
theorem dX12_leadsOf_0 : decode cX12_leadsOf 0 = .ok (.aload_n 0, 1) := by decide +kernel
theorem dX12_leadsOf_1 : decode cX12_leadsOf 1 = .ok (.getfield 16, 3) := by decide +kernel
theorem dX12_leadsOf_4 : decode cX12_leadsOf 4 = .ok (.iload_n 1, 1) := by decide +kernel
theorem dX12_leadsOf_5 : decode cX12_leadsOf 5 = .ok (.iaload, 1) := by decide +kernel
theorem dX12_leadsOf_6 : decode cX12_leadsOf 6 = .ok (.iconst 2, 1) := by decide +kernel
theorem dX12_leadsOf_7 : decode cX12_leadsOf 7 = .ok (.if_icmp .ne 10, 3) := by decide +kernel
theorem dX12_leadsOf_10 : decode cX12_leadsOf 10 = .ok (.aload_n 0, 1) := by decide +kernel
theorem dX12_leadsOf_11 : decode cX12_leadsOf 11 = .ok (.iload_n 1, 1) := by decide +kernel
theorem dX12_leadsOf_12 : decode cX12_leadsOf 12 = .ok (.iload_n 2, 1) := by decide +kernel
theorem dX12_leadsOf_13 : decode cX12_leadsOf 13 = .ok (.invokevirtual 332, 3) := by decide +kernel
theorem dX12_leadsOf_16 : decode cX12_leadsOf 16 = .ok (.ireturn, 1) := by decide +kernel
theorem dX12_leadsOf_17 : decode cX12_leadsOf 17 = .ok (.aload_n 0, 1) := by decide +kernel
theorem dX12_leadsOf_18 : decode cX12_leadsOf 18 = .ok (.getfield 16, 3) := by decide +kernel
theorem dX12_leadsOf_21 : decode cX12_leadsOf 21 = .ok (.iload_n 1, 1) := by decide +kernel
theorem dX12_leadsOf_22 : decode cX12_leadsOf 22 = .ok (.iaload, 1) := by decide +kernel
theorem dX12_leadsOf_23 : decode cX12_leadsOf 23 = .ok (.iconst 3, 1) := by decide +kernel
theorem dX12_leadsOf_24 : decode cX12_leadsOf 24 = .ok (.if_icmp .ne 17, 3) := by decide +kernel
theorem dX12_leadsOf_27 : decode cX12_leadsOf 27 = .ok (.aload_n 0, 1) := by decide +kernel
theorem dX12_leadsOf_28 : decode cX12_leadsOf 28 = .ok (.bipush 41, 2) := by decide +kernel
theorem dX12_leadsOf_30 : decode cX12_leadsOf 30 = .ok (.invokevirtual 320, 3) := by decide +kernel
theorem dX12_leadsOf_33 : decode cX12_leadsOf 33 = .ok (.aload_n 0, 1) := by decide +kernel
theorem dX12_leadsOf_34 : decode cX12_leadsOf 34 = .ok (.iload_n 1, 1) := by decide +kernel
theorem dX12_leadsOf_35 : decode cX12_leadsOf 35 = .ok (.iload_n 2, 1) := by decide +kernel
theorem dX12_leadsOf_36 : decode cX12_leadsOf 36 = .ok (.invokevirtual 332, 3) := by decide +kernel
theorem dX12_leadsOf_39 : decode cX12_leadsOf 39 = .ok (.ineg, 1) := by decide +kernel
theorem dX12_leadsOf_40 : decode cX12_leadsOf 40 = .ok (.ireturn, 1) := by decide +kernel
theorem dX12_leadsOf_41 : decode cX12_leadsOf 41 = .ok (.aload_n 0, 1) := by decide +kernel
theorem dX12_leadsOf_42 : decode cX12_leadsOf 42 = .ok (.iload_n 1, 1) := by decide +kernel
theorem dX12_leadsOf_43 : decode cX12_leadsOf 43 = .ok (.iload_n 2, 1) := by decide +kernel
theorem dX12_leadsOf_44 : decode cX12_leadsOf 44 = .ok (.invokevirtual 329, 3) := by decide +kernel
theorem dX12_leadsOf_47 : decode cX12_leadsOf 47 = .ok (.ireturn, 1) := by decide +kernel
theorem dX12_plainRests_0 : decode cX12_plainRests 0 = .ok (.aload_n 0, 1) := by decide +kernel
theorem dX12_plainRests_1 : decode cX12_plainRests 1 = .ok (.bipush 12, 2) := by decide +kernel
theorem dX12_plainRests_3 : decode cX12_plainRests 3 = .ok (.invokevirtual 320, 3) := by decide +kernel
theorem dX12_plainRests_6 : decode cX12_plainRests 6 = .ok (.aload_n 0, 1) := by decide +kernel
theorem dX12_plainRests_7 : decode cX12_plainRests 7 = .ok (.iload_n 1, 1) := by decide +kernel
theorem dX12_plainRests_8 : decode cX12_plainRests 8 = .ok (.iload_n 2, 1) := by decide +kernel
theorem dX12_plainRests_9 : decode cX12_plainRests 9 = .ok (.invokevirtual 335, 3) := by decide +kernel
theorem dX12_plainRests_12 : decode cX12_plainRests 12 = .ok (.iload_n 1, 1) := by decide +kernel
theorem dX12_plainRests_13 : decode cX12_plainRests 13 = .ok (.ixor, 1) := by decide +kernel
theorem dX12_plainRests_14 : decode cX12_plainRests 14 = .ok (.ireturn, 1) := by decide +kernel
theorem dX12_restsOf_0 : decode cX12_restsOf 0 = .ok (.aload_n 0, 1) := by decide +kernel
theorem dX12_restsOf_1 : decode cX12_restsOf 1 = .ok (.getfield 16, 3) := by decide +kernel
theorem dX12_restsOf_4 : decode cX12_restsOf 4 = .ok (.iload_n 1, 1) := by decide +kernel
theorem dX12_restsOf_5 : decode cX12_restsOf 5 = .ok (.iaload, 1) := by decide +kernel
theorem dX12_restsOf_6 : decode cX12_restsOf 6 = .ok (.iconst 4, 1) := by decide +kernel
theorem dX12_restsOf_7 : decode cX12_restsOf 7 = .ok (.if_icmp .eq 10, 3) := by decide +kernel
theorem dX12_restsOf_10 : decode cX12_restsOf 10 = .ok (.aload_n 0, 1) := by decide +kernel
theorem dX12_restsOf_11 : decode cX12_restsOf 11 = .ok (.iload_n 1, 1) := by decide +kernel
theorem dX12_restsOf_12 : decode cX12_restsOf 12 = .ok (.iload_n 2, 1) := by decide +kernel
theorem dX12_restsOf_13 : decode cX12_restsOf 13 = .ok (.invokevirtual 338, 3) := by decide +kernel
theorem dX12_restsOf_16 : decode cX12_restsOf 16 = .ok (.ireturn, 1) := by decide +kernel
theorem dX12_restsOf_17 : decode cX12_restsOf 17 = .ok (.aload_n 0, 1) := by decide +kernel
theorem dX12_restsOf_18 : decode cX12_restsOf 18 = .ok (.bipush 50, 2) := by decide +kernel
theorem dX12_restsOf_20 : decode cX12_restsOf 20 = .ok (.invokevirtual 320, 3) := by decide +kernel
theorem dX12_restsOf_23 : decode cX12_restsOf 23 = .ok (.aload_n 0, 1) := by decide +kernel
theorem dX12_restsOf_24 : decode cX12_restsOf 24 = .ok (.iload_n 1, 1) := by decide +kernel
theorem dX12_restsOf_25 : decode cX12_restsOf 25 = .ok (.iload_n 2, 1) := by decide +kernel
theorem dX12_restsOf_26 : decode cX12_restsOf 26 = .ok (.invokevirtual 335, 3) := by decide +kernel
theorem dX12_restsOf_29 : decode cX12_restsOf 29 = .ok (.istore_n 3, 1) := by decide +kernel
theorem dX12_restsOf_30 : decode cX12_restsOf 30 = .ok (.iload_n 3, 1) := by decide +kernel
theorem dX12_restsOf_31 : decode cX12_restsOf 31 = .ok (.aload_n 0, 1) := by decide +kernel
theorem dX12_restsOf_32 : decode cX12_restsOf 32 = .ok (.iload_n 1, 1) := by decide +kernel
theorem dX12_restsOf_33 : decode cX12_restsOf 33 = .ok (.iload_n 2, 1) := by decide +kernel
theorem dX12_restsOf_34 : decode cX12_restsOf 34 = .ok (.iconst 1, 1) := by decide +kernel
theorem dX12_restsOf_35 : decode cX12_restsOf 35 = .ok (.isub, 1) := by decide +kernel
theorem dX12_restsOf_36 : decode cX12_restsOf 36 = .ok (.invokevirtual 338, 3) := by decide +kernel
theorem dX12_restsOf_39 : decode cX12_restsOf 39 = .ok (.iadd, 1) := by decide +kernel
theorem dX12_restsOf_40 : decode cX12_restsOf 40 = .ok (.ireturn, 1) := by decide +kernel
theorem dX12_act_0 : decode cX12_act 0 = .ok (.aload_n 0, 1) := by decide +kernel
theorem dX12_act_1 : decode cX12_act 1 = .ok (.iconst 0, 1) := by decide +kernel
theorem dX12_act_2 : decode cX12_act 2 = .ok (.putfield 177, 3) := by decide +kernel
theorem dX12_act_5 : decode cX12_act 5 = .ok (.aload_n 0, 1) := by decide +kernel
theorem dX12_act_6 : decode cX12_act 6 = .ok (.iload_n 1, 1) := by decide +kernel
theorem dX12_act_7 : decode cX12_act 7 = .ok (.invokevirtual 203, 3) := by decide +kernel
theorem dX12_act_10 : decode cX12_act 10 = .ok (.ifCond .eq 13, 3) := by decide +kernel
theorem dX12_act_13 : decode cX12_act 13 = .ok (.aload_n 0, 1) := by decide +kernel
theorem dX12_act_14 : decode cX12_act 14 = .ok (.iload_n 2, 1) := by decide +kernel
theorem dX12_act_15 : decode cX12_act 15 = .ok (.iconst 0, 1) := by decide +kernel
theorem dX12_act_16 : decode cX12_act 16 = .ok (.iconst 2, 1) := by decide +kernel
theorem dX12_act_17 : decode cX12_act 17 = .ok (.invokevirtual 195, 3) := by decide +kernel
theorem dX12_act_20 : decode cX12_act 20 = .ok (.ifCond .ne 5, 3) := by decide +kernel
theorem dX12_act_23 : decode cX12_act 23 = .ok (.iconst 0, 1) := by decide +kernel
theorem dX12_act_24 : decode cX12_act 24 = .ok (.ireturn, 1) := by decide +kernel
theorem dX12_act_25 : decode cX12_act 25 = .ok (.iload_n 2, 1) := by decide +kernel
theorem dX12_act_26 : decode cX12_act 26 = .ok (.ifCond .ne 12, 3) := by decide +kernel
theorem dX12_act_29 : decode cX12_act 29 = .ok (.aload_n 0, 1) := by decide +kernel
theorem dX12_act_30 : decode cX12_act 30 = .ok (.iload_n 1, 1) := by decide +kernel
theorem dX12_act_31 : decode cX12_act 31 = .ok (.iload_n 3, 1) := by decide +kernel
theorem dX12_act_32 : decode cX12_act 32 = .ok (.invokevirtual 326, 3) := by decide +kernel
theorem dX12_act_35 : decode cX12_act 35 = .ok (.goto 23, 3) := by decide +kernel
theorem dX12_act_38 : decode cX12_act 38 = .ok (.iload_n 2, 1) := by decide +kernel
theorem dX12_act_39 : decode cX12_act 39 = .ok (.iconst 1, 1) := by decide +kernel
theorem dX12_act_40 : decode cX12_act 40 = .ok (.if_icmp .ne 12, 3) := by decide +kernel
theorem dX12_act_43 : decode cX12_act 43 = .ok (.aload_n 0, 1) := by decide +kernel
theorem dX12_act_44 : decode cX12_act 44 = .ok (.iload_n 1, 1) := by decide +kernel
theorem dX12_act_45 : decode cX12_act 45 = .ok (.iload_n 3, 1) := by decide +kernel
theorem dX12_act_46 : decode cX12_act 46 = .ok (.invokevirtual 335, 3) := by decide +kernel
theorem dX12_act_49 : decode cX12_act 49 = .ok (.goto 9, 3) := by decide +kernel
theorem dX12_act_52 : decode cX12_act 52 = .ok (.aload_n 0, 1) := by decide +kernel
theorem dX12_act_53 : decode cX12_act 53 = .ok (.iload_n 1, 1) := by decide +kernel
theorem dX12_act_54 : decode cX12_act 54 = .ok (.iload_n 3, 1) := by decide +kernel
theorem dX12_act_55 : decode cX12_act 55 = .ok (.invokevirtual 341, 3) := by decide +kernel
theorem dX12_act_58 : decode cX12_act 58 = .ok (.ireturn, 1) := by decide +kernel
theorem dX12_trace_0 : decode cX12_trace 0 = .ok (.aload_n 0, 1) := by decide +kernel
theorem dX12_trace_1 : decode cX12_trace 1 = .ok (.iload_n 1, 1) := by decide +kernel
theorem dX12_trace_2 : decode cX12_trace 2 = .ok (.iconst 0, 1) := by decide +kernel
theorem dX12_trace_3 : decode cX12_trace 3 = .ok (.bipush 19, 2) := by decide +kernel
theorem dX12_trace_5 : decode cX12_trace 5 = .ok (.invokevirtual 195, 3) := by decide +kernel
theorem dX12_trace_8 : decode cX12_trace 8 = .ok (.ifCond .eq 20, 3) := by decide +kernel
theorem dX12_trace_11 : decode cX12_trace 11 = .ok (.iload_n 1, 1) := by decide +kernel
theorem dX12_trace_12 : decode cX12_trace 12 = .ok (.aload_n 0, 1) := by decide +kernel
theorem dX12_trace_13 : decode cX12_trace 13 = .ok (.getfield 177, 3) := by decide +kernel
theorem dX12_trace_16 : decode cX12_trace 16 = .ok (.if_icmp .ge 12, 3) := by decide +kernel
theorem dX12_trace_19 : decode cX12_trace 19 = .ok (.aload_n 0, 1) := by decide +kernel
theorem dX12_trace_20 : decode cX12_trace 20 = .ok (.getfield 180, 3) := by decide +kernel
theorem dX12_trace_23 : decode cX12_trace 23 = .ok (.iload_n 1, 1) := by decide +kernel
theorem dX12_trace_24 : decode cX12_trace 24 = .ok (.iaload, 1) := by decide +kernel
theorem dX12_trace_25 : decode cX12_trace 25 = .ok (.goto 4, 3) := by decide +kernel
theorem dX12_trace_28 : decode cX12_trace 28 = .ok (.iconst (-1), 1) := by decide +kernel
theorem dX12_trace_29 : decode cX12_trace 29 = .ok (.ireturn, 1) := by decide +kernel
theorem dX12_taken_0 : decode cX12_taken 0 = .ok (.aload_n 0, 1) := by decide +kernel
theorem dX12_taken_1 : decode cX12_taken 1 = .ok (.iload_n 2, 1) := by decide +kernel
theorem dX12_taken_2 : decode cX12_taken 2 = .ok (.iconst 0, 1) := by decide +kernel
theorem dX12_taken_3 : decode cX12_taken 3 = .ok (.iconst 4, 1) := by decide +kernel
theorem dX12_taken_4 : decode cX12_taken 4 = .ok (.invokevirtual 195, 3) := by decide +kernel
theorem dX12_taken_7 : decode cX12_taken 7 = .ok (.ifCond .ne 6, 3) := by decide +kernel
theorem dX12_taken_10 : decode cX12_taken 10 = .ok (.bipush (-2), 2) := by decide +kernel
theorem dX12_taken_12 : decode cX12_taken 12 = .ok (.ireturn, 1) := by decide +kernel
theorem dX12_taken_13 : decode cX12_taken 13 = .ok (.aload_n 0, 1) := by decide +kernel
theorem dX12_taken_14 : decode cX12_taken 14 = .ok (.iload_n 1, 1) := by decide +kernel
theorem dX12_taken_15 : decode cX12_taken 15 = .ok (.invokevirtual 203, 3) := by decide +kernel
theorem dX12_taken_18 : decode cX12_taken 18 = .ok (.ifCond .ne 6, 3) := by decide +kernel
theorem dX12_taken_21 : decode cX12_taken 21 = .ok (.bipush (-11), 2) := by decide +kernel
theorem dX12_taken_23 : decode cX12_taken 23 = .ok (.ireturn, 1) := by decide +kernel
theorem dX12_taken_24 : decode cX12_taken 24 = .ok (.iload_n 2, 1) := by decide +kernel
theorem dX12_taken_25 : decode cX12_taken 25 = .ok (.ifCond .eq 28, 3) := by decide +kernel
theorem dX12_taken_28 : decode cX12_taken 28 = .ok (.aload_n 0, 1) := by decide +kernel
theorem dX12_taken_29 : decode cX12_taken 29 = .ok (.getfield 16, 3) := by decide +kernel
theorem dX12_taken_32 : decode cX12_taken 32 = .ok (.iload_n 1, 1) := by decide +kernel
theorem dX12_taken_33 : decode cX12_taken 33 = .ok (.iaload, 1) := by decide +kernel
theorem dX12_taken_34 : decode cX12_taken 34 = .ok (.iload_n 2, 1) := by decide +kernel
theorem dX12_taken_35 : decode cX12_taken 35 = .ok (.if_icmp .eq 18, 3) := by decide +kernel
theorem dX12_taken_38 : decode cX12_taken 38 = .ok (.iload_n 2, 1) := by decide +kernel
theorem dX12_taken_39 : decode cX12_taken 39 = .ok (.iconst 2, 1) := by decide +kernel
theorem dX12_taken_40 : decode cX12_taken 40 = .ok (.if_icmp .ne 22, 3) := by decide +kernel
theorem dX12_taken_43 : decode cX12_taken 43 = .ok (.aload_n 0, 1) := by decide +kernel
theorem dX12_taken_44 : decode cX12_taken 44 = .ok (.getfield 16, 3) := by decide +kernel
theorem dX12_taken_47 : decode cX12_taken 47 = .ok (.iload_n 1, 1) := by decide +kernel
theorem dX12_taken_48 : decode cX12_taken 48 = .ok (.iaload, 1) := by decide +kernel
theorem dX12_taken_49 : decode cX12_taken 49 = .ok (.iconst 3, 1) := by decide +kernel
theorem dX12_taken_50 : decode cX12_taken 50 = .ok (.if_icmp .ne 12, 3) := by decide +kernel
theorem dX12_taken_53 : decode cX12_taken 53 = .ok (.aload_n 0, 1) := by decide +kernel
theorem dX12_taken_54 : decode cX12_taken 54 = .ok (.getfield 16, 3) := by decide +kernel
theorem dX12_taken_57 : decode cX12_taken 57 = .ok (.iload_n 1, 1) := by decide +kernel
theorem dX12_taken_58 : decode cX12_taken 58 = .ok (.iaload, 1) := by decide +kernel
theorem dX12_taken_59 : decode cX12_taken 59 = .ok (.goto 5, 3) := by decide +kernel
theorem dX12_taken_62 : decode cX12_taken 62 = .ok (.bipush (-12), 2) := by decide +kernel
theorem dX12_taken_64 : decode cX12_taken 64 = .ok (.ireturn, 1) := by decide +kernel
theorem dX12_count_0 : decode cX12_count 0 = .ok (.iload_n 1, 1) := by decide +kernel
theorem dX12_count_1 : decode cX12_count 1 = .ok (.tableswitch 95 0 7 #[47, 52, 57, 62, 67, 72, 77, 90], 47) := by decide +kernel
theorem dX12_count_48 : decode cX12_count 48 = .ok (.aload_n 0, 1) := by decide +kernel
theorem dX12_count_49 : decode cX12_count 49 = .ok (.getfield 7, 3) := by decide +kernel
theorem dX12_count_52 : decode cX12_count 52 = .ok (.ireturn, 1) := by decide +kernel
theorem dX12_count_53 : decode cX12_count 53 = .ok (.aload_n 0, 1) := by decide +kernel
theorem dX12_count_54 : decode cX12_count 54 = .ok (.getfield 13, 3) := by decide +kernel
theorem dX12_count_57 : decode cX12_count 57 = .ok (.ireturn, 1) := by decide +kernel
theorem dX12_count_58 : decode cX12_count 58 = .ok (.aload_n 0, 1) := by decide +kernel
theorem dX12_count_59 : decode cX12_count 59 = .ok (.getfield 54, 3) := by decide +kernel
theorem dX12_count_62 : decode cX12_count 62 = .ok (.ireturn, 1) := by decide +kernel
theorem dX12_count_63 : decode cX12_count 63 = .ok (.aload_n 0, 1) := by decide +kernel
theorem dX12_count_64 : decode cX12_count 64 = .ok (.getfield 90, 3) := by decide +kernel
theorem dX12_count_67 : decode cX12_count 67 = .ok (.ireturn, 1) := by decide +kernel
theorem dX12_count_68 : decode cX12_count 68 = .ok (.aload_n 0, 1) := by decide +kernel
theorem dX12_count_69 : decode cX12_count 69 = .ok (.getfield 93, 3) := by decide +kernel
theorem dX12_count_72 : decode cX12_count 72 = .ok (.ireturn, 1) := by decide +kernel
theorem dX12_count_73 : decode cX12_count 73 = .ok (.aload_n 0, 1) := by decide +kernel
theorem dX12_count_74 : decode cX12_count 74 = .ok (.getfield 72, 3) := by decide +kernel
theorem dX12_count_77 : decode cX12_count 77 = .ok (.ireturn, 1) := by decide +kernel
theorem dX12_count_78 : decode cX12_count 78 = .ok (.aload_n 0, 1) := by decide +kernel
theorem dX12_count_79 : decode cX12_count 79 = .ok (.getfield 44, 3) := by decide +kernel
theorem dX12_count_82 : decode cX12_count 82 = .ok (.ifCond .eq 7, 3) := by decide +kernel
theorem dX12_count_85 : decode cX12_count 85 = .ok (.iconst 1, 1) := by decide +kernel
theorem dX12_count_86 : decode cX12_count 86 = .ok (.goto 4, 3) := by decide +kernel
theorem dX12_count_89 : decode cX12_count 89 = .ok (.iconst 0, 1) := by decide +kernel
theorem dX12_count_90 : decode cX12_count 90 = .ok (.ireturn, 1) := by decide +kernel
theorem dX12_count_91 : decode cX12_count 91 = .ok (.aload_n 0, 1) := by decide +kernel
theorem dX12_count_92 : decode cX12_count 92 = .ok (.getfield 177, 3) := by decide +kernel
theorem dX12_count_95 : decode cX12_count 95 = .ok (.ireturn, 1) := by decide +kernel
theorem dX12_count_96 : decode cX12_count 96 = .ok (.bipush (-2), 2) := by decide +kernel
theorem dX12_count_98 : decode cX12_count 98 = .ok (.ireturn, 1) := by decide +kernel
theorem dX12_isTape_0 : decode cX12_isTape 0 = .ok (.aload_n 0, 1) := by decide +kernel
theorem dX12_isTape_1 : decode cX12_isTape 1 = .ok (.iload_n 1, 1) := by decide +kernel
theorem dX12_isTape_2 : decode cX12_isTape 2 = .ok (.iconst 0, 1) := by decide +kernel
theorem dX12_isTape_3 : decode cX12_isTape 3 = .ok (.iconst 5, 1) := by decide +kernel
theorem dX12_isTape_4 : decode cX12_isTape 4 = .ok (.invokevirtual 195, 3) := by decide +kernel
theorem dX12_isTape_7 : decode cX12_isTape 7 = .ok (.ireturn, 1) := by decide +kernel
theorem dX12_tape_0 : decode cX12_tape 0 = .ok (.aload_n 0, 1) := by decide +kernel
theorem dX12_tape_1 : decode cX12_tape 1 = .ok (.iload_n 1, 1) := by decide +kernel
theorem dX12_tape_2 : decode cX12_tape 2 = .ok (.invokevirtual 310, 3) := by decide +kernel
theorem dX12_tape_5 : decode cX12_tape 5 = .ok (.ifCond .ne 5, 3) := by decide +kernel
theorem dX12_tape_8 : decode cX12_tape 8 = .ok (.iconst (-1), 1) := by decide +kernel
theorem dX12_tape_9 : decode cX12_tape 9 = .ok (.ireturn, 1) := by decide +kernel
theorem dX12_tape_10 : decode cX12_tape 10 = .ok (.aload_n 0, 1) := by decide +kernel
theorem dX12_tape_11 : decode cX12_tape 11 = .ok (.iload_n 2, 1) := by decide +kernel
theorem dX12_tape_12 : decode cX12_tape 12 = .ok (.iconst (-1), 1) := by decide +kernel
theorem dX12_tape_13 : decode cX12_tape 13 = .ok (.iconst 4, 1) := by decide +kernel
theorem dX12_tape_14 : decode cX12_tape 14 = .ok (.invokevirtual 195, 3) := by decide +kernel
theorem dX12_tape_17 : decode cX12_tape 17 = .ok (.ifCond .eq 13, 3) := by decide +kernel
theorem dX12_tape_20 : decode cX12_tape 20 = .ok (.iload_n 2, 1) := by decide +kernel
theorem dX12_tape_21 : decode cX12_tape 21 = .ok (.ifCond .lt 12, 3) := by decide +kernel
theorem dX12_tape_24 : decode cX12_tape 24 = .ok (.iload_n 3, 1) := by decide +kernel
theorem dX12_tape_25 : decode cX12_tape 25 = .ok (.bipush 60, 2) := by decide +kernel
theorem dX12_tape_27 : decode cX12_tape 27 = .ok (.if_icmp .le 6, 3) := by decide +kernel
theorem dX12_tape_30 : decode cX12_tape 30 = .ok (.bipush (-2), 2) := by decide +kernel
theorem dX12_tape_32 : decode cX12_tape 32 = .ok (.ireturn, 1) := by decide +kernel
theorem dX12_tape_33 : decode cX12_tape 33 = .ok (.iload_n 2, 1) := by decide +kernel
theorem dX12_tape_34 : decode cX12_tape 34 = .ok (.ifCond .lt 10, 3) := by decide +kernel
theorem dX12_tape_37 : decode cX12_tape 37 = .ok (.iload_n 3, 1) := by decide +kernel
theorem dX12_tape_38 : decode cX12_tape 38 = .ok (.ifCond .ge 6, 3) := by decide +kernel
theorem dX12_tape_41 : decode cX12_tape 41 = .ok (.bipush (-14), 2) := by decide +kernel
theorem dX12_tape_43 : decode cX12_tape 43 = .ok (.ireturn, 1) := by decide +kernel
theorem dX12_tape_44 : decode cX12_tape 44 = .ok (.aload_n 0, 1) := by decide +kernel
theorem dX12_tape_45 : decode cX12_tape 45 = .ok (.getfield 183, 3) := by decide +kernel
theorem dX12_tape_48 : decode cX12_tape 48 = .ok (.iload_n 1, 1) := by decide +kernel
theorem dX12_tape_49 : decode cX12_tape 49 = .ok (.iload_n 2, 1) := by decide +kernel
theorem dX12_tape_50 : decode cX12_tape 50 = .ok (.iastore, 1) := by decide +kernel
theorem dX12_tape_51 : decode cX12_tape 51 = .ok (.aload_n 0, 1) := by decide +kernel
theorem dX12_tape_52 : decode cX12_tape 52 = .ok (.getfield 186, 3) := by decide +kernel
theorem dX12_tape_55 : decode cX12_tape 55 = .ok (.iload_n 1, 1) := by decide +kernel
theorem dX12_tape_56 : decode cX12_tape 56 = .ok (.iload_n 2, 1) := by decide +kernel
theorem dX12_tape_57 : decode cX12_tape 57 = .ok (.ifCond .ge 7, 3) := by decide +kernel
theorem dX12_tape_60 : decode cX12_tape 60 = .ok (.iconst 0, 1) := by decide +kernel
theorem dX12_tape_61 : decode cX12_tape 61 = .ok (.goto 4, 3) := by decide +kernel
theorem dX12_tape_64 : decode cX12_tape 64 = .ok (.iload_n 3, 1) := by decide +kernel
theorem dX12_tape_65 : decode cX12_tape 65 = .ok (.iastore, 1) := by decide +kernel
theorem dX12_tape_66 : decode cX12_tape 66 = .ok (.iconst 0, 1) := by decide +kernel
theorem dX12_tape_67 : decode cX12_tape 67 = .ok (.istore 4, 2) := by decide +kernel
theorem dX12_tape_69 : decode cX12_tape 69 = .ok (.iload 4, 2) := by decide +kernel
theorem dX12_tape_71 : decode cX12_tape 71 = .ok (.bipush 60, 2) := by decide +kernel
theorem dX12_tape_73 : decode cX12_tape 73 = .ok (.if_icmp .ge 22, 3) := by decide +kernel
theorem dX12_tape_76 : decode cX12_tape 76 = .ok (.aload_n 0, 1) := by decide +kernel
theorem dX12_tape_77 : decode cX12_tape 77 = .ok (.getfield 189, 3) := by decide +kernel
theorem dX12_tape_80 : decode cX12_tape 80 = .ok (.bipush 60, 2) := by decide +kernel
theorem dX12_tape_82 : decode cX12_tape 82 = .ok (.iload_n 1, 1) := by decide +kernel
theorem dX12_tape_83 : decode cX12_tape 83 = .ok (.imul, 1) := by decide +kernel
theorem dX12_tape_84 : decode cX12_tape 84 = .ok (.iload 4, 2) := by decide +kernel
theorem dX12_tape_86 : decode cX12_tape 86 = .ok (.iadd, 1) := by decide +kernel
theorem dX12_tape_87 : decode cX12_tape 87 = .ok (.iconst 0, 1) := by decide +kernel
theorem dX12_tape_88 : decode cX12_tape 88 = .ok (.iastore, 1) := by decide +kernel
theorem dX12_tape_89 : decode cX12_tape 89 = .ok (.iinc 4 1, 3) := by decide +kernel
theorem dX12_tape_92 : decode cX12_tape 92 = .ok (.goto (-23), 3) := by decide +kernel
theorem dX12_tape_95 : decode cX12_tape 95 = .ok (.iconst 1, 1) := by decide +kernel
theorem dX12_tape_96 : decode cX12_tape 96 = .ok (.ireturn, 1) := by decide +kernel
theorem dX12_narrow_0 : decode cX12_narrow 0 = .ok (.iload_n 1, 1) := by decide +kernel
theorem dX12_narrow_1 : decode cX12_narrow 1 = .ok (.ifCond .ne 8, 3) := by decide +kernel
theorem dX12_narrow_4 : decode cX12_narrow 4 = .ok (.iload_n 2, 1) := by decide +kernel
theorem dX12_narrow_5 : decode cX12_narrow 5 = .ok (.i2b, 1) := by decide +kernel
theorem dX12_narrow_6 : decode cX12_narrow 6 = .ok (.goto 44, 3) := by decide +kernel
theorem dX12_narrow_9 : decode cX12_narrow 9 = .ok (.iload_n 1, 1) := by decide +kernel
theorem dX12_narrow_10 : decode cX12_narrow 10 = .ok (.iconst 1, 1) := by decide +kernel
theorem dX12_narrow_11 : decode cX12_narrow 11 = .ok (.if_icmp .ne 8, 3) := by decide +kernel
theorem dX12_narrow_14 : decode cX12_narrow 14 = .ok (.iload_n 2, 1) := by decide +kernel
theorem dX12_narrow_15 : decode cX12_narrow 15 = .ok (.i2s, 1) := by decide +kernel
theorem dX12_narrow_16 : decode cX12_narrow 16 = .ok (.goto 34, 3) := by decide +kernel
theorem dX12_narrow_19 : decode cX12_narrow 19 = .ok (.iload_n 1, 1) := by decide +kernel
theorem dX12_narrow_20 : decode cX12_narrow 20 = .ok (.iconst 3, 1) := by decide +kernel
theorem dX12_narrow_21 : decode cX12_narrow 21 = .ok (.if_icmp .ne 15, 3) := by decide +kernel
theorem dX12_narrow_24 : decode cX12_narrow 24 = .ok (.iload_n 2, 1) := by decide +kernel
theorem dX12_narrow_25 : decode cX12_narrow 25 = .ok (.ifCond .eq 7, 3) := by decide +kernel
theorem dX12_narrow_28 : decode cX12_narrow 28 = .ok (.iconst 1, 1) := by decide +kernel
theorem dX12_narrow_29 : decode cX12_narrow 29 = .ok (.goto 21, 3) := by decide +kernel
theorem dX12_narrow_32 : decode cX12_narrow 32 = .ok (.iconst 0, 1) := by decide +kernel
theorem dX12_narrow_33 : decode cX12_narrow 33 = .ok (.goto 17, 3) := by decide +kernel
theorem dX12_narrow_36 : decode cX12_narrow 36 = .ok (.iload_n 1, 1) := by decide +kernel
theorem dX12_narrow_37 : decode cX12_narrow 37 = .ok (.iconst 4, 1) := by decide +kernel
theorem dX12_narrow_38 : decode cX12_narrow 38 = .ok (.if_icmp .ne 11, 3) := by decide +kernel
theorem dX12_narrow_41 : decode cX12_narrow 41 = .ok (.iload_n 2, 1) := by decide +kernel
theorem dX12_narrow_42 : decode cX12_narrow 42 = .ok (.ldc_w 344, 3) := by decide +kernel
theorem dX12_narrow_45 : decode cX12_narrow 45 = .ok (.iand, 1) := by decide +kernel
theorem dX12_narrow_46 : decode cX12_narrow 46 = .ok (.goto 4, 3) := by decide +kernel
theorem dX12_narrow_49 : decode cX12_narrow 49 = .ok (.iload_n 2, 1) := by decide +kernel
theorem dX12_narrow_50 : decode cX12_narrow 50 = .ok (.ireturn, 1) := by decide +kernel
theorem dX12_item_0 : decode cX12_item 0 = .ok (.aload_n 0, 1) := by decide +kernel
theorem dX12_item_1 : decode cX12_item 1 = .ok (.iload_n 1, 1) := by decide +kernel
theorem dX12_item_2 : decode cX12_item 2 = .ok (.invokevirtual 310, 3) := by decide +kernel
theorem dX12_item_5 : decode cX12_item 5 = .ok (.ifCond .ne 5, 3) := by decide +kernel
theorem dX12_item_8 : decode cX12_item 8 = .ok (.iconst (-1), 1) := by decide +kernel
theorem dX12_item_9 : decode cX12_item 9 = .ok (.ireturn, 1) := by decide +kernel
theorem dX12_item_10 : decode cX12_item 10 = .ok (.aload_n 0, 1) := by decide +kernel
theorem dX12_item_11 : decode cX12_item 11 = .ok (.getfield 183, 3) := by decide +kernel
theorem dX12_item_14 : decode cX12_item 14 = .ok (.iload_n 1, 1) := by decide +kernel
theorem dX12_item_15 : decode cX12_item 15 = .ok (.iaload, 1) := by decide +kernel
theorem dX12_item_16 : decode cX12_item 16 = .ok (.ifCond .ge 6, 3) := by decide +kernel
theorem dX12_item_19 : decode cX12_item 19 = .ok (.bipush (-11), 2) := by decide +kernel
theorem dX12_item_21 : decode cX12_item 21 = .ok (.ireturn, 1) := by decide +kernel
theorem dX12_item_22 : decode cX12_item 22 = .ok (.aload_n 0, 1) := by decide +kernel
theorem dX12_item_23 : decode cX12_item 23 = .ok (.iload_n 2, 1) := by decide +kernel
theorem dX12_item_24 : decode cX12_item 24 = .ok (.iconst 0, 1) := by decide +kernel
theorem dX12_item_25 : decode cX12_item 25 = .ok (.aload_n 0, 1) := by decide +kernel
theorem dX12_item_26 : decode cX12_item 26 = .ok (.getfield 186, 3) := by decide +kernel
theorem dX12_item_29 : decode cX12_item 29 = .ok (.iload_n 1, 1) := by decide +kernel
theorem dX12_item_30 : decode cX12_item 30 = .ok (.iaload, 1) := by decide +kernel
theorem dX12_item_31 : decode cX12_item 31 = .ok (.iconst 1, 1) := by decide +kernel
theorem dX12_item_32 : decode cX12_item 32 = .ok (.isub, 1) := by decide +kernel
theorem dX12_item_33 : decode cX12_item 33 = .ok (.invokevirtual 195, 3) := by decide +kernel
theorem dX12_item_36 : decode cX12_item 36 = .ok (.ifCond .ne 6, 3) := by decide +kernel
theorem dX12_item_39 : decode cX12_item 39 = .ok (.bipush (-13), 2) := by decide +kernel
theorem dX12_item_41 : decode cX12_item 41 = .ok (.ireturn, 1) := by decide +kernel
theorem dX12_item_42 : decode cX12_item 42 = .ok (.aload_n 0, 1) := by decide +kernel
theorem dX12_item_43 : decode cX12_item 43 = .ok (.getfield 189, 3) := by decide +kernel
theorem dX12_item_46 : decode cX12_item 46 = .ok (.bipush 60, 2) := by decide +kernel
theorem dX12_item_48 : decode cX12_item 48 = .ok (.iload_n 1, 1) := by decide +kernel
theorem dX12_item_49 : decode cX12_item 49 = .ok (.imul, 1) := by decide +kernel
theorem dX12_item_50 : decode cX12_item 50 = .ok (.iload_n 2, 1) := by decide +kernel
theorem dX12_item_51 : decode cX12_item 51 = .ok (.iadd, 1) := by decide +kernel
theorem dX12_item_52 : decode cX12_item 52 = .ok (.aload_n 0, 1) := by decide +kernel
theorem dX12_item_53 : decode cX12_item 53 = .ok (.aload_n 0, 1) := by decide +kernel
theorem dX12_item_54 : decode cX12_item 54 = .ok (.getfield 183, 3) := by decide +kernel
theorem dX12_item_57 : decode cX12_item 57 = .ok (.iload_n 1, 1) := by decide +kernel
theorem dX12_item_58 : decode cX12_item 58 = .ok (.iaload, 1) := by decide +kernel
theorem dX12_item_59 : decode cX12_item 59 = .ok (.iload_n 3, 1) := by decide +kernel
theorem dX12_item_60 : decode cX12_item 60 = .ok (.invokevirtual 345, 3) := by decide +kernel
theorem dX12_item_63 : decode cX12_item 63 = .ok (.iastore, 1) := by decide +kernel
theorem dX12_item_64 : decode cX12_item 64 = .ok (.iconst 1, 1) := by decide +kernel
theorem dX12_item_65 : decode cX12_item 65 = .ok (.ireturn, 1) := by decide +kernel
theorem dX12_read_0 : decode cX12_read 0 = .ok (.aload_n 0, 1) := by decide +kernel
theorem dX12_read_1 : decode cX12_read 1 = .ok (.iload_n 1, 1) := by decide +kernel
theorem dX12_read_2 : decode cX12_read 2 = .ok (.invokevirtual 310, 3) := by decide +kernel
theorem dX12_read_5 : decode cX12_read 5 = .ok (.ifCond .eq 29, 3) := by decide +kernel
theorem dX12_read_8 : decode cX12_read 8 = .ok (.aload_n 0, 1) := by decide +kernel
theorem dX12_read_9 : decode cX12_read 9 = .ok (.getfield 183, 3) := by decide +kernel
theorem dX12_read_12 : decode cX12_read 12 = .ok (.iload_n 1, 1) := by decide +kernel
theorem dX12_read_13 : decode cX12_read 13 = .ok (.iaload, 1) := by decide +kernel
theorem dX12_read_14 : decode cX12_read 14 = .ok (.ifCond .lt 20, 3) := by decide +kernel
theorem dX12_read_17 : decode cX12_read 17 = .ok (.aload_n 0, 1) := by decide +kernel
theorem dX12_read_18 : decode cX12_read 18 = .ok (.iload_n 2, 1) := by decide +kernel
theorem dX12_read_19 : decode cX12_read 19 = .ok (.iconst 0, 1) := by decide +kernel
theorem dX12_read_20 : decode cX12_read 20 = .ok (.aload_n 0, 1) := by decide +kernel
theorem dX12_read_21 : decode cX12_read 21 = .ok (.getfield 186, 3) := by decide +kernel
theorem dX12_read_24 : decode cX12_read 24 = .ok (.iload_n 1, 1) := by decide +kernel
theorem dX12_read_25 : decode cX12_read 25 = .ok (.iaload, 1) := by decide +kernel
theorem dX12_read_26 : decode cX12_read 26 = .ok (.iconst 1, 1) := by decide +kernel
theorem dX12_read_27 : decode cX12_read 27 = .ok (.isub, 1) := by decide +kernel
theorem dX12_read_28 : decode cX12_read 28 = .ok (.invokevirtual 195, 3) := by decide +kernel
theorem dX12_read_31 : decode cX12_read 31 = .ok (.ifCond .ne 9, 3) := by decide +kernel
theorem dX12_read_34 : decode cX12_read 34 = .ok (.ldc_w 348, 3) := by decide +kernel
theorem dX12_read_37 : decode cX12_read 37 = .ok (.goto 14, 3) := by decide +kernel
theorem dX12_read_40 : decode cX12_read 40 = .ok (.aload_n 0, 1) := by decide +kernel
theorem dX12_read_41 : decode cX12_read 41 = .ok (.getfield 189, 3) := by decide +kernel
theorem dX12_read_44 : decode cX12_read 44 = .ok (.bipush 60, 2) := by decide +kernel
theorem dX12_read_46 : decode cX12_read 46 = .ok (.iload_n 1, 1) := by decide +kernel
theorem dX12_read_47 : decode cX12_read 47 = .ok (.imul, 1) := by decide +kernel
theorem dX12_read_48 : decode cX12_read 48 = .ok (.iload_n 2, 1) := by decide +kernel
theorem dX12_read_49 : decode cX12_read 49 = .ok (.iadd, 1) := by decide +kernel
theorem dX12_read_50 : decode cX12_read 50 = .ok (.iaload, 1) := by decide +kernel
theorem dX12_read_51 : decode cX12_read 51 = .ok (.ireturn, 1) := by decide +kernel
theorem dX12_shift_0 : decode cX12_shift 0 = .ok (.aload_n 0, 1) := by decide +kernel
theorem dX12_shift_1 : decode cX12_shift 1 = .ok (.iload_n 1, 1) := by decide +kernel
theorem dX12_shift_2 : decode cX12_shift 2 = .ok (.invokevirtual 310, 3) := by decide +kernel
theorem dX12_shift_5 : decode cX12_shift 5 = .ok (.ifCond .eq 11, 3) := by decide +kernel
theorem dX12_shift_8 : decode cX12_shift 8 = .ok (.aload_n 0, 1) := by decide +kernel
theorem dX12_shift_9 : decode cX12_shift 9 = .ok (.iload_n 3, 1) := by decide +kernel
theorem dX12_shift_10 : decode cX12_shift 10 = .ok (.invokevirtual 310, 3) := by decide +kernel
theorem dX12_shift_13 : decode cX12_shift 13 = .ok (.ifCond .ne 5, 3) := by decide +kernel
theorem dX12_shift_16 : decode cX12_shift 16 = .ok (.iconst (-1), 1) := by decide +kernel
theorem dX12_shift_17 : decode cX12_shift 17 = .ok (.ireturn, 1) := by decide +kernel
theorem dX12_shift_18 : decode cX12_shift 18 = .ok (.aload_n 0, 1) := by decide +kernel
theorem dX12_shift_19 : decode cX12_shift 19 = .ok (.getfield 183, 3) := by decide +kernel
theorem dX12_shift_22 : decode cX12_shift 22 = .ok (.iload_n 1, 1) := by decide +kernel
theorem dX12_shift_23 : decode cX12_shift 23 = .ok (.iaload, 1) := by decide +kernel
theorem dX12_shift_24 : decode cX12_shift 24 = .ok (.ifCond .lt 12, 3) := by decide +kernel
theorem dX12_shift_27 : decode cX12_shift 27 = .ok (.aload_n 0, 1) := by decide +kernel
theorem dX12_shift_28 : decode cX12_shift 28 = .ok (.getfield 183, 3) := by decide +kernel
theorem dX12_shift_31 : decode cX12_shift 31 = .ok (.iload_n 3, 1) := by decide +kernel
theorem dX12_shift_32 : decode cX12_shift 32 = .ok (.iaload, 1) := by decide +kernel
theorem dX12_shift_33 : decode cX12_shift 33 = .ok (.ifCond .ge 6, 3) := by decide +kernel
theorem dX12_shift_36 : decode cX12_shift 36 = .ok (.bipush (-11), 2) := by decide +kernel
theorem dX12_shift_38 : decode cX12_shift 38 = .ok (.ireturn, 1) := by decide +kernel
theorem dX12_shift_39 : decode cX12_shift 39 = .ok (.aload_n 0, 1) := by decide +kernel
theorem dX12_shift_40 : decode cX12_shift 40 = .ok (.getfield 183, 3) := by decide +kernel
theorem dX12_shift_43 : decode cX12_shift 43 = .ok (.iload_n 1, 1) := by decide +kernel
theorem dX12_shift_44 : decode cX12_shift 44 = .ok (.iaload, 1) := by decide +kernel
theorem dX12_shift_45 : decode cX12_shift 45 = .ok (.aload_n 0, 1) := by decide +kernel
theorem dX12_shift_46 : decode cX12_shift 46 = .ok (.getfield 183, 3) := by decide +kernel
theorem dX12_shift_49 : decode cX12_shift 49 = .ok (.iload_n 3, 1) := by decide +kernel
theorem dX12_shift_50 : decode cX12_shift 50 = .ok (.iaload, 1) := by decide +kernel
theorem dX12_shift_51 : decode cX12_shift 51 = .ok (.if_icmp .eq 6, 3) := by decide +kernel
theorem dX12_shift_54 : decode cX12_shift 54 = .ok (.bipush (-12), 2) := by decide +kernel
theorem dX12_shift_56 : decode cX12_shift 56 = .ok (.ireturn, 1) := by decide +kernel
theorem dX12_shift_57 : decode cX12_shift 57 = .ok (.iload 5, 2) := by decide +kernel
theorem dX12_shift_59 : decode cX12_shift 59 = .ok (.ifCond .lt 39, 3) := by decide +kernel
theorem dX12_shift_62 : decode cX12_shift 62 = .ok (.iload_n 2, 1) := by decide +kernel
theorem dX12_shift_63 : decode cX12_shift 63 = .ok (.ifCond .lt 35, 3) := by decide +kernel
theorem dX12_shift_66 : decode cX12_shift 66 = .ok (.iload 4, 2) := by decide +kernel
theorem dX12_shift_68 : decode cX12_shift 68 = .ok (.ifCond .lt 30, 3) := by decide +kernel
theorem dX12_shift_71 : decode cX12_shift 71 = .ok (.iload_n 2, 1) := by decide +kernel
theorem dX12_shift_72 : decode cX12_shift 72 = .ok (.aload_n 0, 1) := by decide +kernel
theorem dX12_shift_73 : decode cX12_shift 73 = .ok (.getfield 186, 3) := by decide +kernel
theorem dX12_shift_76 : decode cX12_shift 76 = .ok (.iload_n 1, 1) := by decide +kernel
theorem dX12_shift_77 : decode cX12_shift 77 = .ok (.iaload, 1) := by decide +kernel
theorem dX12_shift_78 : decode cX12_shift 78 = .ok (.iload 5, 2) := by decide +kernel
theorem dX12_shift_80 : decode cX12_shift 80 = .ok (.isub, 1) := by decide +kernel
theorem dX12_shift_81 : decode cX12_shift 81 = .ok (.if_icmp .gt 17, 3) := by decide +kernel
theorem dX12_shift_84 : decode cX12_shift 84 = .ok (.iload 4, 2) := by decide +kernel
theorem dX12_shift_86 : decode cX12_shift 86 = .ok (.aload_n 0, 1) := by decide +kernel
theorem dX12_shift_87 : decode cX12_shift 87 = .ok (.getfield 186, 3) := by decide +kernel
theorem dX12_shift_90 : decode cX12_shift 90 = .ok (.iload_n 3, 1) := by decide +kernel
theorem dX12_shift_91 : decode cX12_shift 91 = .ok (.iaload, 1) := by decide +kernel
theorem dX12_shift_92 : decode cX12_shift 92 = .ok (.iload 5, 2) := by decide +kernel
theorem dX12_shift_94 : decode cX12_shift 94 = .ok (.isub, 1) := by decide +kernel
theorem dX12_shift_95 : decode cX12_shift 95 = .ok (.if_icmp .le 6, 3) := by decide +kernel
theorem dX12_shift_98 : decode cX12_shift 98 = .ok (.bipush (-13), 2) := by decide +kernel
theorem dX12_shift_100 : decode cX12_shift 100 = .ok (.ireturn, 1) := by decide +kernel
theorem dX12_shift_101 : decode cX12_shift 101 = .ok (.iconst 0, 1) := by decide +kernel
theorem dX12_shift_102 : decode cX12_shift 102 = .ok (.istore 6, 2) := by decide +kernel
theorem dX12_shift_104 : decode cX12_shift 104 = .ok (.iload 6, 2) := by decide +kernel
theorem dX12_shift_106 : decode cX12_shift 106 = .ok (.iload 5, 2) := by decide +kernel
theorem dX12_shift_108 : decode cX12_shift 108 = .ok (.if_icmp .ge 30, 3) := by decide +kernel
theorem dX12_shift_111 : decode cX12_shift 111 = .ok (.aload_n 0, 1) := by decide +kernel
theorem dX12_shift_112 : decode cX12_shift 112 = .ok (.getfield 192, 3) := by decide +kernel
theorem dX12_shift_115 : decode cX12_shift 115 = .ok (.iload 6, 2) := by decide +kernel
theorem dX12_shift_117 : decode cX12_shift 117 = .ok (.aload_n 0, 1) := by decide +kernel
theorem dX12_shift_118 : decode cX12_shift 118 = .ok (.getfield 189, 3) := by decide +kernel
theorem dX12_shift_121 : decode cX12_shift 121 = .ok (.bipush 60, 2) := by decide +kernel
theorem dX12_shift_123 : decode cX12_shift 123 = .ok (.iload_n 1, 1) := by decide +kernel
theorem dX12_shift_124 : decode cX12_shift 124 = .ok (.imul, 1) := by decide +kernel
theorem dX12_shift_125 : decode cX12_shift 125 = .ok (.iload_n 2, 1) := by decide +kernel
theorem dX12_shift_126 : decode cX12_shift 126 = .ok (.iadd, 1) := by decide +kernel
theorem dX12_shift_127 : decode cX12_shift 127 = .ok (.iload 6, 2) := by decide +kernel
theorem dX12_shift_129 : decode cX12_shift 129 = .ok (.iadd, 1) := by decide +kernel
theorem dX12_shift_130 : decode cX12_shift 130 = .ok (.iaload, 1) := by decide +kernel
theorem dX12_shift_131 : decode cX12_shift 131 = .ok (.iastore, 1) := by decide +kernel
theorem dX12_shift_132 : decode cX12_shift 132 = .ok (.iinc 6 1, 3) := by decide +kernel
theorem dX12_shift_135 : decode cX12_shift 135 = .ok (.goto (-31), 3) := by decide +kernel
theorem dX12_shift_138 : decode cX12_shift 138 = .ok (.iconst 0, 1) := by decide +kernel
theorem dX12_shift_139 : decode cX12_shift 139 = .ok (.istore 6, 2) := by decide +kernel
theorem dX12_shift_141 : decode cX12_shift 141 = .ok (.iload 6, 2) := by decide +kernel
theorem dX12_shift_143 : decode cX12_shift 143 = .ok (.iload 5, 2) := by decide +kernel
theorem dX12_shift_145 : decode cX12_shift 145 = .ok (.if_icmp .ge 31, 3) := by decide +kernel
theorem dX12_shift_148 : decode cX12_shift 148 = .ok (.aload_n 0, 1) := by decide +kernel
theorem dX12_shift_149 : decode cX12_shift 149 = .ok (.getfield 189, 3) := by decide +kernel
theorem dX12_shift_152 : decode cX12_shift 152 = .ok (.bipush 60, 2) := by decide +kernel
theorem dX12_shift_154 : decode cX12_shift 154 = .ok (.iload_n 3, 1) := by decide +kernel
theorem dX12_shift_155 : decode cX12_shift 155 = .ok (.imul, 1) := by decide +kernel
theorem dX12_shift_156 : decode cX12_shift 156 = .ok (.iload 4, 2) := by decide +kernel
theorem dX12_shift_158 : decode cX12_shift 158 = .ok (.iadd, 1) := by decide +kernel
theorem dX12_shift_159 : decode cX12_shift 159 = .ok (.iload 6, 2) := by decide +kernel
theorem dX12_shift_161 : decode cX12_shift 161 = .ok (.iadd, 1) := by decide +kernel
theorem dX12_shift_162 : decode cX12_shift 162 = .ok (.aload_n 0, 1) := by decide +kernel
theorem dX12_shift_163 : decode cX12_shift 163 = .ok (.getfield 192, 3) := by decide +kernel
theorem dX12_shift_166 : decode cX12_shift 166 = .ok (.iload 6, 2) := by decide +kernel
theorem dX12_shift_168 : decode cX12_shift 168 = .ok (.iaload, 1) := by decide +kernel
theorem dX12_shift_169 : decode cX12_shift 169 = .ok (.iastore, 1) := by decide +kernel
theorem dX12_shift_170 : decode cX12_shift 170 = .ok (.iinc 6 1, 3) := by decide +kernel
theorem dX12_shift_173 : decode cX12_shift 173 = .ok (.goto (-32), 3) := by decide +kernel
theorem dX12_shift_176 : decode cX12_shift 176 = .ok (.iload 5, 2) := by decide +kernel
theorem dX12_shift_178 : decode cX12_shift 178 = .ok (.ireturn, 1) := by decide +kernel
theorem dJ6_bitCount_0f7a4_0 : decode cJ6_bitCount_0f7a4 0 = .ok (.iload_n 0, 1) := by decide +kernel
theorem dJ6_bitCount_0f7a4_1 : decode cJ6_bitCount_0f7a4 1 = .ok (.iload_n 0, 1) := by decide +kernel
theorem dJ6_bitCount_0f7a4_2 : decode cJ6_bitCount_0f7a4 2 = .ok (.iconst 1, 1) := by decide +kernel
theorem dJ6_bitCount_0f7a4_3 : decode cJ6_bitCount_0f7a4 3 = .ok (.iushr, 1) := by decide +kernel
theorem dJ6_bitCount_0f7a4_4 : decode cJ6_bitCount_0f7a4 4 = .ok (.ldc_w 265, 3) := by decide +kernel
theorem dJ6_bitCount_0f7a4_7 : decode cJ6_bitCount_0f7a4 7 = .ok (.iand, 1) := by decide +kernel
theorem dJ6_bitCount_0f7a4_8 : decode cJ6_bitCount_0f7a4 8 = .ok (.isub, 1) := by decide +kernel
theorem dJ6_bitCount_0f7a4_9 : decode cJ6_bitCount_0f7a4 9 = .ok (.istore_n 0, 1) := by decide +kernel
theorem dJ6_bitCount_0f7a4_10 : decode cJ6_bitCount_0f7a4 10 = .ok (.iload_n 0, 1) := by decide +kernel
theorem dJ6_bitCount_0f7a4_11 : decode cJ6_bitCount_0f7a4 11 = .ok (.ldc_w 266, 3) := by decide +kernel
theorem dJ6_bitCount_0f7a4_14 : decode cJ6_bitCount_0f7a4 14 = .ok (.iand, 1) := by decide +kernel
theorem dJ6_bitCount_0f7a4_15 : decode cJ6_bitCount_0f7a4 15 = .ok (.iload_n 0, 1) := by decide +kernel
theorem dJ6_bitCount_0f7a4_16 : decode cJ6_bitCount_0f7a4 16 = .ok (.iconst 2, 1) := by decide +kernel
theorem dJ6_bitCount_0f7a4_17 : decode cJ6_bitCount_0f7a4 17 = .ok (.iushr, 1) := by decide +kernel
theorem dJ6_bitCount_0f7a4_18 : decode cJ6_bitCount_0f7a4 18 = .ok (.ldc_w 266, 3) := by decide +kernel
theorem dJ6_bitCount_0f7a4_21 : decode cJ6_bitCount_0f7a4 21 = .ok (.iand, 1) := by decide +kernel
theorem dJ6_bitCount_0f7a4_22 : decode cJ6_bitCount_0f7a4 22 = .ok (.iadd, 1) := by decide +kernel
theorem dJ6_bitCount_0f7a4_23 : decode cJ6_bitCount_0f7a4 23 = .ok (.istore_n 0, 1) := by decide +kernel
theorem dJ6_bitCount_0f7a4_24 : decode cJ6_bitCount_0f7a4 24 = .ok (.iload_n 0, 1) := by decide +kernel
theorem dJ6_bitCount_0f7a4_25 : decode cJ6_bitCount_0f7a4 25 = .ok (.iload_n 0, 1) := by decide +kernel
theorem dJ6_bitCount_0f7a4_26 : decode cJ6_bitCount_0f7a4 26 = .ok (.iconst 4, 1) := by decide +kernel
theorem dJ6_bitCount_0f7a4_27 : decode cJ6_bitCount_0f7a4 27 = .ok (.iushr, 1) := by decide +kernel
theorem dJ6_bitCount_0f7a4_28 : decode cJ6_bitCount_0f7a4 28 = .ok (.iadd, 1) := by decide +kernel
theorem dJ6_bitCount_0f7a4_29 : decode cJ6_bitCount_0f7a4 29 = .ok (.ldc_w 267, 3) := by decide +kernel
theorem dJ6_bitCount_0f7a4_32 : decode cJ6_bitCount_0f7a4 32 = .ok (.iand, 1) := by decide +kernel
theorem dJ6_bitCount_0f7a4_33 : decode cJ6_bitCount_0f7a4 33 = .ok (.istore_n 0, 1) := by decide +kernel
theorem dJ6_bitCount_0f7a4_34 : decode cJ6_bitCount_0f7a4 34 = .ok (.iload_n 0, 1) := by decide +kernel
theorem dJ6_bitCount_0f7a4_35 : decode cJ6_bitCount_0f7a4 35 = .ok (.iload_n 0, 1) := by decide +kernel
theorem dJ6_bitCount_0f7a4_36 : decode cJ6_bitCount_0f7a4 36 = .ok (.bipush 8, 2) := by decide +kernel
theorem dJ6_bitCount_0f7a4_38 : decode cJ6_bitCount_0f7a4 38 = .ok (.iushr, 1) := by decide +kernel
theorem dJ6_bitCount_0f7a4_39 : decode cJ6_bitCount_0f7a4 39 = .ok (.iadd, 1) := by decide +kernel
theorem dJ6_bitCount_0f7a4_40 : decode cJ6_bitCount_0f7a4 40 = .ok (.istore_n 0, 1) := by decide +kernel
theorem dJ6_bitCount_0f7a4_41 : decode cJ6_bitCount_0f7a4 41 = .ok (.iload_n 0, 1) := by decide +kernel
theorem dJ6_bitCount_0f7a4_42 : decode cJ6_bitCount_0f7a4 42 = .ok (.iload_n 0, 1) := by decide +kernel
theorem dJ6_bitCount_0f7a4_43 : decode cJ6_bitCount_0f7a4 43 = .ok (.bipush 16, 2) := by decide +kernel
theorem dJ6_bitCount_0f7a4_45 : decode cJ6_bitCount_0f7a4 45 = .ok (.iushr, 1) := by decide +kernel
theorem dJ6_bitCount_0f7a4_46 : decode cJ6_bitCount_0f7a4 46 = .ok (.iadd, 1) := by decide +kernel
theorem dJ6_bitCount_0f7a4_47 : decode cJ6_bitCount_0f7a4 47 = .ok (.istore_n 0, 1) := by decide +kernel
theorem dJ6_bitCount_0f7a4_48 : decode cJ6_bitCount_0f7a4 48 = .ok (.iload_n 0, 1) := by decide +kernel
theorem dJ6_bitCount_0f7a4_49 : decode cJ6_bitCount_0f7a4 49 = .ok (.bipush 63, 2) := by decide +kernel
theorem dJ6_bitCount_0f7a4_51 : decode cJ6_bitCount_0f7a4 51 = .ok (.iand, 1) := by decide +kernel
theorem dJ6_bitCount_0f7a4_52 : decode cJ6_bitCount_0f7a4 52 = .ok (.ireturn, 1) := by decide +kernel
theorem dJ9_floorDiv_7cf53_0 : decode cJ9_floorDiv_7cf53 0 = .ok (.iload_n 0, 1) := by decide +kernel
theorem dJ9_floorDiv_7cf53_1 : decode cJ9_floorDiv_7cf53 1 = .ok (.iload_n 1, 1) := by decide +kernel
theorem dJ9_floorDiv_7cf53_2 : decode cJ9_floorDiv_7cf53 2 = .ok (.idiv, 1) := by decide +kernel
theorem dJ9_floorDiv_7cf53_3 : decode cJ9_floorDiv_7cf53 3 = .ok (.istore_n 2, 1) := by decide +kernel
theorem dJ9_floorDiv_7cf53_4 : decode cJ9_floorDiv_7cf53 4 = .ok (.iload_n 0, 1) := by decide +kernel
theorem dJ9_floorDiv_7cf53_5 : decode cJ9_floorDiv_7cf53 5 = .ok (.iload_n 1, 1) := by decide +kernel
theorem dJ9_floorDiv_7cf53_6 : decode cJ9_floorDiv_7cf53 6 = .ok (.ixor, 1) := by decide +kernel
theorem dJ9_floorDiv_7cf53_7 : decode cJ9_floorDiv_7cf53 7 = .ok (.ifCond .ge 14, 3) := by decide +kernel
theorem dJ9_floorDiv_7cf53_10 : decode cJ9_floorDiv_7cf53 10 = .ok (.iload_n 2, 1) := by decide +kernel
theorem dJ9_floorDiv_7cf53_11 : decode cJ9_floorDiv_7cf53 11 = .ok (.iload_n 1, 1) := by decide +kernel
theorem dJ9_floorDiv_7cf53_12 : decode cJ9_floorDiv_7cf53 12 = .ok (.imul, 1) := by decide +kernel
theorem dJ9_floorDiv_7cf53_13 : decode cJ9_floorDiv_7cf53 13 = .ok (.iload_n 0, 1) := by decide +kernel
theorem dJ9_floorDiv_7cf53_14 : decode cJ9_floorDiv_7cf53 14 = .ok (.if_icmp .eq 7, 3) := by decide +kernel
theorem dJ9_floorDiv_7cf53_17 : decode cJ9_floorDiv_7cf53 17 = .ok (.iload_n 2, 1) := by decide +kernel
theorem dJ9_floorDiv_7cf53_18 : decode cJ9_floorDiv_7cf53 18 = .ok (.iconst 1, 1) := by decide +kernel
theorem dJ9_floorDiv_7cf53_19 : decode cJ9_floorDiv_7cf53 19 = .ok (.isub, 1) := by decide +kernel
theorem dJ9_floorDiv_7cf53_20 : decode cJ9_floorDiv_7cf53 20 = .ok (.ireturn, 1) := by decide +kernel
theorem dJ9_floorDiv_7cf53_21 : decode cJ9_floorDiv_7cf53 21 = .ok (.iload_n 2, 1) := by decide +kernel
theorem dJ9_floorDiv_7cf53_22 : decode cJ9_floorDiv_7cf53 22 = .ok (.ireturn, 1) := by decide +kernel
theorem dJ9_floorMod_7cf53_0 : decode cJ9_floorMod_7cf53 0 = .ok (.iload_n 0, 1) := by decide +kernel
theorem dJ9_floorMod_7cf53_1 : decode cJ9_floorMod_7cf53 1 = .ok (.iload_n 1, 1) := by decide +kernel
theorem dJ9_floorMod_7cf53_2 : decode cJ9_floorMod_7cf53 2 = .ok (.irem, 1) := by decide +kernel
theorem dJ9_floorMod_7cf53_3 : decode cJ9_floorMod_7cf53 3 = .ok (.istore_n 2, 1) := by decide +kernel
theorem dJ9_floorMod_7cf53_4 : decode cJ9_floorMod_7cf53 4 = .ok (.iload_n 0, 1) := by decide +kernel
theorem dJ9_floorMod_7cf53_5 : decode cJ9_floorMod_7cf53 5 = .ok (.iload_n 1, 1) := by decide +kernel
theorem dJ9_floorMod_7cf53_6 : decode cJ9_floorMod_7cf53 6 = .ok (.ixor, 1) := by decide +kernel
theorem dJ9_floorMod_7cf53_7 : decode cJ9_floorMod_7cf53 7 = .ok (.ifCond .ge 11, 3) := by decide +kernel
theorem dJ9_floorMod_7cf53_10 : decode cJ9_floorMod_7cf53 10 = .ok (.iload_n 2, 1) := by decide +kernel
theorem dJ9_floorMod_7cf53_11 : decode cJ9_floorMod_7cf53 11 = .ok (.ifCond .eq 7, 3) := by decide +kernel
theorem dJ9_floorMod_7cf53_14 : decode cJ9_floorMod_7cf53 14 = .ok (.iload_n 2, 1) := by decide +kernel
theorem dJ9_floorMod_7cf53_15 : decode cJ9_floorMod_7cf53 15 = .ok (.iload_n 1, 1) := by decide +kernel
theorem dJ9_floorMod_7cf53_16 : decode cJ9_floorMod_7cf53 16 = .ok (.iadd, 1) := by decide +kernel
theorem dJ9_floorMod_7cf53_17 : decode cJ9_floorMod_7cf53 17 = .ok (.ireturn, 1) := by decide +kernel
theorem dJ9_floorMod_7cf53_18 : decode cJ9_floorMod_7cf53 18 = .ok (.iload_n 2, 1) := by decide +kernel
theorem dJ9_floorMod_7cf53_19 : decode cJ9_floorMod_7cf53 19 = .ok (.ireturn, 1) := by decide +kernel
theorem dJ9_abs_0f7a4_0 : decode cJ9_abs_0f7a4 0 = .ok (.iload_n 0, 1) := by decide +kernel
theorem dJ9_abs_0f7a4_1 : decode cJ9_abs_0f7a4 1 = .ok (.ifCond .ge 8, 3) := by decide +kernel
theorem dJ9_abs_0f7a4_4 : decode cJ9_abs_0f7a4 4 = .ok (.iload_n 0, 1) := by decide +kernel
theorem dJ9_abs_0f7a4_5 : decode cJ9_abs_0f7a4 5 = .ok (.ineg, 1) := by decide +kernel
theorem dJ9_abs_0f7a4_6 : decode cJ9_abs_0f7a4 6 = .ok (.goto 4, 3) := by decide +kernel
theorem dJ9_abs_0f7a4_9 : decode cJ9_abs_0f7a4 9 = .ok (.iload_n 0, 1) := by decide +kernel
theorem dJ9_abs_0f7a4_10 : decode cJ9_abs_0f7a4 10 = .ok (.ireturn, 1) := by decide +kernel
theorem dJ9_max_7cf53_0 : decode cJ9_max_7cf53 0 = .ok (.iload_n 0, 1) := by decide +kernel
theorem dJ9_max_7cf53_1 : decode cJ9_max_7cf53 1 = .ok (.iload_n 1, 1) := by decide +kernel
theorem dJ9_max_7cf53_2 : decode cJ9_max_7cf53 2 = .ok (.if_icmp .lt 7, 3) := by decide +kernel
theorem dJ9_max_7cf53_5 : decode cJ9_max_7cf53 5 = .ok (.iload_n 0, 1) := by decide +kernel
theorem dJ9_max_7cf53_6 : decode cJ9_max_7cf53 6 = .ok (.goto 4, 3) := by decide +kernel
theorem dJ9_max_7cf53_9 : decode cJ9_max_7cf53 9 = .ok (.iload_n 1, 1) := by decide +kernel
theorem dJ9_max_7cf53_10 : decode cJ9_max_7cf53 10 = .ok (.ireturn, 1) := by decide +kernel
theorem dJ7_fill_53178_0 : decode cJ7_fill_53178 0 = .ok (.iconst 0, 1) := by decide +kernel
theorem dJ7_fill_53178_1 : decode cJ7_fill_53178 1 = .ok (.istore_n 2, 1) := by decide +kernel
theorem dJ7_fill_53178_2 : decode cJ7_fill_53178 2 = .ok (.aload_n 0, 1) := by decide +kernel
theorem dJ7_fill_53178_3 : decode cJ7_fill_53178 3 = .ok (.arraylength, 1) := by decide +kernel
theorem dJ7_fill_53178_4 : decode cJ7_fill_53178 4 = .ok (.istore_n 3, 1) := by decide +kernel
theorem dJ7_fill_53178_5 : decode cJ7_fill_53178 5 = .ok (.iload_n 2, 1) := by decide +kernel
theorem dJ7_fill_53178_6 : decode cJ7_fill_53178 6 = .ok (.iload_n 3, 1) := by decide +kernel
theorem dJ7_fill_53178_7 : decode cJ7_fill_53178 7 = .ok (.if_icmp .ge 13, 3) := by decide +kernel
theorem dJ7_fill_53178_10 : decode cJ7_fill_53178 10 = .ok (.aload_n 0, 1) := by decide +kernel
theorem dJ7_fill_53178_11 : decode cJ7_fill_53178 11 = .ok (.iload_n 2, 1) := by decide +kernel
end
section
theorem dJ7_fill_53178_12 : decode cJ7_fill_53178 12 = .ok (.iload_n 1, 1) := by decide +kernel
theorem dJ7_fill_53178_13 : decode cJ7_fill_53178 13 = .ok (.iastore, 1) := by decide +kernel
theorem dJ7_fill_53178_14 : decode cJ7_fill_53178 14 = .ok (.iinc 2 1, 3) := by decide +kernel
theorem dJ7_fill_53178_17 : decode cJ7_fill_53178 17 = .ok (.goto (-12), 3) := by decide +kernel
theorem dJ7_fill_53178_20 : decode cJ7_fill_53178 20 = .ok (.return_, 1) := by decide +kernel
theorem dJ7_fill_49daa_0 : decode cJ7_fill_49daa 0 = .ok (.iconst 0, 1) := by decide +kernel
theorem dJ7_fill_49daa_1 : decode cJ7_fill_49daa 1 = .ok (.istore_n 2, 1) := by decide +kernel
theorem dJ7_fill_49daa_2 : decode cJ7_fill_49daa 2 = .ok (.aload_n 0, 1) := by decide +kernel
theorem dJ7_fill_49daa_3 : decode cJ7_fill_49daa 3 = .ok (.arraylength, 1) := by decide +kernel
theorem dJ7_fill_49daa_4 : decode cJ7_fill_49daa 4 = .ok (.istore_n 3, 1) := by decide +kernel
theorem dJ7_fill_49daa_5 : decode cJ7_fill_49daa 5 = .ok (.iload_n 2, 1) := by decide +kernel
theorem dJ7_fill_49daa_6 : decode cJ7_fill_49daa 6 = .ok (.iload_n 3, 1) := by decide +kernel
theorem dJ7_fill_49daa_7 : decode cJ7_fill_49daa 7 = .ok (.if_icmp .ge 13, 3) := by decide +kernel
theorem dJ7_fill_49daa_10 : decode cJ7_fill_49daa 10 = .ok (.aload_n 0, 1) := by decide +kernel
theorem dJ7_fill_49daa_11 : decode cJ7_fill_49daa 11 = .ok (.iload_n 2, 1) := by decide +kernel
theorem dJ7_fill_49daa_12 : decode cJ7_fill_49daa 12 = .ok (.iload_n 1, 1) := by decide +kernel
theorem dJ7_fill_49daa_13 : decode cJ7_fill_49daa 13 = .ok (.bastore, 1) := by decide +kernel
theorem dJ7_fill_49daa_14 : decode cJ7_fill_49daa 14 = .ok (.iinc 2 1, 3) := by decide +kernel
theorem dJ7_fill_49daa_17 : decode cJ7_fill_49daa 17 = .ok (.goto (-12), 3) := by decide +kernel
theorem dJ7_fill_49daa_20 : decode cJ7_fill_49daa 20 = .ok (.return_, 1) := by decide +kernel
theorem dL_law_0 : decode cL_law 0 = .ok (.new 7, 3) := by decide +kernel
theorem dL_law_3 : decode cL_law 3 = .ok (.dup, 1) := by decide +kernel
theorem dL_law_4 : decode cL_law 4 = .ok (.invokespecial 9, 3) := by decide +kernel
theorem dL_law_7 : decode cL_law 7 = .ok (.astore_n 1, 1) := by decide +kernel
theorem dL_law_8 : decode cL_law 8 = .ok (.new 10, 3) := by decide +kernel
theorem dL_law_11 : decode cL_law 11 = .ok (.dup, 1) := by decide +kernel
theorem dL_law_12 : decode cL_law 12 = .ok (.invokespecial 12, 3) := by decide +kernel
theorem dL_law_15 : decode cL_law 15 = .ok (.astore_n 2, 1) := by decide +kernel
theorem dL_law_16 : decode cL_law 16 = .ok (.iconst 0, 1) := by decide +kernel
theorem dL_law_17 : decode cL_law 17 = .ok (.istore_n 3, 1) := by decide +kernel
theorem dL_law_18 : decode cL_law 18 = .ok (.iload_n 3, 1) := by decide +kernel
theorem dL_law_19 : decode cL_law 19 = .ok (.aload_n 0, 1) := by decide +kernel
theorem dL_law_20 : decode cL_law 20 = .ok (.arraylength, 1) := by decide +kernel
theorem dL_law_21 : decode cL_law 21 = .ok (.bipush 6, 2) := by decide +kernel
theorem dL_law_23 : decode cL_law 23 = .ok (.isub, 1) := by decide +kernel
theorem dL_law_24 : decode cL_law 24 = .ok (.if_icmp .gt 1269, 3) := by decide +kernel
theorem dL_law_27 : decode cL_law 27 = .ok (.aload_n 0, 1) := by decide +kernel
theorem dL_law_28 : decode cL_law 28 = .ok (.iload_n 3, 1) := by decide +kernel
theorem dL_law_29 : decode cL_law 29 = .ok (.iaload, 1) := by decide +kernel
theorem dL_law_30 : decode cL_law 30 = .ok (.bipush 63, 2) := by decide +kernel
theorem dL_law_32 : decode cL_law 32 = .ok (.iand, 1) := by decide +kernel
theorem dL_law_33 : decode cL_law 33 = .ok (.tableswitch 1254 0 36 #[163, 206, 229, 262, 305, 338, 351, 364, 397, 420, 433, 456, 469, 512, 525, 568, 581, 594, 627, 660, 693, 726, 739, 772, 795, 818, 851, 884, 917, 950, 993, 1016, 1049, 1072, 1115, 1158, 1191], 163) := by decide +kernel
theorem dL_law_196 : decode cL_law 196 = .ok (.aload_n 1, 1) := by decide +kernel
theorem dL_law_197 : decode cL_law 197 = .ok (.aload_n 0, 1) := by decide +kernel
theorem dL_law_198 : decode cL_law 198 = .ok (.iload_n 3, 1) := by decide +kernel
theorem dL_law_199 : decode cL_law 199 = .ok (.iconst 1, 1) := by decide +kernel
theorem dL_law_200 : decode cL_law 200 = .ok (.iadd, 1) := by decide +kernel
theorem dL_law_201 : decode cL_law 201 = .ok (.iaload, 1) := by decide +kernel
theorem dL_law_202 : decode cL_law 202 = .ok (.aload_n 0, 1) := by decide +kernel
theorem dL_law_203 : decode cL_law 203 = .ok (.iload_n 3, 1) := by decide +kernel
theorem dL_law_204 : decode cL_law 204 = .ok (.iconst 2, 1) := by decide +kernel
theorem dL_law_205 : decode cL_law 205 = .ok (.iadd, 1) := by decide +kernel
theorem dL_law_206 : decode cL_law 206 = .ok (.iaload, 1) := by decide +kernel
theorem dL_law_207 : decode cL_law 207 = .ok (.aload_n 0, 1) := by decide +kernel
theorem dL_law_208 : decode cL_law 208 = .ok (.iload_n 3, 1) := by decide +kernel
theorem dL_law_209 : decode cL_law 209 = .ok (.iconst 3, 1) := by decide +kernel
theorem dL_law_210 : decode cL_law 210 = .ok (.iadd, 1) := by decide +kernel
theorem dL_law_211 : decode cL_law 211 = .ok (.iaload, 1) := by decide +kernel
theorem dL_law_212 : decode cL_law 212 = .ok (.invokevirtual 13, 3) := by decide +kernel
theorem dL_law_215 : decode cL_law 215 = .ok (.aload_n 2, 1) := by decide +kernel
theorem dL_law_216 : decode cL_law 216 = .ok (.aload_n 0, 1) := by decide +kernel
theorem dL_law_217 : decode cL_law 217 = .ok (.iload_n 3, 1) := by decide +kernel
theorem dL_law_218 : decode cL_law 218 = .ok (.iconst 1, 1) := by decide +kernel
theorem dL_law_219 : decode cL_law 219 = .ok (.iadd, 1) := by decide +kernel
theorem dL_law_220 : decode cL_law 220 = .ok (.iaload, 1) := by decide +kernel
theorem dL_law_221 : decode cL_law 221 = .ok (.aload_n 0, 1) := by decide +kernel
theorem dL_law_222 : decode cL_law 222 = .ok (.iload_n 3, 1) := by decide +kernel
theorem dL_law_223 : decode cL_law 223 = .ok (.iconst 2, 1) := by decide +kernel
theorem dL_law_224 : decode cL_law 224 = .ok (.iadd, 1) := by decide +kernel
theorem dL_law_225 : decode cL_law 225 = .ok (.iaload, 1) := by decide +kernel
theorem dL_law_226 : decode cL_law 226 = .ok (.aload_n 0, 1) := by decide +kernel
theorem dL_law_227 : decode cL_law 227 = .ok (.iload_n 3, 1) := by decide +kernel
theorem dL_law_228 : decode cL_law 228 = .ok (.iconst 3, 1) := by decide +kernel
theorem dL_law_229 : decode cL_law 229 = .ok (.iadd, 1) := by decide +kernel
theorem dL_law_230 : decode cL_law 230 = .ok (.iaload, 1) := by decide +kernel
theorem dL_law_231 : decode cL_law 231 = .ok (.invokevirtual 17, 3) := by decide +kernel
theorem dL_law_234 : decode cL_law 234 = .ok (.if_icmp .eq 1053, 3) := by decide +kernel
theorem dL_law_237 : decode cL_law 237 = .ok (.iconst 0, 1) := by decide +kernel
theorem dL_law_238 : decode cL_law 238 = .ok (.ireturn, 1) := by decide +kernel
theorem dL_law_239 : decode cL_law 239 = .ok (.aload_n 1, 1) := by decide +kernel
theorem dL_law_240 : decode cL_law 240 = .ok (.aload_n 0, 1) := by decide +kernel
theorem dL_law_241 : decode cL_law 241 = .ok (.iload_n 3, 1) := by decide +kernel
theorem dL_law_242 : decode cL_law 242 = .ok (.iconst 1, 1) := by decide +kernel
theorem dL_law_243 : decode cL_law 243 = .ok (.iadd, 1) := by decide +kernel
theorem dL_law_244 : decode cL_law 244 = .ok (.iaload, 1) := by decide +kernel
theorem dL_law_245 : decode cL_law 245 = .ok (.invokevirtual 18, 3) := by decide +kernel
theorem dL_law_248 : decode cL_law 248 = .ok (.aload_n 2, 1) := by decide +kernel
theorem dL_law_249 : decode cL_law 249 = .ok (.aload_n 0, 1) := by decide +kernel
theorem dL_law_250 : decode cL_law 250 = .ok (.iload_n 3, 1) := by decide +kernel
theorem dL_law_251 : decode cL_law 251 = .ok (.iconst 1, 1) := by decide +kernel
theorem dL_law_252 : decode cL_law 252 = .ok (.iadd, 1) := by decide +kernel
theorem dL_law_253 : decode cL_law 253 = .ok (.iaload, 1) := by decide +kernel
theorem dL_law_254 : decode cL_law 254 = .ok (.invokevirtual 22, 3) := by decide +kernel
theorem dL_law_257 : decode cL_law 257 = .ok (.if_icmp .eq 1030, 3) := by decide +kernel
theorem dL_law_260 : decode cL_law 260 = .ok (.iconst 0, 1) := by decide +kernel
theorem dL_law_261 : decode cL_law 261 = .ok (.ireturn, 1) := by decide +kernel
theorem dL_law_262 : decode cL_law 262 = .ok (.aload_n 1, 1) := by decide +kernel
theorem dL_law_263 : decode cL_law 263 = .ok (.aload_n 0, 1) := by decide +kernel
theorem dL_law_264 : decode cL_law 264 = .ok (.iload_n 3, 1) := by decide +kernel
theorem dL_law_265 : decode cL_law 265 = .ok (.iconst 1, 1) := by decide +kernel
theorem dL_law_266 : decode cL_law 266 = .ok (.iadd, 1) := by decide +kernel
theorem dL_law_267 : decode cL_law 267 = .ok (.iaload, 1) := by decide +kernel
theorem dL_law_268 : decode cL_law 268 = .ok (.aload_n 0, 1) := by decide +kernel
theorem dL_law_269 : decode cL_law 269 = .ok (.iload_n 3, 1) := by decide +kernel
theorem dL_law_270 : decode cL_law 270 = .ok (.iconst 2, 1) := by decide +kernel
theorem dL_law_271 : decode cL_law 271 = .ok (.iadd, 1) := by decide +kernel
theorem dL_law_272 : decode cL_law 272 = .ok (.iaload, 1) := by decide +kernel
theorem dL_law_273 : decode cL_law 273 = .ok (.invokevirtual 23, 3) := by decide +kernel
theorem dL_law_276 : decode cL_law 276 = .ok (.aload_n 2, 1) := by decide +kernel
theorem dL_law_277 : decode cL_law 277 = .ok (.aload_n 0, 1) := by decide +kernel
theorem dL_law_278 : decode cL_law 278 = .ok (.iload_n 3, 1) := by decide +kernel
theorem dL_law_279 : decode cL_law 279 = .ok (.iconst 1, 1) := by decide +kernel
theorem dL_law_280 : decode cL_law 280 = .ok (.iadd, 1) := by decide +kernel
theorem dL_law_281 : decode cL_law 281 = .ok (.iaload, 1) := by decide +kernel
theorem dL_law_282 : decode cL_law 282 = .ok (.aload_n 0, 1) := by decide +kernel
theorem dL_law_283 : decode cL_law 283 = .ok (.iload_n 3, 1) := by decide +kernel
theorem dL_law_284 : decode cL_law 284 = .ok (.iconst 2, 1) := by decide +kernel
theorem dL_law_285 : decode cL_law 285 = .ok (.iadd, 1) := by decide +kernel
theorem dL_law_286 : decode cL_law 286 = .ok (.iaload, 1) := by decide +kernel
theorem dL_law_287 : decode cL_law 287 = .ok (.invokevirtual 27, 3) := by decide +kernel
theorem dL_law_290 : decode cL_law 290 = .ok (.if_icmp .eq 997, 3) := by decide +kernel
theorem dL_law_293 : decode cL_law 293 = .ok (.iconst 0, 1) := by decide +kernel
theorem dL_law_294 : decode cL_law 294 = .ok (.ireturn, 1) := by decide +kernel
theorem dL_law_295 : decode cL_law 295 = .ok (.aload_n 1, 1) := by decide +kernel
theorem dL_law_296 : decode cL_law 296 = .ok (.aload_n 0, 1) := by decide +kernel
theorem dL_law_297 : decode cL_law 297 = .ok (.iload_n 3, 1) := by decide +kernel
theorem dL_law_298 : decode cL_law 298 = .ok (.iconst 1, 1) := by decide +kernel
theorem dL_law_299 : decode cL_law 299 = .ok (.iadd, 1) := by decide +kernel
theorem dL_law_300 : decode cL_law 300 = .ok (.iaload, 1) := by decide +kernel
theorem dL_law_301 : decode cL_law 301 = .ok (.aload_n 0, 1) := by decide +kernel
theorem dL_law_302 : decode cL_law 302 = .ok (.iload_n 3, 1) := by decide +kernel
theorem dL_law_303 : decode cL_law 303 = .ok (.iconst 2, 1) := by decide +kernel
theorem dL_law_304 : decode cL_law 304 = .ok (.iadd, 1) := by decide +kernel
theorem dL_law_305 : decode cL_law 305 = .ok (.iaload, 1) := by decide +kernel
theorem dL_law_306 : decode cL_law 306 = .ok (.aload_n 0, 1) := by decide +kernel
theorem dL_law_307 : decode cL_law 307 = .ok (.iload_n 3, 1) := by decide +kernel
theorem dL_law_308 : decode cL_law 308 = .ok (.iconst 3, 1) := by decide +kernel
theorem dL_law_309 : decode cL_law 309 = .ok (.iadd, 1) := by decide +kernel
theorem dL_law_310 : decode cL_law 310 = .ok (.iaload, 1) := by decide +kernel
theorem dL_law_311 : decode cL_law 311 = .ok (.invokevirtual 28, 3) := by decide +kernel
theorem dL_law_314 : decode cL_law 314 = .ok (.aload_n 2, 1) := by decide +kernel
theorem dL_law_315 : decode cL_law 315 = .ok (.aload_n 0, 1) := by decide +kernel
theorem dL_law_316 : decode cL_law 316 = .ok (.iload_n 3, 1) := by decide +kernel
theorem dL_law_317 : decode cL_law 317 = .ok (.iconst 1, 1) := by decide +kernel
theorem dL_law_318 : decode cL_law 318 = .ok (.iadd, 1) := by decide +kernel
theorem dL_law_319 : decode cL_law 319 = .ok (.iaload, 1) := by decide +kernel
theorem dL_law_320 : decode cL_law 320 = .ok (.aload_n 0, 1) := by decide +kernel
theorem dL_law_321 : decode cL_law 321 = .ok (.iload_n 3, 1) := by decide +kernel
theorem dL_law_322 : decode cL_law 322 = .ok (.iconst 2, 1) := by decide +kernel
theorem dL_law_323 : decode cL_law 323 = .ok (.iadd, 1) := by decide +kernel
theorem dL_law_324 : decode cL_law 324 = .ok (.iaload, 1) := by decide +kernel
theorem dL_law_325 : decode cL_law 325 = .ok (.aload_n 0, 1) := by decide +kernel
theorem dL_law_326 : decode cL_law 326 = .ok (.iload_n 3, 1) := by decide +kernel
theorem dL_law_327 : decode cL_law 327 = .ok (.iconst 3, 1) := by decide +kernel
theorem dL_law_328 : decode cL_law 328 = .ok (.iadd, 1) := by decide +kernel
theorem dL_law_329 : decode cL_law 329 = .ok (.iaload, 1) := by decide +kernel
theorem dL_law_330 : decode cL_law 330 = .ok (.invokevirtual 31, 3) := by decide +kernel
theorem dL_law_333 : decode cL_law 333 = .ok (.if_icmp .eq 954, 3) := by decide +kernel
theorem dL_law_336 : decode cL_law 336 = .ok (.iconst 0, 1) := by decide +kernel
theorem dL_law_337 : decode cL_law 337 = .ok (.ireturn, 1) := by decide +kernel
theorem dL_law_338 : decode cL_law 338 = .ok (.aload_n 1, 1) := by decide +kernel
theorem dL_law_339 : decode cL_law 339 = .ok (.aload_n 0, 1) := by decide +kernel
theorem dL_law_340 : decode cL_law 340 = .ok (.iload_n 3, 1) := by decide +kernel
theorem dL_law_341 : decode cL_law 341 = .ok (.iconst 1, 1) := by decide +kernel
theorem dL_law_342 : decode cL_law 342 = .ok (.iadd, 1) := by decide +kernel
theorem dL_law_343 : decode cL_law 343 = .ok (.iaload, 1) := by decide +kernel
theorem dL_law_344 : decode cL_law 344 = .ok (.aload_n 0, 1) := by decide +kernel
theorem dL_law_345 : decode cL_law 345 = .ok (.iload_n 3, 1) := by decide +kernel
theorem dL_law_346 : decode cL_law 346 = .ok (.iconst 2, 1) := by decide +kernel
theorem dL_law_347 : decode cL_law 347 = .ok (.iadd, 1) := by decide +kernel
theorem dL_law_348 : decode cL_law 348 = .ok (.iaload, 1) := by decide +kernel
theorem dL_law_349 : decode cL_law 349 = .ok (.invokevirtual 32, 3) := by decide +kernel
theorem dL_law_352 : decode cL_law 352 = .ok (.aload_n 2, 1) := by decide +kernel
theorem dL_law_353 : decode cL_law 353 = .ok (.aload_n 0, 1) := by decide +kernel
theorem dL_law_354 : decode cL_law 354 = .ok (.iload_n 3, 1) := by decide +kernel
theorem dL_law_355 : decode cL_law 355 = .ok (.iconst 1, 1) := by decide +kernel
theorem dL_law_356 : decode cL_law 356 = .ok (.iadd, 1) := by decide +kernel
theorem dL_law_357 : decode cL_law 357 = .ok (.iaload, 1) := by decide +kernel
theorem dL_law_358 : decode cL_law 358 = .ok (.aload_n 0, 1) := by decide +kernel
theorem dL_law_359 : decode cL_law 359 = .ok (.iload_n 3, 1) := by decide +kernel
theorem dL_law_360 : decode cL_law 360 = .ok (.iconst 2, 1) := by decide +kernel
theorem dL_law_361 : decode cL_law 361 = .ok (.iadd, 1) := by decide +kernel
theorem dL_law_362 : decode cL_law 362 = .ok (.iaload, 1) := by decide +kernel
theorem dL_law_363 : decode cL_law 363 = .ok (.invokevirtual 35, 3) := by decide +kernel
theorem dL_law_366 : decode cL_law 366 = .ok (.if_icmp .eq 921, 3) := by decide +kernel
theorem dL_law_369 : decode cL_law 369 = .ok (.iconst 0, 1) := by decide +kernel
theorem dL_law_370 : decode cL_law 370 = .ok (.ireturn, 1) := by decide +kernel
theorem dL_law_371 : decode cL_law 371 = .ok (.aload_n 1, 1) := by decide +kernel
theorem dL_law_372 : decode cL_law 372 = .ok (.invokevirtual 36, 3) := by decide +kernel
theorem dL_law_375 : decode cL_law 375 = .ok (.aload_n 2, 1) := by decide +kernel
theorem dL_law_376 : decode cL_law 376 = .ok (.invokevirtual 40, 3) := by decide +kernel
theorem dL_law_379 : decode cL_law 379 = .ok (.if_icmp .eq 908, 3) := by decide +kernel
theorem dL_law_382 : decode cL_law 382 = .ok (.iconst 0, 1) := by decide +kernel
theorem dL_law_383 : decode cL_law 383 = .ok (.ireturn, 1) := by decide +kernel
theorem dL_law_384 : decode cL_law 384 = .ok (.aload_n 1, 1) := by decide +kernel
theorem dL_law_385 : decode cL_law 385 = .ok (.invokevirtual 41, 3) := by decide +kernel
theorem dL_law_388 : decode cL_law 388 = .ok (.aload_n 2, 1) := by decide +kernel
theorem dL_law_389 : decode cL_law 389 = .ok (.invokevirtual 44, 3) := by decide +kernel
theorem dL_law_392 : decode cL_law 392 = .ok (.if_icmp .eq 895, 3) := by decide +kernel
theorem dL_law_395 : decode cL_law 395 = .ok (.iconst 0, 1) := by decide +kernel
theorem dL_law_396 : decode cL_law 396 = .ok (.ireturn, 1) := by decide +kernel
theorem dL_law_397 : decode cL_law 397 = .ok (.aload_n 1, 1) := by decide +kernel
theorem dL_law_398 : decode cL_law 398 = .ok (.aload_n 0, 1) := by decide +kernel
theorem dL_law_399 : decode cL_law 399 = .ok (.iload_n 3, 1) := by decide +kernel
theorem dL_law_400 : decode cL_law 400 = .ok (.iconst 1, 1) := by decide +kernel
theorem dL_law_401 : decode cL_law 401 = .ok (.iadd, 1) := by decide +kernel
theorem dL_law_402 : decode cL_law 402 = .ok (.iaload, 1) := by decide +kernel
theorem dL_law_403 : decode cL_law 403 = .ok (.aload_n 0, 1) := by decide +kernel
theorem dL_law_404 : decode cL_law 404 = .ok (.iload_n 3, 1) := by decide +kernel
theorem dL_law_405 : decode cL_law 405 = .ok (.iconst 2, 1) := by decide +kernel
theorem dL_law_406 : decode cL_law 406 = .ok (.iadd, 1) := by decide +kernel
theorem dL_law_407 : decode cL_law 407 = .ok (.iaload, 1) := by decide +kernel
theorem dL_law_408 : decode cL_law 408 = .ok (.invokevirtual 45, 3) := by decide +kernel
theorem dL_law_411 : decode cL_law 411 = .ok (.aload_n 2, 1) := by decide +kernel
theorem dL_law_412 : decode cL_law 412 = .ok (.aload_n 0, 1) := by decide +kernel
theorem dL_law_413 : decode cL_law 413 = .ok (.iload_n 3, 1) := by decide +kernel
theorem dL_law_414 : decode cL_law 414 = .ok (.iconst 1, 1) := by decide +kernel
theorem dL_law_415 : decode cL_law 415 = .ok (.iadd, 1) := by decide +kernel
theorem dL_law_416 : decode cL_law 416 = .ok (.iaload, 1) := by decide +kernel
theorem dL_law_417 : decode cL_law 417 = .ok (.aload_n 0, 1) := by decide +kernel
theorem dL_law_418 : decode cL_law 418 = .ok (.iload_n 3, 1) := by decide +kernel
theorem dL_law_419 : decode cL_law 419 = .ok (.iconst 2, 1) := by decide +kernel
theorem dL_law_420 : decode cL_law 420 = .ok (.iadd, 1) := by decide +kernel
theorem dL_law_421 : decode cL_law 421 = .ok (.iaload, 1) := by decide +kernel
theorem dL_law_422 : decode cL_law 422 = .ok (.invokevirtual 48, 3) := by decide +kernel
theorem dL_law_425 : decode cL_law 425 = .ok (.if_icmp .eq 862, 3) := by decide +kernel
theorem dL_law_428 : decode cL_law 428 = .ok (.iconst 0, 1) := by decide +kernel
theorem dL_law_429 : decode cL_law 429 = .ok (.ireturn, 1) := by decide +kernel
theorem dL_law_430 : decode cL_law 430 = .ok (.aload_n 1, 1) := by decide +kernel
theorem dL_law_431 : decode cL_law 431 = .ok (.aload_n 0, 1) := by decide +kernel
theorem dL_law_432 : decode cL_law 432 = .ok (.iload_n 3, 1) := by decide +kernel
theorem dL_law_433 : decode cL_law 433 = .ok (.iconst 1, 1) := by decide +kernel
theorem dL_law_434 : decode cL_law 434 = .ok (.iadd, 1) := by decide +kernel
theorem dL_law_435 : decode cL_law 435 = .ok (.iaload, 1) := by decide +kernel
theorem dL_law_436 : decode cL_law 436 = .ok (.invokevirtual 49, 3) := by decide +kernel
theorem dL_law_439 : decode cL_law 439 = .ok (.aload_n 2, 1) := by decide +kernel
theorem dL_law_440 : decode cL_law 440 = .ok (.aload_n 0, 1) := by decide +kernel
theorem dL_law_441 : decode cL_law 441 = .ok (.iload_n 3, 1) := by decide +kernel
theorem dL_law_442 : decode cL_law 442 = .ok (.iconst 1, 1) := by decide +kernel
theorem dL_law_443 : decode cL_law 443 = .ok (.iadd, 1) := by decide +kernel
theorem dL_law_444 : decode cL_law 444 = .ok (.iaload, 1) := by decide +kernel
theorem dL_law_445 : decode cL_law 445 = .ok (.invokevirtual 52, 3) := by decide +kernel
theorem dL_law_448 : decode cL_law 448 = .ok (.if_icmp .eq 839, 3) := by decide +kernel
theorem dL_law_451 : decode cL_law 451 = .ok (.iconst 0, 1) := by decide +kernel
theorem dL_law_452 : decode cL_law 452 = .ok (.ireturn, 1) := by decide +kernel
theorem dL_law_453 : decode cL_law 453 = .ok (.aload_n 1, 1) := by decide +kernel
theorem dL_law_454 : decode cL_law 454 = .ok (.invokevirtual 53, 3) := by decide +kernel
theorem dL_law_457 : decode cL_law 457 = .ok (.aload_n 2, 1) := by decide +kernel
theorem dL_law_458 : decode cL_law 458 = .ok (.invokevirtual 56, 3) := by decide +kernel
theorem dL_law_461 : decode cL_law 461 = .ok (.if_icmp .eq 826, 3) := by decide +kernel
theorem dL_law_464 : decode cL_law 464 = .ok (.iconst 0, 1) := by decide +kernel
theorem dL_law_465 : decode cL_law 465 = .ok (.ireturn, 1) := by decide +kernel
theorem dL_law_466 : decode cL_law 466 = .ok (.aload_n 1, 1) := by decide +kernel
theorem dL_law_467 : decode cL_law 467 = .ok (.aload_n 0, 1) := by decide +kernel
theorem dL_law_468 : decode cL_law 468 = .ok (.iload_n 3, 1) := by decide +kernel
theorem dL_law_469 : decode cL_law 469 = .ok (.iconst 1, 1) := by decide +kernel
theorem dL_law_470 : decode cL_law 470 = .ok (.iadd, 1) := by decide +kernel
theorem dL_law_471 : decode cL_law 471 = .ok (.iaload, 1) := by decide +kernel
theorem dL_law_472 : decode cL_law 472 = .ok (.invokevirtual 57, 3) := by decide +kernel
theorem dL_law_475 : decode cL_law 475 = .ok (.aload_n 2, 1) := by decide +kernel
theorem dL_law_476 : decode cL_law 476 = .ok (.aload_n 0, 1) := by decide +kernel
theorem dL_law_477 : decode cL_law 477 = .ok (.iload_n 3, 1) := by decide +kernel
theorem dL_law_478 : decode cL_law 478 = .ok (.iconst 1, 1) := by decide +kernel
theorem dL_law_479 : decode cL_law 479 = .ok (.iadd, 1) := by decide +kernel
theorem dL_law_480 : decode cL_law 480 = .ok (.iaload, 1) := by decide +kernel
theorem dL_law_481 : decode cL_law 481 = .ok (.invokevirtual 60, 3) := by decide +kernel
theorem dL_law_484 : decode cL_law 484 = .ok (.if_icmp .eq 803, 3) := by decide +kernel
theorem dL_law_487 : decode cL_law 487 = .ok (.iconst 0, 1) := by decide +kernel
theorem dL_law_488 : decode cL_law 488 = .ok (.ireturn, 1) := by decide +kernel
theorem dL_law_489 : decode cL_law 489 = .ok (.aload_n 1, 1) := by decide +kernel
theorem dL_law_490 : decode cL_law 490 = .ok (.invokevirtual 61, 3) := by decide +kernel
theorem dL_law_493 : decode cL_law 493 = .ok (.aload_n 2, 1) := by decide +kernel
theorem dL_law_494 : decode cL_law 494 = .ok (.invokevirtual 64, 3) := by decide +kernel
theorem dL_law_497 : decode cL_law 497 = .ok (.if_icmp .eq 790, 3) := by decide +kernel
theorem dL_law_500 : decode cL_law 500 = .ok (.iconst 0, 1) := by decide +kernel
theorem dL_law_501 : decode cL_law 501 = .ok (.ireturn, 1) := by decide +kernel
theorem dL_law_502 : decode cL_law 502 = .ok (.aload_n 1, 1) := by decide +kernel
theorem dL_law_503 : decode cL_law 503 = .ok (.aload_n 0, 1) := by decide +kernel
theorem dL_law_504 : decode cL_law 504 = .ok (.iload_n 3, 1) := by decide +kernel
theorem dL_law_505 : decode cL_law 505 = .ok (.iconst 1, 1) := by decide +kernel
theorem dL_law_506 : decode cL_law 506 = .ok (.iadd, 1) := by decide +kernel
theorem dL_law_507 : decode cL_law 507 = .ok (.iaload, 1) := by decide +kernel
theorem dL_law_508 : decode cL_law 508 = .ok (.aload_n 0, 1) := by decide +kernel
theorem dL_law_509 : decode cL_law 509 = .ok (.iload_n 3, 1) := by decide +kernel
theorem dL_law_510 : decode cL_law 510 = .ok (.iconst 2, 1) := by decide +kernel
theorem dL_law_511 : decode cL_law 511 = .ok (.iadd, 1) := by decide +kernel
theorem dL_law_512 : decode cL_law 512 = .ok (.iaload, 1) := by decide +kernel
theorem dL_law_513 : decode cL_law 513 = .ok (.aload_n 0, 1) := by decide +kernel
theorem dL_law_514 : decode cL_law 514 = .ok (.iload_n 3, 1) := by decide +kernel
theorem dL_law_515 : decode cL_law 515 = .ok (.iconst 3, 1) := by decide +kernel
theorem dL_law_516 : decode cL_law 516 = .ok (.iadd, 1) := by decide +kernel
theorem dL_law_517 : decode cL_law 517 = .ok (.iaload, 1) := by decide +kernel
theorem dL_law_518 : decode cL_law 518 = .ok (.invokevirtual 65, 3) := by decide +kernel
theorem dL_law_521 : decode cL_law 521 = .ok (.aload_n 2, 1) := by decide +kernel
theorem dL_law_522 : decode cL_law 522 = .ok (.aload_n 0, 1) := by decide +kernel
theorem dL_law_523 : decode cL_law 523 = .ok (.iload_n 3, 1) := by decide +kernel
theorem dL_law_524 : decode cL_law 524 = .ok (.iconst 1, 1) := by decide +kernel
theorem dL_law_525 : decode cL_law 525 = .ok (.iadd, 1) := by decide +kernel
theorem dL_law_526 : decode cL_law 526 = .ok (.iaload, 1) := by decide +kernel
theorem dL_law_527 : decode cL_law 527 = .ok (.aload_n 0, 1) := by decide +kernel
theorem dL_law_528 : decode cL_law 528 = .ok (.iload_n 3, 1) := by decide +kernel
theorem dL_law_529 : decode cL_law 529 = .ok (.iconst 2, 1) := by decide +kernel
theorem dL_law_530 : decode cL_law 530 = .ok (.iadd, 1) := by decide +kernel
theorem dL_law_531 : decode cL_law 531 = .ok (.iaload, 1) := by decide +kernel
theorem dL_law_532 : decode cL_law 532 = .ok (.aload_n 0, 1) := by decide +kernel
theorem dL_law_533 : decode cL_law 533 = .ok (.iload_n 3, 1) := by decide +kernel
theorem dL_law_534 : decode cL_law 534 = .ok (.iconst 3, 1) := by decide +kernel
theorem dL_law_535 : decode cL_law 535 = .ok (.iadd, 1) := by decide +kernel
theorem dL_law_536 : decode cL_law 536 = .ok (.iaload, 1) := by decide +kernel
theorem dL_law_537 : decode cL_law 537 = .ok (.invokevirtual 68, 3) := by decide +kernel
theorem dL_law_540 : decode cL_law 540 = .ok (.if_icmp .eq 747, 3) := by decide +kernel
theorem dL_law_543 : decode cL_law 543 = .ok (.iconst 0, 1) := by decide +kernel
theorem dL_law_544 : decode cL_law 544 = .ok (.ireturn, 1) := by decide +kernel
theorem dL_law_545 : decode cL_law 545 = .ok (.aload_n 1, 1) := by decide +kernel
theorem dL_law_546 : decode cL_law 546 = .ok (.invokevirtual 69, 3) := by decide +kernel
theorem dL_law_549 : decode cL_law 549 = .ok (.aload_n 2, 1) := by decide +kernel
theorem dL_law_550 : decode cL_law 550 = .ok (.invokevirtual 72, 3) := by decide +kernel
theorem dL_law_553 : decode cL_law 553 = .ok (.if_icmp .eq 734, 3) := by decide +kernel
theorem dL_law_556 : decode cL_law 556 = .ok (.iconst 0, 1) := by decide +kernel
theorem dL_law_557 : decode cL_law 557 = .ok (.ireturn, 1) := by decide +kernel
theorem dL_law_558 : decode cL_law 558 = .ok (.aload_n 1, 1) := by decide +kernel
theorem dL_law_559 : decode cL_law 559 = .ok (.aload_n 0, 1) := by decide +kernel
theorem dL_law_560 : decode cL_law 560 = .ok (.iload_n 3, 1) := by decide +kernel
theorem dL_law_561 : decode cL_law 561 = .ok (.iconst 1, 1) := by decide +kernel
theorem dL_law_562 : decode cL_law 562 = .ok (.iadd, 1) := by decide +kernel
theorem dL_law_563 : decode cL_law 563 = .ok (.iaload, 1) := by decide +kernel
theorem dL_law_564 : decode cL_law 564 = .ok (.aload_n 0, 1) := by decide +kernel
theorem dL_law_565 : decode cL_law 565 = .ok (.iload_n 3, 1) := by decide +kernel
theorem dL_law_566 : decode cL_law 566 = .ok (.iconst 2, 1) := by decide +kernel
theorem dL_law_567 : decode cL_law 567 = .ok (.iadd, 1) := by decide +kernel
theorem dL_law_568 : decode cL_law 568 = .ok (.iaload, 1) := by decide +kernel
theorem dL_law_569 : decode cL_law 569 = .ok (.aload_n 0, 1) := by decide +kernel
theorem dL_law_570 : decode cL_law 570 = .ok (.iload_n 3, 1) := by decide +kernel
theorem dL_law_571 : decode cL_law 571 = .ok (.iconst 3, 1) := by decide +kernel
theorem dL_law_572 : decode cL_law 572 = .ok (.iadd, 1) := by decide +kernel
theorem dL_law_573 : decode cL_law 573 = .ok (.iaload, 1) := by decide +kernel
theorem dL_law_574 : decode cL_law 574 = .ok (.invokevirtual 73, 3) := by decide +kernel
theorem dL_law_577 : decode cL_law 577 = .ok (.aload_n 2, 1) := by decide +kernel
theorem dL_law_578 : decode cL_law 578 = .ok (.aload_n 0, 1) := by decide +kernel
theorem dL_law_579 : decode cL_law 579 = .ok (.iload_n 3, 1) := by decide +kernel
theorem dL_law_580 : decode cL_law 580 = .ok (.iconst 1, 1) := by decide +kernel
theorem dL_law_581 : decode cL_law 581 = .ok (.iadd, 1) := by decide +kernel
theorem dL_law_582 : decode cL_law 582 = .ok (.iaload, 1) := by decide +kernel
theorem dL_law_583 : decode cL_law 583 = .ok (.aload_n 0, 1) := by decide +kernel
theorem dL_law_584 : decode cL_law 584 = .ok (.iload_n 3, 1) := by decide +kernel
theorem dL_law_585 : decode cL_law 585 = .ok (.iconst 2, 1) := by decide +kernel
theorem dL_law_586 : decode cL_law 586 = .ok (.iadd, 1) := by decide +kernel
theorem dL_law_587 : decode cL_law 587 = .ok (.iaload, 1) := by decide +kernel
theorem dL_law_588 : decode cL_law 588 = .ok (.aload_n 0, 1) := by decide +kernel
theorem dL_law_589 : decode cL_law 589 = .ok (.iload_n 3, 1) := by decide +kernel
theorem dL_law_590 : decode cL_law 590 = .ok (.iconst 3, 1) := by decide +kernel
theorem dL_law_591 : decode cL_law 591 = .ok (.iadd, 1) := by decide +kernel
theorem dL_law_592 : decode cL_law 592 = .ok (.iaload, 1) := by decide +kernel
theorem dL_law_593 : decode cL_law 593 = .ok (.invokevirtual 76, 3) := by decide +kernel
theorem dL_law_596 : decode cL_law 596 = .ok (.if_icmp .eq 691, 3) := by decide +kernel
theorem dL_law_599 : decode cL_law 599 = .ok (.iconst 0, 1) := by decide +kernel
theorem dL_law_600 : decode cL_law 600 = .ok (.ireturn, 1) := by decide +kernel
theorem dL_law_601 : decode cL_law 601 = .ok (.aload_n 1, 1) := by decide +kernel
theorem dL_law_602 : decode cL_law 602 = .ok (.invokevirtual 77, 3) := by decide +kernel
theorem dL_law_605 : decode cL_law 605 = .ok (.aload_n 2, 1) := by decide +kernel
theorem dL_law_606 : decode cL_law 606 = .ok (.invokevirtual 80, 3) := by decide +kernel
theorem dL_law_609 : decode cL_law 609 = .ok (.if_icmp .eq 678, 3) := by decide +kernel
theorem dL_law_612 : decode cL_law 612 = .ok (.iconst 0, 1) := by decide +kernel
theorem dL_law_613 : decode cL_law 613 = .ok (.ireturn, 1) := by decide +kernel
theorem dL_law_614 : decode cL_law 614 = .ok (.aload_n 1, 1) := by decide +kernel
theorem dL_law_615 : decode cL_law 615 = .ok (.invokevirtual 81, 3) := by decide +kernel
theorem dL_law_618 : decode cL_law 618 = .ok (.aload_n 2, 1) := by decide +kernel
theorem dL_law_619 : decode cL_law 619 = .ok (.invokevirtual 84, 3) := by decide +kernel
theorem dL_law_622 : decode cL_law 622 = .ok (.if_icmp .eq 665, 3) := by decide +kernel
theorem dL_law_625 : decode cL_law 625 = .ok (.iconst 0, 1) := by decide +kernel
theorem dL_law_626 : decode cL_law 626 = .ok (.ireturn, 1) := by decide +kernel
theorem dL_law_627 : decode cL_law 627 = .ok (.aload_n 1, 1) := by decide +kernel
theorem dL_law_628 : decode cL_law 628 = .ok (.aload_n 0, 1) := by decide +kernel
theorem dL_law_629 : decode cL_law 629 = .ok (.iload_n 3, 1) := by decide +kernel
theorem dL_law_630 : decode cL_law 630 = .ok (.iconst 1, 1) := by decide +kernel
theorem dL_law_631 : decode cL_law 631 = .ok (.iadd, 1) := by decide +kernel
theorem dL_law_632 : decode cL_law 632 = .ok (.iaload, 1) := by decide +kernel
theorem dL_law_633 : decode cL_law 633 = .ok (.aload_n 0, 1) := by decide +kernel
theorem dL_law_634 : decode cL_law 634 = .ok (.iload_n 3, 1) := by decide +kernel
theorem dL_law_635 : decode cL_law 635 = .ok (.iconst 2, 1) := by decide +kernel
theorem dL_law_636 : decode cL_law 636 = .ok (.iadd, 1) := by decide +kernel
theorem dL_law_637 : decode cL_law 637 = .ok (.iaload, 1) := by decide +kernel
theorem dL_law_638 : decode cL_law 638 = .ok (.invokevirtual 85, 3) := by decide +kernel
theorem dL_law_641 : decode cL_law 641 = .ok (.aload_n 2, 1) := by decide +kernel
theorem dL_law_642 : decode cL_law 642 = .ok (.aload_n 0, 1) := by decide +kernel
theorem dL_law_643 : decode cL_law 643 = .ok (.iload_n 3, 1) := by decide +kernel
theorem dL_law_644 : decode cL_law 644 = .ok (.iconst 1, 1) := by decide +kernel
theorem dL_law_645 : decode cL_law 645 = .ok (.iadd, 1) := by decide +kernel
theorem dL_law_646 : decode cL_law 646 = .ok (.iaload, 1) := by decide +kernel
theorem dL_law_647 : decode cL_law 647 = .ok (.aload_n 0, 1) := by decide +kernel
theorem dL_law_648 : decode cL_law 648 = .ok (.iload_n 3, 1) := by decide +kernel
theorem dL_law_649 : decode cL_law 649 = .ok (.iconst 2, 1) := by decide +kernel
theorem dL_law_650 : decode cL_law 650 = .ok (.iadd, 1) := by decide +kernel
theorem dL_law_651 : decode cL_law 651 = .ok (.iaload, 1) := by decide +kernel
theorem dL_law_652 : decode cL_law 652 = .ok (.invokevirtual 88, 3) := by decide +kernel
theorem dL_law_655 : decode cL_law 655 = .ok (.if_icmp .eq 632, 3) := by decide +kernel
theorem dL_law_658 : decode cL_law 658 = .ok (.iconst 0, 1) := by decide +kernel
theorem dL_law_659 : decode cL_law 659 = .ok (.ireturn, 1) := by decide +kernel
theorem dL_law_660 : decode cL_law 660 = .ok (.aload_n 1, 1) := by decide +kernel
theorem dL_law_661 : decode cL_law 661 = .ok (.aload_n 0, 1) := by decide +kernel
theorem dL_law_662 : decode cL_law 662 = .ok (.iload_n 3, 1) := by decide +kernel
theorem dL_law_663 : decode cL_law 663 = .ok (.iconst 1, 1) := by decide +kernel
theorem dL_law_664 : decode cL_law 664 = .ok (.iadd, 1) := by decide +kernel
theorem dL_law_665 : decode cL_law 665 = .ok (.iaload, 1) := by decide +kernel
theorem dL_law_666 : decode cL_law 666 = .ok (.aload_n 0, 1) := by decide +kernel
theorem dL_law_667 : decode cL_law 667 = .ok (.iload_n 3, 1) := by decide +kernel
theorem dL_law_668 : decode cL_law 668 = .ok (.iconst 2, 1) := by decide +kernel
theorem dL_law_669 : decode cL_law 669 = .ok (.iadd, 1) := by decide +kernel
theorem dL_law_670 : decode cL_law 670 = .ok (.iaload, 1) := by decide +kernel
theorem dL_law_671 : decode cL_law 671 = .ok (.invokevirtual 89, 3) := by decide +kernel
theorem dL_law_674 : decode cL_law 674 = .ok (.aload_n 2, 1) := by decide +kernel
theorem dL_law_675 : decode cL_law 675 = .ok (.aload_n 0, 1) := by decide +kernel
theorem dL_law_676 : decode cL_law 676 = .ok (.iload_n 3, 1) := by decide +kernel
theorem dL_law_677 : decode cL_law 677 = .ok (.iconst 1, 1) := by decide +kernel
theorem dL_law_678 : decode cL_law 678 = .ok (.iadd, 1) := by decide +kernel
theorem dL_law_679 : decode cL_law 679 = .ok (.iaload, 1) := by decide +kernel
theorem dL_law_680 : decode cL_law 680 = .ok (.aload_n 0, 1) := by decide +kernel
theorem dL_law_681 : decode cL_law 681 = .ok (.iload_n 3, 1) := by decide +kernel
theorem dL_law_682 : decode cL_law 682 = .ok (.iconst 2, 1) := by decide +kernel
theorem dL_law_683 : decode cL_law 683 = .ok (.iadd, 1) := by decide +kernel
theorem dL_law_684 : decode cL_law 684 = .ok (.iaload, 1) := by decide +kernel
theorem dL_law_685 : decode cL_law 685 = .ok (.invokevirtual 92, 3) := by decide +kernel
theorem dL_law_688 : decode cL_law 688 = .ok (.if_icmp .eq 599, 3) := by decide +kernel
theorem dL_law_691 : decode cL_law 691 = .ok (.iconst 0, 1) := by decide +kernel
theorem dL_law_692 : decode cL_law 692 = .ok (.ireturn, 1) := by decide +kernel
theorem dL_law_693 : decode cL_law 693 = .ok (.aload_n 1, 1) := by decide +kernel
theorem dL_law_694 : decode cL_law 694 = .ok (.aload_n 0, 1) := by decide +kernel
theorem dL_law_695 : decode cL_law 695 = .ok (.iload_n 3, 1) := by decide +kernel
theorem dL_law_696 : decode cL_law 696 = .ok (.iconst 1, 1) := by decide +kernel
theorem dL_law_697 : decode cL_law 697 = .ok (.iadd, 1) := by decide +kernel
theorem dL_law_698 : decode cL_law 698 = .ok (.iaload, 1) := by decide +kernel
theorem dL_law_699 : decode cL_law 699 = .ok (.aload_n 0, 1) := by decide +kernel
theorem dL_law_700 : decode cL_law 700 = .ok (.iload_n 3, 1) := by decide +kernel
theorem dL_law_701 : decode cL_law 701 = .ok (.iconst 2, 1) := by decide +kernel
theorem dL_law_702 : decode cL_law 702 = .ok (.iadd, 1) := by decide +kernel
theorem dL_law_703 : decode cL_law 703 = .ok (.iaload, 1) := by decide +kernel
theorem dL_law_704 : decode cL_law 704 = .ok (.invokevirtual 93, 3) := by decide +kernel
theorem dL_law_707 : decode cL_law 707 = .ok (.aload_n 2, 1) := by decide +kernel
theorem dL_law_708 : decode cL_law 708 = .ok (.aload_n 0, 1) := by decide +kernel
theorem dL_law_709 : decode cL_law 709 = .ok (.iload_n 3, 1) := by decide +kernel
theorem dL_law_710 : decode cL_law 710 = .ok (.iconst 1, 1) := by decide +kernel
theorem dL_law_711 : decode cL_law 711 = .ok (.iadd, 1) := by decide +kernel
theorem dL_law_712 : decode cL_law 712 = .ok (.iaload, 1) := by decide +kernel
theorem dL_law_713 : decode cL_law 713 = .ok (.aload_n 0, 1) := by decide +kernel
theorem dL_law_714 : decode cL_law 714 = .ok (.iload_n 3, 1) := by decide +kernel
theorem dL_law_715 : decode cL_law 715 = .ok (.iconst 2, 1) := by decide +kernel
theorem dL_law_716 : decode cL_law 716 = .ok (.iadd, 1) := by decide +kernel
theorem dL_law_717 : decode cL_law 717 = .ok (.iaload, 1) := by decide +kernel
theorem dL_law_718 : decode cL_law 718 = .ok (.invokevirtual 96, 3) := by decide +kernel
theorem dL_law_721 : decode cL_law 721 = .ok (.if_icmp .eq 566, 3) := by decide +kernel
theorem dL_law_724 : decode cL_law 724 = .ok (.iconst 0, 1) := by decide +kernel
theorem dL_law_725 : decode cL_law 725 = .ok (.ireturn, 1) := by decide +kernel
theorem dL_law_726 : decode cL_law 726 = .ok (.aload_n 1, 1) := by decide +kernel
theorem dL_law_727 : decode cL_law 727 = .ok (.aload_n 0, 1) := by decide +kernel
theorem dL_law_728 : decode cL_law 728 = .ok (.iload_n 3, 1) := by decide +kernel
theorem dL_law_729 : decode cL_law 729 = .ok (.iconst 1, 1) := by decide +kernel
theorem dL_law_730 : decode cL_law 730 = .ok (.iadd, 1) := by decide +kernel
theorem dL_law_731 : decode cL_law 731 = .ok (.iaload, 1) := by decide +kernel
theorem dL_law_732 : decode cL_law 732 = .ok (.aload_n 0, 1) := by decide +kernel
theorem dL_law_733 : decode cL_law 733 = .ok (.iload_n 3, 1) := by decide +kernel
theorem dL_law_734 : decode cL_law 734 = .ok (.iconst 2, 1) := by decide +kernel
theorem dL_law_735 : decode cL_law 735 = .ok (.iadd, 1) := by decide +kernel
theorem dL_law_736 : decode cL_law 736 = .ok (.iaload, 1) := by decide +kernel
theorem dL_law_737 : decode cL_law 737 = .ok (.invokevirtual 97, 3) := by decide +kernel
theorem dL_law_740 : decode cL_law 740 = .ok (.aload_n 2, 1) := by decide +kernel
theorem dL_law_741 : decode cL_law 741 = .ok (.aload_n 0, 1) := by decide +kernel
theorem dL_law_742 : decode cL_law 742 = .ok (.iload_n 3, 1) := by decide +kernel
theorem dL_law_743 : decode cL_law 743 = .ok (.iconst 1, 1) := by decide +kernel
theorem dL_law_744 : decode cL_law 744 = .ok (.iadd, 1) := by decide +kernel
theorem dL_law_745 : decode cL_law 745 = .ok (.iaload, 1) := by decide +kernel
theorem dL_law_746 : decode cL_law 746 = .ok (.aload_n 0, 1) := by decide +kernel
theorem dL_law_747 : decode cL_law 747 = .ok (.iload_n 3, 1) := by decide +kernel
theorem dL_law_748 : decode cL_law 748 = .ok (.iconst 2, 1) := by decide +kernel
theorem dL_law_749 : decode cL_law 749 = .ok (.iadd, 1) := by decide +kernel
theorem dL_law_750 : decode cL_law 750 = .ok (.iaload, 1) := by decide +kernel
theorem dL_law_751 : decode cL_law 751 = .ok (.invokevirtual 100, 3) := by decide +kernel
theorem dL_law_754 : decode cL_law 754 = .ok (.if_icmp .eq 533, 3) := by decide +kernel
theorem dL_law_757 : decode cL_law 757 = .ok (.iconst 0, 1) := by decide +kernel
theorem dL_law_758 : decode cL_law 758 = .ok (.ireturn, 1) := by decide +kernel
theorem dL_law_759 : decode cL_law 759 = .ok (.aload_n 1, 1) := by decide +kernel
theorem dL_law_760 : decode cL_law 760 = .ok (.invokevirtual 101, 3) := by decide +kernel
theorem dL_law_763 : decode cL_law 763 = .ok (.aload_n 2, 1) := by decide +kernel
theorem dL_law_764 : decode cL_law 764 = .ok (.invokevirtual 104, 3) := by decide +kernel
theorem dL_law_767 : decode cL_law 767 = .ok (.if_icmp .eq 520, 3) := by decide +kernel
theorem dL_law_770 : decode cL_law 770 = .ok (.iconst 0, 1) := by decide +kernel
theorem dL_law_771 : decode cL_law 771 = .ok (.ireturn, 1) := by decide +kernel
theorem dL_law_772 : decode cL_law 772 = .ok (.aload_n 1, 1) := by decide +kernel
theorem dL_law_773 : decode cL_law 773 = .ok (.aload_n 0, 1) := by decide +kernel
theorem dL_law_774 : decode cL_law 774 = .ok (.iload_n 3, 1) := by decide +kernel
theorem dL_law_775 : decode cL_law 775 = .ok (.iconst 1, 1) := by decide +kernel
theorem dL_law_776 : decode cL_law 776 = .ok (.iadd, 1) := by decide +kernel
theorem dL_law_777 : decode cL_law 777 = .ok (.iaload, 1) := by decide +kernel
theorem dL_law_778 : decode cL_law 778 = .ok (.aload_n 0, 1) := by decide +kernel
theorem dL_law_779 : decode cL_law 779 = .ok (.iload_n 3, 1) := by decide +kernel
theorem dL_law_780 : decode cL_law 780 = .ok (.iconst 2, 1) := by decide +kernel
theorem dL_law_781 : decode cL_law 781 = .ok (.iadd, 1) := by decide +kernel
theorem dL_law_782 : decode cL_law 782 = .ok (.iaload, 1) := by decide +kernel
theorem dL_law_783 : decode cL_law 783 = .ok (.invokevirtual 105, 3) := by decide +kernel
theorem dL_law_786 : decode cL_law 786 = .ok (.aload_n 2, 1) := by decide +kernel
theorem dL_law_787 : decode cL_law 787 = .ok (.aload_n 0, 1) := by decide +kernel
theorem dL_law_788 : decode cL_law 788 = .ok (.iload_n 3, 1) := by decide +kernel
theorem dL_law_789 : decode cL_law 789 = .ok (.iconst 1, 1) := by decide +kernel
theorem dL_law_790 : decode cL_law 790 = .ok (.iadd, 1) := by decide +kernel
theorem dL_law_791 : decode cL_law 791 = .ok (.iaload, 1) := by decide +kernel
theorem dL_law_792 : decode cL_law 792 = .ok (.aload_n 0, 1) := by decide +kernel
theorem dL_law_793 : decode cL_law 793 = .ok (.iload_n 3, 1) := by decide +kernel
theorem dL_law_794 : decode cL_law 794 = .ok (.iconst 2, 1) := by decide +kernel
theorem dL_law_795 : decode cL_law 795 = .ok (.iadd, 1) := by decide +kernel
theorem dL_law_796 : decode cL_law 796 = .ok (.iaload, 1) := by decide +kernel
theorem dL_law_797 : decode cL_law 797 = .ok (.invokevirtual 108, 3) := by decide +kernel
theorem dL_law_800 : decode cL_law 800 = .ok (.if_icmp .eq 487, 3) := by decide +kernel
theorem dL_law_803 : decode cL_law 803 = .ok (.iconst 0, 1) := by decide +kernel
theorem dL_law_804 : decode cL_law 804 = .ok (.ireturn, 1) := by decide +kernel
theorem dL_law_805 : decode cL_law 805 = .ok (.aload_n 1, 1) := by decide +kernel
theorem dL_law_806 : decode cL_law 806 = .ok (.aload_n 0, 1) := by decide +kernel
theorem dL_law_807 : decode cL_law 807 = .ok (.iload_n 3, 1) := by decide +kernel
theorem dL_law_808 : decode cL_law 808 = .ok (.iconst 1, 1) := by decide +kernel
theorem dL_law_809 : decode cL_law 809 = .ok (.iadd, 1) := by decide +kernel
theorem dL_law_810 : decode cL_law 810 = .ok (.iaload, 1) := by decide +kernel
theorem dL_law_811 : decode cL_law 811 = .ok (.invokevirtual 109, 3) := by decide +kernel
theorem dL_law_814 : decode cL_law 814 = .ok (.aload_n 2, 1) := by decide +kernel
theorem dL_law_815 : decode cL_law 815 = .ok (.aload_n 0, 1) := by decide +kernel
theorem dL_law_816 : decode cL_law 816 = .ok (.iload_n 3, 1) := by decide +kernel
theorem dL_law_817 : decode cL_law 817 = .ok (.iconst 1, 1) := by decide +kernel
theorem dL_law_818 : decode cL_law 818 = .ok (.iadd, 1) := by decide +kernel
theorem dL_law_819 : decode cL_law 819 = .ok (.iaload, 1) := by decide +kernel
theorem dL_law_820 : decode cL_law 820 = .ok (.invokevirtual 112, 3) := by decide +kernel
theorem dL_law_823 : decode cL_law 823 = .ok (.if_icmp .eq 464, 3) := by decide +kernel
theorem dL_law_826 : decode cL_law 826 = .ok (.iconst 0, 1) := by decide +kernel
theorem dL_law_827 : decode cL_law 827 = .ok (.ireturn, 1) := by decide +kernel
theorem dL_law_828 : decode cL_law 828 = .ok (.aload_n 1, 1) := by decide +kernel
theorem dL_law_829 : decode cL_law 829 = .ok (.aload_n 0, 1) := by decide +kernel
theorem dL_law_830 : decode cL_law 830 = .ok (.iload_n 3, 1) := by decide +kernel
theorem dL_law_831 : decode cL_law 831 = .ok (.iconst 1, 1) := by decide +kernel
theorem dL_law_832 : decode cL_law 832 = .ok (.iadd, 1) := by decide +kernel
theorem dL_law_833 : decode cL_law 833 = .ok (.iaload, 1) := by decide +kernel
theorem dL_law_834 : decode cL_law 834 = .ok (.invokevirtual 113, 3) := by decide +kernel
theorem dL_law_837 : decode cL_law 837 = .ok (.aload_n 2, 1) := by decide +kernel
theorem dL_law_838 : decode cL_law 838 = .ok (.aload_n 0, 1) := by decide +kernel
theorem dL_law_839 : decode cL_law 839 = .ok (.iload_n 3, 1) := by decide +kernel
theorem dL_law_840 : decode cL_law 840 = .ok (.iconst 1, 1) := by decide +kernel
theorem dL_law_841 : decode cL_law 841 = .ok (.iadd, 1) := by decide +kernel
theorem dL_law_842 : decode cL_law 842 = .ok (.iaload, 1) := by decide +kernel
theorem dL_law_843 : decode cL_law 843 = .ok (.invokevirtual 116, 3) := by decide +kernel
theorem dL_law_846 : decode cL_law 846 = .ok (.if_icmp .eq 441, 3) := by decide +kernel
theorem dL_law_849 : decode cL_law 849 = .ok (.iconst 0, 1) := by decide +kernel
theorem dL_law_850 : decode cL_law 850 = .ok (.ireturn, 1) := by decide +kernel
theorem dL_law_851 : decode cL_law 851 = .ok (.aload_n 1, 1) := by decide +kernel
theorem dL_law_852 : decode cL_law 852 = .ok (.aload_n 0, 1) := by decide +kernel
theorem dL_law_853 : decode cL_law 853 = .ok (.iload_n 3, 1) := by decide +kernel
theorem dL_law_854 : decode cL_law 854 = .ok (.iconst 1, 1) := by decide +kernel
theorem dL_law_855 : decode cL_law 855 = .ok (.iadd, 1) := by decide +kernel
theorem dL_law_856 : decode cL_law 856 = .ok (.iaload, 1) := by decide +kernel
theorem dL_law_857 : decode cL_law 857 = .ok (.aload_n 0, 1) := by decide +kernel
theorem dL_law_858 : decode cL_law 858 = .ok (.iload_n 3, 1) := by decide +kernel
theorem dL_law_859 : decode cL_law 859 = .ok (.iconst 2, 1) := by decide +kernel
theorem dL_law_860 : decode cL_law 860 = .ok (.iadd, 1) := by decide +kernel
theorem dL_law_861 : decode cL_law 861 = .ok (.iaload, 1) := by decide +kernel
theorem dL_law_862 : decode cL_law 862 = .ok (.invokevirtual 117, 3) := by decide +kernel
theorem dL_law_865 : decode cL_law 865 = .ok (.aload_n 2, 1) := by decide +kernel
theorem dL_law_866 : decode cL_law 866 = .ok (.aload_n 0, 1) := by decide +kernel
theorem dL_law_867 : decode cL_law 867 = .ok (.iload_n 3, 1) := by decide +kernel
theorem dL_law_868 : decode cL_law 868 = .ok (.iconst 1, 1) := by decide +kernel
theorem dL_law_869 : decode cL_law 869 = .ok (.iadd, 1) := by decide +kernel
theorem dL_law_870 : decode cL_law 870 = .ok (.iaload, 1) := by decide +kernel
theorem dL_law_871 : decode cL_law 871 = .ok (.aload_n 0, 1) := by decide +kernel
theorem dL_law_872 : decode cL_law 872 = .ok (.iload_n 3, 1) := by decide +kernel
theorem dL_law_873 : decode cL_law 873 = .ok (.iconst 2, 1) := by decide +kernel
theorem dL_law_874 : decode cL_law 874 = .ok (.iadd, 1) := by decide +kernel
theorem dL_law_875 : decode cL_law 875 = .ok (.iaload, 1) := by decide +kernel
theorem dL_law_876 : decode cL_law 876 = .ok (.invokevirtual 120, 3) := by decide +kernel
theorem dL_law_879 : decode cL_law 879 = .ok (.if_icmp .eq 408, 3) := by decide +kernel
theorem dL_law_882 : decode cL_law 882 = .ok (.iconst 0, 1) := by decide +kernel
theorem dL_law_883 : decode cL_law 883 = .ok (.ireturn, 1) := by decide +kernel
theorem dL_law_884 : decode cL_law 884 = .ok (.aload_n 1, 1) := by decide +kernel
theorem dL_law_885 : decode cL_law 885 = .ok (.aload_n 0, 1) := by decide +kernel
theorem dL_law_886 : decode cL_law 886 = .ok (.iload_n 3, 1) := by decide +kernel
theorem dL_law_887 : decode cL_law 887 = .ok (.iconst 1, 1) := by decide +kernel
theorem dL_law_888 : decode cL_law 888 = .ok (.iadd, 1) := by decide +kernel
theorem dL_law_889 : decode cL_law 889 = .ok (.iaload, 1) := by decide +kernel
theorem dL_law_890 : decode cL_law 890 = .ok (.aload_n 0, 1) := by decide +kernel
theorem dL_law_891 : decode cL_law 891 = .ok (.iload_n 3, 1) := by decide +kernel
theorem dL_law_892 : decode cL_law 892 = .ok (.iconst 2, 1) := by decide +kernel
theorem dL_law_893 : decode cL_law 893 = .ok (.iadd, 1) := by decide +kernel
theorem dL_law_894 : decode cL_law 894 = .ok (.iaload, 1) := by decide +kernel
theorem dL_law_895 : decode cL_law 895 = .ok (.invokevirtual 121, 3) := by decide +kernel
theorem dL_law_898 : decode cL_law 898 = .ok (.aload_n 2, 1) := by decide +kernel
theorem dL_law_899 : decode cL_law 899 = .ok (.aload_n 0, 1) := by decide +kernel
theorem dL_law_900 : decode cL_law 900 = .ok (.iload_n 3, 1) := by decide +kernel
theorem dL_law_901 : decode cL_law 901 = .ok (.iconst 1, 1) := by decide +kernel
theorem dL_law_902 : decode cL_law 902 = .ok (.iadd, 1) := by decide +kernel
theorem dL_law_903 : decode cL_law 903 = .ok (.iaload, 1) := by decide +kernel
theorem dL_law_904 : decode cL_law 904 = .ok (.aload_n 0, 1) := by decide +kernel
theorem dL_law_905 : decode cL_law 905 = .ok (.iload_n 3, 1) := by decide +kernel
theorem dL_law_906 : decode cL_law 906 = .ok (.iconst 2, 1) := by decide +kernel
theorem dL_law_907 : decode cL_law 907 = .ok (.iadd, 1) := by decide +kernel
theorem dL_law_908 : decode cL_law 908 = .ok (.iaload, 1) := by decide +kernel
theorem dL_law_909 : decode cL_law 909 = .ok (.invokevirtual 124, 3) := by decide +kernel
theorem dL_law_912 : decode cL_law 912 = .ok (.if_icmp .eq 375, 3) := by decide +kernel
theorem dL_law_915 : decode cL_law 915 = .ok (.iconst 0, 1) := by decide +kernel
theorem dL_law_916 : decode cL_law 916 = .ok (.ireturn, 1) := by decide +kernel
theorem dL_law_917 : decode cL_law 917 = .ok (.aload_n 1, 1) := by decide +kernel
theorem dL_law_918 : decode cL_law 918 = .ok (.aload_n 0, 1) := by decide +kernel
theorem dL_law_919 : decode cL_law 919 = .ok (.iload_n 3, 1) := by decide +kernel
theorem dL_law_920 : decode cL_law 920 = .ok (.iconst 1, 1) := by decide +kernel
theorem dL_law_921 : decode cL_law 921 = .ok (.iadd, 1) := by decide +kernel
theorem dL_law_922 : decode cL_law 922 = .ok (.iaload, 1) := by decide +kernel
theorem dL_law_923 : decode cL_law 923 = .ok (.aload_n 0, 1) := by decide +kernel
theorem dL_law_924 : decode cL_law 924 = .ok (.iload_n 3, 1) := by decide +kernel
theorem dL_law_925 : decode cL_law 925 = .ok (.iconst 2, 1) := by decide +kernel
theorem dL_law_926 : decode cL_law 926 = .ok (.iadd, 1) := by decide +kernel
theorem dL_law_927 : decode cL_law 927 = .ok (.iaload, 1) := by decide +kernel
theorem dL_law_928 : decode cL_law 928 = .ok (.invokevirtual 125, 3) := by decide +kernel
theorem dL_law_931 : decode cL_law 931 = .ok (.aload_n 2, 1) := by decide +kernel
theorem dL_law_932 : decode cL_law 932 = .ok (.aload_n 0, 1) := by decide +kernel
theorem dL_law_933 : decode cL_law 933 = .ok (.iload_n 3, 1) := by decide +kernel
theorem dL_law_934 : decode cL_law 934 = .ok (.iconst 1, 1) := by decide +kernel
theorem dL_law_935 : decode cL_law 935 = .ok (.iadd, 1) := by decide +kernel
theorem dL_law_936 : decode cL_law 936 = .ok (.iaload, 1) := by decide +kernel
theorem dL_law_937 : decode cL_law 937 = .ok (.aload_n 0, 1) := by decide +kernel
theorem dL_law_938 : decode cL_law 938 = .ok (.iload_n 3, 1) := by decide +kernel
theorem dL_law_939 : decode cL_law 939 = .ok (.iconst 2, 1) := by decide +kernel
theorem dL_law_940 : decode cL_law 940 = .ok (.iadd, 1) := by decide +kernel
theorem dL_law_941 : decode cL_law 941 = .ok (.iaload, 1) := by decide +kernel
theorem dL_law_942 : decode cL_law 942 = .ok (.invokevirtual 128, 3) := by decide +kernel
theorem dL_law_945 : decode cL_law 945 = .ok (.if_icmp .eq 342, 3) := by decide +kernel
theorem dL_law_948 : decode cL_law 948 = .ok (.iconst 0, 1) := by decide +kernel
theorem dL_law_949 : decode cL_law 949 = .ok (.ireturn, 1) := by decide +kernel
theorem dL_law_950 : decode cL_law 950 = .ok (.aload_n 1, 1) := by decide +kernel
theorem dL_law_951 : decode cL_law 951 = .ok (.aload_n 0, 1) := by decide +kernel
theorem dL_law_952 : decode cL_law 952 = .ok (.iload_n 3, 1) := by decide +kernel
theorem dL_law_953 : decode cL_law 953 = .ok (.iconst 1, 1) := by decide +kernel
theorem dL_law_954 : decode cL_law 954 = .ok (.iadd, 1) := by decide +kernel
theorem dL_law_955 : decode cL_law 955 = .ok (.iaload, 1) := by decide +kernel
theorem dL_law_956 : decode cL_law 956 = .ok (.aload_n 0, 1) := by decide +kernel
theorem dL_law_957 : decode cL_law 957 = .ok (.iload_n 3, 1) := by decide +kernel
theorem dL_law_958 : decode cL_law 958 = .ok (.iconst 2, 1) := by decide +kernel
theorem dL_law_959 : decode cL_law 959 = .ok (.iadd, 1) := by decide +kernel
theorem dL_law_960 : decode cL_law 960 = .ok (.iaload, 1) := by decide +kernel
theorem dL_law_961 : decode cL_law 961 = .ok (.invokevirtual 129, 3) := by decide +kernel
theorem dL_law_964 : decode cL_law 964 = .ok (.aload_n 2, 1) := by decide +kernel
theorem dL_law_965 : decode cL_law 965 = .ok (.aload_n 0, 1) := by decide +kernel
theorem dL_law_966 : decode cL_law 966 = .ok (.iload_n 3, 1) := by decide +kernel
theorem dL_law_967 : decode cL_law 967 = .ok (.iconst 1, 1) := by decide +kernel
theorem dL_law_968 : decode cL_law 968 = .ok (.iadd, 1) := by decide +kernel
theorem dL_law_969 : decode cL_law 969 = .ok (.iaload, 1) := by decide +kernel
theorem dL_law_970 : decode cL_law 970 = .ok (.aload_n 0, 1) := by decide +kernel
theorem dL_law_971 : decode cL_law 971 = .ok (.iload_n 3, 1) := by decide +kernel
theorem dL_law_972 : decode cL_law 972 = .ok (.iconst 2, 1) := by decide +kernel
theorem dL_law_973 : decode cL_law 973 = .ok (.iadd, 1) := by decide +kernel
theorem dL_law_974 : decode cL_law 974 = .ok (.iaload, 1) := by decide +kernel
theorem dL_law_975 : decode cL_law 975 = .ok (.invokevirtual 132, 3) := by decide +kernel
theorem dL_law_978 : decode cL_law 978 = .ok (.if_icmp .eq 309, 3) := by decide +kernel
theorem dL_law_981 : decode cL_law 981 = .ok (.iconst 0, 1) := by decide +kernel
theorem dL_law_982 : decode cL_law 982 = .ok (.ireturn, 1) := by decide +kernel
theorem dL_law_983 : decode cL_law 983 = .ok (.aload_n 1, 1) := by decide +kernel
theorem dL_law_984 : decode cL_law 984 = .ok (.aload_n 0, 1) := by decide +kernel
theorem dL_law_985 : decode cL_law 985 = .ok (.iload_n 3, 1) := by decide +kernel
theorem dL_law_986 : decode cL_law 986 = .ok (.iconst 1, 1) := by decide +kernel
theorem dL_law_987 : decode cL_law 987 = .ok (.iadd, 1) := by decide +kernel
theorem dL_law_988 : decode cL_law 988 = .ok (.iaload, 1) := by decide +kernel
theorem dL_law_989 : decode cL_law 989 = .ok (.aload_n 0, 1) := by decide +kernel
theorem dL_law_990 : decode cL_law 990 = .ok (.iload_n 3, 1) := by decide +kernel
theorem dL_law_991 : decode cL_law 991 = .ok (.iconst 2, 1) := by decide +kernel
theorem dL_law_992 : decode cL_law 992 = .ok (.iadd, 1) := by decide +kernel
theorem dL_law_993 : decode cL_law 993 = .ok (.iaload, 1) := by decide +kernel
theorem dL_law_994 : decode cL_law 994 = .ok (.aload_n 0, 1) := by decide +kernel
theorem dL_law_995 : decode cL_law 995 = .ok (.iload_n 3, 1) := by decide +kernel
theorem dL_law_996 : decode cL_law 996 = .ok (.iconst 3, 1) := by decide +kernel
theorem dL_law_997 : decode cL_law 997 = .ok (.iadd, 1) := by decide +kernel
theorem dL_law_998 : decode cL_law 998 = .ok (.iaload, 1) := by decide +kernel
theorem dL_law_999 : decode cL_law 999 = .ok (.invokevirtual 133, 3) := by decide +kernel
theorem dL_law_1002 : decode cL_law 1002 = .ok (.aload_n 2, 1) := by decide +kernel
theorem dL_law_1003 : decode cL_law 1003 = .ok (.aload_n 0, 1) := by decide +kernel
theorem dL_law_1004 : decode cL_law 1004 = .ok (.iload_n 3, 1) := by decide +kernel
theorem dL_law_1005 : decode cL_law 1005 = .ok (.iconst 1, 1) := by decide +kernel
theorem dL_law_1006 : decode cL_law 1006 = .ok (.iadd, 1) := by decide +kernel
theorem dL_law_1007 : decode cL_law 1007 = .ok (.iaload, 1) := by decide +kernel
theorem dL_law_1008 : decode cL_law 1008 = .ok (.aload_n 0, 1) := by decide +kernel
theorem dL_law_1009 : decode cL_law 1009 = .ok (.iload_n 3, 1) := by decide +kernel
theorem dL_law_1010 : decode cL_law 1010 = .ok (.iconst 2, 1) := by decide +kernel
theorem dL_law_1011 : decode cL_law 1011 = .ok (.iadd, 1) := by decide +kernel
theorem dL_law_1012 : decode cL_law 1012 = .ok (.iaload, 1) := by decide +kernel
theorem dL_law_1013 : decode cL_law 1013 = .ok (.aload_n 0, 1) := by decide +kernel
theorem dL_law_1014 : decode cL_law 1014 = .ok (.iload_n 3, 1) := by decide +kernel
theorem dL_law_1015 : decode cL_law 1015 = .ok (.iconst 3, 1) := by decide +kernel
theorem dL_law_1016 : decode cL_law 1016 = .ok (.iadd, 1) := by decide +kernel
theorem dL_law_1017 : decode cL_law 1017 = .ok (.iaload, 1) := by decide +kernel
theorem dL_law_1018 : decode cL_law 1018 = .ok (.invokevirtual 136, 3) := by decide +kernel
theorem dL_law_1021 : decode cL_law 1021 = .ok (.if_icmp .eq 266, 3) := by decide +kernel
theorem dL_law_1024 : decode cL_law 1024 = .ok (.iconst 0, 1) := by decide +kernel
theorem dL_law_1025 : decode cL_law 1025 = .ok (.ireturn, 1) := by decide +kernel
theorem dL_law_1026 : decode cL_law 1026 = .ok (.aload_n 1, 1) := by decide +kernel
theorem dL_law_1027 : decode cL_law 1027 = .ok (.aload_n 0, 1) := by decide +kernel
theorem dL_law_1028 : decode cL_law 1028 = .ok (.iload_n 3, 1) := by decide +kernel
theorem dL_law_1029 : decode cL_law 1029 = .ok (.iconst 1, 1) := by decide +kernel
theorem dL_law_1030 : decode cL_law 1030 = .ok (.iadd, 1) := by decide +kernel
theorem dL_law_1031 : decode cL_law 1031 = .ok (.iaload, 1) := by decide +kernel
theorem dL_law_1032 : decode cL_law 1032 = .ok (.invokevirtual 137, 3) := by decide +kernel
theorem dL_law_1035 : decode cL_law 1035 = .ok (.aload_n 2, 1) := by decide +kernel
theorem dL_law_1036 : decode cL_law 1036 = .ok (.aload_n 0, 1) := by decide +kernel
theorem dL_law_1037 : decode cL_law 1037 = .ok (.iload_n 3, 1) := by decide +kernel
theorem dL_law_1038 : decode cL_law 1038 = .ok (.iconst 1, 1) := by decide +kernel
theorem dL_law_1039 : decode cL_law 1039 = .ok (.iadd, 1) := by decide +kernel
theorem dL_law_1040 : decode cL_law 1040 = .ok (.iaload, 1) := by decide +kernel
theorem dL_law_1041 : decode cL_law 1041 = .ok (.invokevirtual 140, 3) := by decide +kernel
theorem dL_law_1044 : decode cL_law 1044 = .ok (.if_icmp .eq 243, 3) := by decide +kernel
theorem dL_law_1047 : decode cL_law 1047 = .ok (.iconst 0, 1) := by decide +kernel
theorem dL_law_1048 : decode cL_law 1048 = .ok (.ireturn, 1) := by decide +kernel
theorem dL_law_1049 : decode cL_law 1049 = .ok (.aload_n 1, 1) := by decide +kernel
theorem dL_law_1050 : decode cL_law 1050 = .ok (.aload_n 0, 1) := by decide +kernel
theorem dL_law_1051 : decode cL_law 1051 = .ok (.iload_n 3, 1) := by decide +kernel
theorem dL_law_1052 : decode cL_law 1052 = .ok (.iconst 1, 1) := by decide +kernel
theorem dL_law_1053 : decode cL_law 1053 = .ok (.iadd, 1) := by decide +kernel
theorem dL_law_1054 : decode cL_law 1054 = .ok (.iaload, 1) := by decide +kernel
theorem dL_law_1055 : decode cL_law 1055 = .ok (.aload_n 0, 1) := by decide +kernel
theorem dL_law_1056 : decode cL_law 1056 = .ok (.iload_n 3, 1) := by decide +kernel
theorem dL_law_1057 : decode cL_law 1057 = .ok (.iconst 2, 1) := by decide +kernel
theorem dL_law_1058 : decode cL_law 1058 = .ok (.iadd, 1) := by decide +kernel
theorem dL_law_1059 : decode cL_law 1059 = .ok (.iaload, 1) := by decide +kernel
theorem dL_law_1060 : decode cL_law 1060 = .ok (.invokevirtual 141, 3) := by decide +kernel
theorem dL_law_1063 : decode cL_law 1063 = .ok (.aload_n 2, 1) := by decide +kernel
theorem dL_law_1064 : decode cL_law 1064 = .ok (.aload_n 0, 1) := by decide +kernel
theorem dL_law_1065 : decode cL_law 1065 = .ok (.iload_n 3, 1) := by decide +kernel
theorem dL_law_1066 : decode cL_law 1066 = .ok (.iconst 1, 1) := by decide +kernel
theorem dL_law_1067 : decode cL_law 1067 = .ok (.iadd, 1) := by decide +kernel
theorem dL_law_1068 : decode cL_law 1068 = .ok (.iaload, 1) := by decide +kernel
theorem dL_law_1069 : decode cL_law 1069 = .ok (.aload_n 0, 1) := by decide +kernel
theorem dL_law_1070 : decode cL_law 1070 = .ok (.iload_n 3, 1) := by decide +kernel
theorem dL_law_1071 : decode cL_law 1071 = .ok (.iconst 2, 1) := by decide +kernel
theorem dL_law_1072 : decode cL_law 1072 = .ok (.iadd, 1) := by decide +kernel
theorem dL_law_1073 : decode cL_law 1073 = .ok (.iaload, 1) := by decide +kernel
theorem dL_law_1074 : decode cL_law 1074 = .ok (.invokevirtual 144, 3) := by decide +kernel
theorem dL_law_1077 : decode cL_law 1077 = .ok (.if_icmp .eq 210, 3) := by decide +kernel
theorem dL_law_1080 : decode cL_law 1080 = .ok (.iconst 0, 1) := by decide +kernel
theorem dL_law_1081 : decode cL_law 1081 = .ok (.ireturn, 1) := by decide +kernel
theorem dL_law_1082 : decode cL_law 1082 = .ok (.aload_n 1, 1) := by decide +kernel
theorem dL_law_1083 : decode cL_law 1083 = .ok (.aload_n 0, 1) := by decide +kernel
theorem dL_law_1084 : decode cL_law 1084 = .ok (.iload_n 3, 1) := by decide +kernel
theorem dL_law_1085 : decode cL_law 1085 = .ok (.iconst 1, 1) := by decide +kernel
theorem dL_law_1086 : decode cL_law 1086 = .ok (.iadd, 1) := by decide +kernel
theorem dL_law_1087 : decode cL_law 1087 = .ok (.iaload, 1) := by decide +kernel
theorem dL_law_1088 : decode cL_law 1088 = .ok (.invokevirtual 145, 3) := by decide +kernel
theorem dL_law_1091 : decode cL_law 1091 = .ok (.aload_n 2, 1) := by decide +kernel
theorem dL_law_1092 : decode cL_law 1092 = .ok (.aload_n 0, 1) := by decide +kernel
theorem dL_law_1093 : decode cL_law 1093 = .ok (.iload_n 3, 1) := by decide +kernel
theorem dL_law_1094 : decode cL_law 1094 = .ok (.iconst 1, 1) := by decide +kernel
theorem dL_law_1095 : decode cL_law 1095 = .ok (.iadd, 1) := by decide +kernel
theorem dL_law_1096 : decode cL_law 1096 = .ok (.iaload, 1) := by decide +kernel
theorem dL_law_1097 : decode cL_law 1097 = .ok (.invokevirtual 148, 3) := by decide +kernel
theorem dL_law_1100 : decode cL_law 1100 = .ok (.if_icmp .eq 187, 3) := by decide +kernel
theorem dL_law_1103 : decode cL_law 1103 = .ok (.iconst 0, 1) := by decide +kernel
theorem dL_law_1104 : decode cL_law 1104 = .ok (.ireturn, 1) := by decide +kernel
theorem dL_law_1105 : decode cL_law 1105 = .ok (.aload_n 1, 1) := by decide +kernel
theorem dL_law_1106 : decode cL_law 1106 = .ok (.aload_n 0, 1) := by decide +kernel
theorem dL_law_1107 : decode cL_law 1107 = .ok (.iload_n 3, 1) := by decide +kernel
theorem dL_law_1108 : decode cL_law 1108 = .ok (.iconst 1, 1) := by decide +kernel
theorem dL_law_1109 : decode cL_law 1109 = .ok (.iadd, 1) := by decide +kernel
theorem dL_law_1110 : decode cL_law 1110 = .ok (.iaload, 1) := by decide +kernel
theorem dL_law_1111 : decode cL_law 1111 = .ok (.aload_n 0, 1) := by decide +kernel
theorem dL_law_1112 : decode cL_law 1112 = .ok (.iload_n 3, 1) := by decide +kernel
theorem dL_law_1113 : decode cL_law 1113 = .ok (.iconst 2, 1) := by decide +kernel
theorem dL_law_1114 : decode cL_law 1114 = .ok (.iadd, 1) := by decide +kernel
theorem dL_law_1115 : decode cL_law 1115 = .ok (.iaload, 1) := by decide +kernel
theorem dL_law_1116 : decode cL_law 1116 = .ok (.aload_n 0, 1) := by decide +kernel
theorem dL_law_1117 : decode cL_law 1117 = .ok (.iload_n 3, 1) := by decide +kernel
theorem dL_law_1118 : decode cL_law 1118 = .ok (.iconst 3, 1) := by decide +kernel
theorem dL_law_1119 : decode cL_law 1119 = .ok (.iadd, 1) := by decide +kernel
theorem dL_law_1120 : decode cL_law 1120 = .ok (.iaload, 1) := by decide +kernel
theorem dL_law_1121 : decode cL_law 1121 = .ok (.invokevirtual 149, 3) := by decide +kernel
theorem dL_law_1124 : decode cL_law 1124 = .ok (.aload_n 2, 1) := by decide +kernel
theorem dL_law_1125 : decode cL_law 1125 = .ok (.aload_n 0, 1) := by decide +kernel
theorem dL_law_1126 : decode cL_law 1126 = .ok (.iload_n 3, 1) := by decide +kernel
theorem dL_law_1127 : decode cL_law 1127 = .ok (.iconst 1, 1) := by decide +kernel
theorem dL_law_1128 : decode cL_law 1128 = .ok (.iadd, 1) := by decide +kernel
theorem dL_law_1129 : decode cL_law 1129 = .ok (.iaload, 1) := by decide +kernel
theorem dL_law_1130 : decode cL_law 1130 = .ok (.aload_n 0, 1) := by decide +kernel
theorem dL_law_1131 : decode cL_law 1131 = .ok (.iload_n 3, 1) := by decide +kernel
theorem dL_law_1132 : decode cL_law 1132 = .ok (.iconst 2, 1) := by decide +kernel
theorem dL_law_1133 : decode cL_law 1133 = .ok (.iadd, 1) := by decide +kernel
theorem dL_law_1134 : decode cL_law 1134 = .ok (.iaload, 1) := by decide +kernel
theorem dL_law_1135 : decode cL_law 1135 = .ok (.aload_n 0, 1) := by decide +kernel
theorem dL_law_1136 : decode cL_law 1136 = .ok (.iload_n 3, 1) := by decide +kernel
theorem dL_law_1137 : decode cL_law 1137 = .ok (.iconst 3, 1) := by decide +kernel
theorem dL_law_1138 : decode cL_law 1138 = .ok (.iadd, 1) := by decide +kernel
theorem dL_law_1139 : decode cL_law 1139 = .ok (.iaload, 1) := by decide +kernel
theorem dL_law_1140 : decode cL_law 1140 = .ok (.invokevirtual 152, 3) := by decide +kernel
theorem dL_law_1143 : decode cL_law 1143 = .ok (.if_icmp .eq 144, 3) := by decide +kernel
theorem dL_law_1146 : decode cL_law 1146 = .ok (.iconst 0, 1) := by decide +kernel
theorem dL_law_1147 : decode cL_law 1147 = .ok (.ireturn, 1) := by decide +kernel
theorem dL_law_1148 : decode cL_law 1148 = .ok (.aload_n 1, 1) := by decide +kernel
theorem dL_law_1149 : decode cL_law 1149 = .ok (.aload_n 0, 1) := by decide +kernel
theorem dL_law_1150 : decode cL_law 1150 = .ok (.iload_n 3, 1) := by decide +kernel
theorem dL_law_1151 : decode cL_law 1151 = .ok (.iconst 1, 1) := by decide +kernel
theorem dL_law_1152 : decode cL_law 1152 = .ok (.iadd, 1) := by decide +kernel
theorem dL_law_1153 : decode cL_law 1153 = .ok (.iaload, 1) := by decide +kernel
theorem dL_law_1154 : decode cL_law 1154 = .ok (.aload_n 0, 1) := by decide +kernel
theorem dL_law_1155 : decode cL_law 1155 = .ok (.iload_n 3, 1) := by decide +kernel
theorem dL_law_1156 : decode cL_law 1156 = .ok (.iconst 2, 1) := by decide +kernel
theorem dL_law_1157 : decode cL_law 1157 = .ok (.iadd, 1) := by decide +kernel
theorem dL_law_1158 : decode cL_law 1158 = .ok (.iaload, 1) := by decide +kernel
theorem dL_law_1159 : decode cL_law 1159 = .ok (.aload_n 0, 1) := by decide +kernel
theorem dL_law_1160 : decode cL_law 1160 = .ok (.iload_n 3, 1) := by decide +kernel
theorem dL_law_1161 : decode cL_law 1161 = .ok (.iconst 3, 1) := by decide +kernel
theorem dL_law_1162 : decode cL_law 1162 = .ok (.iadd, 1) := by decide +kernel
theorem dL_law_1163 : decode cL_law 1163 = .ok (.iaload, 1) := by decide +kernel
theorem dL_law_1164 : decode cL_law 1164 = .ok (.invokevirtual 153, 3) := by decide +kernel
theorem dL_law_1167 : decode cL_law 1167 = .ok (.aload_n 2, 1) := by decide +kernel
theorem dL_law_1168 : decode cL_law 1168 = .ok (.aload_n 0, 1) := by decide +kernel
theorem dL_law_1169 : decode cL_law 1169 = .ok (.iload_n 3, 1) := by decide +kernel
theorem dL_law_1170 : decode cL_law 1170 = .ok (.iconst 1, 1) := by decide +kernel
theorem dL_law_1171 : decode cL_law 1171 = .ok (.iadd, 1) := by decide +kernel
theorem dL_law_1172 : decode cL_law 1172 = .ok (.iaload, 1) := by decide +kernel
theorem dL_law_1173 : decode cL_law 1173 = .ok (.aload_n 0, 1) := by decide +kernel
theorem dL_law_1174 : decode cL_law 1174 = .ok (.iload_n 3, 1) := by decide +kernel
theorem dL_law_1175 : decode cL_law 1175 = .ok (.iconst 2, 1) := by decide +kernel
theorem dL_law_1176 : decode cL_law 1176 = .ok (.iadd, 1) := by decide +kernel
theorem dL_law_1177 : decode cL_law 1177 = .ok (.iaload, 1) := by decide +kernel
theorem dL_law_1178 : decode cL_law 1178 = .ok (.aload_n 0, 1) := by decide +kernel
theorem dL_law_1179 : decode cL_law 1179 = .ok (.iload_n 3, 1) := by decide +kernel
theorem dL_law_1180 : decode cL_law 1180 = .ok (.iconst 3, 1) := by decide +kernel
theorem dL_law_1181 : decode cL_law 1181 = .ok (.iadd, 1) := by decide +kernel
theorem dL_law_1182 : decode cL_law 1182 = .ok (.iaload, 1) := by decide +kernel
theorem dL_law_1183 : decode cL_law 1183 = .ok (.invokevirtual 156, 3) := by decide +kernel
theorem dL_law_1186 : decode cL_law 1186 = .ok (.if_icmp .eq 101, 3) := by decide +kernel
theorem dL_law_1189 : decode cL_law 1189 = .ok (.iconst 0, 1) := by decide +kernel
theorem dL_law_1190 : decode cL_law 1190 = .ok (.ireturn, 1) := by decide +kernel
theorem dL_law_1191 : decode cL_law 1191 = .ok (.aload_n 1, 1) := by decide +kernel
theorem dL_law_1192 : decode cL_law 1192 = .ok (.aload_n 0, 1) := by decide +kernel
theorem dL_law_1193 : decode cL_law 1193 = .ok (.iload_n 3, 1) := by decide +kernel
theorem dL_law_1194 : decode cL_law 1194 = .ok (.iconst 1, 1) := by decide +kernel
theorem dL_law_1195 : decode cL_law 1195 = .ok (.iadd, 1) := by decide +kernel
theorem dL_law_1196 : decode cL_law 1196 = .ok (.iaload, 1) := by decide +kernel
theorem dL_law_1197 : decode cL_law 1197 = .ok (.aload_n 0, 1) := by decide +kernel
theorem dL_law_1198 : decode cL_law 1198 = .ok (.iload_n 3, 1) := by decide +kernel
theorem dL_law_1199 : decode cL_law 1199 = .ok (.iconst 2, 1) := by decide +kernel
theorem dL_law_1200 : decode cL_law 1200 = .ok (.iadd, 1) := by decide +kernel
theorem dL_law_1201 : decode cL_law 1201 = .ok (.iaload, 1) := by decide +kernel
theorem dL_law_1202 : decode cL_law 1202 = .ok (.invokevirtual 157, 3) := by decide +kernel
theorem dL_law_1205 : decode cL_law 1205 = .ok (.aload_n 2, 1) := by decide +kernel
theorem dL_law_1206 : decode cL_law 1206 = .ok (.aload_n 0, 1) := by decide +kernel
theorem dL_law_1207 : decode cL_law 1207 = .ok (.iload_n 3, 1) := by decide +kernel
theorem dL_law_1208 : decode cL_law 1208 = .ok (.iconst 1, 1) := by decide +kernel
theorem dL_law_1209 : decode cL_law 1209 = .ok (.iadd, 1) := by decide +kernel
theorem dL_law_1210 : decode cL_law 1210 = .ok (.iaload, 1) := by decide +kernel
theorem dL_law_1211 : decode cL_law 1211 = .ok (.aload_n 0, 1) := by decide +kernel
theorem dL_law_1212 : decode cL_law 1212 = .ok (.iload_n 3, 1) := by decide +kernel
theorem dL_law_1213 : decode cL_law 1213 = .ok (.iconst 2, 1) := by decide +kernel
theorem dL_law_1214 : decode cL_law 1214 = .ok (.iadd, 1) := by decide +kernel
theorem dL_law_1215 : decode cL_law 1215 = .ok (.iaload, 1) := by decide +kernel
theorem dL_law_1216 : decode cL_law 1216 = .ok (.invokevirtual 160, 3) := by decide +kernel
theorem dL_law_1219 : decode cL_law 1219 = .ok (.if_icmp .eq 68, 3) := by decide +kernel
theorem dL_law_1222 : decode cL_law 1222 = .ok (.iconst 0, 1) := by decide +kernel
theorem dL_law_1223 : decode cL_law 1223 = .ok (.ireturn, 1) := by decide +kernel
theorem dL_law_1224 : decode cL_law 1224 = .ok (.aload_n 1, 1) := by decide +kernel
theorem dL_law_1225 : decode cL_law 1225 = .ok (.aload_n 0, 1) := by decide +kernel
theorem dL_law_1226 : decode cL_law 1226 = .ok (.iload_n 3, 1) := by decide +kernel
theorem dL_law_1227 : decode cL_law 1227 = .ok (.iconst 1, 1) := by decide +kernel
theorem dL_law_1228 : decode cL_law 1228 = .ok (.iadd, 1) := by decide +kernel
theorem dL_law_1229 : decode cL_law 1229 = .ok (.iaload, 1) := by decide +kernel
theorem dL_law_1230 : decode cL_law 1230 = .ok (.aload_n 0, 1) := by decide +kernel
theorem dL_law_1231 : decode cL_law 1231 = .ok (.iload_n 3, 1) := by decide +kernel
theorem dL_law_1232 : decode cL_law 1232 = .ok (.iconst 2, 1) := by decide +kernel
theorem dL_law_1233 : decode cL_law 1233 = .ok (.iadd, 1) := by decide +kernel
theorem dL_law_1234 : decode cL_law 1234 = .ok (.iaload, 1) := by decide +kernel
theorem dL_law_1235 : decode cL_law 1235 = .ok (.aload_n 0, 1) := by decide +kernel
theorem dL_law_1236 : decode cL_law 1236 = .ok (.iload_n 3, 1) := by decide +kernel
theorem dL_law_1237 : decode cL_law 1237 = .ok (.iconst 3, 1) := by decide +kernel
theorem dL_law_1238 : decode cL_law 1238 = .ok (.iadd, 1) := by decide +kernel
theorem dL_law_1239 : decode cL_law 1239 = .ok (.iaload, 1) := by decide +kernel
theorem dL_law_1240 : decode cL_law 1240 = .ok (.aload_n 0, 1) := by decide +kernel
theorem dL_law_1241 : decode cL_law 1241 = .ok (.iload_n 3, 1) := by decide +kernel
theorem dL_law_1242 : decode cL_law 1242 = .ok (.iconst 4, 1) := by decide +kernel
theorem dL_law_1243 : decode cL_law 1243 = .ok (.iadd, 1) := by decide +kernel
theorem dL_law_1244 : decode cL_law 1244 = .ok (.iaload, 1) := by decide +kernel
theorem dL_law_1245 : decode cL_law 1245 = .ok (.aload_n 0, 1) := by decide +kernel
theorem dL_law_1246 : decode cL_law 1246 = .ok (.iload_n 3, 1) := by decide +kernel
theorem dL_law_1247 : decode cL_law 1247 = .ok (.iconst 5, 1) := by decide +kernel
theorem dL_law_1248 : decode cL_law 1248 = .ok (.iadd, 1) := by decide +kernel
theorem dL_law_1249 : decode cL_law 1249 = .ok (.iaload, 1) := by decide +kernel
theorem dL_law_1250 : decode cL_law 1250 = .ok (.invokevirtual 161, 3) := by decide +kernel
theorem dL_law_1253 : decode cL_law 1253 = .ok (.aload_n 2, 1) := by decide +kernel
theorem dL_law_1254 : decode cL_law 1254 = .ok (.aload_n 0, 1) := by decide +kernel
theorem dL_law_1255 : decode cL_law 1255 = .ok (.iload_n 3, 1) := by decide +kernel
theorem dL_law_1256 : decode cL_law 1256 = .ok (.iconst 1, 1) := by decide +kernel
theorem dL_law_1257 : decode cL_law 1257 = .ok (.iadd, 1) := by decide +kernel
theorem dL_law_1258 : decode cL_law 1258 = .ok (.iaload, 1) := by decide +kernel
theorem dL_law_1259 : decode cL_law 1259 = .ok (.aload_n 0, 1) := by decide +kernel
theorem dL_law_1260 : decode cL_law 1260 = .ok (.iload_n 3, 1) := by decide +kernel
theorem dL_law_1261 : decode cL_law 1261 = .ok (.iconst 2, 1) := by decide +kernel
theorem dL_law_1262 : decode cL_law 1262 = .ok (.iadd, 1) := by decide +kernel
theorem dL_law_1263 : decode cL_law 1263 = .ok (.iaload, 1) := by decide +kernel
theorem dL_law_1264 : decode cL_law 1264 = .ok (.aload_n 0, 1) := by decide +kernel
theorem dL_law_1265 : decode cL_law 1265 = .ok (.iload_n 3, 1) := by decide +kernel
theorem dL_law_1266 : decode cL_law 1266 = .ok (.iconst 3, 1) := by decide +kernel
theorem dL_law_1267 : decode cL_law 1267 = .ok (.iadd, 1) := by decide +kernel
theorem dL_law_1268 : decode cL_law 1268 = .ok (.iaload, 1) := by decide +kernel
theorem dL_law_1269 : decode cL_law 1269 = .ok (.aload_n 0, 1) := by decide +kernel
theorem dL_law_1270 : decode cL_law 1270 = .ok (.iload_n 3, 1) := by decide +kernel
theorem dL_law_1271 : decode cL_law 1271 = .ok (.iconst 4, 1) := by decide +kernel
theorem dL_law_1272 : decode cL_law 1272 = .ok (.iadd, 1) := by decide +kernel
theorem dL_law_1273 : decode cL_law 1273 = .ok (.iaload, 1) := by decide +kernel
theorem dL_law_1274 : decode cL_law 1274 = .ok (.aload_n 0, 1) := by decide +kernel
theorem dL_law_1275 : decode cL_law 1275 = .ok (.iload_n 3, 1) := by decide +kernel
theorem dL_law_1276 : decode cL_law 1276 = .ok (.iconst 5, 1) := by decide +kernel
theorem dL_law_1277 : decode cL_law 1277 = .ok (.iadd, 1) := by decide +kernel
theorem dL_law_1278 : decode cL_law 1278 = .ok (.iaload, 1) := by decide +kernel
theorem dL_law_1279 : decode cL_law 1279 = .ok (.invokevirtual 165, 3) := by decide +kernel
theorem dL_law_1282 : decode cL_law 1282 = .ok (.if_icmp .eq 5, 3) := by decide +kernel
theorem dL_law_1285 : decode cL_law 1285 = .ok (.iconst 0, 1) := by decide +kernel
theorem dL_law_1286 : decode cL_law 1286 = .ok (.ireturn, 1) := by decide +kernel
theorem dL_law_1287 : decode cL_law 1287 = .ok (.iinc 3 6, 3) := by decide +kernel
theorem dL_law_1290 : decode cL_law 1290 = .ok (.goto (-1272), 3) := by decide +kernel
theorem dL_law_1293 : decode cL_law 1293 = .ok (.iconst 1, 1) := by decide +kernel
theorem dL_law_1294 : decode cL_law 1294 = .ok (.ireturn, 1) := by decide +kernel
end
section
/-! values, heaps and worlds as the proof sees them: an int is an integer (the machine holds it modulo 2^32), a reference a number of our own cells -/
abbrev AV : Type := Int ⊕ Option Nat
/-- how many cells, the kind of each (0 .. 12 a class, 13 int[], 14 boolean[], 15 Person[], 16 Steps[], 17 Tape[]), the length of each array, the references -/
abbrev TT : Type := Nat × (Nat → Nat) × (Nat → Nat) × (Nat → Nat → Option Nat)
abbrev HT : Type := Nat → Nat → Int
/-- the first cell, classes and slots, the array classes, the cells of BODIES, KIND_ABOVE and of the script -/
abbrev BT : Type := Nat × va_G × (Nat → ClassId) × (Nat → Nat)
/-- a method: bytes, class, locals, return type, name -/
abbrev MT : Type := ByteArray × String × Nat × Option FieldType × MethodName
abbrev ZT : Type := Option AV → TT → HT → Prop
def gb_ad (B : BT) (k : Nat) : Nat := if k < 1000000 then B.1 + k else B.2.2.2 (k - 1000000)
def gb_tv (B : BT) : AV → Value
  | .inl x => .int (Int32.ofInt x)
  | .inr r => va_rf (r.map (gb_ad B))
def gb_ty (ci : Nat) : Nat → FieldType := match ci with
  | 0 => tyX0
  | 1 => tyX1
  | 2 => tyX2
  | 3 => tyX3
  | 4 => tyX4
  | 5 => tyX5
  | 6 => tyX6
  | 7 => tyX7
  | 8 => tyX8
  | 9 => tyX9
  | 10 => tyX10
  | 11 => tyX11
  | _ => tyX12
def gb_nsl (ci : Nat) : Nat := match ci with
  | 0 => 2
  | 1 => 6
  | 2 => 7
  | 3 => 7
  | 4 => 5
  | 5 => 4
  | 6 => 7
  | 7 => 8
  | 8 => 9
  | 9 => 2
  | 10 => 3
  | 11 => 19
  | _ => 61
def gb_isR (t : FieldType) : Bool := match t with
  | .object _ => true
  | .array _ => true
  | _ => false
def gb_fv (B : BT) (τ : TT) (h : HT) (a i : Nat) : Value := if gb_isR (gb_ty (τ.2.1 a) i) = true then va_rf ((τ.2.2.2 a i).map (gb_ad B)) else .int (Int32.ofInt (h a i))
def gb_fl (B : BT) (τ : TT) (h : HT) (a : Nat) : List Value := (List.range (gb_nsl (τ.2.1 a))).map (gb_fv B τ h a)
def gb_ent (B : BT) (τ : TT) (h : HT) (a : Nat) : va_E :=
  if τ.2.1 a < 13 then .inr (τ.2.1 a, gb_fl B τ h a)
  else if τ.2.1 a < 15 then .inl (B.2.2.1 (τ.2.1 a), τ.2.2.1 a, .inl (fun i => Int32.ofInt (h a i)))
  else .inl (B.2.2.1 (τ.2.1 a), τ.2.2.1 a, .inr (.inr (.inr (.inr (fun i => (τ.2.2.2 a i).map (gb_ad B))))))
def gb_w (B : BT) (τ : TT) (h : HT) : va_W := (List.range τ.1).map (fun a => (gb_ad B a, gb_ent B τ h a))
def gb_A (B : BT) : Nat → Prop := fun q => B.1 ≤ q
/-- a write of an int -/
def hs_ (h : HT) (a i : Nat) (v : Int) : HT := fun b j => if b = a ∧ j = i then v else h b j
def rs_ (r : Nat → Nat → Option Nat) (a i : Nat) (v : Option Nat) : Nat → Nat → Option Nat := fun b j => if b = a ∧ j = i then v else r b j
theorem hs_eq {h : HT} {a i : Nat} {v : Int} : hs_ h a i v a i = v := if_pos ⟨rfl, rfl⟩
theorem hs_na {h : HT} {a i b j : Nat} {v : Int} (hb : b ≠ a) : hs_ h a i v b j = h b j := if_neg fun q => hb q.1
theorem hs_ni {h : HT} {a i b j : Nat} {v : Int} (hb : j ≠ i) : hs_ h a i v b j = h b j := if_neg fun q => hb q.2
theorem gb_w_get {B : BT} {τ : TT} {h : HT} {a : Nat} (ha : a < τ.1) : (gb_w B τ h)[a]? = some (gb_ad B a, gb_ent B τ h a) := by
  simp [gb_w, ha]
theorem gb_w_set {B : BT} {τ τ' : TT} {h h' : HT} {a : Nat} {e : va_E} (ha : a < τ.1) (h1 : τ'.1 = τ.1) (he : gb_ent B τ' h' a = e) (ho : ∀ b, b ≠ a → gb_ent B τ' h' b = gb_ent B τ h b) : (gb_w B τ h).set a (gb_ad B a, e) = gb_w B τ' h' := by
  apply List.ext_getElem?
  intro i
  rw [List.getElem?_set]
  unfold gb_w
  rw [h1]
  by_cases hi : a = i
  · subst hi
    simp [ha, he]
  · rw [if_neg hi]
    simp only [List.getElem?_map]
    by_cases hl : i < τ.1
    · simp [hl, ho i (Ne.symm hi)]
    · simp [hl]
theorem gb_w_push {B : BT} {τ τ' : TT} {h h' : HT} {e : va_E} (h1 : τ'.1 = τ.1 + 1) (he : gb_ent B τ' h' τ.1 = e) (ho : ∀ b, b < τ.1 → gb_ent B τ' h' b = gb_ent B τ h b) : gb_w B τ h ++ [(gb_ad B τ.1, e)] = gb_w B τ' h' := by
  unfold gb_w
  rw [h1, List.range_succ, List.map_append]
  simp only [List.map_cons, List.map_nil, he]
  congr 1
  apply List.map_congr_left
  intro b hb
  rw [ho b (List.mem_range.mp hb)]
/-- an int field, read and written -/
theorem gb_fl_get {B : BT} {τ : TT} {h : HT} {a i : Nat} (hi : i < gb_nsl (τ.2.1 a)) : (gb_fl B τ h a)[i]? = some (gb_fv B τ h a i) := by
  simp [gb_fl, hi]
theorem gb_ent_o {B : BT} {τ : TT} {h : HT} {a ci : Nat} (hk : τ.2.1 a = ci) (hc : ci < 13) : gb_ent B τ h a = .inr (ci, gb_fl B τ h a) := by
  unfold gb_ent
  rw [hk, if_pos hc]
theorem gb_ent_i {B : BT} {τ : TT} {h : HT} {a ci : Nat} (hk : τ.2.1 a = ci) (hc : ¬ ci < 13) (hd : ci < 15) : gb_ent B τ h a = .inl (B.2.2.1 ci, τ.2.2.1 a, .inl (fun i => Int32.ofInt (h a i))) := by
  unfold gb_ent
  rw [hk, if_neg hc, if_pos hd]
theorem gb_ent_r {B : BT} {τ : TT} {h : HT} {a ci : Nat} (hk : τ.2.1 a = ci) (hd : ¬ ci < 15) : gb_ent B τ h a = .inl (B.2.2.1 ci, τ.2.2.1 a, .inr (.inr (.inr (.inr (fun i => (τ.2.2.2 a i).map (gb_ad B)))))) := by
  unfold gb_ent
  rw [hk, if_neg (by omega), if_neg hd]
theorem gb_ent_ne {B : BT} {τ : TT} {h h' : HT} {b : Nat} (hh : ∀ i, h' b i = h b i) : gb_ent B τ h' b = gb_ent B τ h b := by
  unfold gb_ent gb_fl
  have e1 : gb_fv B τ h' b = gb_fv B τ h b := by
    funext i
    unfold gb_fv
    rw [hh i]
  rw [e1]
  simp only [hh]
theorem gb_fl_set {B : BT} {τ : TT} {h : HT} {a i : Nat} {v : Int} (hr : gb_isR (gb_ty (τ.2.1 a) i) = false) : (gb_fl B τ h a).set i (.int (Int32.ofInt v)) = gb_fl B τ (hs_ h a i v) a := by
  apply List.ext_getElem?
  intro j
  rw [List.getElem?_set]
  by_cases hj : i = j
  · subst hj
    by_cases hl : i < gb_nsl (τ.2.1 a)
    · simp [gb_fl, hl, gb_fv, hr, hs_]
    · simp [gb_fl, hl]
  · rw [if_neg hj]
    by_cases hl : j < gb_nsl (τ.2.1 a)
    · simp [gb_fl, hl, gb_fv, hs_, Ne.symm hj]
    · simp [gb_fl, hl]
/-- the words that go with every method: those of the tables that keep -/
def gb_LW : List Cond := lw_tbl.filter goodWord
def gb_NM : List (String × Nat × MethodName × String) := [("MaypoleGreen", 21, ⟨"MaypoleGreen$Acts", "<init>", "()V"⟩, "MaypoleGreen"), ("MaypoleGreen", 35, ⟨"MaypoleGreen$Floor", "<init>", "()V"⟩, "MaypoleGreen"), ("MaypoleGreen", 55, ⟨"MaypoleGreen$Cloth", "<init>", "()V"⟩, "MaypoleGreen"), ("MaypoleGreen", 62, ⟨"MaypoleGreen$Picture", "<init>", "()V"⟩, "MaypoleGreen"), ("MaypoleGreen", 78, ⟨"MaypoleGreen$Reader", "<init>", "()V"⟩, "MaypoleGreen"), ("MaypoleGreen", 85, ⟨"MaypoleGreen$Form", "<init>", "()V"⟩, "MaypoleGreen"), ("MaypoleGreen", 95, ⟨"MaypoleGreen$Orders", "<init>", "()V"⟩, "MaypoleGreen"), ("MaypoleGreen", 102, ⟨"MaypoleGreen$Seating", "<init>", "()V"⟩, "MaypoleGreen"), ("MaypoleGreen", 113, ⟨"MaypoleGreen$Tape", "<init>", "()V"⟩, "MaypoleGreen"), ("MaypoleGreen$Floor", 63, ⟨"MaypoleGreen", "behind", "(II)I"⟩, "MaypoleGreen"), ("MaypoleGreen$Cloth", 54, ⟨"MaypoleGreen", "ahead", "(II)I"⟩, "MaypoleGreen"), ("MaypoleGreen$Cloth", 57, ⟨"MaypoleGreen", "behind", "(II)I"⟩, "MaypoleGreen"), ("MaypoleGreen$Form", 63, ⟨"MaypoleGreen", "behind", "(II)I"⟩, "MaypoleGreen"), ("MaypoleGreen$Form", 66, ⟨"MaypoleGreen", "ahead", "(II)I"⟩, "MaypoleGreen"), ("MaypoleGreen$Orders", 54, ⟨"MaypoleGreen", "behind", "(II)I"⟩, "MaypoleGreen"), ("MaypoleGreen$Seating", 101, ⟨"MaypoleGreen", "behind", "(II)I"⟩, "MaypoleGreen")]
def gb_NF : List (String × Nat × String × String × String × String) := [("MaypoleGreen$Acts", 19, "MaypoleGreen", "BODIES", "[I", "MaypoleGreen"), ("MaypoleGreen$Acts", 22, "MaypoleGreen", "KIND_ABOVE", "[I", "MaypoleGreen"), ("MaypoleGreen$Person", 24, "MaypoleGreen", "KIND_ABOVE", "[I", "MaypoleGreen")]
def gb_AO : List String := ["MaypoleGreen$Person", "MaypoleGreen$Steps", "MaypoleGreen$Tape"]
def gb_tys (B : BT) : List (ClassId × FieldType) := [(B.2.2.1 13, .int), (B.2.2.1 14, .boolean), (B.2.2.1 15, .object "MaypoleGreen$Person"), (B.2.2.1 16, .object "MaypoleGreen$Steps"), (B.2.2.1 17, .object "MaypoleGreen$Tape")]
def gb_BO : List Int := [10, 11, 12, 20, 0, 0, 0, 30, 0, 40, 41, 0, 0, 0, 50]
def gb_KA : List Int := [-1, 0, 0, 2, 0]
def gb_st (B : BT) (C n : String) (k L : Nat) (xs : List Int) (U : State) (H : Heap) : Prop := va_Z C n "[I" (.ref (B.2.2.2 k)) (gb_A B) U H ∧ va_X (B.2.2.2 k) L (fun j => Int32.ofInt (xs.getD j 0)) U H ∧ B.2.2.2 k < B.1
/-- what holds of the tables and statics at a state -/
def gb_SF (B : BT) (U : State) (H : Heap) : Prop := va_K B.2.1 vwCl (gb_tys B) U ∧ (∀ q ∈ gb_NM, va_Nw (.methodLinkNest q.1 q.2.1 q.2.2.1 q.2.2.2) U) ∧ (∀ q ∈ gb_NF, va_Nw (.fieldLinkNest q.1 q.2.1 q.2.2.1 q.2.2.2.1 q.2.2.2.2.1 q.2.2.2.2.2) U) ∧ (∀ C ∈ gb_AO, va_AO C U) ∧ gb_st B "MaypoleGreen" "BODIES" 0 15 gb_BO U H ∧ gb_st B "MaypoleGreen" "KIND_ABOVE" 1 5 gb_KA U H
theorem gb_st.moved {B : BT} {C n : String} {k L : Nat} {xs : List Int} {s U : State} {H : Heap} (hvm : s.vm.Alike U.vm) (h : gb_st B C n k L xs s H) : gb_st B C n k L xs U H := ⟨va_Z.moved hvm h.1, va_X.moved hvm h.2.1, h.2.2⟩
theorem gb_st.kept {B : BT} {C n : String} {k L : Nat} {xs : List Int} {U : State} {H H1 : Heap} (hb : B.1 ≤ H.size) (h : gb_st B C n k L xs U H) (hq : ∀ a : Nat, a < H.size → ¬ gb_A B a → H1[a]? = H[a]?) : gb_st B C n k L xs U H1 := ⟨va_Z.kept h.1 hq, va_X.kept h.2.1 (hq _ (Nat.lt_of_lt_of_le h.2.2 hb) (Nat.not_le.mpr h.2.2)), h.2.2⟩
theorem gb_SF.moved {B : BT} {s U : State} {H H1 : Heap} (hW : s.WarmedH U.vm) (hb : B.1 ≤ H.size) (hq : ∀ a : Nat, a < H.size → ¬ gb_A B a → H1[a]? = H[a]?) (h : gb_SF B s H) : gb_SF B U H1 :=
  ⟨va_K.moved hW.alike h.1, fun q hm => va_Nw.warmM hW (h.2.1 q hm), fun q hm => va_Nw.warmF hW (h.2.2.1 q hm), fun C hm => va_AO.moved hW.alike (h.2.2.2.1 C hm), (h.2.2.2.2.1.moved hW.alike).kept hb hq, (h.2.2.2.2.2.moved hW.alike).kept hb hq⟩
theorem gb_SF.calling {B : BT} {U : State} {H : Heap} {g : JFrame} {mk : MethodId} {a : Array Value} (h : gb_SF B U H) : gb_SF B (U.calling g mk a) H :=
  have e : U.vm = (U.calling g mk a).vm := rfl
  have al : U.vm.Alike (U.calling g mk a).vm := Vm.Alike.refl U.vm
  ⟨va_K.moved al h.1, fun q hm => va_Nw.same rfl e (h.2.1 q hm), fun q hm => va_Nw.same rfl e (h.2.2.1 q hm), fun C hm => va_AO.moved al (h.2.2.2.1 C hm), h.2.2.2.2.1.moved al, h.2.2.2.2.2.moved al⟩
/-- the heap holds the picture -/
def gb_RU (B : BT) (τ : TT) (h : HT) (H : Heap) : Prop := va_P B.2.1 vwCl (gb_w B τ h) H ∧ va_D (gb_A B) (gb_w B τ h) ∧ H.size = B.1 + τ.1 ∧ τ.1 < 1000000
def gb_rm (d bc bs : Nat) : Room := { frames := d, cells := bc, slots := bs, locals := 60 * d }
/-- a method's place: machine, code, words, room -/
def gb_CX (M : MT) (d : Nat) (B : BT) (p : Program) (R : Room) (s : State) (m : MethodId) (args : Array Value) (meth : Method) (c : Code) : Prop :=
  p.tables.exec = Jvm.exec ∧ c.code = M.1 ∧ c.maxLocals = M.2.2.1 ∧ s.vm.findClass M.2.1 = some m.cls ∧ (∀ w ∈ gb_LW, w.before args s = true) ∧ d ≤ R.frames ∧ 60 * d ≤ R.locals ∧ gb_SF B s s.heap ∧ B.1 ≤ s.heap.size ∧ meth.name = M.2.2.2.2.name
def gb_RP (B : BT) (τ : TT) (h : HT) (s : State) (H : Heap) (locs : List Loc) : Prop := gb_RU B τ h H ∧ va_S (gb_A B) s.heap H locs
def gb_LR (B : BT) (nL : Nat) (ls : List (Option AV)) (la : Array Slot) : Prop := lv_has la nL [] ∧ ∀ (i : Nat) (v : AV), ls[i]? = some (some v) → la[i]? = some (.val (gb_tv B v))
/-- the end of a method: the instruction, the answer -/
def gb_rt (M : MT) (pc : Nat) (r : Option AV) : Prop := match M.2.2.2.1 with
  | none => decode M.1 pc = .ok (.return_, 1) ∧ r = none
  | some ty => if gb_isR ty = true then decode M.1 pc = .ok (.areturn, 1) ∧ ∃ x, r = some (.inr x) else decode M.1 pc = .ok (.ireturn, 1) ∧ ∃ x : Int, r = some (.inl x) ∧ narrow ty (.int (Int32.ofInt x)) = .int (Int32.ofInt x)
def gb_End (M : MT) (B : BT) (p : Program) (l : Launch) (e : Env) (R : Room) (s : State) (m : MethodId) (args : Array Value) (below : List Frame) (meth : Method) (c : Code) (cm sm : Nat) (Z : ZT) (Q : State → Prop) : Prop :=
  ∀ (r : Option AV) (τ : TT) (h : HT) (H : Heap) (locs : List Loc) (cells slots pc : Nat) (la : Array Slot), Z r τ h → gb_RP B τ h s H locs → cells ≤ cm → slots ≤ sm → gb_rt M pc r → W p l e R s m args below meth c H locs cells slots Q (F0 m pc la ((r.map (gb_tv B)).toList))
/-- from pc on, with these locals, this stack, this heap, the method comes to its end, and Z holds there; bc cells of bs slots may come -/
def G_ (M : MT) (d bc bs pc : Nat) (ls : List (Option AV)) (st : List AV) (τ : TT) (h : HT) (Z : ZT) : Prop :=
  ∀ (B : BT) (p : Program) (l : Launch) (e : Env) (R : Room) (s : State) (m : MethodId) (args : Array Value) (below : List Frame) (meth : Method) (c : Code) (H : Heap) (locs : List Loc) (cells slots cm sm : Nat) (la : Array Slot) (Q : State → Prop),
    gb_CX M d B p R s m args meth c → gb_RP B τ h s H locs → cells + bc ≤ cm → slots + bs ≤ sm → cm ≤ R.cells → sm ≤ R.slots → gb_LR B M.2.2.1 ls la → gb_End M B p l e R s m args below meth c cm sm Z Q →
    W p l e R s m args below meth c H locs cells slots Q (F0 m pc la (st.map (gb_tv B)))
def gb_P (B : BT) (as : List AV) (τ : TT) (h : HT) : Array Value → State → Prop := fun v U => v = (as.map (gb_tv B)).toArray ∧ gb_RU B τ h U.heap ∧ gb_SF B U U.heap ∧ B.1 ≤ U.heap.size
def gb_Q (B : BT) (Z : ZT) : Array Value → State → Outcome → State → Prop := fun _ st oc t => (∃ (r : Option AV) (τ : TT) (h : HT), oc = .returned (r.map (gb_tv B)) ∧ Z r τ h ∧ gb_RU B τ h t.heap) ∧ va_F (gb_A B) st t
def gb_ws (M : MT) : List Cond := Cond.code M.2.2.2.2 M.1 M.2.2.1 M.2.2.2.1 :: gb_LW
/-- a method's contract -/
def S_ (M : MT) (d bc bs : Nat) (as : List AV) (τ : TT) (h : HT) (Z : ZT) : Prop := ∀ (l : Launch) (B : BT), Met l M.2.2.2.2 (gb_ws M) (gb_rm d bc bs) (gb_P B as τ h) (gb_Q B Z) bc bs (gb_A B)
/-- a method that makes nothing -/
abbrev Zp (τ : TT) (z : Option AV → HT → Prop) : ZT := fun r τ' h' => τ' = τ ∧ z r h'
theorem gb_FB {B : BT} {as : List AV} {τ : TT} {h : HT} : FrameBlind (gb_P B as τ h) := fun _ _ _ _ q => ⟨q.1, q.2.1, q.2.2.1.calling, q.2.2.2⟩
end
section
/-! rows of the judgement: numbers, locals, stack, branches -/
theorem gb_cat (B : BT) (v : AV) : (gb_tv B v).category = 1 := by
  rcases v with x | (_ | a) <;> rfl
theorem gb_cats (B : BT) (st : List AV) : ((st.map (gb_tv B)).map fun v => v.category).sum = st.length := by
  induction st with
  | nil => rfl
  | cons a l ih => simp only [List.map_cons, List.sum_cons, List.length_cons, gb_cat, ih]; omega
def gb_pl (B : BT) (ls : List (Option AV)) : List (Nat × Value) := (List.range ls.length).filterMap (fun i => match ls[i]? with
  | some (some v) => some (i, gb_tv B v)
  | _ => none)
theorem gb_pl_mem {B : BT} {ls : List (Option AV)} {q : Nat × Value} : q ∈ gb_pl B ls ↔ ∃ v, ls[q.1]? = some (some v) ∧ q.2 = gb_tv B v := by
  obtain ⟨i, x⟩ := q
  unfold gb_pl
  rw [List.mem_filterMap]
  constructor
  · rintro ⟨j, hj, he⟩
    split at he
    · rename_i v hv
      cases he
      exact ⟨v, hv, rfl⟩
    · cases he
  · rintro ⟨v, hv, rfl⟩
    refine ⟨i, List.mem_range.mpr (List.getElem?_eq_some_iff.mp hv).1, ?_⟩
    dsimp only at hv ⊢
    rw [hv]
theorem gb_LR_has {B : BT} {nL : Nat} {ls : List (Option AV)} {la : Array Slot} (hL : gb_LR B nL ls la) : lv_has la nL (gb_pl B ls) := by
  refine ⟨hL.1.1, hL.1.2.1, fun q hq => ?_⟩
  obtain ⟨v, h1, h2⟩ := gb_pl_mem.mp hq
  rw [h2]
  exact hL.2 _ _ h1
theorem gb_LR_st {B : BT} {nL i : Nat} {v : AV} {ls : List (Option AV)} {la : Array Slot} (h : lv_has la nL ((i, gb_tv B v) :: (gb_pl B ls).filter (fun q => !(q.1 == i) && !(q.1 + 1 == i && q.2.category == 2)))) : gb_LR B nL (ls.set i (some v)) la := by
  refine ⟨⟨h.1, h.2.1, fun q hq => by cases hq⟩, fun j w hj => ?_⟩
  rw [List.getElem?_set] at hj
  by_cases hi : i = j
  · subst hi
    rw [if_pos rfl] at hj
    by_cases hl : i < ls.length
    · rw [if_pos hl] at hj
      cases hj
      exact h.2.2 _ List.mem_cons_self
    · rw [if_neg hl] at hj
      cases hj
  · rw [if_neg hi] at hj
    refine h.2.2 (j, gb_tv B w) (List.mem_cons_of_mem _ (List.mem_filter.mpr ⟨gb_pl_mem.mpr ⟨w, hj, rfl⟩, ?_⟩))
    simp [gb_cat, Ne.symm hi]
theorem gb_ofInt {x : Int} (h : -2147483648 ≤ x ∧ x ≤ 2147483647) : (Int32.ofInt x).toInt = x := by
  rw [Int32.toInt_ofInt]
  have e : ((Int32.size : Nat) : Int) = 4294967296 := rfl
  apply Int.bmod_eq_of_le <;> omega
theorem gb_inj {x y : Int} (hx : -2147483648 ≤ x ∧ x ≤ 2147483647) (hy : -2147483648 ≤ y ∧ y ≤ 2147483647) : Int32.ofInt x = Int32.ofInt y ↔ x = y := by
  rw [← Int32.toInt_inj, gb_ofInt hx, gb_ofInt hy]
theorem gb_lt {x y : Int} (hx : -2147483648 ≤ x ∧ x ≤ 2147483647) (hy : -2147483648 ≤ y ∧ y ≤ 2147483647) : Int32.ofInt x < Int32.ofInt y ↔ x < y := by
  rw [Int32.lt_iff_toInt_lt, gb_ofInt hx, gb_ofInt hy]
theorem gb_le {x y : Int} (hx : -2147483648 ≤ x ∧ x ≤ 2147483647) (hy : -2147483648 ≤ y ∧ y ≤ 2147483647) : Int32.ofInt x ≤ Int32.ofInt y ↔ x ≤ y := by
  rw [Int32.le_iff_toInt_le, gb_ofInt hx, gb_ofInt hy]
theorem gb_0 : (0 : Int32) = Int32.ofInt 0 := by decide
theorem gb_r0 : -2147483648 ≤ (0 : Int) ∧ (0 : Int) ≤ 2147483647 := by decide
theorem gb_nat {x : Int} {n : Nat} (h0 : 0 ≤ x) (h : x < n) (hn : n < 2147483648) : (Int32.ofInt x).toNatClampNeg = x.toNat := by
  show (Int32.ofInt x).toInt.toNat = _
  rw [gb_ofInt (by omega)]
theorem gb_in {x : Int} {n : Nat} (h0 : 0 ≤ x) (h : x < n) (hn : n < 2147483648) : vp_in (Int32.ofInt x) n := by
  unfold vp_in
  rw [gb_nat h0 h hn, gb_0, gb_lt (by omega) gb_r0]
  omega
def b_and (a b : Int) : Int := (Int32.ofInt a &&& Int32.ofInt b).toInt
def b_or (a b : Int) : Int := (Int32.ofInt a ||| Int32.ofInt b).toInt
def b_xor (a b : Int) : Int := (Int32.ofInt a ^^^ Int32.ofInt b).toInt
def b_shl (a b : Int) : Int := (Int32.ofInt a <<< (Int32.ofInt b &&& 31)).toInt
def b_shr (a b : Int) : Int := (Int32.ofInt a >>> (Int32.ofInt b &&& 31)).toInt
def b_ushr (a b : Int) : Int := ((Int32.ofInt a).toUInt32 >>> ((Int32.ofInt b).toUInt32 &&& Int32.toUInt32 31)).toInt32.toInt
def b_i2b (a : Int) : Int := (Int32.ofInt a).toInt8.toInt32.toInt
def b_i2s (a : Int) : Int := (Int32.ofInt a).toInt16.toInt32.toInt
def b_i2c (a : Int) : Int := ((Int32.ofInt a).toUInt32 % 65536).toInt32.toInt
theorem gb_div {a b : Int} (ha : -2147483648 ≤ a ∧ a ≤ 2147483647) (hb : 0 < b ∧ b ≤ 2147483647) : Int32.ofInt a / Int32.ofInt b = Int32.ofInt (a.tdiv b) := by
  rw [← Int32.toInt_inj, Int32.toInt_div, gb_ofInt ha, gb_ofInt (by omega), Int32.toInt_ofInt]
section GR
variable {M : MT} {d bc bs pc : Nat} {ls : List (Option AV)} {st : List AV} {τ : TT} {h : HT} {Z : ZT}
theorem G_step {pc' : Nat} {st' : List AV} (hk : G_ M d bc bs pc' ls st' τ h Z)
    (hw : ∀ (B : BT) (p : Program) (l : Launch) (e : Env) (R : Room) (s : State) (m : MethodId) (args : Array Value) (below : List Frame) (meth : Method) (c : Code) (H : Heap) (locs : List Loc) (cells slots : Nat) (la : Array Slot) (Q : State → Prop), p.tables.exec = Jvm.exec → c.code = M.1 → s.vm.findClass M.2.1 = some m.cls → (∀ w ∈ gb_LW, w.before args s = true) → gb_LR B M.2.2.1 ls la →
      W p l e R s m args below meth c H locs cells slots Q (F0 m pc' la (st'.map (gb_tv B))) → W p l e R s m args below meth c H locs cells slots Q (F0 m pc la (st.map (gb_tv B)))) : G_ M d bc bs pc ls st τ h Z := by
  intro B p l e R s m args below meth c H locs cells slots cm sm la Q hC hR h1 h2 h3 h4 hL hE
  exact hw B p l e R s m args below meth c H locs cells slots la Q hC.1 hC.2.1 hC.2.2.2.1 hC.2.2.2.2.1 hL (hk B p l e R s m args below meth c H locs cells slots cm sm la Q hC hR h1 h2 h3 h4 hL hE)
theorem G_br {P : Prop} {pc1 pc2 : Nat} {st' : List AV} (k1 : P → G_ M d bc bs pc1 ls st' τ h Z) (k2 : ¬ P → G_ M d bc bs pc2 ls st' τ h Z)
    (hw : ∀ (B : BT) (p : Program) (l : Launch) (e : Env) (R : Room) (s : State) (m : MethodId) (args : Array Value) (below : List Frame) (meth : Method) (c : Code) (H : Heap) (locs : List Loc) (cells slots : Nat) (la : Array Slot) (Q : State → Prop), p.tables.exec = Jvm.exec → c.code = M.1 →
      (P → W p l e R s m args below meth c H locs cells slots Q (F0 m pc1 la (st'.map (gb_tv B)))) → (¬ P → W p l e R s m args below meth c H locs cells slots Q (F0 m pc2 la (st'.map (gb_tv B)))) → W p l e R s m args below meth c H locs cells slots Q (F0 m pc la (st.map (gb_tv B)))) : G_ M d bc bs pc ls st τ h Z := by
  intro B p l e R s m args below meth c H locs cells slots cm sm la Q hC hR h1 h2 h3 h4 hL hE
  exact hw B p l e R s m args below meth c H locs cells slots la Q hC.1 hC.2.1 (fun q => k1 q B p l e R s m args below meth c H locs cells slots cm sm la Q hC hR h1 h2 h3 h4 hL hE) (fun q => k2 q B p l e R s m args below meth c H locs cells slots cm sm la Q hC hR h1 h2 h3 h4 hL hE)
theorem G_iconst {n : Int} (hd : decode M.1 pc = .ok (.iconst n, 1)) (k : G_ M d bc bs (pc + 1) ls (.inl n :: st) τ h Z) : G_ M d bc bs pc ls st τ h Z :=
  G_step k fun B p l e R s m args below meth c H locs cells slots la Q hx hb ho ht hL hw => lv_iconst hx hb hd rfl hw
theorem G_bipush {n : Int} (hd : decode M.1 pc = .ok (.bipush n, 2)) (hn : (Int8.ofInt n).toInt32 = Int32.ofInt n) (k : G_ M d bc bs (pc + 2) ls (.inl n :: st) τ h Z) : G_ M d bc bs pc ls st τ h Z :=
  G_step k fun B p l e R s m args below meth c H locs cells slots la Q hx hb ho ht hL hw => lv_bipush hx hb hd hn hw
theorem G_sipush {n : Int} (hd : decode M.1 pc = .ok (.sipush n, 3)) (hn : (Int16.ofInt n).toInt32 = Int32.ofInt n) (k : G_ M d bc bs (pc + 3) ls (.inl n :: st) τ h Z) : G_ M d bc bs pc ls st τ h Z :=
  G_step k fun B p l e R s m args below meth c H locs cells slots la Q hx hb ho ht hL hw => lv_sipush hx hb hd hn hw
theorem G_ldc {n : Int} {i : Nat} (hc : Cond.constant M.2.1 i (Int32.ofInt n) ∈ gb_LW) (hd : decode M.1 pc = .ok (.ldc i, 2)) (k : G_ M d bc bs (pc + 2) ls (.inl n :: st) τ h Z) : G_ M d bc bs pc ls st τ h Z :=
  G_step k fun B p l e R s m args below meth c H locs cells slots la Q hx hb ho ht hL hw => lv_ldc hx hb ho (ht _ hc) hd hw
theorem G_ldcw {n : Int} {i : Nat} (hc : Cond.constant M.2.1 i (Int32.ofInt n) ∈ gb_LW) (hd : decode M.1 pc = .ok (.ldc_w i, 3)) (k : G_ M d bc bs (pc + 3) ls (.inl n :: st) τ h Z) : G_ M d bc bs pc ls st τ h Z :=
  G_step k fun B p l e R s m args below meth c H locs cells slots la Q hx hb ho ht hL hw => lv_ldcw hx hb ho (ht _ hc) hd hw
theorem G_null (hd : decode M.1 pc = .ok (.aconst_null, 1)) (k : G_ M d bc bs (pc + 1) ls (.inr none :: st) τ h Z) : G_ M d bc bs pc ls st τ h Z :=
  G_step k fun B p l e R s m args below meth c H locs cells slots la Q hx hb ho ht hL hw => lv_null hx hb hd hw
theorem G_iload_n {q : Fin 4} {i : Nat} {x : Int} (hd : decode M.1 pc = .ok (.iload_n q, 1)) (hi : (q : Nat) = i) (hl : ls[i]? = some (some (.inl x))) (k : G_ M d bc bs (pc + 1) ls (.inl x :: st) τ h Z) : G_ M d bc bs pc ls st τ h Z :=
  G_step k fun B p l e R s m args below meth c H locs cells slots la Q hx hb ho ht hL hw => lv_iload_n hx hb hd hi (hL.2 _ _ hl) hw
theorem G_iload {i : Nat} {x : Int} (hd : decode M.1 pc = .ok (.iload i, 2)) (hl : ls[i]? = some (some (.inl x))) (k : G_ M d bc bs (pc + 2) ls (.inl x :: st) τ h Z) : G_ M d bc bs pc ls st τ h Z :=
  G_step k fun B p l e R s m args below meth c H locs cells slots la Q hx hb ho ht hL hw => lv_iload hx hb hd (hL.2 _ _ hl) hw
theorem G_aload_n {q : Fin 4} {i : Nat} {x : Option Nat} (hd : decode M.1 pc = .ok (.aload_n q, 1)) (hi : (q : Nat) = i) (hl : ls[i]? = some (some (.inr x))) (k : G_ M d bc bs (pc + 1) ls (.inr x :: st) τ h Z) : G_ M d bc bs pc ls st τ h Z :=
  G_step k fun B p l e R s m args below meth c H locs cells slots la Q hx hb ho ht hL hw => by
    cases x with
    | none => exact lv_aload_nN hx hb hd hi (hL.2 _ _ hl) hw
    | some a => exact lv_aload_n hx hb hd hi (hL.2 _ _ hl) hw
theorem G_aload {i : Nat} {x : Option Nat} (hd : decode M.1 pc = .ok (.aload i, 2)) (hl : ls[i]? = some (some (.inr x))) (k : G_ M d bc bs (pc + 2) ls (.inr x :: st) τ h Z) : G_ M d bc bs pc ls st τ h Z :=
  G_step k fun B p l e R s m args below meth c H locs cells slots la Q hx hb ho ht hL hw => by
    cases x with
    | none => exact lv_aloadN hx hb hd (hL.2 _ _ hl) hw
    | some a => exact lv_aload hx hb hd (hL.2 _ _ hl) hw
theorem G_istore_n {q : Fin 4} {i : Nat} {x : Int} {ls' : List (Option AV)} (hd : decode M.1 pc = .ok (.istore_n q, 1)) (hi : (q : Nat) = i) (hn : i < M.2.2.1) (hl : ls.set i (some (.inl x)) = ls') (k : G_ M d bc bs (pc + 1) ls' st τ h Z) : G_ M d bc bs pc ls (.inl x :: st) τ h Z := by
  intro B p l e R s m args below meth c H locs cells slots cm sm la Q hC hR h1 h2 h3 h4 hL hE
  exact lv_istore_n hC.1 hC.2.1 hd hi (gb_LR_has hL) hn rfl (fun la' h' => k B p l e R s m args below meth c H locs cells slots cm sm la' Q hC hR h1 h2 h3 h4 (hl ▸ gb_LR_st (v := .inl x) h') hE)
theorem G_istore {i : Nat} {x : Int} {ls' : List (Option AV)} (hd : decode M.1 pc = .ok (.istore i, 2)) (hn : i < M.2.2.1) (hl : ls.set i (some (.inl x)) = ls') (k : G_ M d bc bs (pc + 2) ls' st τ h Z) : G_ M d bc bs pc ls (.inl x :: st) τ h Z := by
  intro B p l e R s m args below meth c H locs cells slots cm sm la Q hC hR h1 h2 h3 h4 hL hE
  exact lv_istore hC.1 hC.2.1 hd (gb_LR_has hL) hn rfl (fun la' h' => k B p l e R s m args below meth c H locs cells slots cm sm la' Q hC hR h1 h2 h3 h4 (hl ▸ gb_LR_st (v := .inl x) h') hE)
theorem G_astore_n {q : Fin 4} {i : Nat} {x : Option Nat} {ls' : List (Option AV)} (hd : decode M.1 pc = .ok (.astore_n q, 1)) (hi : (q : Nat) = i) (hn : i < M.2.2.1) (hl : ls.set i (some (.inr x)) = ls') (k : G_ M d bc bs (pc + 1) ls' st τ h Z) : G_ M d bc bs pc ls (.inr x :: st) τ h Z := by
  intro B p l e R s m args below meth c H locs cells slots cm sm la Q hC hR h1 h2 h3 h4 hL hE
  cases x with
  | none => exact lv_astore_nN hC.1 hC.2.1 hd hi (gb_LR_has hL) hn rfl (fun la' h' => k B p l e R s m args below meth c H locs cells slots cm sm la' Q hC hR h1 h2 h3 h4 (hl ▸ gb_LR_st (v := .inr none) h') hE)
  | some a => exact lv_astore_n hC.1 hC.2.1 hd hi (gb_LR_has hL) hn rfl (fun la' h' => k B p l e R s m args below meth c H locs cells slots cm sm la' Q hC hR h1 h2 h3 h4 (hl ▸ gb_LR_st (v := .inr (some a)) h') hE)
theorem G_astore {i : Nat} {x : Option Nat} {ls' : List (Option AV)} (hd : decode M.1 pc = .ok (.astore i, 2)) (hn : i < M.2.2.1) (hl : ls.set i (some (.inr x)) = ls') (k : G_ M d bc bs (pc + 2) ls' st τ h Z) : G_ M d bc bs pc ls (.inr x :: st) τ h Z := by
  intro B p l e R s m args below meth c H locs cells slots cm sm la Q hC hR h1 h2 h3 h4 hL hE
  cases x with
  | none => exact lv_astoreN hC.1 hC.2.1 hd (gb_LR_has hL) hn rfl (fun la' h' => k B p l e R s m args below meth c H locs cells slots cm sm la' Q hC hR h1 h2 h3 h4 (hl ▸ gb_LR_st (v := .inr none) h') hE)
  | some a => exact lv_astore hC.1 hC.2.1 hd (gb_LR_has hL) hn rfl (fun la' h' => k B p l e R s m args below meth c H locs cells slots cm sm la' Q hC hR h1 h2 h3 h4 (hl ▸ gb_LR_st (v := .inr (some a)) h') hE)
theorem G_iinc {i : Nat} {n x : Int} {ls' : List (Option AV)} (hd : decode M.1 pc = .ok (.iinc i n, 3)) (hn : i < M.2.2.1) (hx : ls[i]? = some (some (.inl x))) (hl : ls.set i (some (.inl (x + n))) = ls') (k : G_ M d bc bs (pc + 3) ls' st τ h Z) : G_ M d bc bs pc ls st τ h Z := by
  intro B p l e R s m args below meth c H locs cells slots cm sm la Q hC hR h1 h2 h3 h4 hL hE
  obtain ⟨j, hj⟩ := List.getElem?_of_mem (gb_pl_mem (B := B) (ls := ls) (q := (i, .int (Int32.ofInt x))).mpr ⟨_, hx, rfl⟩)
  exact lv_iinc (v := Int32.ofInt (x + n)) hC.1 hC.2.1 hd (gb_LR_has hL) hj (Int32.ofInt_add x n).symm hn rfl (fun la' h' => k B p l e R s m args below meth c H locs cells slots cm sm la' Q hC hR h1 h2 h3 h4 (hl ▸ gb_LR_st (v := .inl (x + n)) h') hE)
theorem G_iadd {a b : Int} (hd : decode M.1 pc = .ok (.iadd, 1)) (k : G_ M d bc bs (pc + 1) ls (.inl (a + b) :: st) τ h Z) : G_ M d bc bs pc ls (.inl b :: .inl a :: st) τ h Z :=
  G_step k fun B p l e R s m args below meth c H locs cells slots la Q hx hb ho ht hL hw => lv_iadd hx hb hd (by rw [← Int32.ofInt_add]; exact hw)
theorem G_isub {a b : Int} (hd : decode M.1 pc = .ok (.isub, 1)) (k : G_ M d bc bs (pc + 1) ls (.inl (a - b) :: st) τ h Z) : G_ M d bc bs pc ls (.inl b :: .inl a :: st) τ h Z :=
  G_step k fun B p l e R s m args below meth c H locs cells slots la Q hx hb ho ht hL hw => lv_isub hx hb hd (by rw [← Int32.ofInt_sub]; exact hw)
theorem G_imul {a b : Int} (hd : decode M.1 pc = .ok (.imul, 1)) (k : G_ M d bc bs (pc + 1) ls (.inl (a * b) :: st) τ h Z) : G_ M d bc bs pc ls (.inl b :: .inl a :: st) τ h Z :=
  G_step k fun B p l e R s m args below meth c H locs cells slots la Q hx hb ho ht hL hw => lv_imul hx hb hd (by rw [← Int32.ofInt_mul]; exact hw)
theorem G_ineg {a : Int} (hd : decode M.1 pc = .ok (.ineg, 1)) (k : G_ M d bc bs (pc + 1) ls (.inl (-a) :: st) τ h Z) : G_ M d bc bs pc ls (.inl a :: st) τ h Z :=
  G_step k fun B p l e R s m args below meth c H locs cells slots la Q hx hb ho ht hL hw => lv_ineg hx hb hd (by rw [← Int32.ofInt_neg]; exact hw)
theorem G_idiv {a b : Int} (hd : decode M.1 pc = .ok (.idiv, 1)) (ha : -2147483648 ≤ a ∧ a ≤ 2147483647) (hb' : 0 < b ∧ b ≤ 2147483647) (k : G_ M d bc bs (pc + 1) ls (.inl (a.tdiv b) :: st) τ h Z) : G_ M d bc bs pc ls (.inl b :: .inl a :: st) τ h Z :=
  G_step k fun B p l e R s m args below meth c H locs cells slots la Q hx hb ho ht hL hw => lv_idiv hx hb hd (by rw [gb_0, gb_inj (by omega) gb_r0]; omega) (by rw [gb_div ha hb']; exact hw)
theorem G_irem {a b : Int} (hd : decode M.1 pc = .ok (.irem, 1)) (ha : -2147483648 ≤ a ∧ a ≤ 2147483647) (hb' : 0 < b ∧ b ≤ 2147483647) (k : G_ M d bc bs (pc + 1) ls (.inl (a.tmod b) :: st) τ h Z) : G_ M d bc bs pc ls (.inl b :: .inl a :: st) τ h Z :=
  G_step k fun B p l e R s m args below meth c H locs cells slots la Q hx hb ho ht hL hw => lv_irem hx hb hd (by rw [gb_0, gb_inj (by omega) gb_r0]; omega) (by rw [gb_div ha hb', ← Int32.ofInt_mul, ← Int32.ofInt_sub, show a - a.tdiv b * b = a.tmod b by rw [Int.tmod_def, Int.mul_comm]]; exact hw)
theorem gb_oti (x : Int32) : Int32.ofInt x.toInt = x := by simp
theorem G_iand {a b : Int} (hd : decode M.1 pc = .ok (.iand, 1)) (k : G_ M d bc bs (pc + 1) ls (.inl (b_and a b) :: st) τ h Z) : G_ M d bc bs pc ls (.inl b :: .inl a :: st) τ h Z :=
  G_step k fun B p l e R s m args below meth c H locs cells slots la Q hx hb ho ht hL hw => lv_iand hx hb hd (by rw [← gb_oti (_ &&& _)]; exact hw)
theorem G_ior {a b : Int} (hd : decode M.1 pc = .ok (.ior, 1)) (k : G_ M d bc bs (pc + 1) ls (.inl (b_or a b) :: st) τ h Z) : G_ M d bc bs pc ls (.inl b :: .inl a :: st) τ h Z :=
  G_step k fun B p l e R s m args below meth c H locs cells slots la Q hx hb ho ht hL hw => lv_ior hx hb hd (by rw [← gb_oti (_ ||| _)]; exact hw)
theorem G_ixor {a b : Int} (hd : decode M.1 pc = .ok (.ixor, 1)) (k : G_ M d bc bs (pc + 1) ls (.inl (b_xor a b) :: st) τ h Z) : G_ M d bc bs pc ls (.inl b :: .inl a :: st) τ h Z :=
  G_step k fun B p l e R s m args below meth c H locs cells slots la Q hx hb ho ht hL hw => lv_ixor hx hb hd (by rw [← gb_oti (_ ^^^ _)]; exact hw)
theorem G_ishl {a b : Int} (hd : decode M.1 pc = .ok (.ishl, 1)) (k : G_ M d bc bs (pc + 1) ls (.inl (b_shl a b) :: st) τ h Z) : G_ M d bc bs pc ls (.inl b :: .inl a :: st) τ h Z :=
  G_step k fun B p l e R s m args below meth c H locs cells slots la Q hx hb ho ht hL hw => lv_ishl hx hb hd (by rw [← gb_oti (_ <<< _)]; exact hw)
theorem G_ishr {a b : Int} (hd : decode M.1 pc = .ok (.ishr, 1)) (k : G_ M d bc bs (pc + 1) ls (.inl (b_shr a b) :: st) τ h Z) : G_ M d bc bs pc ls (.inl b :: .inl a :: st) τ h Z :=
  G_step k fun B p l e R s m args below meth c H locs cells slots la Q hx hb ho ht hL hw => lv_ishr hx hb hd (by rw [← gb_oti (_ >>> _)]; exact hw)
theorem G_iushr {a b : Int} (hd : decode M.1 pc = .ok (.iushr, 1)) (k : G_ M d bc bs (pc + 1) ls (.inl (b_ushr a b) :: st) τ h Z) : G_ M d bc bs pc ls (.inl b :: .inl a :: st) τ h Z :=
  G_step k fun B p l e R s m args below meth c H locs cells slots la Q hx hb ho ht hL hw => lv_iushr (v := Int32.ofInt (b_ushr a b)) hx hb hd (gb_oti _).symm hw
theorem G_i2b {a : Int} (hd : decode M.1 pc = .ok (.i2b, 1)) (k : G_ M d bc bs (pc + 1) ls (.inl (b_i2b a) :: st) τ h Z) : G_ M d bc bs pc ls (.inl a :: st) τ h Z :=
  G_step k fun B p l e R s m args below meth c H locs cells slots la Q hx hb ho ht hL hw => lv_i2b (v := Int32.ofInt (b_i2b a)) hx hb hd (gb_oti _).symm hw
theorem G_i2s {a : Int} (hd : decode M.1 pc = .ok (.i2s, 1)) (k : G_ M d bc bs (pc + 1) ls (.inl (b_i2s a) :: st) τ h Z) : G_ M d bc bs pc ls (.inl a :: st) τ h Z :=
  G_step k fun B p l e R s m args below meth c H locs cells slots la Q hx hb ho ht hL hw => lv_i2s (v := Int32.ofInt (b_i2s a)) hx hb hd (gb_oti _).symm hw
theorem G_i2c {a : Int} (hd : decode M.1 pc = .ok (.i2c, 1)) (k : G_ M d bc bs (pc + 1) ls (.inl (b_i2c a) :: st) τ h Z) : G_ M d bc bs pc ls (.inl a :: st) τ h Z :=
  G_step k fun B p l e R s m args below meth c H locs cells slots la Q hx hb ho ht hL hw => lv_i2c (v := Int32.ofInt (b_i2c a)) hx hb hd (gb_oti _).symm hw
theorem G_dup {v : AV} (hd : decode M.1 pc = .ok (.dup, 1)) (k : G_ M d bc bs (pc + 1) ls (v :: v :: st) τ h Z) : G_ M d bc bs pc ls (v :: st) τ h Z :=
  G_step k fun B p l e R s m args below meth c H locs cells slots la Q hx hb ho ht hL hw => lv_dup hx hb hd (gb_cat B v) hw
theorem G_dup2 {v w : AV} (hd : decode M.1 pc = .ok (.dup2, 1)) (k : G_ M d bc bs (pc + 1) ls (v :: w :: v :: w :: st) τ h Z) : G_ M d bc bs pc ls (v :: w :: st) τ h Z :=
  G_step k fun B p l e R s m args below meth c H locs cells slots la Q hx hb ho ht hL hw => lv_dup2_11 hx hb hd (gb_cat B v) (gb_cat B w) hw
theorem G_pop {v : AV} (hd : decode M.1 pc = .ok (.pop, 1)) (k : G_ M d bc bs (pc + 1) ls st τ h Z) : G_ M d bc bs pc ls (v :: st) τ h Z :=
  G_step k fun B p l e R s m args below meth c H locs cells slots la Q hx hb ho ht hL hw => lv_pop hx hb hd (gb_cat B v) hw
theorem G_goto {off : Int} {tgt : Nat} (hd : decode M.1 pc = .ok (.goto off, 3)) (ht : (pc : Int) + off = (tgt : Int)) (k : G_ M d bc bs tgt ls st τ h Z) : G_ M d bc bs pc ls st τ h Z :=
  G_step k fun B p l e R s m args below meth c H locs cells slots la Q hx hb ho ht' hL hw => lv_goto hx hb hd ht hw
theorem G_ifnullS {a : Nat} {off : Int} (hd : decode M.1 pc = .ok (.ifnull off, 3)) (k : G_ M d bc bs (pc + 3) ls st τ h Z) : G_ M d bc bs pc ls (.inr (some a) :: st) τ h Z :=
  G_step k fun B p l e R s m args below meth c H locs cells slots la Q hx hb ho ht hL hw => lv_ifnull hx hb hd hw
theorem G_ifnullN {off : Int} {tgt : Nat} (hd : decode M.1 pc = .ok (.ifnull off, 3)) (ht : (pc : Int) + off = (tgt : Int)) (k : G_ M d bc bs tgt ls st τ h Z) : G_ M d bc bs pc ls (.inr none :: st) τ h Z :=
  G_step k fun B p l e R s m args below meth c H locs cells slots la Q hx hb ho ht' hL hw => lv_ifnullN hx hb hd ht hw
theorem G_ifnonnullS {a : Nat} {off : Int} {tgt : Nat} (hd : decode M.1 pc = .ok (.ifnonnull off, 3)) (ht : (pc : Int) + off = (tgt : Int)) (k : G_ M d bc bs tgt ls st τ h Z) : G_ M d bc bs pc ls (.inr (some a) :: st) τ h Z :=
  G_step k fun B p l e R s m args below meth c H locs cells slots la Q hx hb ho ht' hL hw => lv_ifnonnull hx hb hd ht hw
theorem G_ifnonnullN {off : Int} (hd : decode M.1 pc = .ok (.ifnonnull off, 3)) (k : G_ M d bc bs (pc + 3) ls st τ h Z) : G_ M d bc bs pc ls (.inr none :: st) τ h Z :=
  G_step k fun B p l e R s m args below meth c H locs cells slots la Q hx hb ho ht hL hw => lv_ifnonnullN hx hb hd hw
theorem G_icmp_lt {a b : Int} {off : Int} {tgt : Nat} (hd : decode M.1 pc = .ok (.if_icmp .lt off, 3)) (ht : (pc : Int) + off = (tgt : Int)) (ha : -2147483648 ≤ a ∧ a ≤ 2147483647) (hb' : -2147483648 ≤ b ∧ b ≤ 2147483647) (kt : a < b → G_ M d bc bs tgt ls st τ h Z) (kf : ¬ a < b → G_ M d bc bs (pc + 3) ls st τ h Z) : G_ M d bc bs pc ls (.inl b :: .inl a :: st) τ h Z :=
  G_br (P := a < b) (pc1 := tgt) (pc2 := pc + 3) kt kf fun B p l e R s m args below meth c H locs cells slots la Q hx hb h1 h2 => lv_icmp_lt hx hb hd ht (fun q => h1 ((gb_lt ha hb').mp (by first | exact q | (rw [← gb_0]; exact q)))) (fun q => h2 (fun z => q (by first | exact (gb_lt ha hb').mpr z | (rw [gb_0]; exact (gb_lt ha hb').mpr z))))
theorem G_if_lt {a : Int} {off : Int} {tgt : Nat} (hd : decode M.1 pc = .ok (.ifCond .lt off, 3)) (ht : (pc : Int) + off = (tgt : Int)) (ha : -2147483648 ≤ a ∧ a ≤ 2147483647) (kt : a < 0 → G_ M d bc bs tgt ls st τ h Z) (kf : ¬ a < 0 → G_ M d bc bs (pc + 3) ls st τ h Z) : G_ M d bc bs pc ls (.inl a :: st) τ h Z :=
  G_br (P := a < 0) (pc1 := tgt) (pc2 := pc + 3) kt kf fun B p l e R s m args below meth c H locs cells slots la Q hx hb h1 h2 => lv_if_lt hx hb hd ht (fun q => h1 ((gb_lt ha gb_r0).mp (by first | exact q | (rw [← gb_0]; exact q)))) (fun q => h2 (fun z => q (by first | exact (gb_lt ha gb_r0).mpr z | (rw [gb_0]; exact (gb_lt ha gb_r0).mpr z))))
theorem G_icmp_ge {a b : Int} {off : Int} {tgt : Nat} (hd : decode M.1 pc = .ok (.if_icmp .ge off, 3)) (ht : (pc : Int) + off = (tgt : Int)) (ha : -2147483648 ≤ a ∧ a ≤ 2147483647) (hb' : -2147483648 ≤ b ∧ b ≤ 2147483647) (kt : b ≤ a → G_ M d bc bs tgt ls st τ h Z) (kf : ¬ b ≤ a → G_ M d bc bs (pc + 3) ls st τ h Z) : G_ M d bc bs pc ls (.inl b :: .inl a :: st) τ h Z :=
  G_br (P := b ≤ a) (pc1 := tgt) (pc2 := pc + 3) kt kf fun B p l e R s m args below meth c H locs cells slots la Q hx hb h1 h2 => lv_icmp_ge hx hb hd ht (fun q => h1 ((gb_le hb' ha).mp (by first | exact q | (rw [← gb_0]; exact q)))) (fun q => h2 (fun z => q (by first | exact (gb_le hb' ha).mpr z | (rw [gb_0]; exact (gb_le hb' ha).mpr z))))
theorem G_if_ge {a : Int} {off : Int} {tgt : Nat} (hd : decode M.1 pc = .ok (.ifCond .ge off, 3)) (ht : (pc : Int) + off = (tgt : Int)) (ha : -2147483648 ≤ a ∧ a ≤ 2147483647) (kt : 0 ≤ a → G_ M d bc bs tgt ls st τ h Z) (kf : ¬ 0 ≤ a → G_ M d bc bs (pc + 3) ls st τ h Z) : G_ M d bc bs pc ls (.inl a :: st) τ h Z :=
  G_br (P := 0 ≤ a) (pc1 := tgt) (pc2 := pc + 3) kt kf fun B p l e R s m args below meth c H locs cells slots la Q hx hb h1 h2 => lv_if_ge hx hb hd ht (fun q => h1 ((gb_le gb_r0 ha).mp (by first | exact q | (rw [← gb_0]; exact q)))) (fun q => h2 (fun z => q (by first | exact (gb_le gb_r0 ha).mpr z | (rw [gb_0]; exact (gb_le gb_r0 ha).mpr z))))
theorem G_icmp_gt {a b : Int} {off : Int} {tgt : Nat} (hd : decode M.1 pc = .ok (.if_icmp .gt off, 3)) (ht : (pc : Int) + off = (tgt : Int)) (ha : -2147483648 ≤ a ∧ a ≤ 2147483647) (hb' : -2147483648 ≤ b ∧ b ≤ 2147483647) (kt : b < a → G_ M d bc bs tgt ls st τ h Z) (kf : ¬ b < a → G_ M d bc bs (pc + 3) ls st τ h Z) : G_ M d bc bs pc ls (.inl b :: .inl a :: st) τ h Z :=
  G_br (P := b < a) (pc1 := tgt) (pc2 := pc + 3) kt kf fun B p l e R s m args below meth c H locs cells slots la Q hx hb h1 h2 => lv_icmp_gt hx hb hd ht (fun q => h1 ((gb_lt hb' ha).mp (by first | exact q | (rw [← gb_0]; exact q)))) (fun q => h2 (fun z => q (by first | exact (gb_lt hb' ha).mpr z | (rw [gb_0]; exact (gb_lt hb' ha).mpr z))))
theorem G_if_gt {a : Int} {off : Int} {tgt : Nat} (hd : decode M.1 pc = .ok (.ifCond .gt off, 3)) (ht : (pc : Int) + off = (tgt : Int)) (ha : -2147483648 ≤ a ∧ a ≤ 2147483647) (kt : 0 < a → G_ M d bc bs tgt ls st τ h Z) (kf : ¬ 0 < a → G_ M d bc bs (pc + 3) ls st τ h Z) : G_ M d bc bs pc ls (.inl a :: st) τ h Z :=
  G_br (P := 0 < a) (pc1 := tgt) (pc2 := pc + 3) kt kf fun B p l e R s m args below meth c H locs cells slots la Q hx hb h1 h2 => lv_if_gt hx hb hd ht (fun q => h1 ((gb_lt gb_r0 ha).mp (by first | exact q | (rw [← gb_0]; exact q)))) (fun q => h2 (fun z => q (by first | exact (gb_lt gb_r0 ha).mpr z | (rw [gb_0]; exact (gb_lt gb_r0 ha).mpr z))))
theorem G_icmp_le {a b : Int} {off : Int} {tgt : Nat} (hd : decode M.1 pc = .ok (.if_icmp .le off, 3)) (ht : (pc : Int) + off = (tgt : Int)) (ha : -2147483648 ≤ a ∧ a ≤ 2147483647) (hb' : -2147483648 ≤ b ∧ b ≤ 2147483647) (kt : a ≤ b → G_ M d bc bs tgt ls st τ h Z) (kf : ¬ a ≤ b → G_ M d bc bs (pc + 3) ls st τ h Z) : G_ M d bc bs pc ls (.inl b :: .inl a :: st) τ h Z :=
  G_br (P := a ≤ b) (pc1 := tgt) (pc2 := pc + 3) kt kf fun B p l e R s m args below meth c H locs cells slots la Q hx hb h1 h2 => lv_icmp_le hx hb hd ht (fun q => h1 ((gb_le ha hb').mp (by first | exact q | (rw [← gb_0]; exact q)))) (fun q => h2 (fun z => q (by first | exact (gb_le ha hb').mpr z | (rw [gb_0]; exact (gb_le ha hb').mpr z))))
theorem G_if_le {a : Int} {off : Int} {tgt : Nat} (hd : decode M.1 pc = .ok (.ifCond .le off, 3)) (ht : (pc : Int) + off = (tgt : Int)) (ha : -2147483648 ≤ a ∧ a ≤ 2147483647) (kt : a ≤ 0 → G_ M d bc bs tgt ls st τ h Z) (kf : ¬ a ≤ 0 → G_ M d bc bs (pc + 3) ls st τ h Z) : G_ M d bc bs pc ls (.inl a :: st) τ h Z :=
  G_br (P := a ≤ 0) (pc1 := tgt) (pc2 := pc + 3) kt kf fun B p l e R s m args below meth c H locs cells slots la Q hx hb h1 h2 => lv_if_le hx hb hd ht (fun q => h1 ((gb_le ha gb_r0).mp (by first | exact q | (rw [← gb_0]; exact q)))) (fun q => h2 (fun z => q (by first | exact (gb_le ha gb_r0).mpr z | (rw [gb_0]; exact (gb_le ha gb_r0).mpr z))))
theorem G_icmp_eq {a b : Int} {off : Int} {tgt : Nat} (hd : decode M.1 pc = .ok (.if_icmp .eq off, 3)) (ht : (pc : Int) + off = (tgt : Int)) (ha : -2147483648 ≤ a ∧ a ≤ 2147483647) (hb' : -2147483648 ≤ b ∧ b ≤ 2147483647) (kt : a = b → G_ M d bc bs tgt ls st τ h Z) (kf : ¬ a = b → G_ M d bc bs (pc + 3) ls st τ h Z) : G_ M d bc bs pc ls (.inl b :: .inl a :: st) τ h Z :=
  G_br (P := a = b) (pc1 := tgt) (pc2 := pc + 3) kt kf fun B p l e R s m args below meth c H locs cells slots la Q hx hb h1 h2 => lv_icmp_eq hx hb hd ht (fun q => h1 ((gb_inj ha hb').mp (by first | exact q | (rw [← gb_0]; exact q)))) (fun q => h2 (fun z => q (by first | exact (gb_inj ha hb').mpr z | (rw [gb_0]; exact (gb_inj ha hb').mpr z))))
theorem G_if_eq {a : Int} {off : Int} {tgt : Nat} (hd : decode M.1 pc = .ok (.ifCond .eq off, 3)) (ht : (pc : Int) + off = (tgt : Int)) (ha : -2147483648 ≤ a ∧ a ≤ 2147483647) (kt : a = 0 → G_ M d bc bs tgt ls st τ h Z) (kf : ¬ a = 0 → G_ M d bc bs (pc + 3) ls st τ h Z) : G_ M d bc bs pc ls (.inl a :: st) τ h Z :=
  G_br (P := a = 0) (pc1 := tgt) (pc2 := pc + 3) kt kf fun B p l e R s m args below meth c H locs cells slots la Q hx hb h1 h2 => lv_if_eq hx hb hd ht (fun q => h1 ((gb_inj ha gb_r0).mp (by first | exact q | (rw [← gb_0]; exact q)))) (fun q => h2 (fun z => q (by first | exact (gb_inj ha gb_r0).mpr z | (rw [gb_0]; exact (gb_inj ha gb_r0).mpr z))))
theorem G_icmp_ne {a b : Int} {off : Int} {tgt : Nat} (hd : decode M.1 pc = .ok (.if_icmp .ne off, 3)) (ht : (pc : Int) + off = (tgt : Int)) (ha : -2147483648 ≤ a ∧ a ≤ 2147483647) (hb' : -2147483648 ≤ b ∧ b ≤ 2147483647) (kt : ¬ a = b → G_ M d bc bs tgt ls st τ h Z) (kf : a = b → G_ M d bc bs (pc + 3) ls st τ h Z) : G_ M d bc bs pc ls (.inl b :: .inl a :: st) τ h Z :=
  G_br (P := a = b) (pc1 := pc + 3) (pc2 := tgt) kf kt fun B p l e R s m args below meth c H locs cells slots la Q hx hb h1 h2 => lv_icmp_ne hx hb hd ht (fun q => h2 (fun z => q (by rw [gb_inj ha hb']; exact z))) (fun q => h1 (by first | exact ((gb_inj ha hb').mp (by simpa [gb_0] using q)) | exact Classical.byContradiction fun z => q (fun y => z ((gb_inj ha hb').mp y))))
theorem G_if_ne {a : Int} {off : Int} {tgt : Nat} (hd : decode M.1 pc = .ok (.ifCond .ne off, 3)) (ht : (pc : Int) + off = (tgt : Int)) (ha : -2147483648 ≤ a ∧ a ≤ 2147483647) (kt : ¬ a = 0 → G_ M d bc bs tgt ls st τ h Z) (kf : a = 0 → G_ M d bc bs (pc + 3) ls st τ h Z) : G_ M d bc bs pc ls (.inl a :: st) τ h Z :=
  G_br (P := a = 0) (pc1 := pc + 3) (pc2 := tgt) kf kt fun B p l e R s m args below meth c H locs cells slots la Q hx hb h1 h2 => lv_if_ne hx hb hd ht (fun q => h2 (fun z => q (by rw [gb_0, gb_inj ha gb_r0]; exact z))) (fun q => h1 (by first | exact ((gb_inj ha gb_r0).mp (by simpa [gb_0] using q)) | exact Classical.byContradiction fun z => q (fun y => z ((gb_inj ha gb_r0).mp y))))
end GR
end
section
/-! rows of the judgement: fields and arrays -/
/-- a class as the tables have it -/
def gb_cls (ci : Nat) (C : String) (T : u_T) (N : Nat) (ty : Nat → FieldType) : Prop := vwCl[ci]? = some (C, T, N) ∧ (∀ w ∈ u_ws C T N, w ∈ gb_LW) ∧ (∀ k, k < N → parseFieldDescriptor (T k).2.2.1 = some (ty k)) ∧ (∀ a, a < N → ∀ b, b < N → a ≠ b → (T a).2.1 ≠ (T b).2.1) ∧ gb_nsl ci = N ∧ gb_ty ci = ty ∧ Cond.instantiable C N ∈ gb_LW ∧ Cond.initialized C ∈ gb_LW ∧ ci < 13
/-- an entry of a class's pool is the field k of class ci -/
def gb_fld (own : String) (idx ci k : Nat) (t : FieldType) (fin : Bool) : Prop := ∃ (C : String) (T : u_T) (N : Nat) (ty : Nat → FieldType), gb_cls ci C T N ty ∧ k < N ∧ (T k).1 = C ∧ ty k = t ∧ (T k).2.2.2 = fin ∧ Cond.fieldLink own idx C (T k).2.1 (T k).2.2.1 ∈ gb_LW
def ob_ (τ : TT) (a ci : Nat) : Prop := a < τ.1 ∧ τ.2.1 a = ci
def ar_ (τ : TT) (a ci n : Nat) : Prop := a < τ.1 ∧ τ.2.1 a = ci ∧ τ.2.2.1 a = n ∧ n < 2147483648
theorem gb_vcl {ci : Nat} {r : vw_C} (h : vwCl[ci]? = some r) : ci < 13 := by
  have := (List.getElem?_eq_some_iff.mp h).1
  exact this
theorem gb_ad_lt {B : BT} {k : Nat} (h : k < 1000000) : gb_ad B k = B.1 + k := if_pos h
section GH
variable {M : MT} {d bc bs pc : Nat} {ls : List (Option AV)} {st : List AV} {τ : TT} {h : HT} {Z : ZT}
theorem G_getI {idx ci k a : Nat} {t : FieldType} {fin : Bool} {v : Int} (hf : gb_fld M.2.1 idx ci k t fin) (hr : gb_isR t = false) (hd : decode M.1 pc = .ok (.getfield idx, 3)) (ho : ob_ τ a ci) (hv : h a k = v) (kk : G_ M d bc bs (pc + 3) ls (.inl v :: st) τ h Z) : G_ M d bc bs pc ls (.inr (some a) :: st) τ h Z := by
  intro B p l e R s m args below meth c H locs cells slots cm sm la Q hC hR h1 h2 h3 h4 hL hE
  obtain ⟨C, T, N, ty, ⟨c1, c2, c3, c4, c5, c6, c7, c8, c9⟩, f1, f2, f3, f4, f5⟩ := hf
  subst hv
  refine va_get (D := B.2.1) (ci := ci) (v := .int (Int32.ofInt (h a k))) (C := C) (T := T) (N := N) hC.1 hC.2.1 hC.2.2.2.2.1 c2 hC.2.2.2.1 hC.2.2.2.2.2.2.2.1.1 hR.1.1 a (by rw [gb_w_get ho.1, gb_ent_o ho.2 c9]) c1 k f1 (hC.2.2.2.2.1 _ f5) (fun x hx => by rw [f2] at hx; exact hx) ?_ hd (kk B p l e R s m args below meth c H locs cells slots cm sm la Q hC hR h1 h2 h3 h4 hL hE)
  rw [gb_fl_get (by rw [ho.2, c5]; exact f1)]
  unfold gb_fv
  rw [ho.2, c6, f3, if_neg (by rw [hr]; decide)]
theorem G_getR {idx ci k a : Nat} {t : FieldType} {fin : Bool} {v : Option Nat} (hf : gb_fld M.2.1 idx ci k t fin) (hr : gb_isR t = true) (hd : decode M.1 pc = .ok (.getfield idx, 3)) (ho : ob_ τ a ci) (hv : τ.2.2.2 a k = v) (kk : G_ M d bc bs (pc + 3) ls (.inr v :: st) τ h Z) : G_ M d bc bs pc ls (.inr (some a) :: st) τ h Z := by
  intro B p l e R s m args below meth c H locs cells slots cm sm la Q hC hR h1 h2 h3 h4 hL hE
  obtain ⟨C, T, N, ty, ⟨c1, c2, c3, c4, c5, c6, c7, c8, c9⟩, f1, f2, f3, f4, f5⟩ := hf
  subst hv
  refine va_get (D := B.2.1) (ci := ci) (v := va_rf ((τ.2.2.2 a k).map (gb_ad B))) (C := C) (T := T) (N := N) hC.1 hC.2.1 hC.2.2.2.2.1 c2 hC.2.2.2.1 hC.2.2.2.2.2.2.2.1.1 hR.1.1 a (by rw [gb_w_get ho.1, gb_ent_o ho.2 c9]) c1 k f1 (hC.2.2.2.2.1 _ f5) (fun x hx => by rw [f2] at hx; exact hx) ?_ hd (kk B p l e R s m args below meth c H locs cells slots cm sm la Q hC hR h1 h2 h3 h4 hL hE)
  rw [gb_fl_get (by rw [ho.2, c5]; exact f1)]
  unfold gb_fv
  rw [ho.2, c6, f3, if_pos hr]
theorem gb_putw {B : BT} {ci a k : Nat} {v : Int} (ho : ob_ τ a ci) (c9 : ci < 13) (hr : gb_isR (gb_ty ci k) = false) : (gb_w B τ h).set a (gb_ad B a, .inr (ci, (gb_fl B τ h a).set k (.int (Int32.ofInt v)))) = gb_w B τ (hs_ h a k v) := by
  refine gb_w_set ho.1 rfl ?_ (fun b hb => gb_ent_ne fun i => hs_na hb)
  rw [gb_ent_o ho.2 c9, gb_fl_set (by rw [ho.2]; exact hr)]
theorem gb_fl_len {B : BT} {a ci : Nat} (ho : ob_ τ a ci) : (gb_fl B τ h a).length = gb_nsl ci := by
  simp [gb_fl, ho.2]
theorem gb_vput {B : BT} {p : Program} {l : Launch} {e : Env} {R : Room} {s : State} {m : MethodId} {args : Array Value} {below : List Frame} {meth : Method} {c : Code} {H : Heap} {locs : List Loc} {cells slots : Nat} {Q : State → Prop} {la : Array Slot} {rest : List Value} {idx ci k a : Nat} {t : FieldType} {v : Value} (hC : gb_CX M d B p R s m args meth c) (hR : gb_RP B τ h s H locs) {fin : Bool} (hf : gb_fld M.2.1 idx ci k t fin) (hfin : fin = true → M.2.2.2.2.name = "<init>" ∧ (vwCl[ci]?).map (fun r => r.1) = some M.2.1) (hn : narrow t v = v) (hfit : fits t v = true) (hd : decode M.1 pc = .ok (.putfield idx, 3)) (ho : ob_ τ a ci)
    (kk : ∀ (H1 : Heap) (locs1 : List Loc), va_P B.2.1 vwCl ((gb_w B τ h).set a (gb_ad B a, .inr (ci, (gb_fl B τ h a).set k v))) H1 → va_D (gb_A B) ((gb_w B τ h).set a (gb_ad B a, .inr (ci, (gb_fl B τ h a).set k v))) → va_S (gb_A B) s.heap H1 locs1 → H1.size = H.size → W p l e R s m args below meth c H1 locs1 cells slots Q (F0 m (pc + 3) la rest)) : W p l e R s m args below meth c H locs cells slots Q (F0 m pc la (v :: .ref (gb_ad B a) :: rest)) := by
  obtain ⟨C, T, N, ty, ⟨c1, c2, c3, c4, c5, c6, c7, c8, c9⟩, f1, f2, f3, f4, f5⟩ := hf
  obtain ⟨⟨hP, hD, -, -⟩, hS0⟩ := hR
  obtain ⟨hx, hb, -, hown, hts, -, -, hSF, -, hnm⟩ := hC
  have hK := hSF.1
  have he : (gb_w B τ h)[a]? = some (gb_ad B a, .inr (ci, gb_fl B τ h a)) := by rw [gb_w_get ho.1, gb_ent_o ho.2 c9]
  have hap := va_apart (own := C) hts c2 ty c3 c4 hK c1
  obtain ⟨r, h1, cell, q1, q2, q3, q4⟩ := hP a _ he
  have hr : r = (C, T, N) := Option.some.inj (h1.symm.trans c1)
  subst hr
  obtain ⟨hS, hfc, kC, hkC, hkind⟩ := hK.1 ci _ c1
  obtain ⟨cf, kf, fi, f, hi, hsl⟩ := hS k f1
  have hlay := hts _ (c2 _ (u_in_lay f1))
  have hst := (u_facts hfc hkC (u_lays hts c2 f1) hi).1
  have hdesc : parseFieldDescriptor (T k).2.2.1 = some t := by rw [c3 k f1, f3]
  have hlen : k < (gb_fl B τ h a).length := by rw [gb_fl_len ho, c5]; exact f1
  have hlink := hts _ f5
  rw [← f2] at hlink
  have fini : ∀ H' : Heap, H'[gb_ad B a]? = some (cell.setSlot f.slot v) → H'.size = H.size → (∀ q, q ≠ gb_ad B a → H'[q]? = H[q]?) → W p l e R s m args below meth c H' (locs ++ [⟨gb_ad B a, f.slot⟩]) cells slots Q (F0 m (pc + 3) la rest) := by
    intro H' e1 e2 e3
    rw [hsl] at e1 ⊢
    exact kk H' _ (hP.set hD he ⟨_, c1, t_OB.to (V := updV (vp_V (gb_fl B τ h a)) k v) ⟨_, e1, q2, q3, t_set q4 hap f1 v⟩ (fun j _ => vp_updV_set hlen v j)⟩ e3) (hD.set he) (hS0.put e2 e3 (hD.2 a _ he)) e2
  cases fin with
  | false =>
    unfold u_lay at hlay
    rw [if_neg (by rw [f4]; decide)] at hlay
    have h6 := u_store hfc hkC hkind hlay hi hdesc hn hfit
    exact W.putK hx hb (f := f) ⟨hown, hlink, ⟨_, _, _, hi⟩, hst⟩ (by rw [q2]; exact h6) q1 q3 (by rw [hsl]; exact k2_hasslot (q4 k f1)) rfl rfl hd fini
  | true =>
    obtain ⟨hin, hCo⟩ := hfin rfl
    rw [c1] at hCo
    have hdecl : (T k).1 = M.2.1 := by rw [f2]; exact Option.some.inj hCo
    unfold u_lay at hlay
    rw [if_pos f4] at hlay
    have hcf : m.cls = cf := by
      obtain ⟨_, _, c', _, _, _, -, -, hf', -, -, -, hown2, -⟩ := Cond.laysFinal_spec hlay
      have e1 : c' = cf := by have := hi.symm.trans hf'; simp at this; exact this.1.symm
      rw [hdecl] at hown2
      rw [← e1]; exact Option.some.inj (hown.symm.trans hown2)
    have h6 := u_fits hfc hkC hkind (Or.inr hlay) hi hdesc hn hfit
    exact W.putFinK hx hb hown hlink hi hst hcf (hnm.trans hin) (by rw [q2]; exact h6) q1 q3 (by rw [hsl]; exact k2_hasslot (q4 k f1)) rfl rfl hd fini
theorem gb_put {idx ci k a : Nat} {t : FieldType} {v : Int} {fin : Bool} (hf : gb_fld M.2.1 idx ci k t fin) (hfin : fin = true → M.2.2.2.2.name = "<init>" ∧ (vwCl[ci]?).map (fun r => r.1) = some M.2.1) (hr : gb_isR t = false) (hn : narrow t (.int (Int32.ofInt v)) = .int (Int32.ofInt v)) (hfit : fits t (.int (Int32.ofInt v)) = true) (hd : decode M.1 pc = .ok (.putfield idx, 3)) (ho : ob_ τ a ci) (kk : G_ M d bc bs (pc + 3) ls st τ (hs_ h a k v) Z) : G_ M d bc bs pc ls (.inl v :: .inr (some a) :: st) τ h Z := by
  intro B p l e R s m args below meth c H locs cells slots cm sm la Q hC hR h1 h2 h3 h4 hL hE
  refine gb_vput (v := .int (Int32.ofInt v)) hC hR hf hfin hn hfit hd ho (fun H1 locs1 hP hD hS hz => ?_)
  obtain ⟨C, T, N, ty, ⟨c1, c2, c3, c4, c5, c6, c7, c8, c9⟩, f1, f2, f3, f4, f5⟩ := hf
  rw [gb_putw ho c9 (by rw [c6, f3]; exact hr)] at hP hD
  exact kk B p l e R s m args below meth c H1 locs1 cells slots cm sm la Q hC ⟨⟨hP, hD, hz.trans hR.1.2.2.1, hR.1.2.2.2⟩, hS⟩ h1 h2 h3 h4 hL hE
theorem G_putI {idx ci k a : Nat} {v : Int} (hf : gb_fld M.2.1 idx ci k .int false) (hd : decode M.1 pc = .ok (.putfield idx, 3)) (ho : ob_ τ a ci) (kk : G_ M d bc bs (pc + 3) ls st τ (hs_ h a k v) Z) : G_ M d bc bs pc ls (.inl v :: .inr (some a) :: st) τ h Z := gb_put hf (fun q => by cases q) rfl rfl rfl hd ho kk
theorem G_putFI {idx ci k a : Nat} {v : Int} (hf : gb_fld M.2.1 idx ci k .int true) (hi : M.2.2.2.2.name = "<init>" ∧ (vwCl[ci]?).map (fun r => r.1) = some M.2.1) (hd : decode M.1 pc = .ok (.putfield idx, 3)) (ho : ob_ τ a ci) (kk : G_ M d bc bs (pc + 3) ls st τ (hs_ h a k v) Z) : G_ M d bc bs pc ls (.inl v :: .inr (some a) :: st) τ h Z := gb_put hf (fun _ => hi) rfl rfl rfl hd ho kk
theorem gb_nz {v : Int} (hv : v = 0 ∨ v = 1) : narrow .boolean (.int (Int32.ofInt v)) = .int (Int32.ofInt v) := by
  rcases hv with rfl | rfl
  · exact narrow_b0
  · exact narrow_b1
theorem gb_fz {v : Int} (hv : v = 0 ∨ v = 1) : fits .boolean (.int (Int32.ofInt v)) = true := by
  rcases hv with rfl | rfl <;> decide
theorem G_putZ {idx ci k a : Nat} {v : Int} (hf : gb_fld M.2.1 idx ci k .boolean false) (hv : v = 0 ∨ v = 1) (hd : decode M.1 pc = .ok (.putfield idx, 3)) (ho : ob_ τ a ci) (kk : G_ M d bc bs (pc + 3) ls st τ (hs_ h a k v) Z) : G_ M d bc bs pc ls (.inl v :: .inr (some a) :: st) τ h Z := gb_put hf (fun q => by cases q) rfl (gb_nz hv) (gb_fz hv) hd ho kk
/-- a final reference, in the constructor -/
def tr_ (τ : TT) (a k : Nat) (v : Option Nat) : TT := (τ.1, τ.2.1, τ.2.2.1, rs_ τ.2.2.2 a k v)
theorem gb_ent_nr {B : BT} {b a k : Nat} {v : Option Nat} (hb : b ≠ a) : gb_ent B (tr_ τ a k v) h b = gb_ent B τ h b := by
  have e0 : ∀ i, (tr_ τ a k v).2.2.2 b i = τ.2.2.2 b i := fun i => if_neg fun q => hb q.1
  unfold gb_ent gb_fl
  have e1 : gb_fv B (tr_ τ a k v) h b = gb_fv B τ h b := by
    funext i
    unfold gb_fv
    rw [e0 i]
    rfl
  rw [e1]
  simp only [e0]
  rfl
theorem G_putFR {idx ci k a x : Nat} {t : FieldType} (hf : gb_fld M.2.1 idx ci k t true) (hi : M.2.2.2.2.name = "<init>" ∧ (vwCl[ci]?).map (fun r => r.1) = some M.2.1) (hr : gb_isR t = true) (hd : decode M.1 pc = .ok (.putfield idx, 3)) (ho : ob_ τ a ci) (kk : G_ M d bc bs (pc + 3) ls st (tr_ τ a k (some x)) h Z) : G_ M d bc bs pc ls (.inr (some x) :: .inr (some a) :: st) τ h Z := by
  intro B p l e R s m args below meth c H locs cells slots cm sm la Q hC hR h1 h2 h3 h4 hL hE
  have hn : narrow t (.ref (gb_ad B x)) = .ref (gb_ad B x) := by cases t <;> first | rfl | (exact absurd hr (by decide))
  have hfit : fits t (.ref (gb_ad B x)) = true := by cases t <;> first | rfl | (exact absurd hr (by decide))
  refine gb_vput (v := .ref (gb_ad B x)) hC hR hf (fun _ => hi) hn hfit hd ho (fun H1 locs1 hP hD hS hz => ?_)
  obtain ⟨C, T, N, ty, ⟨c1, c2, c3, c4, c5, c6, c7, c8, c9⟩, f1, f2, f3, f4, f5⟩ := hf
  have e1 : (gb_w B τ h).set a (gb_ad B a, .inr (ci, (gb_fl B τ h a).set k (.ref (gb_ad B x)))) = gb_w B (tr_ τ a k (some x)) h := by
    refine gb_w_set ho.1 rfl ?_ (fun b hb => gb_ent_nr hb)
    rw [gb_ent_o (show (tr_ τ a k (some x)).2.1 a = ci from ho.2) c9]
    congr 2
    apply List.ext_getElem?
    intro j
    rw [List.getElem?_set]
    by_cases hj : k = j
    · subst hj
      have hl : k < gb_nsl (τ.2.1 a) := by rw [ho.2, c5]; exact f1
      have hR' : gb_isR (gb_ty (τ.2.1 a) k) = true := by rw [ho.2, c6, f3]; exact hr
      simp [gb_fl, hl, gb_fv, tr_, rs_, hR', va_rf]
    · rw [if_neg hj]
      by_cases hl : j < gb_nsl (τ.2.1 a)
      · simp [gb_fl, hl, gb_fv, tr_, rs_, Ne.symm hj]
      · simp [gb_fl, hl, tr_]
  rw [e1] at hP hD
  exact kk B p l e R s m args below meth c H1 locs1 cells slots cm sm la Q hC ⟨⟨hP, hD, hz.trans hR.1.2.2.1, hR.1.2.2.2⟩, hS⟩ h1 h2 h3 h4 hL hE
theorem gb_tys_at {B : BT} : (gb_tys B)[0]? = some (B.2.2.1 13, .int) := rfl
theorem G_iald {a n : Nat} {i v : Int} (hd : decode M.1 pc = .ok (.iaload, 1)) (ho : ar_ τ a 13 n) (hi : 0 ≤ i ∧ i < n) (hv : h a i.toNat = v) (kk : G_ M d bc bs (pc + 1) ls (.inl v :: st) τ h Z) : G_ M d bc bs pc ls (.inl i :: .inr (some a) :: st) τ h Z := by
  intro B p l e R s m args below meth c H locs cells slots cm sm la Q hC hR h1 h2 h3 h4 hL hE
  subst hv
  have he : (gb_w B τ h)[a]? = some (gb_ad B a, .inl (B.2.2.1 13, n, .inl (fun i => Int32.ofInt (h a i)))) := by rw [gb_w_get ho.1, gb_ent_i ho.2.1 (by decide) (by decide), ho.2.2.1]
  refine va_iald hC.1 hC.2.1 hC.2.2.2.2.2.2.2.1.1 hR.1.1 a 0 he rfl (gb_in hi.1 hi.2 ho.2.2.2) hd ?_
  rw [gb_nat hi.1 hi.2 ho.2.2.2]
  exact kk B p l e R s m args below meth c H locs cells slots cm sm la Q hC hR h1 h2 h3 h4 hL hE
theorem gb_arrw {B : BT} {a n ci i : Nat} {v : Int} (ho : ar_ τ a ci n) (hc : ¬ ci < 13) (hd : ci < 15) : (gb_w B τ h).set a (gb_ad B a, .inl (B.2.2.1 ci, n, .inl (upd (fun i => Int32.ofInt (h a i)) i (Int32.ofInt v)))) = gb_w B τ (hs_ h a i v) := by
  refine gb_w_set ho.1 rfl ?_ (fun b hb => gb_ent_ne fun i => hs_na hb)
  rw [gb_ent_i ho.2.1 hc hd, ho.2.2.1]
  congr 4
  funext j
  by_cases hj : j = i
  · subst hj
    rw [hs_eq, upd, if_pos rfl]
  · rw [hs_ni hj, upd, if_neg hj]
theorem G_iast {a n : Nat} {i v : Int} (hd : decode M.1 pc = .ok (.iastore, 1)) (ho : ar_ τ a 13 n) (hi : 0 ≤ i ∧ i < n) (kk : G_ M d bc bs (pc + 1) ls st τ (hs_ h a i.toNat v) Z) : G_ M d bc bs pc ls (.inl v :: .inl i :: .inr (some a) :: st) τ h Z := by
  intro B p l e R s m args below meth c H locs cells slots cm sm la Q hC hR h1 h2 h3 h4 hL hE
  have he : (gb_w B τ h)[a]? = some (gb_ad B a, .inl (B.2.2.1 13, n, .inl (fun i => Int32.ofInt (h a i)))) := by rw [gb_w_get ho.1, gb_ent_i ho.2.1 (by decide) (by decide), ho.2.2.1]
  obtain ⟨⟨hP, hD, hz0, hz1⟩, hS⟩ := hR
  have hK := hC.2.2.2.2.2.2.2.1.1
  have hin : vp_in (Int32.ofInt i) n := gb_in hi.1 hi.2 ho.2.2.2
  refine W.iast hC.1 hC.2.1 (hP a _ he) ((hK.2 0 _ (gb_tys_at (B := B))).1 n (fun j => .int (Int32.ofInt (h a j)))) (fun q => by cases q) (by show ¬ (_ < 0 ∨ (arrV _ _ _).slots.size ≤ _); rw [arrV_size]; exact hin) rfl rfl hd fun H1 e9 z oq => ?_
  have hP1 : va_P B.2.1 vwCl ((gb_w B τ h).set a (gb_ad B a, .inl (B.2.2.1 13, n, .inl (upd (fun i => Int32.ofInt (h a i)) i.toNat (Int32.ofInt v))))) H1 := by
    refine hP.set hD he ?_ oq
    show H1[gb_ad B a]? = some (vp_cell _ _)
    rw [e9, vp_cell_i, vp_cell_i, arrV_store, gb_nat hi.1 hi.2 ho.2.2.2]
    congr 2
    funext q
    by_cases hq : q = i.toNat
    · subst hq
      simp [updV, upd]
    · simp [updV, upd, hq]
  have hD1 := hD.set (e := .inl (B.2.2.1 13, n, .inl (upd (fun i => Int32.ofInt (h a i)) i.toNat (Int32.ofInt v)))) he
  rw [gb_arrw ho (by decide) (by decide)] at hP1 hD1
  exact kk B p l e R s m args below meth c H1 _ cells slots cm sm la Q hC ⟨⟨hP1, hD1, z.trans hz0, hz1⟩, hS.put z oq (hD.2 a _ he)⟩ h1 h2 h3 h4 hL hE
theorem G_zald {a n : Nat} {i v : Int} (hd : decode M.1 pc = .ok (.baload, 1)) (ho : ar_ τ a 14 n) (hi : 0 ≤ i ∧ i < n) (hv : h a i.toNat = v) (kk : G_ M d bc bs (pc + 1) ls (.inl v :: st) τ h Z) : G_ M d bc bs pc ls (.inl i :: .inr (some a) :: st) τ h Z := by
  intro B p l e R s m args below meth c H locs cells slots cm sm la Q hC hR h1 h2 h3 h4 hL hE
  subst hv
  have he : (gb_w B τ h)[a]? = some (gb_ad B a, .inl (B.2.2.1 14, n, .inl (fun i => Int32.ofInt (h a i)))) := by rw [gb_w_get ho.1, gb_ent_i ho.2.1 (by decide) (by decide), ho.2.2.1]
  refine va_zald hC.1 hC.2.1 hC.2.2.2.2.2.2.2.1.1 hR.1.1 a 1 he rfl (gb_in hi.1 hi.2 ho.2.2.2) hd ?_
  rw [gb_nat hi.1 hi.2 ho.2.2.2]
  exact kk B p l e R s m args below meth c H locs cells slots cm sm la Q hC hR h1 h2 h3 h4 hL hE
theorem G_zast {a n : Nat} {i v : Int} (hd : decode M.1 pc = .ok (.bastore, 1)) (ho : ar_ τ a 14 n) (hi : 0 ≤ i ∧ i < n) (hv : v = 0 ∨ v = 1) (kk : G_ M d bc bs (pc + 1) ls st τ (hs_ h a i.toNat v) Z) : G_ M d bc bs pc ls (.inl v :: .inl i :: .inr (some a) :: st) τ h Z := by
  intro B p l e R s m args below meth c H locs cells slots cm sm la Q hC hR h1 h2 h3 h4 hL hE
  have he : (gb_w B τ h)[a]? = some (gb_ad B a, .inl (B.2.2.1 14, n, .inl (fun i => Int32.ofInt (h a i)))) := by rw [gb_w_get ho.1, gb_ent_i ho.2.1 (by decide) (by decide), ho.2.2.1]
  obtain ⟨⟨hP, hD, hz0, hz1⟩, hS⟩ := hR
  have hK := hC.2.2.2.2.2.2.2.1.1
  have hin : vp_in (Int32.ofInt i) n := gb_in hi.1 hi.2 ho.2.2.2
  refine W.zast hC.1 hC.2.1 (hP a _ he) ((hK.2 1 (B.2.2.1 14, .boolean) rfl).1 n (fun j => .int (Int32.ofInt (h a j)))) (fun q => by cases q) (by show ¬ (_ < 0 ∨ (arrV _ _ _).slots.size ≤ _); rw [arrV_size]; exact hin) rfl rfl hd fun H1 e9 z oq => ?_
  have hP1 : va_P B.2.1 vwCl ((gb_w B τ h).set a (gb_ad B a, .inl (B.2.2.1 14, n, .inl (upd (fun i => Int32.ofInt (h a i)) i.toNat (Int32.ofInt v))))) H1 := by
    refine hP.set hD he ?_ oq
    show H1[gb_ad B a]? = some (vp_cell _ _)
    rw [e9, vp_cell_i, vp_cell_i, arrV_store, gb_nat hi.1 hi.2 ho.2.2.2]
    congr 2
    funext q
    by_cases hq : q = i.toNat
    · subst hq
      rcases hv with rfl | rfl
      · simp [updV, upd]; rfl
      · simp [updV, upd]; rfl
    · simp [updV, upd, hq]
  have hD1 := hD.set (e := .inl (B.2.2.1 14, n, .inl (upd (fun i => Int32.ofInt (h a i)) i.toNat (Int32.ofInt v)))) he
  rw [gb_arrw ho (by decide) (by decide)] at hP1 hD1
  exact kk B p l e R s m args below meth c H1 _ cells slots cm sm la Q hC ⟨⟨hP1, hD1, z.trans hz0, hz1⟩, hS.put z oq (hD.2 a _ he)⟩ h1 h2 h3 h4 hL hE
theorem G_aald {a n ci : Nat} {i : Int} {v : Option Nat} (hc : ci = 15 ∨ ci = 16 ∨ ci = 17) (hd : decode M.1 pc = .ok (.aaload, 1)) (ho : ar_ τ a ci n) (hi : 0 ≤ i ∧ i < n) (hv : τ.2.2.2 a i.toNat = v) (kk : G_ M d bc bs (pc + 1) ls (.inr v :: st) τ h Z) : G_ M d bc bs pc ls (.inl i :: .inr (some a) :: st) τ h Z := by
  intro B p l e R s m args below meth c H locs cells slots cm sm la Q hC hR h1 h2 h3 h4 hL hE
  subst hv
  have he : (gb_w B τ h)[a]? = some (gb_ad B a, .inl (B.2.2.1 ci, n, .inr (.inr (.inr (.inr (fun i => (τ.2.2.2 a i).map (gb_ad B))))))) := by rw [gb_w_get ho.1, gb_ent_r ho.2.1 (by omega), ho.2.2.1]
  have hw := kk B p l e R s m args below meth c H locs cells slots cm sm la Q hC hR h1 h2 h3 h4 hL hE
  rcases hc with rfl | rfl | rfl
  · refine va_aldq hC.1 hC.2.1 hC.2.2.2.2.2.2.2.1.1 hR.1.1 a 2 he rfl (gb_in hi.1 hi.2 ho.2.2.2) hd ?_
    rw [gb_nat hi.1 hi.2 ho.2.2.2]
    exact hw
  · refine va_aldq hC.1 hC.2.1 hC.2.2.2.2.2.2.2.1.1 hR.1.1 a 3 he rfl (gb_in hi.1 hi.2 ho.2.2.2) hd ?_
    rw [gb_nat hi.1 hi.2 ho.2.2.2]
    exact hw
  · refine va_aldq hC.1 hC.2.1 hC.2.2.2.2.2.2.2.1.1 hR.1.1 a 4 he rfl (gb_in hi.1 hi.2 ho.2.2.2) hd ?_
    rw [gb_nat hi.1 hi.2 ho.2.2.2]
    exact hw
theorem G_aast {a n ci co x : Nat} {i : Int} {r : vw_C} (hc : (ci = 15 ∧ r.1 = "MaypoleGreen$Person") ∨ (ci = 16 ∧ r.1 = "MaypoleGreen$Steps") ∨ (ci = 17 ∧ r.1 = "MaypoleGreen$Tape")) (hr : vwCl[co]? = some r) (hd : decode M.1 pc = .ok (.aastore, 1)) (ho : ar_ τ a ci n) (hx : ob_ τ x co) (hi : 0 ≤ i ∧ i < n) (kk : G_ M d bc bs (pc + 1) ls st (tr_ τ a i.toNat (some x)) h Z) : G_ M d bc bs pc ls (.inr (some x) :: .inl i :: .inr (some a) :: st) τ h Z := by
  intro B p l e R s m args below meth c H locs cells slots cm sm la Q hC hR h1 h2 h3 h4 hL hE
  have hd15 : ¬ ci < 15 := by omega
  have he : (gb_w B τ h)[a]? = some (gb_ad B a, .inl (B.2.2.1 ci, n, .inr (.inr (.inr (.inr (fun i => (τ.2.2.2 a i).map (gb_ad B))))))) := by rw [gb_w_get ho.1, gb_ent_r ho.2.1 hd15, ho.2.2.1]
  have hv : (gb_w B τ h)[x]? = some (gb_ad B x, .inr (co, gb_fl B τ h x)) := by rw [gb_w_get hx.1, gb_ent_o hx.2 (gb_vcl hr)]
  obtain ⟨⟨hP, hD, hz0, hz1⟩, hS⟩ := hR
  have hK := hC.2.2.2.2.2.2.2.1.1
  have hin : vp_in (Int32.ofInt i) n := gb_in hi.1 hi.2 ho.2.2.2
  have ht : ∃ t0 : Nat, (gb_tys B)[t0]? = some (B.2.2.1 ci, .object r.1) := by
    rcases hc with ⟨rfl, e2⟩ | ⟨rfl, e2⟩ | ⟨rfl, e2⟩
    · exact ⟨2, by rw [e2]; rfl⟩
    · exact ⟨3, by rw [e2]; rfl⟩
    · exact ⟨4, by rw [e2]; rfl⟩
  obtain ⟨t0, ht⟩ := ht
  have hlt : (Int32.ofInt i).toNatClampNeg < n := Nat.not_le.mp fun q => hin (Or.inr q)
  have h0 : ¬ Int32.ofInt i < 0 := fun q => hin (Or.inl q)
  obtain ⟨r', hr', cellV, g1, g2, g3, -⟩ := hP x _ hv
  have hcls := (hK.1 co r hr).2
  obtain ⟨kA, comp, k1, k2, k3, -⟩ := (hK.2 t0 _ ht).2
  have hcomp : comp = B.2.1.1 co := Option.some.inj (k3.symm.trans hcls.1)
  subst hcomp
  obtain ⟨kC, hkC, -⟩ := hcls.2
  refine W.aast hC.1 hC.2.1 (hP a _ he) (fun q h => by cases h) (fun h => by cases h) k1 k2 rfl hkC ⟨h0, by show _ < (arrV _ _ _).slots.size; rw [arrV_size]; exact hlt⟩ g1 (fun q h => by rw [g3] at h; cases h) (by rw [g2]; exact hkC) (by rw [g2]; exact va_assign hcls) rfl rfl hd fun H1 e9 z oq => ?_
  have e1 : (gb_w B τ h).set a (gb_ad B a, .inl (B.2.2.1 ci, n, .inr (.inr (.inr (.inr (va_up (fun i => (τ.2.2.2 a i).map (gb_ad B)) i.toNat (some (gb_ad B x)))))))) = gb_w B (tr_ τ a i.toNat (some x)) h := by
    refine gb_w_set ho.1 rfl ?_ (fun b hb => gb_ent_nr hb)
    rw [gb_ent_r (show (tr_ τ a i.toNat (some x)).2.1 a = ci from ho.2.1) hd15]
    show _ = Sum.inl (_, n, _)
    rw [show (tr_ τ a i.toNat (some x)).2.2.1 a = n from ho.2.2.1]
    congr 7
    funext j
    by_cases hj : j = i.toNat
    · subst hj
      simp [tr_, rs_, va_up]
    · simp [tr_, rs_, va_up, hj]
  have hP1 : va_P B.2.1 vwCl ((gb_w B τ h).set a (gb_ad B a, .inl (B.2.2.1 ci, n, .inr (.inr (.inr (.inr (va_up (fun i => (τ.2.2.2 a i).map (gb_ad B)) i.toNat (some (gb_ad B x))))))))) H1 := by
    refine hP.set hD he ?_ oq
    show H1[gb_ad B a]? = some (vp_cell _ _)
    rw [e9, vp_cell_q, vp_cell_q, arrV_store, gb_nat hi.1 hi.2 ho.2.2.2]
    congr 2
    funext q
    by_cases hq : q = i.toNat
    · subst hq
      simp [updV, va_up, va_rf]
    · simp [updV, va_up, hq]
  have hD1 := hD.set (e := .inl (B.2.2.1 ci, n, .inr (.inr (.inr (.inr (va_up (fun i => (τ.2.2.2 a i).map (gb_ad B)) i.toNat (some (gb_ad B x)))))))) he
  rw [e1] at hP1 hD1
  exact kk B p l e R s m args below meth c H1 _ cells slots cm sm la Q hC ⟨⟨hP1, hD1, z.trans hz0, hz1⟩, hS.put z oq (hD.2 a _ he)⟩ h1 h2 h3 h4 hL hE
theorem G_alen {a n ci : Nat} (hc : ci = 13 ∨ ci = 14) (hd : decode M.1 pc = .ok (.arraylength, 1)) (ho : ar_ τ a ci n) (kk : G_ M d bc bs (pc + 1) ls (.inl n :: st) τ h Z) : G_ M d bc bs pc ls (.inr (some a) :: st) τ h Z := by
  intro B p l e R s m args below meth c H locs cells slots cm sm la Q hC hR h1 h2 h3 h4 hL hE
  have hw := kk B p l e R s m args below meth c H locs cells slots cm sm la Q hC hR h1 h2 h3 h4 hL hE
  have he : (gb_w B τ h)[a]? = some (gb_ad B a, .inl (B.2.2.1 ci, n, .inl (fun i => Int32.ofInt (h a i)))) := by rw [gb_w_get ho.1, gb_ent_i ho.2.1 (by omega) (by omega), ho.2.2.1]
  rcases hc with rfl | rfl
  · exact va_alen hC.1 hC.2.1 hC.2.2.2.2.2.2.2.1.1 hR.1.1 a 0 he rfl rfl hd hw
  · exact va_alen hC.1 hC.2.1 hC.2.2.2.2.2.2.2.1.1 hR.1.1 a 1 he rfl rfl hd hw
/-- the statics: BODIES is cell 1000000, KIND_ABOVE cell 1000001 -/
theorem G_getsB {idx : Nat} (hf : (M.2.1, idx, "MaypoleGreen", "BODIES", "[I", "MaypoleGreen") ∈ gb_NF) (hd : decode M.1 pc = .ok (.getstatic idx, 3)) (kk : G_ M d bc bs (pc + 3) ls (.inr (some 1000000) :: st) τ h Z) : G_ M d bc bs pc ls st τ h Z := by
  intro B p l e R s m args below meth c H locs cells slots cm sm la Q hC hR h1 h2 h3 h4 hL hE
  exact va_getsN hC.1 hC.2.1 hC.2.2.2.2.2.2.2.1.2.2.2.2.1.1 hR.2 hC.2.2.2.1 (va_Nw.use rfl (hC.2.2.2.2.2.2.2.1.2.2.1 _ hf)) (fun x hx => hx) hd (kk B p l e R s m args below meth c H locs cells slots cm sm la Q hC hR h1 h2 h3 h4 hL hE)
theorem G_getsK {idx : Nat} (hf : (M.2.1, idx, "MaypoleGreen", "KIND_ABOVE", "[I", "MaypoleGreen") ∈ gb_NF) (hd : decode M.1 pc = .ok (.getstatic idx, 3)) (kk : G_ M d bc bs (pc + 3) ls (.inr (some 1000001) :: st) τ h Z) : G_ M d bc bs pc ls st τ h Z := by
  intro B p l e R s m args below meth c H locs cells slots cm sm la Q hC hR h1 h2 h3 h4 hL hE
  exact va_getsN hC.1 hC.2.1 hC.2.2.2.2.2.2.2.1.2.2.2.2.2.1 hR.2 hC.2.2.2.1 (va_Nw.use rfl (hC.2.2.2.2.2.2.2.1.2.2.1 _ hf)) (fun x hx => hx) hd (kk B p l e R s m args below meth c H locs cells slots cm sm la Q hC hR h1 h2 h3 h4 hL hE)
theorem G_ialdB {i : Int} (hd : decode M.1 pc = .ok (.iaload, 1)) (hi : 0 ≤ i ∧ i < 15) (kk : G_ M d bc bs (pc + 1) ls (.inl (gb_BO.getD i.toNat 0) :: st) τ h Z) : G_ M d bc bs pc ls (.inl i :: .inr (some 1000000) :: st) τ h Z := by
  intro B p l e R s m args below meth c H locs cells slots cm sm la Q hC hR h1 h2 h3 h4 hL hE
  obtain ⟨-, hX, hlt⟩ := hC.2.2.2.2.2.2.2.1.2.2.2.2.1
  refine va_sld hC.1 hC.2.1 hX (Nat.lt_of_lt_of_le hlt hC.2.2.2.2.2.2.2.2.1) (Nat.not_le.mpr hlt) hR.2 (gb_in hi.1 hi.2 (by decide)) hd ?_
  rw [gb_nat hi.1 hi.2 (by decide)]
  exact kk B p l e R s m args below meth c H locs cells slots cm sm la Q hC hR h1 h2 h3 h4 hL hE
theorem G_ialdK {i : Int} (hd : decode M.1 pc = .ok (.iaload, 1)) (hi : 0 ≤ i ∧ i < 5) (kk : G_ M d bc bs (pc + 1) ls (.inl (gb_KA.getD i.toNat 0) :: st) τ h Z) : G_ M d bc bs pc ls (.inl i :: .inr (some 1000001) :: st) τ h Z := by
  intro B p l e R s m args below meth c H locs cells slots cm sm la Q hC hR h1 h2 h3 h4 hL hE
  obtain ⟨-, hX, hlt⟩ := hC.2.2.2.2.2.2.2.1.2.2.2.2.2
  refine va_sld hC.1 hC.2.1 hX (Nat.lt_of_lt_of_le hlt hC.2.2.2.2.2.2.2.2.1) (Nat.not_le.mpr hlt) hR.2 (gb_in hi.1 hi.2 (by decide)) hd ?_
  rw [gb_nat hi.1 hi.2 (by decide)]
  exact kk B p l e R s m args below meth c H locs cells slots cm sm la Q hC hR h1 h2 h3 h4 hL hE
end GH
end
section
/-! rows of the judgement: ends, calls, what is made -/
theorem gb_good {w : Cond} (h : w ∈ gb_LW) : w ∈ gb_LW ∧ ((w.onTables && w.keeps) = true ∨ ∃ ty, w = .arrayClass ty) := ⟨h, good_of_word (List.mem_filter.mp h).2⟩
theorem gb_GI {M : MT} (h : Cond.code M.2.2.2.2 M.1 M.2.2.1 M.2.2.2.1 ∈ gb_LW) : GoodIn gb_LW (gb_ws M) := fun w hw => (List.mem_cons.mp hw).elim (fun e => by rw [e]; exact gb_good h) gb_good
abbrev gb_hd (y : MethodName) (n : Nat) : Prop := y.cls ≠ "java/lang/invoke/MethodHandle" ∧ y.cls ≠ "java/lang/invoke/VarHandle" ∧ (parseMethodDescriptor y.desc).map (fun d => d.parameters.length) = some n
/-- a call of an instance method, of a static one, of a constructor; the same within the nest -/
def gb_cb (M' : MT) (n : Nat) : Prop := Cond.initialized M'.2.2.2.2.cls ∈ gb_LW ∧ Cond.code M'.2.2.2.2 M'.1 M'.2.2.1 M'.2.2.2.1 ∈ gb_LW ∧ gb_hd M'.2.2.2.2 n ∧ M'.2.2.1 ≤ 40
def gb_cv (own : String) (idx : Nat) (M' : MT) (ci n : Nat) : Prop := gb_cb M' n ∧ Cond.methodLink own idx M'.2.2.2.2 ∈ gb_LW ∧ Cond.instanceMethod M'.2.2.2.2 ∈ gb_LW ∧ Cond.selects M'.2.2.2.2.cls M'.2.2.2.2 M'.2.2.2.2 ∈ gb_LW ∧ ci < 13 ∧ (vwCl[ci]?).map (fun r => r.1) = some M'.2.2.2.2.cls
def gb_cs (own : String) (idx : Nat) (M' : MT) (n : Nat) : Prop := gb_cb M' n ∧ Cond.methodLink own idx M'.2.2.2.2 ∈ gb_LW ∧ Cond.static M'.2.2.2.2 ∈ gb_LW
def gb_csn (own : String) (idx : Nat) (M' : MT) (n : Nat) (host : String) : Prop := gb_cb M' n ∧ (own, idx, M'.2.2.2.2, host) ∈ gb_NM ∧ Cond.static M'.2.2.2.2 ∈ gb_LW
def gb_ci (own : String) (idx : Nat) (M' : MT) (n : Nat) : Prop := gb_cb M' n ∧ Cond.methodLink own idx M'.2.2.2.2 ∈ gb_LW ∧ Cond.instanceMethod M'.2.2.2.2 ∈ gb_LW ∧ M'.2.2.2.2.name = "<init>" ∧ M'.2.2.2.1 = none
def gb_cin (own : String) (idx : Nat) (M' : MT) (n : Nat) (host : String) : Prop := gb_cb M' n ∧ (own, idx, M'.2.2.2.2, host) ∈ gb_NM ∧ Cond.instanceMethod M'.2.2.2.2 ∈ gb_LW ∧ M'.2.2.2.2.name = "<init>" ∧ M'.2.2.2.1 = none
section GC
variable {M : MT} {d bc bs pc : Nat} {ls : List (Option AV)} {st : List AV} {τ : TT} {h : HT} {Z : ZT}
theorem G_vret (hm : M.2.2.2.1 = none) (hd : decode M.1 pc = .ok (.return_, 1)) (hz : Z none τ h) : G_ M d bc bs pc ls [] τ h Z := by
  intro B p l e R s m args below meth c H locs cells slots cm sm la Q hC hR h1 h2 h3 h4 hL hE
  exact hE none τ h H locs cells slots pc la hz hR (by omega) (by omega) (by simp only [gb_rt, hm]; exact ⟨hd, trivial⟩)
theorem G_iret {v : Int} (hm : M.2.2.2.1 = some .int) (hd : decode M.1 pc = .ok (.ireturn, 1)) (hz : Z (some (.inl v)) τ h) : G_ M d bc bs pc ls [.inl v] τ h Z := by
  intro B p l e R s m args below meth c H locs cells slots cm sm la Q hC hR h1 h2 h3 h4 hL hE
  exact hE (some (.inl v)) τ h H locs cells slots pc la hz hR (by omega) (by omega) (by simp only [gb_rt, hm]; exact ⟨hd, v, rfl, rfl⟩)
theorem G_zret {v : Int} (hm : M.2.2.2.1 = some .boolean) (hv : v = 0 ∨ v = 1) (hd : decode M.1 pc = .ok (.ireturn, 1)) (hz : Z (some (.inl v)) τ h) : G_ M d bc bs pc ls [.inl v] τ h Z := by
  intro B p l e R s m args below meth c H locs cells slots cm sm la Q hC hR h1 h2 h3 h4 hL hE
  exact hE (some (.inl v)) τ h H locs cells slots pc la hz hR (by omega) (by omega) (by simp only [gb_rt, hm]; exact ⟨hd, v, rfl, gb_nz hv⟩)
theorem G_aret {v : Option Nat} {C : String} (hm : M.2.2.2.1 = some (.object C)) (hd : decode M.1 pc = .ok (.areturn, 1)) (hz : Z (some (.inr v)) τ h) : G_ M d bc bs pc ls [.inr v] τ h Z := by
  intro B p l e R s m args below meth c H locs cells slots cm sm la Q hC hR h1 h2 h3 h4 hL hE
  exact hE (some (.inr v)) τ h H locs cells slots pc la hz hR (by omega) (by omega) (by simp only [gb_rt, hm]; exact ⟨hd, v, rfl⟩)
theorem gb_tv_o (B : BT) (x : Option Nat) : gb_tv B (.inr x) = .null ∨ ∃ a, gb_tv B (.inr x) = .ref a := by
  cases x with
  | none => exact Or.inl rfl
  | some a => exact Or.inr ⟨_, rfl⟩
theorem gb_lgsl (B : BT) (as : List AV) : (lg_sl (as.map (gb_tv B))).length = as.length := by
  induction as with
  | nil => rfl
  | cons a t ih =>
    have hc := gb_cat B a
    have e : lg_sl ((a :: t).map (gb_tv B)) = (if (gb_tv B a).category = 2 then [Slot.val (gb_tv B a), Slot.second] else [Slot.val (gb_tv B a)]) ++ lg_sl (t.map (gb_tv B)) := by
      first | rfl | simp [lg_sl]
    rw [e, List.length_append, ih, if_neg (by rw [hc]; decide)]
    simp
    omega
theorem gb_args (B : BT) : ∀ (as : List AV) (n i : Nat) (v : AV), as[i]? = some v → (n + i, gb_tv B v) ∈ lv_args n (as.map (gb_tv B))
  | [], n, i, v, h => by simp at h
  | a :: t, n, 0, v, h => by
    simp at h
    subst h
    simp [lv_args]
  | a :: t, n, i + 1, v, h => by
    have := gb_args B t (n + 1) i v (by simpa using h)
    simp only [List.map_cons, lv_args, gb_cat]
    refine List.mem_cons_of_mem _ ?_
    rw [show n + (i + 1) = n + 1 + i by omega]
    exact this
/-- a contract out of a walk -/
theorem S_ofG {as : List AV} (hy : plainName M.2.2.2.2.cls = true) (hown : M.2.2.2.2.cls = M.2.1) (hn : as.length ≤ M.2.2.1) (g : G_ M d bc bs 0 (as.map some) [] τ h Z) : S_ M d bc bs as τ h Z := by
  intro l B
  refine Met.ofW (cc := M.1) (maxL := M.2.2.1) (ret := M.2.2.2.1) hy rfl ?_
  intro p e s m args below meth c s₁ BB hml hv
  obtain ⟨rfl, hRU, hSF, hbz⟩ := hv
  have hts := atoms_spec (ws := gb_ws M) BB.pre
  have hfc : s.vm.findClass M.2.2.2.2.cls = some m.cls := findClass_of_methodNamed BB.named
  have hnm : meth.name = M.2.2.2.2.name := (name_of_methodNamed BB.named BB.method).1
  have hr := BB.returns
  have hlocks := BB.notSynchronized
  have hle : (lg_sl (as.map (gb_tv B))).length ≤ M.2.2.1 := by rw [gb_lgsl]; exact hn
  have hl := lv_entry (as.map (gb_tv B)) (n := M.2.2.1) hle
  rw [lg_entry_eq]
  generalize (lg_sl (as.map (gb_tv B)) ++ List.replicate (M.2.2.1 - (lg_sl (as.map (gb_tv B))).length) Slot.unset).toArray = la at hl ⊢
  have hC : gb_CX M d B p (headSpec (gb_ws M) (gb_rm d bc bs)).room s m (as.map (gb_tv B)).toArray meth c :=
    ⟨BB.exec, BB.bytes, hml, by rw [← hown]; exact hfc, fun w hw => hts w (List.mem_cons_of_mem _ hw), Nat.le_refl _, Nat.le_refl _, hSF, hbz, hnm⟩
  have hL : gb_LR B M.2.2.1 (as.map some) la := by
    refine ⟨⟨hl.1, hl.2.1, fun q hq => by cases hq⟩, fun i v hi => ?_⟩
    rw [List.getElem?_map] at hi
    cases hq : as[i]? with
    | none => rw [hq] at hi; cases hi
    | some w =>
      rw [hq] at hi
      cases hi
      have := hl.2.2 _ (gb_args B as 0 i v hq)
      rwa [Nat.zero_add] at this
  refine g B p l e _ s m _ below meth c s.heap [] 0 0 bc bs la _ hC ⟨hRU, va_S.rf⟩ (by omega) (by omega) (Nat.le_refl _) (Nat.le_refl _) hL ?_
  intro r τ' h' H' locs' cells' slots' pc' la' hz hR' q1 q2 hrt
  refine W.widen (k := bc) (n := bs) q1 q2 ?_
  have hq : ∀ t : State, t.heap = H' → s.WarmedH t.vm → gb_Q B Z (as.map (gb_tv B)).toArray s (.returned (r.map (gb_tv B))) t := fun t ht hW => ⟨⟨r, τ', h', rfl, hz, by rw [ht]; exact hR'.1⟩, hR'.2.F ht⟩
  unfold gb_rt at hrt
  split at hrt
  · rename_i hm
    obtain ⟨hd, rfl⟩ := hrt
    exact W.vret BB.exec BB.bytes (by rw [hr, hm]) hq hR'.2.2.2 hd
  · rename_i ty hm
    split at hrt
    · rename_i hR2
      obtain ⟨hd, x, rfl⟩ := hrt
      refine W.aret BB.exec BB.bytes (by rw [hr, hm]) ?_ (gb_tv_o B x) hq hR'.2.2.2 hd
      cases ty <;> first | exact Or.inl ⟨_, rfl⟩ | exact Or.inr ⟨_, rfl⟩ | exact absurd hR2 (by decide)
    · obtain ⟨hd, x, rfl, hnn⟩ := hrt
      exact W.zret BB.exec BB.bytes (by rw [hr, hm]) hnn hq hR'.2.2.2 hd
theorem gb_back {B : BT} {p : Program} {l : Launch} {e : Env} {R : Room} {s : State} {m : MethodId} {args : Array Value} {below : List Frame} {meth : Method} {c : Code} {H : Heap} {locs : List Loc} {cells slots mc ms : Nat} {Q : State → Prop} {la : Array Slot} {st0 rest : List Value} {Z' : ZT} {a : Array Value} (hr : va_Run p l e R s m args below meth c H locs cells slots mc ms (F0 m pc la st0) rest (gb_Q B Z' a) (gb_A B)) (hS : va_S (gb_A B) s.heap H locs)
    (kk : ∀ (r : Option AV) (τ' : TT) (h' : HT) (H1 : Heap) (locs1 : List Loc), Z' r τ' h' → gb_RP B τ' h' s H1 locs1 → W p l e R s m args below meth c H1 locs1 (cells + mc) (slots + ms) Q (F0 m (pc + 3) la ((r.map (gb_tv B)).toList ++ rest))) : W p l e R s m args below meth c H locs cells slots Q (F0 m pc la st0) := by
  intro T hT X
  obtain ⟨v, st₀, t, T', L, h0, X', hL, e1, e2, ⟨⟨r, τ', h', hv, hz, hu⟩, hz1, hk⟩, stp⟩ := hr T hT X
  cases hv
  rw [h0] at hz1 hk
  obtain ⟨t2, a1, b1⟩ := kk r τ' h' T'.heap (locs ++ L) hz ⟨by rw [e1]; exact hu, ⟨Nat.le_trans hS.1 (by rw [e1]; exact hz1), fun q g1 g2 => by rw [e1, hk q (Nat.lt_of_lt_of_le g1 hS.1) g2]; exact hS.2.1 q g1 g2, fun q hq => by
      rcases List.mem_append.mp hq with h | h
      · exact hS.2.2 q h
      · exact hL q h⟩⟩ T' rfl X'
  exact ⟨t2, stp t2 a1, b1⟩
theorem gb_pre {B : BT} {p : Program} {R : Room} {s : State} {m : MethodId} {args : Array Value} {meth : Method} {c : Code} {H : Heap} {locs : List Loc} {as : List AV} (hC : gb_CX M d B p R s m args meth c) (hR : gb_RP B τ h s H locs) (U : State) (hU : U.heap = H) (hW : s.WarmedH U.vm) : gb_P B as τ h (as.map (gb_tv B)).toArray U := by
  refine ⟨rfl, by rw [hU]; exact hR.1, ?_, ?_⟩
  · rw [hU]
    exact hC.2.2.2.2.2.2.2.1.moved hW hC.2.2.2.2.2.2.2.2.1 hR.2.2.1
  · rw [hU]
    exact Nat.le_trans hC.2.2.2.2.2.2.2.2.1 hR.2.1
theorem gb_lw {pc0 : Nat} {B : BT} {m : MethodId} {la : Array Slot} {s0 : List Value} {st : List AV} (hl : st.length ≤ 8) : 2 * (F0 m pc0 la s0).monitorRoom + ((st.map (gb_tv B)).map fun v => v.category).sum ≤ 8 := lv_room (m := m) (pc := pc0) (ls := la) (rest := s0) (by rw [gb_cats]; exact hl)
theorem G_callV {M' : MT} {idx ci n a bc' bs' : Nat} {as st0 : List AV} {Z' : ZT} (hc : gb_cv M.2.1 idx M' ci n) (hs : S_ M' d bc' bs' (.inr (some a) :: as) τ h Z') (hst : as.reverse ++ .inr (some a) :: st = st0) (hn : as.length = n) (hl : st.length ≤ 8) (ho : ob_ τ a ci) (hd : decode M.1 pc = .ok (.invokevirtual idx, 3)) (kk : ∀ r τ' h', Z' r τ' h' → G_ M (d + 1) bc bs (pc + 3) ls (r.toList ++ st) τ' h' Z) : G_ M (d + 1) (bc' + bc) (bs' + bs) pc ls st0 τ h Z := by
  intro B p l e R s m args below meth c H locs cells slots cm sm la Q hC hR h1 h2 h3 h4 hL hE
  obtain ⟨⟨c1, c2, c3, c4⟩, c5, c6, c7, c8, c9⟩ := hc
  have hts := hC.2.2.2.2.1
  have he : (gb_w B τ h)[a]? = some (gb_ad B a, .inr (ci, gb_fl B τ h a)) := by rw [gb_w_get ho.1, gb_ent_o ho.2 c8]
  cases hq : vwCl[ci]? with
  | none => rw [hq] at c9; cases c9
  | some q =>
    rw [hq] at c9
    have hrv := va_recv hC.2.2.2.2.2.2.2.1.1 hR.1.1 hq he
    rw [show q.1 = M'.2.2.2.2.cls from Option.some.inj c9] at hrv
    have hfr := hC.2.2.2.2.2.1
    have hlo := hC.2.2.2.2.2.2.1
    have hCB : CallB R s args M.2.1 idx M'.2.2.2.2 M'.1 M'.2.2.1 M'.2.2.2.1 (gb_ws M') (gb_rm d bc' bs') bc' bs' n := callB_of n hts (gb_GI c2) rfl rfl rfl (hts _ c1) (hts _ c5) c3 ⟨hfr, by show 8 + (_ + 11) + 60 * d ≤ _; omega⟩
    refine gb_back (va_runV (n := n) (b := gb_ad B a) (As := as.map (gb_tv B)) (rest := st.map (gb_tv B)) (Pc := gb_P B (.inr (some a) :: as) τ h) (Qc := gb_Q B Z') (g := F0 m pc la (st0.map (gb_tv B))) ⟨hC.1, hC.2.1, hC.2.2.1, hC.2.2.2.1, hts⟩ (hs l B) ⟨hCB, hts _ c6, hts _ c7⟩ ⟨gb_FB, hrv, fun U hU hW => gb_pre (as := .inr (some a) :: as) hC hR U hU hW⟩ rfl (by rw [List.length_map]; exact hn) (by show la.size = _; exact hL.1.1) (by show st0.map (gb_tv B) = _; rw [← hst]; simp; rfl) (gb_lw hl) hd ⟨by omega, by omega⟩) hR.2 (fun r τ' h' H1 locs1 hz hR1 => ?_)
    have := kk r τ' h' hz B p l e R s m args below meth c H1 locs1 (cells + bc') (slots + bs') cm sm la Q hC hR1 (by omega) (by omega) h3 h4 hL hE
    rw [List.map_append] at this
    cases r <;> exact this
theorem G_callS {M' : MT} {idx n bc' bs' : Nat} {as st0 : List AV} {Z' : ZT} (hc : gb_cs M.2.1 idx M' n) (hs : S_ M' d bc' bs' as τ h Z') (hst : as.reverse ++ st = st0) (hn : as.length = n) (hl : st.length ≤ 8) (hd : decode M.1 pc = .ok (.invokestatic idx, 3)) (kk : ∀ r τ' h', Z' r τ' h' → G_ M (d + 1) bc bs (pc + 3) ls (r.toList ++ st) τ' h' Z) : G_ M (d + 1) (bc' + bc) (bs' + bs) pc ls st0 τ h Z := by
  intro B p l e R s m args below meth c H locs cells slots cm sm la Q hC hR h1 h2 h3 h4 hL hE
  obtain ⟨⟨c1, c2, c3, c4⟩, c5, c6⟩ := hc
  have hts := hC.2.2.2.2.1
  have hfr := hC.2.2.2.2.2.1
  have hlo := hC.2.2.2.2.2.2.1
  have hCB : CallB R s args M.2.1 idx M'.2.2.2.2 M'.1 M'.2.2.1 M'.2.2.2.1 (gb_ws M') (gb_rm d bc' bs') bc' bs' n := callB_of n hts (gb_GI c2) rfl rfl rfl (hts _ c1) (hts _ c5) c3 ⟨hfr, by show 8 + (_ + 11) + 60 * d ≤ _; omega⟩
  refine gb_back (va_runS (n := n) (As := as.map (gb_tv B)) (rest := st.map (gb_tv B)) (Pc := gb_P B as τ h) (Qc := gb_Q B Z') (g := F0 m pc la (st0.map (gb_tv B))) ⟨hC.1, hC.2.1, hC.2.2.1, hC.2.2.2.1, hts⟩ (hs l B) ⟨hCB, hts _ c6⟩ ⟨gb_FB, fun U hU hW => gb_pre hC hR U hU hW⟩ rfl (by rw [List.length_map]; exact hn) (by show la.size = _; exact hL.1.1) (by show st0.map (gb_tv B) = _; rw [← hst]; simp) (gb_lw hl) hd ⟨by omega, by omega⟩) hR.2 (fun r τ' h' H1 locs1 hz hR1 => ?_)
  have := kk r τ' h' hz B p l e R s m args below meth c H1 locs1 (cells + bc') (slots + bs') cm sm la Q hC hR1 (by omega) (by omega) h3 h4 hL hE
  rw [List.map_append] at this
  cases r <;> exact this
theorem G_callSN {M' : MT} {idx n bc' bs' : Nat} {host : String} {as st0 : List AV} {Z' : ZT} (hc : gb_csn M.2.1 idx M' n host) (hs : S_ M' d bc' bs' as τ h Z') (hst : as.reverse ++ st = st0) (hn : as.length = n) (hl : st.length ≤ 8) (hd : decode M.1 pc = .ok (.invokestatic idx, 3)) (kk : ∀ r τ' h', Z' r τ' h' → G_ M (d + 1) bc bs (pc + 3) ls (r.toList ++ st) τ' h' Z) : G_ M (d + 1) (bc' + bc) (bs' + bs) pc ls st0 τ h Z := by
  intro B p l e R s m args below meth c H locs cells slots cm sm la Q hC hR h1 h2 h3 h4 hL hE
  obtain ⟨⟨c1, c2, c3, c4⟩, c5, c6⟩ := hc
  have hts := hC.2.2.2.2.1
  have hfr := hC.2.2.2.2.2.1
  have hlo := hC.2.2.2.2.2.2.1
  have hCB : va_CN R s args M.2.1 idx M'.2.2.2.2 host M'.1 M'.2.2.1 M'.2.2.2.1 (gb_ws M') (gb_rm d bc' bs') bc' bs' n := va_cnB n hts (gb_GI c2) rfl rfl rfl (hC.2.2.2.2.2.2.2.1.2.1 _ c5) (hts _ c1) c3 ⟨hfr, by show 8 + (_ + 11) + 60 * d ≤ _; omega⟩
  refine gb_back (va_runSN (n := n) (As := as.map (gb_tv B)) (rest := st.map (gb_tv B)) (Pc := gb_P B as τ h) (Qc := gb_Q B Z') (g := F0 m pc la (st0.map (gb_tv B))) ⟨hC.1, hC.2.1, hC.2.2.1, hC.2.2.2.1, hts⟩ (hs l B) ⟨hCB, hts _ c6, trivial⟩ ⟨gb_FB, fun U hU hW => gb_pre hC hR U hU hW⟩ rfl (by rw [List.length_map]; exact hn) (by show la.size = _; exact hL.1.1) (by show st0.map (gb_tv B) = _; rw [← hst]; simp) (gb_lw hl) hd ⟨by omega, by omega⟩) hR.2 (fun r τ' h' H1 locs1 hz hR1 => ?_)
  have := kk r τ' h' hz B p l e R s m args below meth c H1 locs1 (cells + bc') (slots + bs') cm sm la Q hC hR1 (by omega) (by omega) h3 h4 hL hE
  rw [List.map_append] at this
  cases r <;> exact this
theorem G_callI {M' : MT} {idx n a bc' bs' : Nat} {as st0 : List AV} {Z' : ZT} (hc : gb_ci M.2.1 idx M' n) (hs : S_ M' d bc' bs' (.inr (some a) :: as) τ h Z') (hst : as.reverse ++ .inr (some a) :: st = st0) (hn : as.length = n) (hl : st.length ≤ 8) (hd : decode M.1 pc = .ok (.invokespecial idx, 3)) (kk : ∀ r τ' h', Z' r τ' h' → G_ M (d + 1) bc bs (pc + 3) ls (r.toList ++ st) τ' h' Z) : G_ M (d + 1) (bc' + bc) (bs' + bs) pc ls st0 τ h Z := by
  intro B p l e R s m args below meth c H locs cells slots cm sm la Q hC hR h1 h2 h3 h4 hL hE
  obtain ⟨⟨c1, c2, c3, c4⟩, c5, c6, c7, c8⟩ := hc
  have hts := hC.2.2.2.2.1
  have hfr := hC.2.2.2.2.2.1
  have hlo := hC.2.2.2.2.2.2.1
  have hCB : CallB R s args M.2.1 idx M'.2.2.2.2 M'.1 M'.2.2.1 M'.2.2.2.1 (gb_ws M') (gb_rm d bc' bs') bc' bs' n := callB_of n hts (gb_GI c2) rfl rfl rfl (hts _ c1) (hts _ c5) c3 ⟨hfr, by show 8 + (_ + 11) + 60 * d ≤ _; omega⟩
  rw [c8] at hCB
  refine gb_back (va_runI (n := n) (b := gb_ad B a) (As := as.map (gb_tv B)) (rest := st.map (gb_tv B)) (Pc := gb_P B (.inr (some a) :: as) τ h) (Qc := gb_Q B Z') (g := F0 m pc la (st0.map (gb_tv B))) ⟨hC.1, hC.2.1, hC.2.2.1, hC.2.2.2.1, hts⟩ (hs l B) ⟨hCB, c7, hts _ c6⟩ ⟨gb_FB, fun U hU hW => gb_pre (as := .inr (some a) :: as) hC hR U hU hW⟩ rfl (by rw [List.length_map]; exact hn) (by show la.size = _; exact hL.1.1) (by show st0.map (gb_tv B) = _; rw [← hst]; simp; rfl) (gb_lw hl) hd ⟨by omega, by omega⟩) hR.2 (fun r τ' h' H1 locs1 hz hR1 => ?_)
  have := kk r τ' h' hz B p l e R s m args below meth c H1 locs1 (cells + bc') (slots + bs') cm sm la Q hC hR1 (by omega) (by omega) h3 h4 hL hE
  rw [List.map_append] at this
  cases r <;> exact this
theorem G_callIN {M' : MT} {idx n a bc' bs' : Nat} {host : String} {as st0 : List AV} {Z' : ZT} (hc : gb_cin M.2.1 idx M' n host) (hs : S_ M' d bc' bs' (.inr (some a) :: as) τ h Z') (hst : as.reverse ++ .inr (some a) :: st = st0) (hn : as.length = n) (hl : st.length ≤ 8) (hd : decode M.1 pc = .ok (.invokespecial idx, 3)) (kk : ∀ r τ' h', Z' r τ' h' → G_ M (d + 1) bc bs (pc + 3) ls (r.toList ++ st) τ' h' Z) : G_ M (d + 1) (bc' + bc) (bs' + bs) pc ls st0 τ h Z := by
  intro B p l e R s m args below meth c H locs cells slots cm sm la Q hC hR h1 h2 h3 h4 hL hE
  obtain ⟨⟨c1, c2, c3, c4⟩, c5, c6, c7, c8⟩ := hc
  have hts := hC.2.2.2.2.1
  have hfr := hC.2.2.2.2.2.1
  have hlo := hC.2.2.2.2.2.2.1
  have hCB : va_CN R s args M.2.1 idx M'.2.2.2.2 host M'.1 M'.2.2.1 M'.2.2.2.1 (gb_ws M') (gb_rm d bc' bs') bc' bs' n := va_cnB n hts (gb_GI c2) rfl rfl rfl (hC.2.2.2.2.2.2.2.1.2.1 _ c5) (hts _ c1) c3 ⟨hfr, by show 8 + (_ + 11) + 60 * d ≤ _; omega⟩
  rw [c8] at hCB
  refine gb_back (va_runIN (n := n) (b := gb_ad B a) (As := as.map (gb_tv B)) (rest := st.map (gb_tv B)) (Pc := gb_P B (.inr (some a) :: as) τ h) (Qc := gb_Q B Z') (g := F0 m pc la (st0.map (gb_tv B))) ⟨hC.1, hC.2.1, hC.2.2.1, hC.2.2.2.1, hts⟩ (hs l B) ⟨hCB, c7, hts _ c6⟩ ⟨gb_FB, fun U hU hW => gb_pre (as := .inr (some a) :: as) hC hR U hU hW⟩ rfl (by rw [List.length_map]; exact hn) (by show la.size = _; exact hL.1.1) (by show st0.map (gb_tv B) = _; rw [← hst]; simp; rfl) (gb_lw hl) hd ⟨by omega, by omega⟩) hR.2 (fun r τ' h' H1 locs1 hz hR1 => ?_)
  have := kk r τ' h' hz B p l e R s m args below meth c H1 locs1 (cells + bc') (slots + bs') cm sm la Q hC hR1 (by omega) (by omega) h3 h4 hL hE
  rw [List.map_append] at this
  cases r <;> exact this
theorem G_obj {idx a : Nat} (hc : Cond.methodLink M.2.1 idx objectInit ∈ gb_LW ∧ Cond.instanceMethod objectInit ∈ gb_LW ∧ Cond.code objectInit ⟨#[0xb1]⟩ 1 none ∈ gb_LW) (hl : st.length ≤ 8) (hd : decode M.1 pc = .ok (.invokespecial idx, 3)) (kk : G_ M (d + 1) bc bs (pc + 3) ls st τ h Z) : G_ M (d + 1) bc bs pc ls (.inr (some a) :: st) τ h Z := by
  intro B p l e R s m args below meth c H locs cells slots cm sm la Q hC hR h1 h2 h3 h4 hL hE
  have hts := hC.2.2.2.2.1
  have hfr := hC.2.2.2.2.2.1
  have hlo := hC.2.2.2.2.2.2.1
  have hw := gb_lw (B := B) (pc0 := pc) (m := m) (la := la) (s0 := (.inr (some a) :: st : List AV).map (gb_tv B)) hl
  exact W.objInit hC.1 hC.2.1 hC.2.2.2.1 (hts _ hc.1) (hts _ hc.2.1) (hts _ hc.2.2) rfl (by show la.size = _; rw [hC.2.2.1]; exact hL.1.1) rfl hd (by omega) (by omega) (kk B p l e R s m args below meth c H locs cells slots cm sm la Q hC hR h1 h2 h3 h4 hL hE)
end GC
end
