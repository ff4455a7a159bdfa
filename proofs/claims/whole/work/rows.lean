section
-- ===== PART A: goes FIRST, ahead of the names: the tables' words, and 'selects' of the private methods out of them =====
/-- a private method of a class that the tables say can be made, by its rows of tables_1 -/
def lw_okq (q : MethodName × Nat) : Prop := (q.1.cls ≠ "java/lang/invoke/MethodHandle" ∧ q.1.cls ≠ "java/lang/invoke/VarHandle") ∧ Cond.instantiable q.1.cls q.2 ∈ tables_1 ∧ Cond.privateMethod q.1 ∈ tables_1 ∧ Cond.instanceMethod q.1 ∈ tables_1
theorem lw_p0 : lw_okq (⟨"HuesApart", "whyNoColour", "(III)I"⟩, 6) := ⟨⟨by decide +kernel, by decide +kernel⟩, List.mem_of_getElem? (i := 10) (by decide +kernel), List.mem_of_getElem? (i := 136) (by decide +kernel), List.mem_of_getElem? (i := 137) (by decide +kernel)⟩
theorem lw_p1 : lw_okq (⟨"HuesApart", "refuse", "(I)I"⟩, 6) := ⟨⟨by decide +kernel, by decide +kernel⟩, List.mem_of_getElem? (i := 10) (by decide +kernel), List.mem_of_getElem? (i := 146) (by decide +kernel), List.mem_of_getElem? (i := 147) (by decide +kernel)⟩
theorem lw_p2 : lw_okq (⟨"HuesApart", "leaveState", "()V"⟩, 6) := ⟨⟨by decide +kernel, by decide +kernel⟩, List.mem_of_getElem? (i := 10) (by decide +kernel), List.mem_of_getElem? (i := 150) (by decide +kernel), List.mem_of_getElem? (i := 151) (by decide +kernel)⟩
theorem lw_p3 : lw_okq (⟨"HuesApart", "noteState", "()V"⟩, 6) := ⟨⟨by decide +kernel, by decide +kernel⟩, List.mem_of_getElem? (i := 10) (by decide +kernel), List.mem_of_getElem? (i := 154) (by decide +kernel), List.mem_of_getElem? (i := 155) (by decide +kernel)⟩
theorem lw_p4 : lw_okq (⟨"HuesApart", "keepNoted", "()V"⟩, 6) := ⟨⟨by decide +kernel, by decide +kernel⟩, List.mem_of_getElem? (i := 10) (by decide +kernel), List.mem_of_getElem? (i := 165) (by decide +kernel), List.mem_of_getElem? (i := 166) (by decide +kernel)⟩
theorem lw_p5 : lw_okq (⟨"HuesApart", "isColour", "(I)Z"⟩, 6) := ⟨⟨by decide +kernel, by decide +kernel⟩, List.mem_of_getElem? (i := 10) (by decide +kernel), List.mem_of_getElem? (i := 180) (by decide +kernel), List.mem_of_getElem? (i := 181) (by decide +kernel)⟩
theorem lw_p6 : lw_okq (⟨"HuesApart", "whyNoLimit", "(II)I"⟩, 6) := ⟨⟨by decide +kernel, by decide +kernel⟩, List.mem_of_getElem? (i := 10) (by decide +kernel), List.mem_of_getElem? (i := 203) (by decide +kernel), List.mem_of_getElem? (i := 204) (by decide +kernel)⟩
theorem lw_p7 : lw_okq (⟨"HuesApart", "whyNotFixed", "(II)I"⟩, 6) := ⟨⟨by decide +kernel, by decide +kernel⟩, List.mem_of_getElem? (i := 10) (by decide +kernel), List.mem_of_getElem? (i := 215) (by decide +kernel), List.mem_of_getElem? (i := 216) (by decide +kernel)⟩
theorem lw_p8 : lw_okq (⟨"HuesApart", "whyNoFilling", "(I)I"⟩, 6) := ⟨⟨by decide +kernel, by decide +kernel⟩, List.mem_of_getElem? (i := 10) (by decide +kernel), List.mem_of_getElem? (i := 305) (by decide +kernel), List.mem_of_getElem? (i := 306) (by decide +kernel)⟩
theorem lw_p9 : lw_okq (⟨"HuesApart$Chooser", "nextOne", "(LHuesApart$Scene;I)I"⟩, 2) := ⟨⟨by decide +kernel, by decide +kernel⟩, List.mem_of_getElem? (i := 99) (by decide +kernel), List.mem_of_getElem? (i := 333) (by decide +kernel), List.mem_of_getElem? (i := 334) (by decide +kernel)⟩
theorem lw_p10 : lw_okq (⟨"HuesApart$Chooser", "gapToRow", "(LHuesApart$Scene;I)F"⟩, 2) := ⟨⟨by decide +kernel, by decide +kernel⟩, List.mem_of_getElem? (i := 99) (by decide +kernel), List.mem_of_getElem? (i := 338) (by decide +kernel), List.mem_of_getElem? (i := 339) (by decide +kernel)⟩
theorem lw_p11 : lw_okq (⟨"HuesApart$Chooser", "gap", "(II)F"⟩, 2) := ⟨⟨by decide +kernel, by decide +kernel⟩, List.mem_of_getElem? (i := 99) (by decide +kernel), List.mem_of_getElem? (i := 342) (by decide +kernel), List.mem_of_getElem? (i := 343) (by decide +kernel)⟩
theorem lw_p12 : lw_okq (⟨"HuesApart$Chooser", "swapOne", "(LHuesApart$Scene;I)Z"⟩, 2) := ⟨⟨by decide +kernel, by decide +kernel⟩, List.mem_of_getElem? (i := 99) (by decide +kernel), List.mem_of_getElem? (i := 354) (by decide +kernel), List.mem_of_getElem? (i := 355) (by decide +kernel)⟩
theorem lw_p13 : lw_okq (⟨"HuesApart$Chooser", "listMembers", "(I)I"⟩, 2) := ⟨⟨by decide +kernel, by decide +kernel⟩, List.mem_of_getElem? (i := 99) (by decide +kernel), List.mem_of_getElem? (i := 388) (by decide +kernel), List.mem_of_getElem? (i := 389) (by decide +kernel)⟩
theorem lw_p14 : lw_okq (⟨"HuesApart$Script", "skipBlanks", "()V"⟩, 7) := ⟨⟨by decide +kernel, by decide +kernel⟩, List.mem_of_getElem? (i := 66) (by decide +kernel), List.mem_of_getElem? (i := 433) (by decide +kernel), List.mem_of_getElem? (i := 434) (by decide +kernel)⟩
theorem lw_p15 : lw_okq (⟨"HuesApart$Script", "byteHere", "()I"⟩, 7) := ⟨⟨by decide +kernel, by decide +kernel⟩, List.mem_of_getElem? (i := 66) (by decide +kernel), List.mem_of_getElem? (i := 437) (by decide +kernel), List.mem_of_getElem? (i := 438) (by decide +kernel)⟩
def lw_privs_1 : List (MethodName × Nat) := [(⟨"HuesApart", "whyNoColour", "(III)I"⟩, 6), (⟨"HuesApart", "refuse", "(I)I"⟩, 6), (⟨"HuesApart", "leaveState", "()V"⟩, 6), (⟨"HuesApart", "noteState", "()V"⟩, 6), (⟨"HuesApart", "keepNoted", "()V"⟩, 6), (⟨"HuesApart", "isColour", "(I)Z"⟩, 6), (⟨"HuesApart", "whyNoLimit", "(II)I"⟩, 6), (⟨"HuesApart", "whyNotFixed", "(II)I"⟩, 6), (⟨"HuesApart", "whyNoFilling", "(I)I"⟩, 6), (⟨"HuesApart$Chooser", "nextOne", "(LHuesApart$Scene;I)I"⟩, 2), (⟨"HuesApart$Chooser", "gapToRow", "(LHuesApart$Scene;I)F"⟩, 2), (⟨"HuesApart$Chooser", "gap", "(II)F"⟩, 2), (⟨"HuesApart$Chooser", "swapOne", "(LHuesApart$Scene;I)Z"⟩, 2), (⟨"HuesApart$Chooser", "listMembers", "(I)I"⟩, 2), (⟨"HuesApart$Script", "skipBlanks", "()V"⟩, 7), (⟨"HuesApart$Script", "byteHere", "()I"⟩, 7)]
theorem lw_r1 : ∀ q ∈ lw_privs_1, lw_okq q := List.forall_mem_cons.mpr ⟨lw_p0, List.forall_mem_cons.mpr ⟨lw_p1, List.forall_mem_cons.mpr ⟨lw_p2, List.forall_mem_cons.mpr ⟨lw_p3, List.forall_mem_cons.mpr ⟨lw_p4, List.forall_mem_cons.mpr ⟨lw_p5, List.forall_mem_cons.mpr ⟨lw_p6, List.forall_mem_cons.mpr ⟨lw_p7, List.forall_mem_cons.mpr ⟨lw_p8, List.forall_mem_cons.mpr ⟨lw_p9, List.forall_mem_cons.mpr ⟨lw_p10, List.forall_mem_cons.mpr ⟨lw_p11, List.forall_mem_cons.mpr ⟨lw_p12, List.forall_mem_cons.mpr ⟨lw_p13, List.forall_mem_cons.mpr ⟨lw_p14, List.forall_mem_cons.mpr ⟨lw_p15, fun _ h => absurd h List.not_mem_nil⟩⟩⟩⟩⟩⟩⟩⟩⟩⟩⟩⟩⟩⟩⟩⟩
theorem lw_p16 : lw_okq (⟨"HuesApart$Script", "readOrder", "()Z"⟩, 7) := ⟨⟨by decide +kernel, by decide +kernel⟩, List.mem_of_getElem? (i := 66) (by decide +kernel), List.mem_of_getElem? (i := 441) (by decide +kernel), List.mem_of_getElem? (i := 442) (by decide +kernel)⟩
theorem lw_p17 : lw_okq (⟨"HuesApart$Script", "readSixFigures", "()Z"⟩, 7) := ⟨⟨by decide +kernel, by decide +kernel⟩, List.mem_of_getElem? (i := 66) (by decide +kernel), List.mem_of_getElem? (i := 445) (by decide +kernel), List.mem_of_getElem? (i := 446) (by decide +kernel)⟩
theorem lw_p18 : lw_okq (⟨"HuesApart$Script", "readEnd", "()Z"⟩, 7) := ⟨⟨by decide +kernel, by decide +kernel⟩, List.mem_of_getElem? (i := 66) (by decide +kernel), List.mem_of_getElem? (i := 455) (by decide +kernel), List.mem_of_getElem? (i := 456) (by decide +kernel)⟩
theorem lw_p19 : lw_okq (⟨"HuesApart$Script", "readNumber", "([I)Z"⟩, 7) := ⟨⟨by decide +kernel, by decide +kernel⟩, List.mem_of_getElem? (i := 66) (by decide +kernel), List.mem_of_getElem? (i := 459) (by decide +kernel), List.mem_of_getElem? (i := 460) (by decide +kernel)⟩
theorem lw_p20 : lw_okq (⟨"HuesApart", "whyNoOrder", "(III)I"⟩, 6) := ⟨⟨by decide +kernel, by decide +kernel⟩, List.mem_of_getElem? (i := 10) (by decide +kernel), List.mem_of_getElem? (i := 463) (by decide +kernel), List.mem_of_getElem? (i := 464) (by decide +kernel)⟩
theorem lw_p21 : lw_okq (⟨"HuesApart", "obey", "(III)V"⟩, 6) := ⟨⟨by decide +kernel, by decide +kernel⟩, List.mem_of_getElem? (i := 10) (by decide +kernel), List.mem_of_getElem? (i := 476) (by decide +kernel), List.mem_of_getElem? (i := 477) (by decide +kernel)⟩
theorem lw_p22 : lw_okq (⟨"HuesApartModel", "no", "()I"⟩, 16) := ⟨⟨by decide +kernel, by decide +kernel⟩, List.mem_of_getElem? (i := 500) (by decide +kernel), List.mem_of_getElem? (i := 559) (by decide +kernel), List.mem_of_getElem? (i := 560) (by decide +kernel)⟩
theorem lw_p23 : lw_okq (⟨"HuesApartModel", "bad", "()I"⟩, 16) := ⟨⟨by decide +kernel, by decide +kernel⟩, List.mem_of_getElem? (i := 500) (by decide +kernel), List.mem_of_getElem? (i := 576) (by decide +kernel), List.mem_of_getElem? (i := 577) (by decide +kernel)⟩
theorem lw_p24 : lw_okq (⟨"HuesApartModel", "full", "()I"⟩, 16) := ⟨⟨by decide +kernel, by decide +kernel⟩, List.mem_of_getElem? (i := 500) (by decide +kernel), List.mem_of_getElem? (i := 580) (by decide +kernel), List.mem_of_getElem? (i := 581) (by decide +kernel)⟩
theorem lw_p25 : lw_okq (⟨"HuesApartModel", "remembers", "()V"⟩, 16) := ⟨⟨by decide +kernel, by decide +kernel⟩, List.mem_of_getElem? (i := 500) (by decide +kernel), List.mem_of_getElem? (i := 584) (by decide +kernel), List.mem_of_getElem? (i := 585) (by decide +kernel)⟩
theorem lw_p26 : lw_okq (⟨"HuesApartModel", "comes", "(III)I"⟩, 16) := ⟨⟨by decide +kernel, by decide +kernel⟩, List.mem_of_getElem? (i := 500) (by decide +kernel), List.mem_of_getElem? (i := 588) (by decide +kernel), List.mem_of_getElem? (i := 589) (by decide +kernel)⟩
theorem lw_p27 : lw_okq (⟨"HuesApartModel", "colourAt", "(I)I"⟩, 16) := ⟨⟨by decide +kernel, by decide +kernel⟩, List.mem_of_getElem? (i := 500) (by decide +kernel), List.mem_of_getElem? (i := 592) (by decide +kernel), List.mem_of_getElem? (i := 593) (by decide +kernel)⟩
theorem lw_p28 : lw_okq (⟨"HuesApartModel", "becomes", "(IIII)I"⟩, 16) := ⟨⟨by decide +kernel, by decide +kernel⟩, List.mem_of_getElem? (i := 500) (by decide +kernel), List.mem_of_getElem? (i := 596) (by decide +kernel), List.mem_of_getElem? (i := 597) (by decide +kernel)⟩
theorem lw_p29 : lw_okq (⟨"HuesApartModel", "isColour", "(I)Z"⟩, 16) := ⟨⟨by decide +kernel, by decide +kernel⟩, List.mem_of_getElem? (i := 500) (by decide +kernel), List.mem_of_getElem? (i := 604) (by decide +kernel), List.mem_of_getElem? (i := 605) (by decide +kernel)⟩
theorem lw_p30 : lw_okq (⟨"HuesApartModel", "exchanges", "(II)I"⟩, 16) := ⟨⟨by decide +kernel, by decide +kernel⟩, List.mem_of_getElem? (i := 500) (by decide +kernel), List.mem_of_getElem? (i := 622) (by decide +kernel), List.mem_of_getElem? (i := 623) (by decide +kernel)⟩
theorem lw_p31 : lw_okq (⟨"HuesApartModel", "fixesOne", "(II)I"⟩, 16) := ⟨⟨by decide +kernel, by decide +kernel⟩, List.mem_of_getElem? (i := 500) (by decide +kernel), List.mem_of_getElem? (i := 634) (by decide +kernel), List.mem_of_getElem? (i := 635) (by decide +kernel)⟩
def lw_privs_2 : List (MethodName × Nat) := [(⟨"HuesApart$Script", "readOrder", "()Z"⟩, 7), (⟨"HuesApart$Script", "readSixFigures", "()Z"⟩, 7), (⟨"HuesApart$Script", "readEnd", "()Z"⟩, 7), (⟨"HuesApart$Script", "readNumber", "([I)Z"⟩, 7), (⟨"HuesApart", "whyNoOrder", "(III)I"⟩, 6), (⟨"HuesApart", "obey", "(III)V"⟩, 6), (⟨"HuesApartModel", "no", "()I"⟩, 16), (⟨"HuesApartModel", "bad", "()I"⟩, 16), (⟨"HuesApartModel", "full", "()I"⟩, 16), (⟨"HuesApartModel", "remembers", "()V"⟩, 16), (⟨"HuesApartModel", "comes", "(III)I"⟩, 16), (⟨"HuesApartModel", "colourAt", "(I)I"⟩, 16), (⟨"HuesApartModel", "becomes", "(IIII)I"⟩, 16), (⟨"HuesApartModel", "isColour", "(I)Z"⟩, 16), (⟨"HuesApartModel", "exchanges", "(II)I"⟩, 16), (⟨"HuesApartModel", "fixesOne", "(II)I"⟩, 16)]
theorem lw_r2 : ∀ q ∈ lw_privs_2, lw_okq q := List.forall_mem_cons.mpr ⟨lw_p16, List.forall_mem_cons.mpr ⟨lw_p17, List.forall_mem_cons.mpr ⟨lw_p18, List.forall_mem_cons.mpr ⟨lw_p19, List.forall_mem_cons.mpr ⟨lw_p20, List.forall_mem_cons.mpr ⟨lw_p21, List.forall_mem_cons.mpr ⟨lw_p22, List.forall_mem_cons.mpr ⟨lw_p23, List.forall_mem_cons.mpr ⟨lw_p24, List.forall_mem_cons.mpr ⟨lw_p25, List.forall_mem_cons.mpr ⟨lw_p26, List.forall_mem_cons.mpr ⟨lw_p27, List.forall_mem_cons.mpr ⟨lw_p28, List.forall_mem_cons.mpr ⟨lw_p29, List.forall_mem_cons.mpr ⟨lw_p30, List.forall_mem_cons.mpr ⟨lw_p31, fun _ h => absurd h List.not_mem_nil⟩⟩⟩⟩⟩⟩⟩⟩⟩⟩⟩⟩⟩⟩⟩⟩
theorem lw_p32 : lw_okq (⟨"HuesApartModel", "ofColour", "(II)I"⟩, 16) := ⟨⟨by decide +kernel, by decide +kernel⟩, List.mem_of_getElem? (i := 500) (by decide +kernel), List.mem_of_getElem? (i := 645) (by decide +kernel), List.mem_of_getElem? (i := 646) (by decide +kernel)⟩
theorem lw_p33 : lw_okq (⟨"HuesApartModel", "isFitting", "(I)Z"⟩, 16) := ⟨⟨by decide +kernel, by decide +kernel⟩, List.mem_of_getElem? (i := 500) (by decide +kernel), List.mem_of_getElem? (i := 649) (by decide +kernel), List.mem_of_getElem? (i := 650) (by decide +kernel)⟩
theorem lw_p34 : lw_okq (⟨"HuesApartModel", "shineAt", "(I)F"⟩, 16) := ⟨⟨by decide +kernel, by decide +kernel⟩, List.mem_of_getElem? (i := 500) (by decide +kernel), List.mem_of_getElem? (i := 653) (by decide +kernel), List.mem_of_getElem? (i := 654) (by decide +kernel)⟩
theorem lw_p35 : lw_okq (⟨"HuesApartModel", "placeOf", "(I)I"⟩, 16) := ⟨⟨by decide +kernel, by decide +kernel⟩, List.mem_of_getElem? (i := 500) (by decide +kernel), List.mem_of_getElem? (i := 660) (by decide +kernel), List.mem_of_getElem? (i := 661) (by decide +kernel)⟩
theorem lw_p36 : lw_okq (⟨"HuesApartModel", "sight", "(III)F"⟩, 16) := ⟨⟨by decide +kernel, by decide +kernel⟩, List.mem_of_getElem? (i := 500) (by decide +kernel), List.mem_of_getElem? (i := 682) (by decide +kernel), List.mem_of_getElem? (i := 683) (by decide +kernel)⟩
theorem lw_p37 : lw_okq (⟨"HuesApartModel", "farFor", "(III)F"⟩, 16) := ⟨⟨by decide +kernel, by decide +kernel⟩, List.mem_of_getElem? (i := 500) (by decide +kernel), List.mem_of_getElem? (i := 691) (by decide +kernel), List.mem_of_getElem? (i := 692) (by decide +kernel)⟩
theorem lw_p38 : lw_okq (⟨"HuesApartModel", "apartOf", "(II)F"⟩, 16) := ⟨⟨by decide +kernel, by decide +kernel⟩, List.mem_of_getElem? (i := 500) (by decide +kernel), List.mem_of_getElem? (i := 699) (by decide +kernel), List.mem_of_getElem? (i := 700) (by decide +kernel)⟩
theorem lw_p39 : lw_okq (⟨"HuesApartModel", "canFill", "(I)Z"⟩, 16) := ⟨⟨by decide +kernel, by decide +kernel⟩, List.mem_of_getElem? (i := 500) (by decide +kernel), List.mem_of_getElem? (i := 707) (by decide +kernel), List.mem_of_getElem? (i := 708) (by decide +kernel)⟩
theorem lw_p40 : lw_okq (⟨"HuesApartModel", "fillsFor", "(I)I"⟩, 16) := ⟨⟨by decide +kernel, by decide +kernel⟩, List.mem_of_getElem? (i := 500) (by decide +kernel), List.mem_of_getElem? (i := 711) (by decide +kernel), List.mem_of_getElem? (i := 712) (by decide +kernel)⟩
theorem lw_p41 : lw_okq (⟨"HuesApartModel", "laysFar", "()V"⟩, 16) := ⟨⟨by decide +kernel, by decide +kernel⟩, List.mem_of_getElem? (i := 500) (by decide +kernel), List.mem_of_getElem? (i := 715) (by decide +kernel), List.mem_of_getElem? (i := 716) (by decide +kernel)⟩
theorem lw_p42 : lw_okq (⟨"HuesApartModel", "putsLast", "(I)V"⟩, 16) := ⟨⟨by decide +kernel, by decide +kernel⟩, List.mem_of_getElem? (i := 500) (by decide +kernel), List.mem_of_getElem? (i := 722) (by decide +kernel), List.mem_of_getElem? (i := 723) (by decide +kernel)⟩
theorem lw_p43 : lw_okq (⟨"HuesApartModel", "lightest", "()I"⟩, 16) := ⟨⟨by decide +kernel, by decide +kernel⟩, List.mem_of_getElem? (i := 500) (by decide +kernel), List.mem_of_getElem? (i := 726) (by decide +kernel), List.mem_of_getElem? (i := 727) (by decide +kernel)⟩
theorem lw_p44 : lw_okq (⟨"HuesApartModel", "farthest", "()I"⟩, 16) := ⟨⟨by decide +kernel, by decide +kernel⟩, List.mem_of_getElem? (i := 500) (by decide +kernel), List.mem_of_getElem? (i := 730) (by decide +kernel), List.mem_of_getElem? (i := 731) (by decide +kernel)⟩
theorem lw_p45 : lw_okq (⟨"HuesApartModel", "nearestIn", "(I)F"⟩, 16) := ⟨⟨by decide +kernel, by decide +kernel⟩, List.mem_of_getElem? (i := 500) (by decide +kernel), List.mem_of_getElem? (i := 734) (by decide +kernel), List.mem_of_getElem? (i := 735) (by decide +kernel)⟩
theorem lw_p46 : lw_okq (⟨"HuesApartModel", "swapsAll", "()I"⟩, 16) := ⟨⟨by decide +kernel, by decide +kernel⟩, List.mem_of_getElem? (i := 500) (by decide +kernel), List.mem_of_getElem? (i := 742) (by decide +kernel), List.mem_of_getElem? (i := 743) (by decide +kernel)⟩
theorem lw_p47 : lw_okq (⟨"HuesApartModel", "isSwapped", "()Z"⟩, 16) := ⟨⟨by decide +kernel, by decide +kernel⟩, List.mem_of_getElem? (i := 500) (by decide +kernel), List.mem_of_getElem? (i := 746) (by decide +kernel), List.mem_of_getElem? (i := 747) (by decide +kernel)⟩
def lw_privs_3 : List (MethodName × Nat) := [(⟨"HuesApartModel", "ofColour", "(II)I"⟩, 16), (⟨"HuesApartModel", "isFitting", "(I)Z"⟩, 16), (⟨"HuesApartModel", "shineAt", "(I)F"⟩, 16), (⟨"HuesApartModel", "placeOf", "(I)I"⟩, 16), (⟨"HuesApartModel", "sight", "(III)F"⟩, 16), (⟨"HuesApartModel", "farFor", "(III)F"⟩, 16), (⟨"HuesApartModel", "apartOf", "(II)F"⟩, 16), (⟨"HuesApartModel", "canFill", "(I)Z"⟩, 16), (⟨"HuesApartModel", "fillsFor", "(I)I"⟩, 16), (⟨"HuesApartModel", "laysFar", "()V"⟩, 16), (⟨"HuesApartModel", "putsLast", "(I)V"⟩, 16), (⟨"HuesApartModel", "lightest", "()I"⟩, 16), (⟨"HuesApartModel", "farthest", "()I"⟩, 16), (⟨"HuesApartModel", "nearestIn", "(I)F"⟩, 16), (⟨"HuesApartModel", "swapsAll", "()I"⟩, 16), (⟨"HuesApartModel", "isSwapped", "()Z"⟩, 16)]
theorem lw_r3 : ∀ q ∈ lw_privs_3, lw_okq q := List.forall_mem_cons.mpr ⟨lw_p32, List.forall_mem_cons.mpr ⟨lw_p33, List.forall_mem_cons.mpr ⟨lw_p34, List.forall_mem_cons.mpr ⟨lw_p35, List.forall_mem_cons.mpr ⟨lw_p36, List.forall_mem_cons.mpr ⟨lw_p37, List.forall_mem_cons.mpr ⟨lw_p38, List.forall_mem_cons.mpr ⟨lw_p39, List.forall_mem_cons.mpr ⟨lw_p40, List.forall_mem_cons.mpr ⟨lw_p41, List.forall_mem_cons.mpr ⟨lw_p42, List.forall_mem_cons.mpr ⟨lw_p43, List.forall_mem_cons.mpr ⟨lw_p44, List.forall_mem_cons.mpr ⟨lw_p45, List.forall_mem_cons.mpr ⟨lw_p46, List.forall_mem_cons.mpr ⟨lw_p47, fun _ h => absurd h List.not_mem_nil⟩⟩⟩⟩⟩⟩⟩⟩⟩⟩⟩⟩⟩⟩⟩⟩
theorem lw_p48 : lw_okq (⟨"HuesApartModel", "takesPalette", "()V"⟩, 16) := ⟨⟨by decide +kernel, by decide +kernel⟩, List.mem_of_getElem? (i := 500) (by decide +kernel), List.mem_of_getElem? (i := 750) (by decide +kernel), List.mem_of_getElem? (i := 751) (by decide +kernel)⟩
theorem lw_p49 : lw_okq (⟨"HuesApartModel", "leastOf", "(I)F"⟩, 16) := ⟨⟨by decide +kernel, by decide +kernel⟩, List.mem_of_getElem? (i := 500) (by decide +kernel), List.mem_of_getElem? (i := 754) (by decide +kernel), List.mem_of_getElem? (i := 755) (by decide +kernel)⟩
theorem lw_p50 : lw_okq (⟨"HuesApartModel", "leastNow", "()I"⟩, 16) := ⟨⟨by decide +kernel, by decide +kernel⟩, List.mem_of_getElem? (i := 500) (by decide +kernel), List.mem_of_getElem? (i := 766) (by decide +kernel), List.mem_of_getElem? (i := 767) (by decide +kernel)⟩
theorem lw_p51 : lw_okq (⟨"HuesApartModel", "nearestNow", "()I"⟩, 16) := ⟨⟨by decide +kernel, by decide +kernel⟩, List.mem_of_getElem? (i := 500) (by decide +kernel), List.mem_of_getElem? (i := 774) (by decide +kernel), List.mem_of_getElem? (i := 775) (by decide +kernel)⟩
theorem lw_p52 : lw_okq (⟨"HuesApartModel", "bestOf", "(I)I"⟩, 16) := ⟨⟨by decide +kernel, by decide +kernel⟩, List.mem_of_getElem? (i := 500) (by decide +kernel), List.mem_of_getElem? (i := 782) (by decide +kernel), List.mem_of_getElem? (i := 783) (by decide +kernel)⟩
theorem lw_p53 : lw_okq (⟨"HuesApartModel", "setOf", "(I)I"⟩, 16) := ⟨⟨by decide +kernel, by decide +kernel⟩, List.mem_of_getElem? (i := 500) (by decide +kernel), List.mem_of_getElem? (i := 786) (by decide +kernel), List.mem_of_getElem? (i := 787) (by decide +kernel)⟩
theorem lw_p54 : lw_okq (⟨"HuesApartModel", "isNext", "(I)Z"⟩, 16) := ⟨⟨by decide +kernel, by decide +kernel⟩, List.mem_of_getElem? (i := 500) (by decide +kernel), List.mem_of_getElem? (i := 790) (by decide +kernel), List.mem_of_getElem? (i := 791) (by decide +kernel)⟩
theorem lw_p55 : lw_okq (⟨"HuesApartModel", "countOf", "(I)I"⟩, 16) := ⟨⟨by decide +kernel, by decide +kernel⟩, List.mem_of_getElem? (i := 500) (by decide +kernel), List.mem_of_getElem? (i := 802) (by decide +kernel), List.mem_of_getElem? (i := 803) (by decide +kernel)⟩
theorem lw_p56 : lw_okq (⟨"HuesApartModel", "fittingMany", "()I"⟩, 16) := ⟨⟨by decide +kernel, by decide +kernel⟩, List.mem_of_getElem? (i := 500) (by decide +kernel), List.mem_of_getElem? (i := 806) (by decide +kernel), List.mem_of_getElem? (i := 807) (by decide +kernel)⟩
theorem lw_p57 : lw_okq (⟨"HuesApartModel", "countsSet", "()I"⟩, 16) := ⟨⟨by decide +kernel, by decide +kernel⟩, List.mem_of_getElem? (i := 500) (by decide +kernel), List.mem_of_getElem? (i := 810) (by decide +kernel), List.mem_of_getElem? (i := 811) (by decide +kernel)⟩
theorem lw_p58 : lw_okq (⟨"HuesApartModel", "isRead", "()Z"⟩, 16) := ⟨⟨by decide +kernel, by decide +kernel⟩, List.mem_of_getElem? (i := 500) (by decide +kernel), List.mem_of_getElem? (i := 826) (by decide +kernel), List.mem_of_getElem? (i := 827) (by decide +kernel)⟩
theorem lw_p59 : lw_okq (⟨"HuesApartModel", "blanks", "()V"⟩, 16) := ⟨⟨by decide +kernel, by decide +kernel⟩, List.mem_of_getElem? (i := 500) (by decide +kernel), List.mem_of_getElem? (i := 830) (by decide +kernel), List.mem_of_getElem? (i := 831) (by decide +kernel)⟩
theorem lw_p60 : lw_okq (⟨"HuesApartModel", "isAt", "(II)Z"⟩, 16) := ⟨⟨by decide +kernel, by decide +kernel⟩, List.mem_of_getElem? (i := 500) (by decide +kernel), List.mem_of_getElem? (i := 834) (by decide +kernel), List.mem_of_getElem? (i := 835) (by decide +kernel)⟩
theorem lw_p61 : lw_okq (⟨"HuesApartModel", "takesOrder", "()Z"⟩, 16) := ⟨⟨by decide +kernel, by decide +kernel⟩, List.mem_of_getElem? (i := 500) (by decide +kernel), List.mem_of_getElem? (i := 838) (by decide +kernel), List.mem_of_getElem? (i := 839) (by decide +kernel)⟩
theorem lw_p62 : lw_okq (⟨"HuesApartModel", "fails", "(I)Z"⟩, 16) := ⟨⟨by decide +kernel, by decide +kernel⟩, List.mem_of_getElem? (i := 500) (by decide +kernel), List.mem_of_getElem? (i := 842) (by decide +kernel), List.mem_of_getElem? (i := 843) (by decide +kernel)⟩
theorem lw_p63 : lw_okq (⟨"HuesApartModel", "takesNumbers", "(I)Z"⟩, 16) := ⟨⟨by decide +kernel, by decide +kernel⟩, List.mem_of_getElem? (i := 500) (by decide +kernel), List.mem_of_getElem? (i := 846) (by decide +kernel), List.mem_of_getElem? (i := 847) (by decide +kernel)⟩
def lw_privs_4 : List (MethodName × Nat) := [(⟨"HuesApartModel", "takesPalette", "()V"⟩, 16), (⟨"HuesApartModel", "leastOf", "(I)F"⟩, 16), (⟨"HuesApartModel", "leastNow", "()I"⟩, 16), (⟨"HuesApartModel", "nearestNow", "()I"⟩, 16), (⟨"HuesApartModel", "bestOf", "(I)I"⟩, 16), (⟨"HuesApartModel", "setOf", "(I)I"⟩, 16), (⟨"HuesApartModel", "isNext", "(I)Z"⟩, 16), (⟨"HuesApartModel", "countOf", "(I)I"⟩, 16), (⟨"HuesApartModel", "fittingMany", "()I"⟩, 16), (⟨"HuesApartModel", "countsSet", "()I"⟩, 16), (⟨"HuesApartModel", "isRead", "()Z"⟩, 16), (⟨"HuesApartModel", "blanks", "()V"⟩, 16), (⟨"HuesApartModel", "isAt", "(II)Z"⟩, 16), (⟨"HuesApartModel", "takesOrder", "()Z"⟩, 16), (⟨"HuesApartModel", "fails", "(I)Z"⟩, 16), (⟨"HuesApartModel", "takesNumbers", "(I)Z"⟩, 16)]
theorem lw_r4 : ∀ q ∈ lw_privs_4, lw_okq q := List.forall_mem_cons.mpr ⟨lw_p48, List.forall_mem_cons.mpr ⟨lw_p49, List.forall_mem_cons.mpr ⟨lw_p50, List.forall_mem_cons.mpr ⟨lw_p51, List.forall_mem_cons.mpr ⟨lw_p52, List.forall_mem_cons.mpr ⟨lw_p53, List.forall_mem_cons.mpr ⟨lw_p54, List.forall_mem_cons.mpr ⟨lw_p55, List.forall_mem_cons.mpr ⟨lw_p56, List.forall_mem_cons.mpr ⟨lw_p57, List.forall_mem_cons.mpr ⟨lw_p58, List.forall_mem_cons.mpr ⟨lw_p59, List.forall_mem_cons.mpr ⟨lw_p60, List.forall_mem_cons.mpr ⟨lw_p61, List.forall_mem_cons.mpr ⟨lw_p62, List.forall_mem_cons.mpr ⟨lw_p63, fun _ h => absurd h List.not_mem_nil⟩⟩⟩⟩⟩⟩⟩⟩⟩⟩⟩⟩⟩⟩⟩⟩
theorem lw_p64 : lw_okq (⟨"HuesApartModel", "takesSix", "(I)Z"⟩, 16) := ⟨⟨by decide +kernel, by decide +kernel⟩, List.mem_of_getElem? (i := 500) (by decide +kernel), List.mem_of_getElem? (i := 850) (by decide +kernel), List.mem_of_getElem? (i := 851) (by decide +kernel)⟩
theorem lw_p65 : lw_okq (⟨"HuesApartModel", "takesNumber", "(I)Z"⟩, 16) := ⟨⟨by decide +kernel, by decide +kernel⟩, List.mem_of_getElem? (i := 500) (by decide +kernel), List.mem_of_getElem? (i := 854) (by decide +kernel), List.mem_of_getElem? (i := 855) (by decide +kernel)⟩
theorem lw_p66 : lw_okq (⟨"HuesApartModel", "obeys", "(I)Z"⟩, 16) := ⟨⟨by decide +kernel, by decide +kernel⟩, List.mem_of_getElem? (i := 500) (by decide +kernel), List.mem_of_getElem? (i := 858) (by decide +kernel), List.mem_of_getElem? (i := 859) (by decide +kernel)⟩
theorem lw_p67 : lw_okq (⟨"HuesApartModel", "comesTold", "(I)Z"⟩, 16) := ⟨⟨by decide +kernel, by decide +kernel⟩, List.mem_of_getElem? (i := 500) (by decide +kernel), List.mem_of_getElem? (i := 862) (by decide +kernel), List.mem_of_getElem? (i := 863) (by decide +kernel)⟩
theorem lw_p68 : lw_okq (⟨"HuesApartModel", "limits", "(II)Z"⟩, 16) := ⟨⟨by decide +kernel, by decide +kernel⟩, List.mem_of_getElem? (i := 500) (by decide +kernel), List.mem_of_getElem? (i := 866) (by decide +kernel), List.mem_of_getElem? (i := 867) (by decide +kernel)⟩
theorem lw_p69 : lw_okq (⟨"HuesApartModel", "turns", "()V"⟩, 16) := ⟨⟨by decide +kernel, by decide +kernel⟩, List.mem_of_getElem? (i := 500) (by decide +kernel), List.mem_of_getElem? (i := 870) (by decide +kernel), List.mem_of_getElem? (i := 871) (by decide +kernel)⟩
theorem lw_p70 : lw_okq (⟨"HuesApartModel", "toldOf", "(I)I"⟩, 16) := ⟨⟨by decide +kernel, by decide +kernel⟩, List.mem_of_getElem? (i := 500) (by decide +kernel), List.mem_of_getElem? (i := 878) (by decide +kernel), List.mem_of_getElem? (i := 879) (by decide +kernel)⟩
theorem lw_p71 : lw_okq (⟨"HuesApartModel", "mix", "(J)V"⟩, 16) := ⟨⟨by decide +kernel, by decide +kernel⟩, List.mem_of_getElem? (i := 500) (by decide +kernel), List.mem_of_getElem? (i := 887) (by decide +kernel), List.mem_of_getElem? (i := 888) (by decide +kernel)⟩
def lw_privs_5 : List (MethodName × Nat) := [(⟨"HuesApartModel", "takesSix", "(I)Z"⟩, 16), (⟨"HuesApartModel", "takesNumber", "(I)Z"⟩, 16), (⟨"HuesApartModel", "obeys", "(I)Z"⟩, 16), (⟨"HuesApartModel", "comesTold", "(I)Z"⟩, 16), (⟨"HuesApartModel", "limits", "(II)Z"⟩, 16), (⟨"HuesApartModel", "turns", "()V"⟩, 16), (⟨"HuesApartModel", "toldOf", "(I)I"⟩, 16), (⟨"HuesApartModel", "mix", "(J)V"⟩, 16)]
theorem lw_r5 : ∀ q ∈ lw_privs_5, lw_okq q := List.forall_mem_cons.mpr ⟨lw_p64, List.forall_mem_cons.mpr ⟨lw_p65, List.forall_mem_cons.mpr ⟨lw_p66, List.forall_mem_cons.mpr ⟨lw_p67, List.forall_mem_cons.mpr ⟨lw_p68, List.forall_mem_cons.mpr ⟨lw_p69, List.forall_mem_cons.mpr ⟨lw_p70, List.forall_mem_cons.mpr ⟨lw_p71, fun _ h => absurd h List.not_mem_nil⟩⟩⟩⟩⟩⟩⟩⟩
def lw_privs : List (MethodName × Nat) := lw_privs_1 ++ (lw_privs_2 ++ (lw_privs_3 ++ (lw_privs_4 ++ (lw_privs_5))))
def lw_tbl : List Cond := k2_sels lw_privs ++ tables_1
theorem lw_privs_ok : ∀ q ∈ lw_privs, lw_okq q := by
  show ∀ q ∈ lw_privs_1 ++ (lw_privs_2 ++ (lw_privs_3 ++ (lw_privs_4 ++ (lw_privs_5)))), lw_okq q
  exact List.forall_mem_append.mpr ⟨lw_r1, List.forall_mem_append.mpr ⟨lw_r2, List.forall_mem_append.mpr ⟨lw_r3, List.forall_mem_append.mpr ⟨lw_r4, lw_r5⟩⟩⟩⟩
/-- the streams that the claim lets the run draw from -/
abbrev lw_cs : List Choice := [Jvm.Choice.named "NaN.bits"]
theorem lw_bits : nanBits ∈ lw_cs := by first | decide | exact List.mem_cons_self | simp [lw_cs, nanBits]
-- ===== end of PART A
end
section
def RX0 : String := "HuesApart$Chooser"
def TX0 : u_T := fun k => match k with
  | 0 => ("HuesApart$Chooser", "gaps", "[F", true)
  | _ => ("HuesApart$Chooser", "members", "[I", true)
def tyX0 : Nat → FieldType := fun k => match k with
  | 0 => .array .float
  | _ => .array .int
abbrev wsX00 : List Cond := u_ws RX0 TX0 2
theorem nmX0 : ∀ a, a < 2 → ∀ b, b < 2 → a ≠ b → (TX0 a).2.1 ≠ (TX0 b).2.1 := by decide +kernel
theorem tyX0_ok : ∀ k, k < 2 → parseFieldDescriptor (TX0 k).2.2.1 = some (tyX0 k) := by decide +kernel
abbrev cX0_init : ByteArray := prog_2_method_1_code
def yX0_init : MethodName := ⟨RX0, "<init>", "()V"⟩
abbrev cX0_measure : ByteArray := prog_2_method_2_code
def yX0_measure : MethodName := ⟨RX0, "measure", "(LHuesApart$Scene;)V"⟩
abbrev cX0_gap : ByteArray := prog_2_method_3_code
def yX0_gap : MethodName := ⟨RX0, "gap", "(II)F"⟩
abbrev cX0_leastOf : ByteArray := prog_2_method_4_code
def yX0_leastOf : MethodName := ⟨RX0, "leastOf", "([II)F"⟩
abbrev cX0_nearestPlaces : ByteArray := prog_2_method_5_code
def yX0_nearestPlaces : MethodName := ⟨RX0, "nearestPlaces", "(LHuesApart$Scene;)I"⟩
abbrev cX0_fill : ByteArray := prog_2_method_6_code
def yX0_fill : MethodName := ⟨RX0, "fill", "(LHuesApart$Scene;I)V"⟩
abbrev cX0_nextOne : ByteArray := prog_2_method_7_code
def yX0_nextOne : MethodName := ⟨RX0, "nextOne", "(LHuesApart$Scene;I)I"⟩
abbrev cX0_gapToRow : ByteArray := prog_2_method_8_code
def yX0_gapToRow : MethodName := ⟨RX0, "gapToRow", "(LHuesApart$Scene;I)F"⟩
abbrev cX0_swapAll : ByteArray := prog_2_method_9_code
def yX0_swapAll : MethodName := ⟨RX0, "swapAll", "(LHuesApart$Scene;)I"⟩
abbrev cX0_swapOne : ByteArray := prog_2_method_10_code
def yX0_swapOne : MethodName := ⟨RX0, "swapOne", "(LHuesApart$Scene;I)Z"⟩
abbrev cX0_bestSet : ByteArray := prog_2_method_11_code
def yX0_bestSet : MethodName := ⟨RX0, "bestSet", "(LHuesApart$Scene;I)I"⟩
abbrev cX0_listMembers : ByteArray := prog_2_method_12_code
def yX0_listMembers : MethodName := ⟨RX0, "listMembers", "(I)I"⟩
abbrev cX0_nextOfLikeSize : ByteArray := prog_2_method_13_code
def yX0_nextOfLikeSize : MethodName := ⟨RX0, "nextOfLikeSize", "(I)I"⟩
def RX1 : String := "HuesApart$Scene"
def TX1 : u_T := fun k => match k with
  | 0 => ("HuesApart$Scene", "colours", "I", false)
  | 1 => ("HuesApart$Scene", "rgb", "[I", true)
  | 2 => ("HuesApart$Scene", "groundRgb", "[I", true)
  | 3 => ("HuesApart$Scene", "eyes", "[I", true)
  | 4 => ("HuesApart$Scene", "limits", "[I", true)
  | 5 => ("HuesApart$Scene", "fixedBits", "I", false)
  | 6 => ("HuesApart$Scene", "row", "[I", true)
  | _ => ("HuesApart$Scene", "rowLength", "I", false)
def tyX1 : Nat → FieldType := fun k => match k with
  | 0 => .int
  | 1 => .array .int
  | 2 => .array .int
  | 3 => .array .int
  | 4 => .array .int
  | 5 => .int
  | 6 => .array .int
  | _ => .int
abbrev wsX10 : List Cond := u_ws RX1 TX1 8
theorem nmX1 : ∀ a, a < 8 → ∀ b, b < 8 → a ≠ b → (TX1 a).2.1 ≠ (TX1 b).2.1 := by decide +kernel
theorem tyX1_ok : ∀ k, k < 8 → parseFieldDescriptor (TX1 k).2.2.1 = some (tyX1 k) := by decide +kernel
abbrev cX1_init : ByteArray := prog_3_method_1_code
def yX1_init : MethodName := ⟨RX1, "<init>", "()V"⟩
abbrev cX1_become : ByteArray := prog_3_method_2_code
def yX1_become : MethodName := ⟨RX1, "become", "(LHuesApart$Scene;)V"⟩
abbrev cX1_addColour : ByteArray := prog_3_method_3_code
def yX1_addColour : MethodName := ⟨RX1, "addColour", "(III)I"⟩
abbrev cX1_setLimit : ByteArray := prog_3_method_4_code
def yX1_setLimit : MethodName := ⟨RX1, "setLimit", "(II)I"⟩
abbrev cX1_setFixed : ByteArray := prog_3_method_5_code
def yX1_setFixed : MethodName := ⟨RX1, "setFixed", "(II)I"⟩
abbrev cX1_isFixed : ByteArray := prog_3_method_6_code
def yX1_isFixed : MethodName := ⟨RX1, "isFixed", "(I)Z"⟩
abbrev cX1_putIntoRow : ByteArray := prog_3_method_7_code
def yX1_putIntoRow : MethodName := ⟨RX1, "putIntoRow", "(I)V"⟩
abbrev cX1_placeOf : ByteArray := prog_3_method_8_code
def yX1_placeOf : MethodName := ⟨RX1, "placeOf", "(I)I"⟩
abbrev cX1_rowBits : ByteArray := prog_3_method_9_code
def yX1_rowBits : MethodName := ⟨RX1, "rowBits", "()I"⟩
abbrev cX1_countingBits : ByteArray := prog_3_method_10_code
def yX1_countingBits : MethodName := ⟨RX1, "countingBits", "()I"⟩
abbrev cX1_fitBits : ByteArray := prog_3_method_11_code
def yX1_fitBits : MethodName := ⟨RX1, "fitBits", "()I"⟩
abbrev cX1_isFit : ByteArray := prog_3_method_12_code
def yX1_isFit : MethodName := ⟨RX1, "isFit", "(I)Z"⟩
abbrev cX1_lightOf : ByteArray := prog_3_method_13_code
def yX1_lightOf : MethodName := ⟨RX1, "lightOf", "(I)F"⟩
abbrev cX1_lightAt : ByteArray := prog_3_method_14_code
def yX1_lightAt : MethodName := ⟨RX1, "lightAt", "([II)F"⟩
abbrev cX1_seenBy : ByteArray := prog_3_method_15_code
def yX1_seenBy : MethodName := ⟨RX1, "seenBy", "(III)F"⟩
abbrev cX1_isSeenAsMinusZero : ByteArray := prog_3_method_16_code
def yX1_isSeenAsMinusZero : MethodName := ⟨RX1, "isSeenAsMinusZero", "(III)Z"⟩
abbrev cX1_distanceFor : ByteArray := prog_3_method_17_code
def yX1_distanceFor : MethodName := ⟨RX1, "distanceFor", "(III)F"⟩
abbrev cX1_apartOf : ByteArray := prog_3_method_18_code
def yX1_apartOf : MethodName := ⟨RX1, "apartOf", "(II)F"⟩
abbrev cX1_pairsBelow : ByteArray := prog_3_method_19_code
def yX1_pairsBelow : MethodName := ⟨RX1, "pairsBelow", "(II)I"⟩
def RX2 : String := "HuesApart$Script"
def TX2 : u_T := fun k => match k with
  | 0 => ("HuesApart$Script", "bytes", "[I", true)
  | 1 => ("HuesApart$Script", "length", "I", false)
  | 2 => ("HuesApart$Script", "at", "I", false)
  | 3 => ("HuesApart$Script", "orders", "I", false)
  | 4 => ("HuesApart$Script", "kinds", "[I", true)
  | 5 => ("HuesApart$Script", "firsts", "[I", true)
  | _ => ("HuesApart$Script", "seconds", "[I", true)
def tyX2 : Nat → FieldType := fun k => match k with
  | 0 => .array .int
  | 1 => .int
  | 2 => .int
  | 3 => .int
  | 4 => .array .int
  | 5 => .array .int
  | _ => .array .int
abbrev wsX20 : List Cond := u_ws RX2 TX2 7
theorem nmX2 : ∀ a, a < 7 → ∀ b, b < 7 → a ≠ b → (TX2 a).2.1 ≠ (TX2 b).2.1 := by decide +kernel
theorem tyX2_ok : ∀ k, k < 7 → parseFieldDescriptor (TX2 k).2.2.1 = some (tyX2 k) := by decide +kernel
abbrev cX2_init : ByteArray := prog_4_method_1_code
def yX2_init : MethodName := ⟨RX2, "<init>", "()V"⟩
abbrev cX2_append : ByteArray := prog_4_method_2_code
def yX2_append : MethodName := ⟨RX2, "append", "(I)I"⟩
abbrev cX2_read : ByteArray := prog_4_method_3_code
def yX2_read : MethodName := ⟨RX2, "read", "()I"⟩
abbrev cX2_readOrder : ByteArray := prog_4_method_4_code
def yX2_readOrder : MethodName := ⟨RX2, "readOrder", "()Z"⟩
abbrev cX2_readSixFigures : ByteArray := prog_4_method_5_code
def yX2_readSixFigures : MethodName := ⟨RX2, "readSixFigures", "()Z"⟩
abbrev cX2_readNumber : ByteArray := prog_4_method_6_code
def yX2_readNumber : MethodName := ⟨RX2, "readNumber", "([I)Z"⟩
abbrev cX2_readEnd : ByteArray := prog_4_method_7_code
def yX2_readEnd : MethodName := ⟨RX2, "readEnd", "()Z"⟩
abbrev cX2_skipBlanks : ByteArray := prog_4_method_8_code
def yX2_skipBlanks : MethodName := ⟨RX2, "skipBlanks", "()V"⟩
abbrev cX2_byteHere : ByteArray := prog_4_method_9_code
def yX2_byteHere : MethodName := ⟨RX2, "byteHere", "()I"⟩
abbrev cX2_isTenFigure : ByteArray := prog_4_method_10_code
def yX2_isTenFigure : MethodName := ⟨RX2, "isTenFigure", "(I)Z"⟩
abbrev cX2_figureOf : ByteArray := prog_4_method_11_code
def yX2_figureOf : MethodName := ⟨RX2, "figureOf", "(I)I"⟩
def RX3 : String := "HuesApart"
def TX3 : u_T := fun k => match k with
  | 0 => ("HuesApart", "scene", "LHuesApart$Scene;", true)
  | 1 => ("HuesApart", "kept", "[LHuesApart$Scene;", true)
  | 2 => ("HuesApart", "states", "I", false)
  | 3 => ("HuesApart", "refused", "[I", true)
  | 4 => ("HuesApart", "script", "LHuesApart$Script;", true)
  | _ => ("HuesApart", "chooser", "LHuesApart$Chooser;", true)
def tyX3 : Nat → FieldType := fun k => match k with
  | 0 => .object "HuesApart$Scene"
  | 1 => .array (.object "HuesApart$Scene")
  | 2 => .int
  | 3 => .array .int
  | 4 => .object "HuesApart$Script"
  | _ => .object "HuesApart$Chooser"
abbrev wsX30 : List Cond := u_ws RX3 TX3 6
theorem nmX3 : ∀ a, a < 6 → ∀ b, b < 6 → a ≠ b → (TX3 a).2.1 ≠ (TX3 b).2.1 := by decide +kernel
theorem tyX3_ok : ∀ k, k < 6 → parseFieldDescriptor (TX3 k).2.2.1 = some (tyX3 k) := by decide +kernel
abbrev cX3_init : ByteArray := prog_1_method_1_code
def yX3_init : MethodName := ⟨RX3, "<init>", "()V"⟩
abbrev cX3_colour : ByteArray := prog_1_method_2_code
def yX3_colour : MethodName := ⟨RX3, "colour", "(III)I"⟩
abbrev cX3_paints : ByteArray := prog_1_method_3_code
def yX3_paints : MethodName := ⟨RX3, "paints", "(IIII)I"⟩
abbrev cX3_ground : ByteArray := prog_1_method_4_code
def yX3_ground : MethodName := ⟨RX3, "ground", "(III)I"⟩
abbrev cX3_eye : ByteArray := prog_1_method_5_code
def yX3_eye : MethodName := ⟨RX3, "eye", "(III)I"⟩
abbrev cX3_sets : ByteArray := prog_1_method_6_code
def yX3_sets : MethodName := ⟨RX3, "sets", "(II)I"⟩
abbrev cX3_fixes : ByteArray := prog_1_method_7_code
def yX3_fixes : MethodName := ⟨RX3, "fixes", "(II)I"⟩
abbrev cX3_of : ByteArray := prog_1_method_8_code
def yX3_of : MethodName := ⟨RX3, "of", "(II)I"⟩
abbrev cX3_look : ByteArray := prog_1_method_9_code
def yX3_look : MethodName := ⟨RX3, "look", "(II)I"⟩
abbrev cX3_light : ByteArray := prog_1_method_10_code
def yX3_light : MethodName := ⟨RX3, "light", "(I)I"⟩
abbrev cX3_seen : ByteArray := prog_1_method_11_code
def yX3_seen : MethodName := ⟨RX3, "seen", "(III)I"⟩
abbrev cX3_distance : ByteArray := prog_1_method_12_code
def yX3_distance : MethodName := ⟨RX3, "distance", "(III)I"⟩
abbrev cX3_apart : ByteArray := prog_1_method_13_code
def yX3_apart : MethodName := ⟨RX3, "apart", "(II)I"⟩
abbrev cX3_fills : ByteArray := prog_1_method_14_code
def yX3_fills : MethodName := ⟨RX3, "fills", "(I)I"⟩
abbrev cX3_swaps : ByteArray := prog_1_method_15_code
def yX3_swaps : MethodName := ⟨RX3, "swaps", "()I"⟩
abbrev cX3_palette : ByteArray := prog_1_method_16_code
def yX3_palette : MethodName := ⟨RX3, "palette", "(I)I"⟩
abbrev cX3_least : ByteArray := prog_1_method_17_code
def yX3_least : MethodName := ⟨RX3, "least", "()I"⟩
abbrev cX3_nearest : ByteArray := prog_1_method_18_code
def yX3_nearest : MethodName := ⟨RX3, "nearest", "()I"⟩
abbrev cX3_best : ByteArray := prog_1_method_19_code
def yX3_best : MethodName := ⟨RX3, "best", "(I)I"⟩
abbrev cX3_mistaken : ByteArray := prog_1_method_20_code
def yX3_mistaken : MethodName := ⟨RX3, "mistaken", "(II)I"⟩
abbrev cX3_count : ByteArray := prog_1_method_21_code
def yX3_count : MethodName := ⟨RX3, "count", "(I)I"⟩
abbrev cX3_type : ByteArray := prog_1_method_22_code
def yX3_type : MethodName := ⟨RX3, "type", "(I)I"⟩
abbrev cX3_clear : ByteArray := prog_1_method_23_code
def yX3_clear : MethodName := ⟨RX3, "clear", "()I"⟩
abbrev cX3_does : ByteArray := prog_1_method_24_code
def yX3_does : MethodName := ⟨RX3, "does", "()I"⟩
abbrev cX3_back : ByteArray := prog_1_method_25_code
def yX3_back : MethodName := ⟨RX3, "back", "()I"⟩
abbrev cX3_told : ByteArray := prog_1_method_26_code
def yX3_told : MethodName := ⟨RX3, "told", "(I)I"⟩
abbrev cX3_digest : ByteArray := prog_1_method_27_code
def yX3_digest : MethodName := ⟨RX3, "digest", "()J"⟩
abbrev cX3_whyNoColour : ByteArray := prog_1_method_28_code
def yX3_whyNoColour : MethodName := ⟨RX3, "whyNoColour", "(III)I"⟩
abbrev cX3_whyNoLimit : ByteArray := prog_1_method_29_code
def yX3_whyNoLimit : MethodName := ⟨RX3, "whyNoLimit", "(II)I"⟩
abbrev cX3_whyNotFixed : ByteArray := prog_1_method_30_code
def yX3_whyNotFixed : MethodName := ⟨RX3, "whyNotFixed", "(II)I"⟩
abbrev cX3_whyNoFilling : ByteArray := prog_1_method_31_code
def yX3_whyNoFilling : MethodName := ⟨RX3, "whyNoFilling", "(I)I"⟩
abbrev cX3_refuse : ByteArray := prog_1_method_32_code
def yX3_refuse : MethodName := ⟨RX3, "refuse", "(I)I"⟩
abbrev cX3_isColour : ByteArray := prog_1_method_33_code
def yX3_isColour : MethodName := ⟨RX3, "isColour", "(I)Z"⟩
abbrev cX3_isEye : ByteArray := prog_1_method_34_code
def yX3_isEye : MethodName := ⟨RX3, "isEye", "(I)Z"⟩
abbrev cX3_isEyeNumber : ByteArray := prog_1_method_35_code
def yX3_isEyeNumber : MethodName := ⟨RX3, "isEyeNumber", "(II)Z"⟩
abbrev cX3_isRgb : ByteArray := prog_1_method_36_code
def yX3_isRgb : MethodName := ⟨RX3, "isRgb", "(III)Z"⟩
abbrev cX3_isWithin : ByteArray := prog_1_method_37_code
def yX3_isWithin : MethodName := ⟨RX3, "isWithin", "(III)Z"⟩
abbrev cX3_whyNoOrder : ByteArray := prog_1_method_38_code
def yX3_whyNoOrder : MethodName := ⟨RX3, "whyNoOrder", "(III)I"⟩
abbrev cX3_obey : ByteArray := prog_1_method_39_code
def yX3_obey : MethodName := ⟨RX3, "obey", "(III)V"⟩
abbrev cX3_redOf : ByteArray := prog_1_method_40_code
def yX3_redOf : MethodName := ⟨RX3, "redOf", "(I)I"⟩
abbrev cX3_greenOf : ByteArray := prog_1_method_41_code
def yX3_greenOf : MethodName := ⟨RX3, "greenOf", "(I)I"⟩
abbrev cX3_blueOf : ByteArray := prog_1_method_42_code
def yX3_blueOf : MethodName := ⟨RX3, "blueOf", "(I)I"⟩
abbrev cX3_leaveState : ByteArray := prog_1_method_43_code
def yX3_leaveState : MethodName := ⟨RX3, "leaveState", "()V"⟩
abbrev cX3_noteState : ByteArray := prog_1_method_44_code
def yX3_noteState : MethodName := ⟨RX3, "noteState", "()V"⟩
abbrev cX3_keepNoted : ByteArray := prog_1_method_45_code
def yX3_keepNoted : MethodName := ⟨RX3, "keepNoted", "()V"⟩
abbrev cX3_putRgb : ByteArray := prog_1_method_46_code
def yX3_putRgb : MethodName := ⟨RX3, "putRgb", "([IIIII)I"⟩
abbrev cX3_bitsOf : ByteArray := prog_1_method_47_code
def yX3_bitsOf : MethodName := ⟨RX3, "bitsOf", "(F)I"⟩
def RX4 : String := "HuesApartModel"
def TX4 : u_T := fun k => match k with
  | 0 => ("HuesApartModel", "now", "[I", true)
  | 1 => ("HuesApartModel", "aside", "[I", true)
  | 2 => ("HuesApartModel", "past", "[I", true)
  | 3 => ("HuesApartModel", "states", "I", false)
  | 4 => ("HuesApartModel", "refused", "[I", true)
  | 5 => ("HuesApartModel", "text", "[I", true)
  | 6 => ("HuesApartModel", "bytes", "I", false)
  | 7 => ("HuesApartModel", "far", "[F", true)
  | 8 => ("HuesApartModel", "fitting", "I", false)
  | 9 => ("HuesApartModel", "some", "[I", true)
  | 10 => ("HuesApartModel", "letters", "[I", true)
  | 11 => ("HuesApartModel", "numbers", "[I", true)
  | 12 => ("HuesApartModel", "orders", "I", false)
  | 13 => ("HuesApartModel", "spot", "I", false)
  | 14 => ("HuesApartModel", "wrongAt", "I", false)
  | _ => ("HuesApartModel", "hash", "J", false)
def tyX4 : Nat → FieldType := fun k => match k with
  | 0 => .array .int
  | 1 => .array .int
  | 2 => .array .int
  | 3 => .int
  | 4 => .array .int
  | 5 => .array .int
  | 6 => .int
  | 7 => .array .float
  | 8 => .int
  | 9 => .array .int
  | 10 => .array .int
  | 11 => .array .int
  | 12 => .int
  | 13 => .int
  | 14 => .int
  | _ => .long
abbrev wsX40 : List Cond := u_ws RX4 TX4 16
theorem nmX4 : ∀ a, a < 16 → ∀ b, b < 16 → a ≠ b → (TX4 a).2.1 ≠ (TX4 b).2.1 := by decide +kernel
theorem tyX4_ok : ∀ k, k < 16 → parseFieldDescriptor (TX4 k).2.2.1 = some (tyX4 k) := by decide +kernel
abbrev cX4_init : ByteArray := prog_6_method_1_code
def yX4_init : MethodName := ⟨RX4, "<init>", "()V"⟩
abbrev cX4_in : ByteArray := prog_6_method_3_code
def yX4_in : MethodName := ⟨RX4, "in", "(III)Z"⟩
abbrev cX4_has : ByteArray := prog_6_method_4_code
def yX4_has : MethodName := ⟨RX4, "has", "(II)Z"⟩
abbrev cX4_bitsIn : ByteArray := prog_6_method_5_code
def yX4_bitsIn : MethodName := ⟨RX4, "bitsIn", "(I)I"⟩
abbrev cX4_bitsOf : ByteArray := prog_6_method_6_code
def yX4_bitsOf : MethodName := ⟨RX4, "bitsOf", "(F)I"⟩
abbrev cX4_bad : ByteArray := prog_6_method_7_code
def yX4_bad : MethodName := ⟨RX4, "bad", "()I"⟩
abbrev cX4_no : ByteArray := prog_6_method_8_code
def yX4_no : MethodName := ⟨RX4, "no", "()I"⟩
abbrev cX4_full : ByteArray := prog_6_method_9_code
def yX4_full : MethodName := ⟨RX4, "full", "()I"⟩
abbrev cX4_remembers : ByteArray := prog_6_method_10_code
def yX4_remembers : MethodName := ⟨RX4, "remembers", "()V"⟩
abbrev cX4_back : ByteArray := prog_6_method_11_code
def yX4_back : MethodName := ⟨RX4, "back", "()I"⟩
abbrev cX4_isPart : ByteArray := prog_6_method_12_code
def yX4_isPart : MethodName := ⟨RX4, "isPart", "(I)Z"⟩
abbrev cX4_areParts : ByteArray := prog_6_method_13_code
def yX4_areParts : MethodName := ⟨RX4, "areParts", "(III)Z"⟩
abbrev cX4_isColour : ByteArray := prog_6_method_14_code
def yX4_isColour : MethodName := ⟨RX4, "isColour", "(I)Z"⟩
abbrev cX4_isEye : ByteArray := prog_6_method_15_code
def yX4_isEye : MethodName := ⟨RX4, "isEye", "(I)Z"⟩
abbrev cX4_becomes : ByteArray := prog_6_method_16_code
def yX4_becomes : MethodName := ⟨RX4, "becomes", "(IIII)I"⟩
abbrev cX4_colourAt : ByteArray := prog_6_method_17_code
def yX4_colourAt : MethodName := ⟨RX4, "colourAt", "(I)I"⟩
abbrev cX4_comes : ByteArray := prog_6_method_18_code
def yX4_comes : MethodName := ⟨RX4, "comes", "(III)I"⟩
abbrev cX4_colour : ByteArray := prog_6_method_19_code
def yX4_colour : MethodName := ⟨RX4, "colour", "(III)I"⟩
abbrev cX4_paints : ByteArray := prog_6_method_20_code
def yX4_paints : MethodName := ⟨RX4, "paints", "(IIII)I"⟩
abbrev cX4_ground : ByteArray := prog_6_method_21_code
def yX4_ground : MethodName := ⟨RX4, "ground", "(III)I"⟩
abbrev cX4_isOfEye : ByteArray := prog_6_method_22_code
def yX4_isOfEye : MethodName := ⟨RX4, "isOfEye", "(II)Z"⟩
abbrev cX4_exchanges : ByteArray := prog_6_method_23_code
def yX4_exchanges : MethodName := ⟨RX4, "exchanges", "(II)I"⟩
abbrev cX4_eye : ByteArray := prog_6_method_24_code
def yX4_eye : MethodName := ⟨RX4, "eye", "(III)I"⟩
abbrev cX4_sets : ByteArray := prog_6_method_25_code
def yX4_sets : MethodName := ⟨RX4, "sets", "(II)I"⟩
abbrev cX4_fixesOne : ByteArray := prog_6_method_26_code
def yX4_fixesOne : MethodName := ⟨RX4, "fixesOne", "(II)I"⟩
abbrev cX4_fixes : ByteArray := prog_6_method_27_code
def yX4_fixes : MethodName := ⟨RX4, "fixes", "(II)I"⟩
abbrev cX4_shineAt : ByteArray := prog_6_method_28_code
def yX4_shineAt : MethodName := ⟨RX4, "shineAt", "(I)F"⟩
abbrev cX4_isFitting : ByteArray := prog_6_method_29_code
def yX4_isFitting : MethodName := ⟨RX4, "isFitting", "(I)Z"⟩
abbrev cX4_placeOf : ByteArray := prog_6_method_30_code
def yX4_placeOf : MethodName := ⟨RX4, "placeOf", "(I)I"⟩
abbrev cX4_ofColour : ByteArray := prog_6_method_31_code
def yX4_ofColour : MethodName := ⟨RX4, "ofColour", "(II)I"⟩
abbrev cX4_of : ByteArray := prog_6_method_32_code
def yX4_of : MethodName := ⟨RX4, "of", "(II)I"⟩
abbrev cX4_look : ByteArray := prog_6_method_33_code
def yX4_look : MethodName := ⟨RX4, "look", "(II)I"⟩
abbrev cX4_light : ByteArray := prog_6_method_34_code
def yX4_light : MethodName := ⟨RX4, "light", "(I)I"⟩
abbrev cX4_sight : ByteArray := prog_6_method_35_code
def yX4_sight : MethodName := ⟨RX4, "sight", "(III)F"⟩
abbrev cX4_seen : ByteArray := prog_6_method_36_code
def yX4_seen : MethodName := ⟨RX4, "seen", "(III)I"⟩
abbrev cX4_farFor : ByteArray := prog_6_method_37_code
def yX4_farFor : MethodName := ⟨RX4, "farFor", "(III)F"⟩
abbrev cX4_distance : ByteArray := prog_6_method_38_code
def yX4_distance : MethodName := ⟨RX4, "distance", "(III)I"⟩
abbrev cX4_apartOf : ByteArray := prog_6_method_39_code
def yX4_apartOf : MethodName := ⟨RX4, "apartOf", "(II)F"⟩
abbrev cX4_apart : ByteArray := prog_6_method_40_code
def yX4_apart : MethodName := ⟨RX4, "apart", "(II)I"⟩
abbrev cX4_laysFar : ByteArray := prog_6_method_41_code
def yX4_laysFar : MethodName := ⟨RX4, "laysFar", "()V"⟩
abbrev cX4_leastOf : ByteArray := prog_6_method_42_code
def yX4_leastOf : MethodName := ⟨RX4, "leastOf", "(I)F"⟩
abbrev cX4_takesPalette : ByteArray := prog_6_method_43_code
def yX4_takesPalette : MethodName := ⟨RX4, "takesPalette", "()V"⟩
abbrev cX4_putsLast : ByteArray := prog_6_method_44_code
def yX4_putsLast : MethodName := ⟨RX4, "putsLast", "(I)V"⟩
abbrev cX4_lightest : ByteArray := prog_6_method_45_code
def yX4_lightest : MethodName := ⟨RX4, "lightest", "()I"⟩
abbrev cX4_nearestIn : ByteArray := prog_6_method_46_code
def yX4_nearestIn : MethodName := ⟨RX4, "nearestIn", "(I)F"⟩
abbrev cX4_farthest : ByteArray := prog_6_method_47_code
def yX4_farthest : MethodName := ⟨RX4, "farthest", "()I"⟩
abbrev cX4_fillsFor : ByteArray := prog_6_method_48_code
def yX4_fillsFor : MethodName := ⟨RX4, "fillsFor", "(I)I"⟩
abbrev cX4_canFill : ByteArray := prog_6_method_49_code
def yX4_canFill : MethodName := ⟨RX4, "canFill", "(I)Z"⟩
abbrev cX4_fills : ByteArray := prog_6_method_50_code
def yX4_fills : MethodName := ⟨RX4, "fills", "(I)I"⟩
abbrev cX4_isSwapped : ByteArray := prog_6_method_51_code
def yX4_isSwapped : MethodName := ⟨RX4, "isSwapped", "()Z"⟩
abbrev cX4_swapsAll : ByteArray := prog_6_method_52_code
def yX4_swapsAll : MethodName := ⟨RX4, "swapsAll", "()I"⟩
abbrev cX4_swaps : ByteArray := prog_6_method_53_code
def yX4_swaps : MethodName := ⟨RX4, "swaps", "()I"⟩
abbrev cX4_palette : ByteArray := prog_6_method_54_code
def yX4_palette : MethodName := ⟨RX4, "palette", "(I)I"⟩
abbrev cX4_leastNow : ByteArray := prog_6_method_55_code
def yX4_leastNow : MethodName := ⟨RX4, "leastNow", "()I"⟩
abbrev cX4_least : ByteArray := prog_6_method_56_code
def yX4_least : MethodName := ⟨RX4, "least", "()I"⟩
abbrev cX4_nearestNow : ByteArray := prog_6_method_57_code
def yX4_nearestNow : MethodName := ⟨RX4, "nearestNow", "()I"⟩
abbrev cX4_nearest : ByteArray := prog_6_method_58_code
def yX4_nearest : MethodName := ⟨RX4, "nearest", "()I"⟩
abbrev cX4_isNext : ByteArray := prog_6_method_59_code
def yX4_isNext : MethodName := ⟨RX4, "isNext", "(I)Z"⟩
abbrev cX4_setOf : ByteArray := prog_6_method_60_code
def yX4_setOf : MethodName := ⟨RX4, "setOf", "(I)I"⟩
abbrev cX4_bestOf : ByteArray := prog_6_method_61_code
def yX4_bestOf : MethodName := ⟨RX4, "bestOf", "(I)I"⟩
abbrev cX4_best : ByteArray := prog_6_method_62_code
def yX4_best : MethodName := ⟨RX4, "best", "(I)I"⟩
abbrev cX4_mistaken : ByteArray := prog_6_method_63_code
def yX4_mistaken : MethodName := ⟨RX4, "mistaken", "(II)I"⟩
abbrev cX4_countsSet : ByteArray := prog_6_method_64_code
def yX4_countsSet : MethodName := ⟨RX4, "countsSet", "()I"⟩
abbrev cX4_fittingMany : ByteArray := prog_6_method_65_code
def yX4_fittingMany : MethodName := ⟨RX4, "fittingMany", "()I"⟩
abbrev cX4_countOf : ByteArray := prog_6_method_66_code
def yX4_countOf : MethodName := ⟨RX4, "countOf", "(I)I"⟩
abbrev cX4_count : ByteArray := prog_6_method_67_code
def yX4_count : MethodName := ⟨RX4, "count", "(I)I"⟩
abbrev cX4_type : ByteArray := prog_6_method_68_code
def yX4_type : MethodName := ⟨RX4, "type", "(I)I"⟩
abbrev cX4_clear : ByteArray := prog_6_method_69_code
def yX4_clear : MethodName := ⟨RX4, "clear", "()I"⟩
abbrev cX4_isAt : ByteArray := prog_6_method_70_code
def yX4_isAt : MethodName := ⟨RX4, "isAt", "(II)Z"⟩
abbrev cX4_blanks : ByteArray := prog_6_method_71_code
def yX4_blanks : MethodName := ⟨RX4, "blanks", "()V"⟩
abbrev cX4_fails : ByteArray := prog_6_method_72_code
def yX4_fails : MethodName := ⟨RX4, "fails", "(I)Z"⟩
abbrev cX4_takesSix : ByteArray := prog_6_method_73_code
def yX4_takesSix : MethodName := ⟨RX4, "takesSix", "(I)Z"⟩
abbrev cX4_takesNumber : ByteArray := prog_6_method_74_code
def yX4_takesNumber : MethodName := ⟨RX4, "takesNumber", "(I)Z"⟩
abbrev cX4_takesNumbers : ByteArray := prog_6_method_75_code
def yX4_takesNumbers : MethodName := ⟨RX4, "takesNumbers", "(I)Z"⟩
abbrev cX4_takesOrder : ByteArray := prog_6_method_76_code
def yX4_takesOrder : MethodName := ⟨RX4, "takesOrder", "()Z"⟩
abbrev cX4_isRead : ByteArray := prog_6_method_77_code
def yX4_isRead : MethodName := ⟨RX4, "isRead", "()Z"⟩
abbrev cX4_comesTold : ByteArray := prog_6_method_78_code
def yX4_comesTold : MethodName := ⟨RX4, "comesTold", "(I)Z"⟩
abbrev cX4_limits : ByteArray := prog_6_method_79_code
def yX4_limits : MethodName := ⟨RX4, "limits", "(II)Z"⟩
abbrev cX4_obeys : ByteArray := prog_6_method_80_code
def yX4_obeys : MethodName := ⟨RX4, "obeys", "(I)Z"⟩
abbrev cX4_turns : ByteArray := prog_6_method_81_code
def yX4_turns : MethodName := ⟨RX4, "turns", "()V"⟩
abbrev cX4_does : ByteArray := prog_6_method_82_code
def yX4_does : MethodName := ⟨RX4, "does", "()I"⟩
abbrev cX4_toldOf : ByteArray := prog_6_method_83_code
def yX4_toldOf : MethodName := ⟨RX4, "toldOf", "(I)I"⟩
abbrev cX4_told : ByteArray := prog_6_method_84_code
def yX4_told : MethodName := ⟨RX4, "told", "(I)I"⟩
abbrev cX4_mix : ByteArray := prog_6_method_85_code
def yX4_mix : MethodName := ⟨RX4, "mix", "(J)V"⟩
abbrev cX4_digest : ByteArray := prog_6_method_86_code
def yX4_digest : MethodName := ⟨RX4, "digest", "()J"⟩
def RJ6 : String := "java/lang/Integer"
abbrev cJ6_bitCount_0f7a4 : ByteArray := prog_7_method_49_code
def yJ6_bitCount_0f7a4 : MethodName := ⟨RJ6, "bitCount", "(I)I"⟩
def RJ10 : String := "java/lang/System"
def RJ7 : String := "java/util/Arrays"
abbrev cJ7_fill_53178 : ByteArray := prog_9_method_103_code
def yJ7_fill_53178 : MethodName := ⟨RJ7, "fill", "([II)V"⟩
def RL : String := "HuesApartLaw"
abbrev cL_law : ByteArray := code
def yL_law : MethodName := ⟨RL, "law", "([I)Z"⟩
abbrev vwCl : List vw_C := [(RX0, TX0, 2), (RX1, TX1, 8), (RX2, TX2, 7), (RX3, TX3, 6), (RX4, TX4, 16)]
end
section
/-! A uniform world: the cells that the run has made, numbered 0, 1, .. in the order of their making; values whose references are such numbers (the law's own script is written retAddr 0) -/
abbrev xC : Type := vp_A ⊕ (Nat × List Value)
abbrev xH : Type := List xC
abbrev xL : Type := List (Option Value)
/-- a method: its name, code, size of its locals, what it returns; the script, where it has it -/
abbrev xM : Type := MethodName × ByteArray × Nat × Option FieldType × Option (Nat × (Nat → Int32))
/-- where a world lies: the classes' numbers and slots; the three array classes; the first cell; the script's cell -/
abbrev xG : Type := va_G × (ClassId × ClassId × ClassId) × Nat × Nat
def xv (G : xG) : Value → Value
  | .ref k => .ref (G.2.2.1 + k)
  | .retAddr _ => .ref G.2.2.2
  | v => v
def xe (G : xG) : xC → va_E
  | .inr (ci, fs) => .inr (ci, fs.map (xv G))
  | .inl (n, .inl f) => .inl (G.2.1.1, n, .inl f)
  | .inl (n, .inr (.inl f)) => .inl (G.2.1.1, n, .inr (.inl f))
  | .inl (n, .inr (.inr (.inl f))) => .inl (G.2.1.2.1, n, .inr (.inr (.inl f)))
  | .inl (n, .inr (.inr (.inr (.inl f)))) => .inl (G.2.1.2.1, n, .inr (.inr (.inr (.inl f))))
  | .inl (n, .inr (.inr (.inr (.inr f)))) => .inl (G.2.1.2.2, n, .inr (.inr (.inr (.inr (fun j => (f j).map (fun k => G.2.2.1 + k))))))
def xw (G : xG) (h : xH) : va_W := h.mapIdx (fun k c => (G.2.2.1 + k, xe G c))
abbrev xty (G : xG) : List (ClassId × FieldType) := [(G.2.1.1, .int), (G.2.1.2.1, .float), (G.2.1.2.2, .object RX1)]
abbrev xA (G : xG) : Nat → Prop := fun q => G.2.2.1 ≤ q
theorem xw_get {G : xG} {h : xH} {k : Nat} {c : xC} (hk : h[k]? = some c) : (xw G h)[k]? = some (G.2.2.1 + k, xe G c) := by
  unfold xw; rw [List.getElem?_mapIdx, hk]; rfl
theorem xw_getI {G : xG} {h : xH} {k : Nat} {q : Nat × va_E} (hk : (xw G h)[k]? = some q) : ∃ c, h[k]? = some c ∧ q = (G.2.2.1 + k, xe G c) := by
  unfold xw at hk; rw [List.getElem?_mapIdx] at hk
  cases hc : h[k]? with
  | none => rw [hc] at hk; cases hk
  | some c => rw [hc] at hk; exact ⟨c, rfl, (Option.some.inj hk).symm⟩
theorem xw_set {G : xG} {h : xH} {k : Nat} {c : xC} : (xw G h).set k (G.2.2.1 + k, xe G c) = xw G (h.set k c) := by
  apply List.ext_getElem?
  intro j
  unfold xw
  rw [List.getElem?_set, List.getElem?_mapIdx, List.getElem?_mapIdx, List.getElem?_set, List.length_mapIdx]
  by_cases e : k = j
  · subst e
    by_cases l : k < h.length
    · simp [l]
    · simp [l]
  · simp [e]
theorem xw_push {G : xG} {h : xH} {c : xC} : xw G h ++ [(G.2.2.1 + h.length, xe G c)] = xw G (h ++ [c]) := by
  unfold xw
  rw [List.mapIdx_append]
  simp
/-- the cells lie apart, all from the first on -/
theorem xw_D (G : xG) (h : xH) : va_D (xA G) (xw G h) := by
  refine ⟨fun i j p q hi hj e => ?_, fun k q hk => ?_⟩
  · obtain ⟨c, -, rfl⟩ := xw_getI hi
    obtain ⟨d, -, rfl⟩ := xw_getI hj
    have e : G.2.2.1 + i = G.2.2.1 + j := e
    omega
  · obtain ⟨c, -, rfl⟩ := xw_getI hk
    exact Nat.le_add_right _ _
/-- the heap holds the world -/
def xP (G : xG) (h : xH) (H : Heap) : Prop := va_P G.1 vwCl (xw G h) H
/-- the locals -/
def xls (G : xG) (ls : Array Slot) (n : Nat) (L : xL) : Prop := ls.size = n ∧ lv_wf ls ∧ ∀ (i : Nat) (v : Value), L[i]? = some (some v) → ls[i]? = some (.val (xv G v))
def xisN : Cond → Bool
  | .fieldLinkNest .. => true
  | .methodLinkNest .. => true
  | _ => false
def lw_good : List Cond := lw_tbl.filter goodWord
def lw_nest : List Cond := lw_tbl.filter xisN
theorem xNw_warm {w : Cond} (hw : xisN w = true) {s U : State} (hW : s.WarmedH U.vm) (h : va_Nw w s) : va_Nw w U := by
  cases w <;> first | (cases hw; done) | exact va_Nw.warmF hW h | exact va_Nw.warmM hW h
theorem xNw_same {w : Cond} (hw : xisN w = true) {s U : State} (hv : s.vm = U.vm) (h : va_Nw w s) : va_Nw w U := by
  cases w <;> first | (cases hw; done) | exact va_Nw.same rfl hv h
/-- what the tables say of a state -/
def xK (G : xG) (U : State) : Prop := va_K G.1 vwCl (xty G) U ∧ (∀ w ∈ lw_nest, va_Nw w U) ∧ va_AO RX1 U
theorem xK.warm {G : xG} {s U : State} (hW : s.WarmedH U.vm) (h : xK G s) : xK G U :=
  ⟨va_K.moved hW.alike h.1, fun w hw => xNw_warm (List.mem_filter.mp hw).2 hW (h.2.1 w hw), va_AO.moved hW.alike h.2.2⟩
theorem xK.same {G : xG} {s U : State} (hv : s.vm = U.vm) (h : xK G s) : xK G U :=
  ⟨va_K.moved (hv ▸ Vm.Alike.refl s.vm) h.1, fun w hw => xNw_same (List.mem_filter.mp hw).2 hv (h.2.1 w hw), va_AO.moved (hv ▸ Vm.Alike.refl s.vm) h.2.2⟩
/-- the script, where the frame has it -/
def xX (scr : Option (Nat × (Nat → Int32))) (G : xG) (s : State) : Prop := match scr with
  | none => True
  | some (n, f) => va_X G.2.2.2 n f s s.heap ∧ G.2.2.2 < s.heap.size ∧ G.2.2.2 < G.2.2.1
/-- a frame of the method M, with room for d calls below it -/
def xF (M : xM) (d : Nat) (p : Program) (R : Room) (s : State) (m : MethodId) (args : Array Value) (meth : Method) (c : Code) (G : xG) : Prop :=
  p.tables.exec = Jvm.exec ∧ c.code = M.2.1 ∧ c.maxLocals = M.2.2.1 ∧ s.vm.findClass M.1.cls = some m.cls ∧ (∀ w ∈ lw_good, w.before args s = true) ∧ xK G s ∧ G.2.2.1 ≤ s.heap.size ∧ meth.name = M.1.name ∧ meth.locks = false ∧ xX M.2.2.2.2 G s ∧ d ≤ R.frames ∧ 38 * d ≤ R.locals
/-- a value that the method may return -/
def xnar : Option FieldType → Option Value → Prop
  | none, none => True
  | some ty, some (.int v) => narrow ty (.int v) = .int v
  | some .long, some (.long _) => True
  | some .float, some (.float _) => True
  | _, _ => False
def xrins : Option Value → Instr
  | none => .return_
  | some (.int _) => .ireturn
  | some (.long _) => .lreturn
  | some (.float _) => .freturn
  | some _ => .areturn
/-- the count of cells and slots: so many are to come yet; the world ends where the heap ends -/
def xB (G : xG) (h : xH) (s : State) (R : Room) (mc ms cells slots C1 S1 : Nat) : Prop := cells + mc = C1 ∧ slots + ms ≤ S1 ∧ C1 ≤ R.cells ∧ S1 ≤ R.slots ∧ G.2.2.1 + h.length = s.heap.size + cells
theorem xP.size {p : Program} {l : Launch} {e : Env} {R : Room} {s : State} {m : MethodId} {args : Array Value} {below : List Frame} {meth : Method} {c : Code} {T : State} {H : Heap} {locs : List Loc} {cells slots : Nat} {G : xG} {h : xH} (P : xP G h H) (hb0 : G.2.2.1 ≤ s.heap.size) (hT : T.heap = H) (X : Stand p l e R s m args below meth c T locs cells slots) (hz : G.2.2.1 + h.length = s.heap.size + cells) : H.size = G.2.2.1 + h.length := by
  have h1 : (T.setVm s.vm).heap.size ≤ s.heap.size + cells := X.same.2.2.1
  have h2 : s.heap.size ≤ (T.setVm s.vm).heap.size := X.same.2.1
  have e1 : (T.setVm s.vm).heap = H := hT
  rw [e1] at h1 h2
  cases hl : h.length with
  | zero => omega
  | succ n =>
    have hn : n < h.length := by omega
    have h3 : _ < H.size := (P n _ (xw_get (List.getElem?_eq_getElem hn))).lt
    have h3 : G.2.2.1 + n < H.size := h3
    omega
/-- from this point of the method on: it returns, with Post; it makes mc cells of at most ms slots -/
def XW (M : xM) (d mc ms : Nat) (pc : Nat) (L : xL) (st : List Value) (h : xH) (Post : Option Value → xH → Prop) : Prop :=
  ∀ (p : Program) (l : Launch) (e : Env) (R : Room) (s : State) (m : MethodId) (args : Array Value) (below : List Frame) (meth : Method) (c : Code) (G : xG) (Q : State → Prop) (H : Heap) (locs : List Loc) (cells slots C1 S1 : Nat) (ls : Array Slot),
    xF M d p R s m args meth c G → xP G h H → va_S (xA G) s.heap H locs → xls G ls M.2.2.1 L → xB G h s R mc ms cells slots C1 S1 →
    (∀ (pc : Nat) (ls : Array Slot) (r : Option Value) (h' : xH) (H' : Heap) (locs' : List Loc), Post r h' → xnar M.2.2.2.1 r → decode M.2.1 pc = .ok (xrins r, 1) → xP G h' H' → va_S (xA G) s.heap H' locs' → G.2.2.1 + h'.length = s.heap.size + C1 → W p l e R s m args below meth c H' locs' C1 S1 Q (F0 m pc ls (r.toList.map (xv G)))) →
    W p l e R s m args below meth c H locs cells slots Q (F0 m pc ls (st.map (xv G)))
end
section
/-! The rows: an instruction each -/
section XRows
variable {M : xM} {d mc ms pc : Nat} {L : xL} {st : List Value} {h : xH} {Post : Option Value → xH → Prop}
theorem XW.row {pc' : Nat} {st' : List Value}
    (row : ∀ (p : Program) (l : Launch) (e : Env) (R : Room) (s : State) (m : MethodId) (args : Array Value) (below : List Frame) (meth : Method) (c : Code) (G : xG) (Q : State → Prop) (H : Heap) (locs : List Loc) (cells slots : Nat) (ls : Array Slot),
      xF M d p R s m args meth c G → xP G h H → va_S (xA G) s.heap H locs → xls G ls M.2.2.1 L → W p l e R s m args below meth c H locs cells slots Q (F0 m pc' ls (st'.map (xv G))) → W p l e R s m args below meth c H locs cells slots Q (F0 m pc ls (st.map (xv G))))
    (k : XW M d mc ms pc' L st' h Post) : XW M d mc ms pc L st h Post := by
  intro p l e R s m args below meth c G Q H locs cells slots C1 S1 ls F P S E b hr
  exact row p l e R s m args below meth c G Q H locs cells slots ls F P S E (k p l e R s m args below meth c G Q H locs cells slots C1 S1 ls F P S E b hr)
theorem XW.row2 {pc1 pc2 : Nat} {st1 st2 : List Value} {c1 c2 : Prop}
    (row : ∀ (p : Program) (l : Launch) (e : Env) (R : Room) (s : State) (m : MethodId) (args : Array Value) (below : List Frame) (meth : Method) (c : Code) (G : xG) (Q : State → Prop) (H : Heap) (locs : List Loc) (cells slots : Nat) (ls : Array Slot),
      xF M d p R s m args meth c G → (c1 → W p l e R s m args below meth c H locs cells slots Q (F0 m pc1 ls (st1.map (xv G)))) → (c2 → W p l e R s m args below meth c H locs cells slots Q (F0 m pc2 ls (st2.map (xv G)))) → W p l e R s m args below meth c H locs cells slots Q (F0 m pc ls (st.map (xv G))))
    (k1 : c1 → XW M d mc ms pc1 L st1 h Post) (k2 : c2 → XW M d mc ms pc2 L st2 h Post) : XW M d mc ms pc L st h Post := by
  intro p l e R s m args below meth c G Q H locs cells slots C1 S1 ls F P S E b hr
  exact row p l e R s m args below meth c G Q H locs cells slots ls F (fun q => k1 q p l e R s m args below meth c G Q H locs cells slots C1 S1 ls F P S E b hr) (fun q => k2 q p l e R s m args below meth c G Q H locs cells slots C1 S1 ls F P S E b hr)
theorem XW.post {Post' : Option Value → xH → Prop} (k : XW M d mc ms pc L st h Post') (hp : ∀ r h', Post' r h' → Post r h') : XW M d mc ms pc L st h Post := by
  intro p l e R s m args below meth c G Q H locs cells slots C1 S1 ls F P S E b hr
  exact k p l e R s m args below meth c G Q H locs cells slots C1 S1 ls F P S E b (fun pc ls r h' H' locs' hP => hr pc ls r h' H' locs' (hp r h' hP))
theorem XW.eqs {L' : xL} {st' : List Value} {h' : xH} (e1 : L = L') (e2 : st = st') (e3 : h = h') (k : XW M d mc ms pc L' st' h' Post) : XW M d mc ms pc L st h Post := by
  subst e1; subst e2; subst e3; exact k
/-- fewer locals are known -/
def xle : xL → xL → Bool
  | [], _ => true
  | _ :: _, [] => false
  | none :: a, _ :: b => xle a b
  | some v :: a, some w :: b => decide (v = w) && xle a b
  | some _ :: _, none :: _ => false
theorem XW.weakP {L' : xL} (hl : ∀ (i : Nat) (v : Value), L'[i]? = some (some v) → L[i]? = some (some v)) (k : XW M d mc ms pc L' st h Post) : XW M d mc ms pc L st h Post := by
  intro p l e R s m args below meth c G Q H locs cells slots C1 S1 ls F P S E b hr
  exact k p l e R s m args below meth c G Q H locs cells slots C1 S1 ls F P S ⟨E.1, E.2.1, fun i v q => E.2.2 i v (hl i v q)⟩ b hr
/-- fewer locals, as a list of which to keep -/
def xkeep : List Bool → xL → xL
  | _, [] => []
  | [], L => L
  | true :: b, o :: L => o :: xkeep b L
  | false :: b, _ :: L => none :: xkeep b L
theorem xkeep_le : ∀ (b : List Bool) (L : xL) (i : Nat) (v : Value), (xkeep b L)[i]? = some (some v) → L[i]? = some (some v)
  | [], [], i, v, h => by simp [xkeep] at h
  | _ :: _, [], i, v, h => by simp [xkeep] at h
  | [], _ :: _, i, v, h => h
  | true :: b, o :: L, 0, v, h => h
  | false :: b, o :: L, 0, v, h => by simp [xkeep] at h
  | true :: b, o :: L, i + 1, v, h => by
    simp only [xkeep, List.getElem?_cons_succ] at h ⊢
    exact xkeep_le b L i v h
  | false :: b, o :: L, i + 1, v, h => by
    simp only [xkeep, List.getElem?_cons_succ] at h ⊢
    exact xkeep_le b L i v h
theorem XW.weak {L' : xL} (b : List Bool) (e : xkeep b L = L') (k : XW M d mc ms pc L' st h Post) : XW M d mc ms pc L st h Post := by
  subst e; exact XW.weakP (xkeep_le b L) k
-- constants
theorem XW.iconst (pc' : Nat) {n : Int} {v : Int32} (hd : decode M.2.1 pc = .ok (.iconst n, 1)) (hv : Int32.ofInt n = v) (hp : pc + 1 = pc') (k : XW M d mc ms pc' L (.int v :: st) h Post) : XW M d mc ms pc L st h Post := by
  subst hp; exact XW.row (fun p l e R s m args below meth c G Q H locs cells slots ls F P S E k => lv_iconst F.1 F.2.1 hd hv k) k
theorem XW.bipush (pc' : Nat) {n : Int} {v : Int32} (hd : decode M.2.1 pc = .ok (.bipush n, 2)) (hv : (Int8.ofInt n).toInt32 = v) (hp : pc + 2 = pc') (k : XW M d mc ms pc' L (.int v :: st) h Post) : XW M d mc ms pc L st h Post := by
  subst hp; exact XW.row (fun p l e R s m args below meth c G Q H locs cells slots ls F P S E k => lv_bipush F.1 F.2.1 hd hv k) k
theorem XW.sipush (pc' : Nat) {n : Int} {v : Int32} (hd : decode M.2.1 pc = .ok (.sipush n, 3)) (hv : (Int16.ofInt n).toInt32 = v) (hp : pc + 3 = pc') (k : XW M d mc ms pc' L (.int v :: st) h Post) : XW M d mc ms pc L st h Post := by
  subst hp; exact XW.row (fun p l e R s m args below meth c G Q H locs cells slots ls F P S E k => lv_sipush F.1 F.2.1 hd hv k) k
theorem XW.ldci (pc' : Nat) {i : Nat} {v : Int32} (hw : Jvm.Cond.constant M.1.cls i v ∈ lw_good) (hd : decode M.2.1 pc = .ok (.ldc i, 2)) (hp : pc + 2 = pc') (k : XW M d mc ms pc' L (.int v :: st) h Post) : XW M d mc ms pc L st h Post := by
  subst hp; exact XW.row (fun p l e R s m args below meth c G Q H locs cells slots ls F P S E k => lv_ldc F.1 F.2.1 F.2.2.2.1 (F.2.2.2.2.1 _ hw) hd k) k
theorem XW.ldcwi (pc' : Nat) {i : Nat} {v : Int32} (hw : Jvm.Cond.constant M.1.cls i v ∈ lw_good) (hd : decode M.2.1 pc = .ok (.ldc_w i, 3)) (hp : pc + 3 = pc') (k : XW M d mc ms pc' L (.int v :: st) h Post) : XW M d mc ms pc L st h Post := by
  subst hp; exact XW.row (fun p l e R s m args below meth c G Q H locs cells slots ls F P S E k => lv_ldcw F.1 F.2.1 F.2.2.2.1 (F.2.2.2.2.1 _ hw) hd k) k
theorem XW.ldcf (pc' : Nat) {i : Nat} {v : UInt32} (hw : Jvm.Cond.constantFloat M.1.cls i v ∈ lw_good) (hd : decode M.2.1 pc = .ok (.ldc i, 2)) (hp : pc + 2 = pc') (k : XW M d mc ms pc' L (.float v :: st) h Post) : XW M d mc ms pc L st h Post := by
  subst hp; exact XW.row (fun p l e R s m args below meth c G Q H locs cells slots ls F P S E k => lv_ldcf F.1 F.2.1 F.2.2.2.1 (F.2.2.2.2.1 _ hw) hd k) k
theorem XW.ldc2 (pc' : Nat) {i : Nat} {v : Int64} (hw : Jvm.Cond.constantLong M.1.cls i v ∈ lw_good) (hd : decode M.2.1 pc = .ok (.ldc2_w i, 3)) (hp : pc + 3 = pc') (k : XW M d mc ms pc' L (.long v :: st) h Post) : XW M d mc ms pc L st h Post := by
  subst hp; exact XW.row (fun p l e R s m args below meth c G Q H locs cells slots ls F P S E k => lv_ldc2 F.1 F.2.1 F.2.2.2.1 (F.2.2.2.2.1 _ hw) hd k) k
theorem XW.fconst0 (pc' : Nat) (hd : decode M.2.1 pc = .ok (.fconst 0, 1)) (hp : pc + 1 = pc') (k : XW M d mc ms pc' L (.float FP.fconst0 :: st) h Post) : XW M d mc ms pc L st h Post := by
  subst hp; exact XW.row (fun p l e R s m args below meth c G Q H locs cells slots ls F P S E k => lv_fconst0 F.1 F.2.1 hd k) k
theorem XW.fconst1 (pc' : Nat) (hd : decode M.2.1 pc = .ok (.fconst 1, 1)) (hp : pc + 1 = pc') (k : XW M d mc ms pc' L (.float FP.fconst1 :: st) h Post) : XW M d mc ms pc L st h Post := by
  subst hp; exact XW.row (fun p l e R s m args below meth c G Q H locs cells slots ls F P S E k => lv_fconst1 F.1 F.2.1 hd k) k
theorem XW.fconst2 (pc' : Nat) (hd : decode M.2.1 pc = .ok (.fconst 2, 1)) (hp : pc + 1 = pc') (k : XW M d mc ms pc' L (.float FP.fconst2 :: st) h Post) : XW M d mc ms pc L st h Post := by
  subst hp; exact XW.row (fun p l e R s m args below meth c G Q H locs cells slots ls F P S E k => lv_fconst2 F.1 F.2.1 hd k) k
-- loads
theorem XW.iload_n (pc' : Nat) {n : Fin 4} {x : Int32} (hd : decode M.2.1 pc = .ok (.iload_n n, 1)) (hl : L[(n : Nat)]? = some (some (.int x))) (hp : pc + 1 = pc') (k : XW M d mc ms pc' L (.int x :: st) h Post) : XW M d mc ms pc L st h Post := by
  subst hp; exact XW.row (fun p l e R s m args below meth c G Q H locs cells slots ls F P S E k => lv_iload_n F.1 F.2.1 hd rfl (E.2.2 _ _ hl) k) k
theorem XW.iload (pc' : Nat) {n : Nat} {x : Int32} (hd : decode M.2.1 pc = .ok (.iload n, 2)) (hl : L[n]? = some (some (.int x))) (hp : pc + 2 = pc') (k : XW M d mc ms pc' L (.int x :: st) h Post) : XW M d mc ms pc L st h Post := by
  subst hp; exact XW.row (fun p l e R s m args below meth c G Q H locs cells slots ls F P S E k => lv_iload F.1 F.2.1 hd (E.2.2 _ _ hl) k) k
theorem XW.fload_n (pc' : Nat) {n : Fin 4} {x : UInt32} (hd : decode M.2.1 pc = .ok (.fload_n n, 1)) (hl : L[(n : Nat)]? = some (some (.float x))) (hp : pc + 1 = pc') (k : XW M d mc ms pc' L (.float x :: st) h Post) : XW M d mc ms pc L st h Post := by
  subst hp; exact XW.row (fun p l e R s m args below meth c G Q H locs cells slots ls F P S E k => lv_fload_n F.1 F.2.1 hd rfl (E.2.2 _ _ hl) k) k
theorem XW.fload (pc' : Nat) {n : Nat} {x : UInt32} (hd : decode M.2.1 pc = .ok (.fload n, 2)) (hl : L[n]? = some (some (.float x))) (hp : pc + 2 = pc') (k : XW M d mc ms pc' L (.float x :: st) h Post) : XW M d mc ms pc L st h Post := by
  subst hp; exact XW.row (fun p l e R s m args below meth c G Q H locs cells slots ls F P S E k => lv_fload F.1 F.2.1 hd (E.2.2 _ _ hl) k) k
theorem XW.lload_n (pc' : Nat) {n : Fin 4} {x : Int64} (hd : decode M.2.1 pc = .ok (.lload_n n, 1)) (hl : L[(n : Nat)]? = some (some (.long x))) (hp : pc + 1 = pc') (k : XW M d mc ms pc' L (.long x :: st) h Post) : XW M d mc ms pc L st h Post := by
  subst hp; exact XW.row (fun p l e R s m args below meth c G Q H locs cells slots ls F P S E k => lv_lload_n F.1 F.2.1 hd rfl (E.2.2 _ _ hl) k) k
theorem XW.aload_n (pc' : Nat) {n : Fin 4} {x : Nat} (hd : decode M.2.1 pc = .ok (.aload_n n, 1)) (hl : L[(n : Nat)]? = some (some (.ref x))) (hp : pc + 1 = pc') (k : XW M d mc ms pc' L (.ref x :: st) h Post) : XW M d mc ms pc L st h Post := by
  subst hp; exact XW.row (fun p l e R s m args below meth c G Q H locs cells slots ls F P S E k => lv_aload_n F.1 F.2.1 hd rfl (E.2.2 _ _ hl) k) k
theorem XW.aload_s (pc' : Nat) {n : Fin 4} {x : Nat} (hd : decode M.2.1 pc = .ok (.aload_n n, 1)) (hl : L[(n : Nat)]? = some (some (.retAddr x))) (hp : pc + 1 = pc') (k : XW M d mc ms pc' L (.retAddr x :: st) h Post) : XW M d mc ms pc L st h Post := by
  subst hp; exact XW.row (fun p l e R s m args below meth c G Q H locs cells slots ls F P S E k => lv_aload_n F.1 F.2.1 hd rfl (E.2.2 _ _ hl) k) k
theorem XW.aload (pc' : Nat) {n : Nat} {x : Nat} (hd : decode M.2.1 pc = .ok (.aload n, 2)) (hl : L[n]? = some (some (.ref x))) (hp : pc + 2 = pc') (k : XW M d mc ms pc' L (.ref x :: st) h Post) : XW M d mc ms pc L st h Post := by
  subst hp; exact XW.row (fun p l e R s m args below meth c G Q H locs cells slots ls F P S E k => lv_aload F.1 F.2.1 hd (E.2.2 _ _ hl) k) k
end XRows
end
section
/-! The rows, on: stores, arithmetic, branches -/
section XRows2
variable {M : xM} {d mc ms pc : Nat} {L : xL} {st : List Value} {h : xH} {Post : Option Value → xH → Prop}
def xen (G : xG) (L : xL) : List (Nat × Value) := L.zipIdx.filterMap (fun q => q.1.map (fun v => (q.2, xv G v)))
theorem mem_xen {G : xG} {L : xL} {i : Nat} {w : Value} : (i, w) ∈ xen G L ↔ ∃ v, L[i]? = some (some v) ∧ w = xv G v := by
  unfold xen
  rw [List.mem_filterMap]
  constructor
  · rintro ⟨⟨o, j⟩, hm, hq⟩
    have hm := List.mem_zipIdx_iff_getElem?.mp hm
    cases o with
    | none => cases hq
    | some v =>
      simp only [Option.map_some, Option.some.injEq, Prod.mk.injEq] at hq
      obtain ⟨rfl, rfl⟩ := hq
      exact ⟨v, hm, rfl⟩
  · rintro ⟨v, hv, rfl⟩
    exact ⟨(some v, i), List.mem_zipIdx_iff_getElem?.mpr hv, rfl⟩
theorem xls_has {G : xG} {ls : Array Slot} {n : Nat} {L : xL} (E : xls G ls n L) : lv_has ls n (xen G L) := by
  refine ⟨E.1, E.2.1, fun q hq => ?_⟩
  obtain ⟨i, w⟩ := q
  obtain ⟨v, hv, rfl⟩ := mem_xen.mp hq
  exact E.2.2 i v hv
/-- no long or double stands ahead of this place -/
def xno2 (L : xL) (i : Nat) : Bool := match i with
  | 0 => true
  | j + 1 => match L[j]? with
    | some (some v) => v.category == 1
    | _ => true
theorem xv_cat (G : xG) (v : Value) : (xv G v).category = v.category := by cases v <;> rfl
theorem xls_set {G : xG} {ls' : Array Slot} {n i : Nat} {L : xL} {v : Value} (h2 : xno2 L i = true) (E : lv_has ls' n ((i, xv G v) :: (xen G L).filter (fun q => !(q.1 == i) && !(q.1 + 1 == i && q.2.category == 2)))) : xls G ls' n (L.set i (some v)) := by
  refine ⟨E.1, E.2.1, fun j w hw => ?_⟩
  rw [List.getElem?_set] at hw
  by_cases e : i = j
  · subst e
    rw [if_pos rfl] at hw
    by_cases l : i < L.length
    · rw [if_pos l] at hw
      cases hw
      exact E.2.2 (i, xv G v) List.mem_cons_self
    · rw [if_neg l] at hw
      cases hw
  · rw [if_neg e] at hw
    refine E.2.2 (j, xv G w) (List.mem_cons_of_mem _ (List.mem_filter.mpr ⟨mem_xen.mpr ⟨w, hw, rfl⟩, ?_⟩))
    have e1 : (j == i) = false := by simp; exact fun q => e q.symm
    simp only [e1, xv_cat]
    by_cases e2 : j + 1 = i
    · subst e2
      simp only [xno2, hw] at h2
      have h3 : w.category = 1 := by simpa using h2
      simp [h3]
    · simp [e2]
/-- a long takes two places -/
theorem xls_set2 {G : xG} {ls' : Array Slot} {n i : Nat} {L : xL} {v : Value} (h2 : xno2 L i = true) (E : lv_has ls' n ((i, xv G v) :: (xen G L).filter (fun q => !(q.1 == i) && (!(q.1 == i + 1) && !(q.1 + 1 == i && q.2.category == 2))))) : xls G ls' n ((L.set i (some v)).set (i + 1) none) := by
  refine ⟨E.1, E.2.1, fun j w hw => ?_⟩
  rw [List.getElem?_set, List.getElem?_set] at hw
  by_cases f : i + 1 = j
  · rw [if_pos f] at hw
    split at hw <;> cases hw
  · rw [if_neg f] at hw
    by_cases e : i = j
    · subst e
      rw [if_pos rfl] at hw
      by_cases l : i < L.length
      · rw [if_pos l] at hw
        cases hw
        exact E.2.2 (i, xv G v) List.mem_cons_self
      · rw [if_neg l] at hw
        cases hw
    · rw [if_neg e] at hw
      refine E.2.2 (j, xv G w) (List.mem_cons_of_mem _ (List.mem_filter.mpr ⟨mem_xen.mpr ⟨w, hw, rfl⟩, ?_⟩))
      have e1 : (j == i) = false := by simp; exact fun q => e q.symm
      have e3 : (j == i + 1) = false := by simp; exact fun q => f q.symm
      simp only [e1, e3, xv_cat]
      by_cases e2 : j + 1 = i
      · subst e2
        simp only [xno2, hw] at h2
        have h3 : w.category = 1 := by simpa using h2
        simp [h3]
      · simp [e2]
theorem XW.rowL {pc' : Nat} {st' : List Value} {L' : xL}
    (row : ∀ (p : Program) (l : Launch) (e : Env) (R : Room) (s : State) (m : MethodId) (args : Array Value) (below : List Frame) (meth : Method) (c : Code) (G : xG) (Q : State → Prop) (H : Heap) (locs : List Loc) (cells slots : Nat) (ls : Array Slot),
      xF M d p R s m args meth c G → xls G ls M.2.2.1 L → (∀ ls' : Array Slot, xls G ls' M.2.2.1 L' → W p l e R s m args below meth c H locs cells slots Q (F0 m pc' ls' (st'.map (xv G)))) → W p l e R s m args below meth c H locs cells slots Q (F0 m pc ls (st.map (xv G))))
    (k : XW M d mc ms pc' L' st' h Post) : XW M d mc ms pc L st h Post := by
  intro p l e R s m args below meth c G Q H locs cells slots C1 S1 ls F P S E b hr
  exact row p l e R s m args below meth c G Q H locs cells slots ls F E (fun ls' E' => k p l e R s m args below meth c G Q H locs cells slots C1 S1 ls' F P S E' b hr)

theorem XW.istore_n (pc' : Nat) {n : Fin 4} {x : Int32} {L' : xL} (hd : decode M.2.1 pc = .ok (.istore_n n, 1)) (hn : (n : Nat) < M.2.2.1) (h2 : xno2 L (n : Nat) = true) (hl : L.set (n : Nat) (some (.int x)) = L') (hp : pc + 1 = pc') (k : XW M d mc ms pc' L' st h Post) : XW M d mc ms pc L (.int x :: st) h Post := by
  subst hp; subst hl; exact XW.rowL (fun p l e R s m args below meth c G Q H locs cells slots ls F E k => lv_istore_n F.1 F.2.1 hd rfl (xls_has E) hn rfl (fun ls' E' => k ls' (xls_set (v := .int x) h2 E'))) k
theorem XW.istore (pc' : Nat) {n : Nat} {x : Int32} {L' : xL} (hd : decode M.2.1 pc = .ok (.istore n, 2)) (hn : n < M.2.2.1) (h2 : xno2 L n = true) (hl : L.set n (some (.int x)) = L') (hp : pc + 2 = pc') (k : XW M d mc ms pc' L' st h Post) : XW M d mc ms pc L (.int x :: st) h Post := by
  subst hp; subst hl; exact XW.rowL (fun p l e R s m args below meth c G Q H locs cells slots ls F E k => lv_istore F.1 F.2.1 hd (xls_has E) hn rfl (fun ls' E' => k ls' (xls_set (v := .int x) h2 E'))) k
theorem XW.fstore_n (pc' : Nat) {n : Fin 4} {x : UInt32} {L' : xL} (hd : decode M.2.1 pc = .ok (.fstore_n n, 1)) (hn : (n : Nat) < M.2.2.1) (h2 : xno2 L (n : Nat) = true) (hl : L.set (n : Nat) (some (.float x)) = L') (hp : pc + 1 = pc') (k : XW M d mc ms pc' L' st h Post) : XW M d mc ms pc L (.float x :: st) h Post := by
  subst hp; subst hl; exact XW.rowL (fun p l e R s m args below meth c G Q H locs cells slots ls F E k => lv_fstore_n F.1 F.2.1 hd rfl (xls_has E) hn rfl (fun ls' E' => k ls' (xls_set (v := .float x) h2 E'))) k
theorem XW.fstore (pc' : Nat) {n : Nat} {x : UInt32} {L' : xL} (hd : decode M.2.1 pc = .ok (.fstore n, 2)) (hn : n < M.2.2.1) (h2 : xno2 L n = true) (hl : L.set n (some (.float x)) = L') (hp : pc + 2 = pc') (k : XW M d mc ms pc' L' st h Post) : XW M d mc ms pc L (.float x :: st) h Post := by
  subst hp; subst hl; exact XW.rowL (fun p l e R s m args below meth c G Q H locs cells slots ls F E k => lv_fstore F.1 F.2.1 hd (xls_has E) hn rfl (fun ls' E' => k ls' (xls_set (v := .float x) h2 E'))) k
theorem XW.astore_n (pc' : Nat) {n : Fin 4} {x : Nat} {L' : xL} (hd : decode M.2.1 pc = .ok (.astore_n n, 1)) (hn : (n : Nat) < M.2.2.1) (h2 : xno2 L (n : Nat) = true) (hl : L.set (n : Nat) (some (.ref x)) = L') (hp : pc + 1 = pc') (k : XW M d mc ms pc' L' st h Post) : XW M d mc ms pc L (.ref x :: st) h Post := by
  subst hp; subst hl; exact XW.rowL (fun p l e R s m args below meth c G Q H locs cells slots ls F E k => lv_astore_n F.1 F.2.1 hd rfl (xls_has E) hn rfl (fun ls' E' => k ls' (xls_set (v := .ref x) h2 E'))) k
theorem XW.lstore_n (pc' : Nat) {n : Fin 4} {x : Int64} {L' : xL} (hd : decode M.2.1 pc = .ok (.lstore_n n, 1)) (hn : (n : Nat) + 1 < M.2.2.1) (h2 : xno2 L (n : Nat) = true) (hl : (L.set (n : Nat) (some (.long x))).set ((n : Nat) + 1) none = L') (hp : pc + 1 = pc') (k : XW M d mc ms pc' L' st h Post) : XW M d mc ms pc L (.long x :: st) h Post := by
  subst hp; subst hl; exact XW.rowL (fun p l e R s m args below meth c G Q H locs cells slots ls F E k => lv_lstore_n F.1 F.2.1 hd rfl (xls_has E) hn rfl (fun ls' E' => k ls' (xls_set2 (v := .long x) h2 E'))) k
theorem XW.iinc (pc' : Nat) {n : Nat} {z : Int} {x y : Int32} {L' : xL} (hd : decode M.2.1 pc = .ok (.iinc n z, 3)) (hx : L[n]? = some (some (.int x))) (hv : x + Int32.ofInt z = y) (hn : n < M.2.2.1) (h2 : xno2 L n = true) (hl : L.set n (some (.int y)) = L') (hp : pc + 3 = pc') (k : XW M d mc ms pc' L' st h Post) : XW M d mc ms pc L st h Post := by
  subst hp; subst hl; subst hv
  refine XW.rowL (fun p l e R s m args below meth c G Q H locs cells slots ls F E k => ?_) k
  obtain ⟨k0, hk0⟩ := List.getElem?_of_mem (mem_xen.mpr ⟨_, hx, rfl⟩ : (n, xv G (.int x)) ∈ xen G L)
  exact lv_iinc F.1 F.2.1 hd (xls_has E) hk0 rfl hn rfl (fun ls' E' => k ls' (xls_set (v := .int (x + Int32.ofInt z)) h2 E'))
theorem XW.iadd (pc' : Nat) {x y : Int32} (hd : decode M.2.1 pc = .ok (.iadd, 1)) (hp : pc + 1 = pc') (k : XW M d mc ms pc' L (.int (x + y) :: st) h Post) : XW M d mc ms pc L (.int y :: .int x :: st) h Post := by
  subst hp; exact XW.row (fun p l e R s m args below meth c G Q H locs cells slots ls F P S E k => lv_iadd F.1 F.2.1 hd k) k
theorem XW.isub (pc' : Nat) {x y : Int32} (hd : decode M.2.1 pc = .ok (.isub, 1)) (hp : pc + 1 = pc') (k : XW M d mc ms pc' L (.int (x - y) :: st) h Post) : XW M d mc ms pc L (.int y :: .int x :: st) h Post := by
  subst hp; exact XW.row (fun p l e R s m args below meth c G Q H locs cells slots ls F P S E k => lv_isub F.1 F.2.1 hd k) k
theorem XW.imul (pc' : Nat) {x y : Int32} (hd : decode M.2.1 pc = .ok (.imul, 1)) (hp : pc + 1 = pc') (k : XW M d mc ms pc' L (.int (x * y) :: st) h Post) : XW M d mc ms pc L (.int y :: .int x :: st) h Post := by
  subst hp; exact XW.row (fun p l e R s m args below meth c G Q H locs cells slots ls F P S E k => lv_imul F.1 F.2.1 hd k) k
theorem XW.iand (pc' : Nat) {x y : Int32} (hd : decode M.2.1 pc = .ok (.iand, 1)) (hp : pc + 1 = pc') (k : XW M d mc ms pc' L (.int (x &&& y) :: st) h Post) : XW M d mc ms pc L (.int y :: .int x :: st) h Post := by
  subst hp; exact XW.row (fun p l e R s m args below meth c G Q H locs cells slots ls F P S E k => lv_iand F.1 F.2.1 hd k) k
theorem XW.ior (pc' : Nat) {x y : Int32} (hd : decode M.2.1 pc = .ok (.ior, 1)) (hp : pc + 1 = pc') (k : XW M d mc ms pc' L (.int (x ||| y) :: st) h Post) : XW M d mc ms pc L (.int y :: .int x :: st) h Post := by
  subst hp; exact XW.row (fun p l e R s m args below meth c G Q H locs cells slots ls F P S E k => lv_ior F.1 F.2.1 hd k) k
theorem XW.ixor (pc' : Nat) {x y : Int32} (hd : decode M.2.1 pc = .ok (.ixor, 1)) (hp : pc + 1 = pc') (k : XW M d mc ms pc' L (.int (x ^^^ y) :: st) h Post) : XW M d mc ms pc L (.int y :: .int x :: st) h Post := by
  subst hp; exact XW.row (fun p l e R s m args below meth c G Q H locs cells slots ls F P S E k => lv_ixor F.1 F.2.1 hd k) k
theorem XW.ishl (pc' : Nat) {x y : Int32} (hd : decode M.2.1 pc = .ok (.ishl, 1)) (hp : pc + 1 = pc') (k : XW M d mc ms pc' L (.int (x <<< (y &&& 31)) :: st) h Post) : XW M d mc ms pc L (.int y :: .int x :: st) h Post := by
  subst hp; exact XW.row (fun p l e R s m args below meth c G Q H locs cells slots ls F P S E k => lv_ishl F.1 F.2.1 hd k) k
theorem XW.ishr (pc' : Nat) {x y : Int32} (hd : decode M.2.1 pc = .ok (.ishr, 1)) (hp : pc + 1 = pc') (k : XW M d mc ms pc' L (.int (x >>> (y &&& 31)) :: st) h Post) : XW M d mc ms pc L (.int y :: .int x :: st) h Post := by
  subst hp; exact XW.row (fun p l e R s m args below meth c G Q H locs cells slots ls F P S E k => lv_ishr F.1 F.2.1 hd k) k
theorem XW.iushr (pc' : Nat) {x y : Int32} (hd : decode M.2.1 pc = .ok (.iushr, 1)) (hp : pc + 1 = pc') (k : XW M d mc ms pc' L (.int (x.toUInt32 >>> (y.toUInt32 &&& Int32.toUInt32 31)).toInt32 :: st) h Post) : XW M d mc ms pc L (.int y :: .int x :: st) h Post := by
  subst hp; exact XW.row (fun p l e R s m args below meth c G Q H locs cells slots ls F P S E k => lv_iushr F.1 F.2.1 hd rfl k) k
theorem XW.ineg (pc' : Nat) {x : Int32} (hd : decode M.2.1 pc = .ok (.ineg, 1)) (hp : pc + 1 = pc') (k : XW M d mc ms pc' L (.int (-x) :: st) h Post) : XW M d mc ms pc L (.int x :: st) h Post := by
  subst hp; exact XW.row (fun p l e R s m args below meth c G Q H locs cells slots ls F P S E k => lv_ineg F.1 F.2.1 hd k) k
theorem XW.i2l (pc' : Nat) {x : Int32} (hd : decode M.2.1 pc = .ok (.i2l, 1)) (hp : pc + 1 = pc') (k : XW M d mc ms pc' L (.long x.toInt64 :: st) h Post) : XW M d mc ms pc L (.int x :: st) h Post := by
  subst hp; exact XW.row (fun p l e R s m args below meth c G Q H locs cells slots ls F P S E k => lv_i2l F.1 F.2.1 hd rfl k) k
theorem XW.ladd (pc' : Nat) {x y : Int64} (hd : decode M.2.1 pc = .ok (.ladd, 1)) (hp : pc + 1 = pc') (k : XW M d mc ms pc' L (.long (x + y) :: st) h Post) : XW M d mc ms pc L (.long y :: .long x :: st) h Post := by
  subst hp; exact XW.row (fun p l e R s m args below meth c G Q H locs cells slots ls F P S E k => lv_ladd F.1 F.2.1 hd k) k
theorem XW.lmul (pc' : Nat) {x y : Int64} (hd : decode M.2.1 pc = .ok (.lmul, 1)) (hp : pc + 1 = pc') (k : XW M d mc ms pc' L (.long (x * y) :: st) h Post) : XW M d mc ms pc L (.long y :: .long x :: st) h Post := by
  subst hp; exact XW.row (fun p l e R s m args below meth c G Q H locs cells slots ls F P S E k => lv_lmul F.1 F.2.1 hd k) k
theorem XW.lcmp (pc' : Nat) {x y : Int64} (hd : decode M.2.1 pc = .ok (.lcmp, 1)) (hp : pc + 1 = pc') (k : XW M d mc ms pc' L (.int (lg_cmp x y) :: st) h Post) : XW M d mc ms pc L (.long y :: .long x :: st) h Post := by
  subst hp; exact XW.row (fun p l e R s m args below meth c G Q H locs cells slots ls F P S E k => W.lcmp F.1 F.2.1 hd k) k
theorem XW.fadd (pc' : Nat) {x y : UInt32} (hd : decode M.2.1 pc = .ok (.fadd, 1)) (hn : vf_n32 (FP.fadd x y)) (hp : pc + 1 = pc') (k : XW M d mc ms pc' L (.float (FP.fadd x y) :: st) h Post) : XW M d mc ms pc L (.float y :: .float x :: st) h Post := by
  subst hp; exact XW.row (fun p l e R s m args below meth c G Q H locs cells slots ls F P S E k => lv_fadd F.1 F.2.1 hd hn k) k
theorem XW.fsub (pc' : Nat) {x y : UInt32} (hd : decode M.2.1 pc = .ok (.fsub, 1)) (hn : vf_n32 (FP.fsub x y)) (hp : pc + 1 = pc') (k : XW M d mc ms pc' L (.float (FP.fsub x y) :: st) h Post) : XW M d mc ms pc L (.float y :: .float x :: st) h Post := by
  subst hp; exact XW.row (fun p l e R s m args below meth c G Q H locs cells slots ls F P S E k => lv_fsub F.1 F.2.1 hd hn k) k
theorem XW.fmul (pc' : Nat) {x y : UInt32} (hd : decode M.2.1 pc = .ok (.fmul, 1)) (hn : vf_n32 (FP.fmul x y)) (hp : pc + 1 = pc') (k : XW M d mc ms pc' L (.float (FP.fmul x y) :: st) h Post) : XW M d mc ms pc L (.float y :: .float x :: st) h Post := by
  subst hp; exact XW.row (fun p l e R s m args below meth c G Q H locs cells slots ls F P S E k => lv_fmul F.1 F.2.1 hd hn k) k
theorem XW.fdiv (pc' : Nat) {x y : UInt32} (hd : decode M.2.1 pc = .ok (.fdiv, 1)) (hn : vf_n32 (FP.fdiv x y)) (hp : pc + 1 = pc') (k : XW M d mc ms pc' L (.float (FP.fdiv x y) :: st) h Post) : XW M d mc ms pc L (.float y :: .float x :: st) h Post := by
  subst hp; exact XW.row (fun p l e R s m args below meth c G Q H locs cells slots ls F P S E k => lv_fdiv F.1 F.2.1 hd hn k) k
theorem XW.fneg (pc' : Nat) {x : UInt32} (hd : decode M.2.1 pc = .ok (.fneg, 1)) (hp : pc + 1 = pc') (k : XW M d mc ms pc' L (.float (FP.fneg x) :: st) h Post) : XW M d mc ms pc L (.float x :: st) h Post := by
  subst hp; exact XW.row (fun p l e R s m args below meth c G Q H locs cells slots ls F P S E k => lv_fneg F.1 F.2.1 hd k) k
theorem XW.fcmp (pc' : Nat) {x y : UInt32} {op : CmpOp} (hd : decode M.2.1 pc = .ok (.fcmp op, 1)) (hp : pc + 1 = pc') (k : XW M d mc ms pc' L (.int (Op.cmpValue (FP.fcmp x y) op) :: st) h Post) : XW M d mc ms pc L (.float y :: .float x :: st) h Post := by
  subst hp; exact XW.row (fun p l e R s m args below meth c G Q H locs cells slots ls F P S E k => lv_fcmp F.1 F.2.1 hd k) k
theorem XW.i2f (pc' : Nat) {x : Int32} (hd : decode M.2.1 pc = .ok (.i2f, 1)) (hp : pc + 1 = pc') (k : XW M d mc ms pc' L (.float (FP.i2f x) :: st) h Post) : XW M d mc ms pc L (.int x :: st) h Post := by
  subst hp; exact XW.row (fun p l e R s m args below meth c G Q H locs cells slots ls F P S E k => lv_i2f F.1 F.2.1 hd k) k
theorem XW.f2i (pc' : Nat) {x : UInt32} (hd : decode M.2.1 pc = .ok (.f2i, 1)) (hp : pc + 1 = pc') (k : XW M d mc ms pc' L (.int (FP.f2i x) :: st) h Post) : XW M d mc ms pc L (.float x :: st) h Post := by
  subst hp; exact XW.row (fun p l e R s m args below meth c G Q H locs cells slots ls F P S E k => lv_f2i F.1 F.2.1 hd k) k
theorem XW.dup (pc' : Nat) {v : Value} (hd : decode M.2.1 pc = .ok (.dup, 1)) (hv : v.category = 1) (hp : pc + 1 = pc') (k : XW M d mc ms pc' L (v :: v :: st) h Post) : XW M d mc ms pc L (v :: st) h Post := by
  subst hp; exact XW.row (fun p l e R s m args below meth c G Q H locs cells slots ls F P S E k => lv_dup F.1 F.2.1 hd ((xv_cat G v).trans hv) k) k
theorem XW.pop (pc' : Nat) {v : Value} (hd : decode M.2.1 pc = .ok (.pop, 1)) (hv : v.category = 1) (hp : pc + 1 = pc') (k : XW M d mc ms pc' L st h Post) : XW M d mc ms pc L (v :: st) h Post := by
  subst hp; exact XW.row (fun p l e R s m args below meth c G Q H locs cells slots ls F P S E k => lv_pop F.1 F.2.1 hd ((xv_cat G v).trans hv) k) k
theorem XW.dup2 (pc' : Nat) {v w : Value} (hd : decode M.2.1 pc = .ok (.dup2, 1)) (hv : v.category = 1) (hw : w.category = 1) (hp : pc + 1 = pc') (k : XW M d mc ms pc' L (v :: w :: v :: w :: st) h Post) : XW M d mc ms pc L (v :: w :: st) h Post := by
  subst hp; exact XW.row (fun p l e R s m args below meth c G Q H locs cells slots ls F P S E k => lv_dup2_11 F.1 F.2.1 hd ((xv_cat G v).trans hv) ((xv_cat G w).trans hw) k) k
theorem XW.if_eq (t f : Nat) {x : Int32} {off : Int} (hd : decode M.2.1 pc = .ok (.ifCond .eq off, 3)) (ht : (pc : Int) + off = (t : Int)) (hp : pc + 3 = f) (kt : x = 0 → XW M d mc ms t L st h Post) (kf : ¬ x = 0 → XW M d mc ms f L st h Post) : XW M d mc ms pc L (.int x :: st) h Post := by
  subst hp; exact XW.row2 (fun p l e R s m args below meth c G Q H locs cells slots ls F k1 k2 => lv_if_eq F.1 F.2.1 hd ht k1 k2) kt kf
theorem XW.icmp_eq (t f : Nat) {x y : Int32} {off : Int} (hd : decode M.2.1 pc = .ok (.if_icmp .eq off, 3)) (ht : (pc : Int) + off = (t : Int)) (hp : pc + 3 = f) (kt : x = y → XW M d mc ms t L st h Post) (kf : ¬ x = y → XW M d mc ms f L st h Post) : XW M d mc ms pc L (.int y :: .int x :: st) h Post := by
  subst hp; exact XW.row2 (fun p l e R s m args below meth c G Q H locs cells slots ls F k1 k2 => lv_icmp_eq F.1 F.2.1 hd ht k1 k2) kt kf
theorem XW.if_ne (t f : Nat) {x : Int32} {off : Int} (hd : decode M.2.1 pc = .ok (.ifCond .ne off, 3)) (ht : (pc : Int) + off = (t : Int)) (hp : pc + 3 = f) (kt : ¬ x = 0 → XW M d mc ms t L st h Post) (kf : x = 0 → XW M d mc ms f L st h Post) : XW M d mc ms pc L (.int x :: st) h Post := by
  subst hp; exact XW.row2 (fun p l e R s m args below meth c G Q H locs cells slots ls F k1 k2 => lv_if_ne F.1 F.2.1 hd ht k1 k2) kt kf
theorem XW.icmp_ne (t f : Nat) {x y : Int32} {off : Int} (hd : decode M.2.1 pc = .ok (.if_icmp .ne off, 3)) (ht : (pc : Int) + off = (t : Int)) (hp : pc + 3 = f) (kt : ¬ x = y → XW M d mc ms t L st h Post) (kf : x = y → XW M d mc ms f L st h Post) : XW M d mc ms pc L (.int y :: .int x :: st) h Post := by
  subst hp; exact XW.row2 (fun p l e R s m args below meth c G Q H locs cells slots ls F k1 k2 => lv_icmp_ne F.1 F.2.1 hd ht k1 k2) kt kf
theorem XW.if_lt (t f : Nat) {x : Int32} {off : Int} (hd : decode M.2.1 pc = .ok (.ifCond .lt off, 3)) (ht : (pc : Int) + off = (t : Int)) (hp : pc + 3 = f) (kt : x < 0 → XW M d mc ms t L st h Post) (kf : ¬ x < 0 → XW M d mc ms f L st h Post) : XW M d mc ms pc L (.int x :: st) h Post := by
  subst hp; exact XW.row2 (fun p l e R s m args below meth c G Q H locs cells slots ls F k1 k2 => lv_if_lt F.1 F.2.1 hd ht k1 k2) kt kf
theorem XW.icmp_lt (t f : Nat) {x y : Int32} {off : Int} (hd : decode M.2.1 pc = .ok (.if_icmp .lt off, 3)) (ht : (pc : Int) + off = (t : Int)) (hp : pc + 3 = f) (kt : x < y → XW M d mc ms t L st h Post) (kf : ¬ x < y → XW M d mc ms f L st h Post) : XW M d mc ms pc L (.int y :: .int x :: st) h Post := by
  subst hp; exact XW.row2 (fun p l e R s m args below meth c G Q H locs cells slots ls F k1 k2 => lv_icmp_lt F.1 F.2.1 hd ht k1 k2) kt kf
theorem XW.if_ge (t f : Nat) {x : Int32} {off : Int} (hd : decode M.2.1 pc = .ok (.ifCond .ge off, 3)) (ht : (pc : Int) + off = (t : Int)) (hp : pc + 3 = f) (kt : 0 ≤ x → XW M d mc ms t L st h Post) (kf : ¬ 0 ≤ x → XW M d mc ms f L st h Post) : XW M d mc ms pc L (.int x :: st) h Post := by
  subst hp; exact XW.row2 (fun p l e R s m args below meth c G Q H locs cells slots ls F k1 k2 => lv_if_ge F.1 F.2.1 hd ht k1 k2) kt kf
theorem XW.icmp_ge (t f : Nat) {x y : Int32} {off : Int} (hd : decode M.2.1 pc = .ok (.if_icmp .ge off, 3)) (ht : (pc : Int) + off = (t : Int)) (hp : pc + 3 = f) (kt : y ≤ x → XW M d mc ms t L st h Post) (kf : ¬ y ≤ x → XW M d mc ms f L st h Post) : XW M d mc ms pc L (.int y :: .int x :: st) h Post := by
  subst hp; exact XW.row2 (fun p l e R s m args below meth c G Q H locs cells slots ls F k1 k2 => lv_icmp_ge F.1 F.2.1 hd ht k1 k2) kt kf
theorem XW.if_gt (t f : Nat) {x : Int32} {off : Int} (hd : decode M.2.1 pc = .ok (.ifCond .gt off, 3)) (ht : (pc : Int) + off = (t : Int)) (hp : pc + 3 = f) (kt : 0 < x → XW M d mc ms t L st h Post) (kf : ¬ 0 < x → XW M d mc ms f L st h Post) : XW M d mc ms pc L (.int x :: st) h Post := by
  subst hp; exact XW.row2 (fun p l e R s m args below meth c G Q H locs cells slots ls F k1 k2 => lv_if_gt F.1 F.2.1 hd ht k1 k2) kt kf
theorem XW.icmp_gt (t f : Nat) {x y : Int32} {off : Int} (hd : decode M.2.1 pc = .ok (.if_icmp .gt off, 3)) (ht : (pc : Int) + off = (t : Int)) (hp : pc + 3 = f) (kt : y < x → XW M d mc ms t L st h Post) (kf : ¬ y < x → XW M d mc ms f L st h Post) : XW M d mc ms pc L (.int y :: .int x :: st) h Post := by
  subst hp; exact XW.row2 (fun p l e R s m args below meth c G Q H locs cells slots ls F k1 k2 => lv_icmp_gt F.1 F.2.1 hd ht k1 k2) kt kf
theorem XW.if_le (t f : Nat) {x : Int32} {off : Int} (hd : decode M.2.1 pc = .ok (.ifCond .le off, 3)) (ht : (pc : Int) + off = (t : Int)) (hp : pc + 3 = f) (kt : x ≤ 0 → XW M d mc ms t L st h Post) (kf : ¬ x ≤ 0 → XW M d mc ms f L st h Post) : XW M d mc ms pc L (.int x :: st) h Post := by
  subst hp; exact XW.row2 (fun p l e R s m args below meth c G Q H locs cells slots ls F k1 k2 => lv_if_le F.1 F.2.1 hd ht k1 k2) kt kf
theorem XW.icmp_le (t f : Nat) {x y : Int32} {off : Int} (hd : decode M.2.1 pc = .ok (.if_icmp .le off, 3)) (ht : (pc : Int) + off = (t : Int)) (hp : pc + 3 = f) (kt : x ≤ y → XW M d mc ms t L st h Post) (kf : ¬ x ≤ y → XW M d mc ms f L st h Post) : XW M d mc ms pc L (.int y :: .int x :: st) h Post := by
  subst hp; exact XW.row2 (fun p l e R s m args below meth c G Q H locs cells slots ls F k1 k2 => lv_icmp_le F.1 F.2.1 hd ht k1 k2) kt kf
theorem XW.goto (t : Nat) {off : Int} (hd : decode M.2.1 pc = .ok (.goto off, 3)) (ht : (pc : Int) + off = (t : Int)) (k : XW M d mc ms t L st h Post) : XW M d mc ms pc L st h Post := XW.row (fun p l e R s m args below meth c G Q H locs cells slots ls F P S E k => lv_goto F.1 F.2.1 hd ht k) k
theorem XW.tableIn (t : Nat) {df lo hi : Int} {offs : Array Int} {len : Nat} {x : Int32} {off : Int} (hd : decode M.2.1 pc = .ok (.tableswitch df lo hi offs, len)) (h1 : ¬ x.toInt < lo) (h2 : ¬ hi < x.toInt) (ho : offs[(x.toInt - lo).toNat]? = some off) (ht : (pc : Int) + off = (t : Int)) (k : XW M d mc ms t L st h Post) : XW M d mc ms pc L (.int x :: st) h Post := XW.row (fun p l e R s m args below meth c G Q H locs cells slots ls F P S E k => lv_tableIn F.1 F.2.1 hd h1 h2 ho ht k) k
theorem XW.tableOut (t : Nat) {df lo hi : Int} {offs : Array Int} {len : Nat} {x : Int32} (hd : decode M.2.1 pc = .ok (.tableswitch df lo hi offs, len)) (h1 : x.toInt < lo ∨ hi < x.toInt) (ht : (pc : Int) + df = (t : Int)) (k : XW M d mc ms t L st h Post) : XW M d mc ms pc L (.int x :: st) h Post := XW.row (fun p l e R s m args below meth c G Q H locs cells slots ls F P S E k => lv_tableOut F.1 F.2.1 hd h1 ht k) k
theorem XW.lookup (t : Nat) {df : Int} {ps : Array (Int × Int)} {len : Nat} {x : Int32} {off : Int} (hd : decode M.2.1 pc = .ok (.lookupswitch df ps, len)) (hq : (ps.toList.zip (ps.toList.drop 1)).all (fun (a, next) => a.1 < next.1) = true) (ho : Op.lookupswitch.offset ps.toList df x.toInt = off) (ht : (pc : Int) + off = (t : Int)) (k : XW M d mc ms t L st h Post) : XW M d mc ms pc L (.int x :: st) h Post := XW.row (fun p l e R s m args below meth c G Q H locs cells slots ls F P S E k => lv_lookup F.1 F.2.1 hd hq ho ht k) k
end XRows2
end
section
/-! The rows, on: fields, arrays, making -/
section XRows3
variable {M : xM} {d mc ms pc : Nat} {L : xL} {st : List Value} {h : xH} {Post : Option Value → xH → Prop}
/-- a field's link: in the class itself, or of a nest mate -/
def xFd (own : String) (idx ci j : Nat) : Prop := ∃ (C : String) (T : u_T) (N : Nat), vwCl[ci]? = some (C, T, N) ∧ (∀ w ∈ u_ws C T N, w ∈ lw_good) ∧ j < N ∧ (Cond.fieldLink own idx (T j).1 (T j).2.1 (T j).2.2.1 ∈ lw_good ∨ Cond.fieldLinkNest own idx (T j).1 (T j).2.1 (T j).2.2.1 RX3 ∈ lw_nest)
theorem XW.getf (pc' : Nat) {idx ci j o : Nat} {fs : List Value} {v : Value} (hw : xFd M.1.cls idx ci j) (hd : decode M.2.1 pc = .ok (.getfield idx, 3)) (hh : h[o]? = some (.inr (ci, fs))) (hv : fs[j]? = some v) (hp : pc + 3 = pc') (k : XW M d mc ms pc' L (v :: st) h Post) : XW M d mc ms pc L (.ref o :: st) h Post := by
  subst hp
  obtain ⟨C, T, N, hc, hin, hj, hl⟩ := hw
  refine XW.row (fun p l e R s m args below meth c G Q H locs cells slots ls F P S E k => ?_) k
  have hv' : (fs.map (xv G))[j]? = some (xv G v) := by rw [List.getElem?_map, hv]; rfl
  rcases hl with hl | hl
  · exact va_get F.1 F.2.1 F.2.2.2.2.1 hin F.2.2.2.1 F.2.2.2.2.2.1.1 P o (xw_get hh) hc j hj (F.2.2.2.2.1 _ hl) (fun _ h9 => h9) hv' hd k
  · exact va_getN F.1 F.2.1 F.2.2.2.2.1 hin F.2.2.2.1 F.2.2.2.2.2.1.1 P o (xw_get hh) hc j hj ((F.2.2.2.2.2.1.2.1 _ hl).use rfl) (fun _ h9 => h9) hv' hd k
theorem XW.rowH {pc' : Nat} {st' : List Value} {h' : xH} (hl : h'.length = h.length)
    (row : ∀ (p : Program) (l : Launch) (e : Env) (R : Room) (s : State) (m : MethodId) (args : Array Value) (below : List Frame) (meth : Method) (c : Code) (G : xG) (Q : State → Prop) (H : Heap) (locs : List Loc) (cells slots : Nat) (ls : Array Slot),
      xF M d p R s m args meth c G → xP G h H → va_S (xA G) s.heap H locs → xls G ls M.2.2.1 L → (∀ (H1 : Heap) (locs1 : List Loc), xP G h' H1 → va_S (xA G) s.heap H1 locs1 → W p l e R s m args below meth c H1 locs1 cells slots Q (F0 m pc' ls (st'.map (xv G)))) → W p l e R s m args below meth c H locs cells slots Q (F0 m pc ls (st.map (xv G))))
    (k : XW M d mc ms pc' L st' h' Post) : XW M d mc ms pc L st h Post := by
  intro p l e R s m args below meth c G Q H locs cells slots C1 S1 ls F P S E b hr
  exact row p l e R s m args below meth c G Q H locs cells slots ls F P S E (fun H1 locs1 P1 S1' => k p l e R s m args below meth c G Q H1 locs1 cells slots C1 S1 ls F P1 S1' E ⟨b.1, b.2.1, b.2.2.1, b.2.2.2.1, by rw [hl]; exact b.2.2.2.2⟩ hr)
theorem xe_set (G : xG) (ci j : Nat) (fs : List Value) (v : Value) : xe G (.inr (ci, fs.set j v)) = .inr (ci, (fs.map (xv G)).set j (xv G v)) := by
  show Sum.inr (ci, (fs.set j v).map (xv G)) = _
  rw [List.map_set]
/-- a value that a field of this type takes -/
def xfit (ty : FieldType) (v : Value) : Prop := ∀ G : xG, narrow ty (xv G v) = xv G v ∧ fits ty (xv G v) = true
theorem xfit_i (x : Int32) : xfit .int (.int x) := fun _ => ⟨rfl, rfl⟩
theorem xfit_l (x : Int64) : xfit .long (.long x) := fun _ => ⟨rfl, rfl⟩
theorem xfit_a (t : FieldType) (x : Nat) : xfit (.array t) (.ref x) := fun _ => ⟨rfl, rfl⟩
theorem xfit_o (t : String) (x : Nat) : xfit (.object t) (.ref x) := fun _ => ⟨rfl, rfl⟩
/-- a field that may be written: not final, or final and its class's own, in a constructor -/
def xFp (own name : String) (idx ci j : Nat) (ty : FieldType) : Prop := ∃ (C : String) (T : u_T) (N : Nat) (ty0 : Nat → FieldType), vwCl[ci]? = some (C, T, N) ∧ (∀ w ∈ u_ws C T N, w ∈ lw_good) ∧ j < N ∧ (∀ k, k < N → parseFieldDescriptor (T k).2.2.1 = some (ty0 k)) ∧ (∀ a, a < N → ∀ b, b < N → a ≠ b → (T a).2.1 ≠ (T b).2.1) ∧ parseFieldDescriptor (T j).2.2.1 = some ty ∧
  (((T j).2.2.2 = false ∧ Cond.fieldLink own idx (T j).1 (T j).2.1 (T j).2.2.1 ∈ lw_good) ∨ ((T j).2.2.2 = false ∧ Cond.fieldLinkNest own idx (T j).1 (T j).2.1 (T j).2.2.1 RX3 ∈ lw_nest) ∨ ((T j).2.2.2 = true ∧ (T j).1 = own ∧ name = "<init>" ∧ Cond.fieldLink own idx (T j).1 (T j).2.1 (T j).2.2.1 ∈ lw_good))
theorem XW.putf (pc' : Nat) {idx ci j o : Nat} {fs : List Value} {v : Value} {ty : FieldType} {h' : xH} (hw : xFp M.1.cls M.1.name idx ci j ty) (hd : decode M.2.1 pc = .ok (.putfield idx, 3)) (hh : h[o]? = some (.inr (ci, fs))) (hj : j < fs.length) (hf : xfit ty v) (he : h.set o (.inr (ci, fs.set j v)) = h') (hp : pc + 3 = pc') (k : XW M d mc ms pc' L st h' Post) : XW M d mc ms pc L (v :: .ref o :: st) h Post := by
  subst hp; subst he
  obtain ⟨C, T, N, ty0, hc, hin, hjN, hty, hnm, hpd, hl⟩ := hw
  refine XW.rowH (by rw [List.length_set]) (fun p l e R s m args below meth c G Q H locs cells slots ls F P S E k => ?_) k
  have hl0 : j < (fs.map (xv G)).length := by rw [List.length_map]; exact hj
  have fin : ∀ (H1 : Heap) (locs1 : List Loc), va_P G.1 vwCl ((xw G h).set o (G.2.2.1 + o, .inr (ci, (fs.map (xv G)).set j (xv G v)))) H1 → va_D (xA G) ((xw G h).set o (G.2.2.1 + o, .inr (ci, (fs.map (xv G)).set j (xv G v)))) → va_S (xA G) s.heap H1 locs1 → W p l e R s m args below meth c H1 locs1 cells slots Q (F0 m (pc + 3) ls (st.map (xv G))) := by
    intro H1 locs1 hP _ hS
    rw [← xe_set, xw_set] at hP
    exact k H1 locs1 hP hS
  rcases hl with ⟨hfn, hl⟩ | ⟨hfn, hl⟩ | ⟨hfn, hdc, hin2, hl⟩
  · exact va_put F.1 F.2.1 F.2.2.2.2.1 hin ty0 hty hnm F.2.2.2.1 F.2.2.2.2.2.1.1 P (xw_D G h) S o (xw_get hh) hc j hjN (F.2.2.2.2.1 _ hl) (fun _ h9 => h9) hfn hpd (hf G).1 (hf G).2 hl0 hd fin
  · exact va_putN F.1 F.2.1 F.2.2.2.2.1 hin ty0 hty hnm F.2.2.2.1 F.2.2.2.2.2.1.1 P (xw_D G h) S o (xw_get hh) hc j hjN ((F.2.2.2.2.2.1.2.1 _ hl).use rfl) (fun _ h9 => h9) hfn hpd (hf G).1 (hf G).2 hl0 hd fin
  · exact va_putF F.1 F.2.1 F.2.2.2.2.1 hin ty0 hty hnm F.2.2.2.1 F.2.2.2.2.2.1.1 P (xw_D G h) S o (xw_get hh) hc j hjN (F.2.2.2.2.1 _ hl) (fun _ h9 => h9) hfn (F.2.2.2.2.2.2.2.1.trans hin2) hdc hpd (hf G).1 (hf G).2 hl0 hd fin
-- arrays
theorem xP_set {G : xG} {h : xH} {H1 : Heap} {o : Nat} {c : xC} (hP : va_P G.1 vwCl ((xw G h).set o (G.2.2.1 + o, xe G c)) H1) : xP G (h.set o c) H1 := by
  rw [xw_set] at hP; exact hP
theorem XW.iald (pc' : Nat) {o n : Nat} {f : Nat → Int32} {i : Int32} (j : Nat) (hd : decode M.2.1 pc = .ok (.iaload, 1)) (hh : h[o]? = some (.inl (n, .inl f))) (hi : i = nI j) (hj : j < n) (hn : n < 2 ^ 31) (hp : pc + 1 = pc') (k : XW M d mc ms pc' L (.int (f j) :: st) h Post) : XW M d mc ms pc L (.int i :: .ref o :: st) h Post := by
  subst hp; subst hi
  have hc : (nI j).toNatClampNeg = j := nI_clamp (by omega)
  refine XW.row (fun p l e R s m args below meth c G Q H locs cells slots ls F P S E k => ?_) k
  refine va_iald (i := nI j) F.1 F.2.1 F.2.2.2.2.2.1.1 P o 0 (xw_get hh) rfl (vp_in_nI hj hn) hd ?_
  rw [hc]; exact k
theorem XW.sald (pc' : Nat) {x n : Nat} {f : Nat → Int32} {i : Int32} (j : Nat) (hm : M.2.2.2.2 = some (n, f)) (hd : decode M.2.1 pc = .ok (.iaload, 1)) (hi : i = nI j) (hj : j < n) (hn : n < 2 ^ 31) (hp : pc + 1 = pc') (k : XW M d mc ms pc' L (.int (f j) :: st) h Post) : XW M d mc ms pc L (.int i :: .retAddr x :: st) h Post := by
  subst hp; subst hi
  have hc : (nI j).toNatClampNeg = j := nI_clamp (by omega)
  refine XW.row (fun p l e R s m args below meth c G Q H locs cells slots ls F P S E k => ?_) k
  have hX := F.2.2.2.2.2.2.2.2.2.1
  unfold xX at hX
  rw [hm] at hX
  refine va_sld (i := nI j) F.1 F.2.1 hX.1 hX.2.1 (Nat.not_le.mpr hX.2.2) S (vp_in_nI hj hn) hd ?_
  rw [hc]; exact k
theorem XW.slen (pc' : Nat) {x n : Nat} {f : Nat → Int32} (hm : M.2.2.2.2 = some (n, f)) (hd : decode M.2.1 pc = .ok (.arraylength, 1)) (hp : pc + 1 = pc') (k : XW M d mc ms pc' L (.int (nI n) :: st) h Post) : XW M d mc ms pc L (.retAddr x :: st) h Post := by
  subst hp
  refine XW.row (fun p l e R s m args below meth c G Q H locs cells slots ls F P S E k => ?_) k
  have hX := F.2.2.2.2.2.2.2.2.2.1
  unfold xX at hX
  rw [hm] at hX
  exact va_slen F.1 F.2.1 hX.1 hX.2.1 (Nat.not_le.mpr hX.2.2) S hd k
theorem XW.fald (pc' : Nat) {o n : Nat} {f : Nat → UInt32} {i : Int32} (j : Nat) (hd : decode M.2.1 pc = .ok (.faload, 1)) (hh : h[o]? = some (.inl (n, .inr (.inr (.inl f))))) (hi : i = nI j) (hj : j < n) (hn : n < 2 ^ 31) (hp : pc + 1 = pc') (k : XW M d mc ms pc' L (.float (f j) :: st) h Post) : XW M d mc ms pc L (.int i :: .ref o :: st) h Post := by
  subst hp; subst hi
  have hc : (nI j).toNatClampNeg = j := nI_clamp (by omega)
  refine XW.row (fun p l e R s m args below meth c G Q H locs cells slots ls F P S E k => ?_) k
  refine va_fald (i := nI j) F.1 F.2.1 F.2.2.2.2.2.1.1 P o 1 (xw_get hh) rfl (vp_in_nI hj hn) hd ?_
  rw [hc]; exact k
theorem XW.aald (pc' : Nat) {o n q : Nat} {f : Nat → Option Nat} {i : Int32} (j : Nat) (hd : decode M.2.1 pc = .ok (.aaload, 1)) (hh : h[o]? = some (.inl (n, .inr (.inr (.inr (.inr f)))))) (hi : i = nI j) (hj : j < n) (hn : n < 2 ^ 31) (hq : f j = some q) (hp : pc + 1 = pc') (k : XW M d mc ms pc' L (.ref q :: st) h Post) : XW M d mc ms pc L (.int i :: .ref o :: st) h Post := by
  subst hp; subst hi
  have hc : (nI j).toNatClampNeg = j := nI_clamp (by omega)
  refine XW.row (fun p l e R s m args below meth c G Q H locs cells slots ls F P S E k => ?_) k
  refine va_aldq (i := nI j) F.1 F.2.1 F.2.2.2.2.2.1.1 P o 2 (xw_get hh) rfl (vp_in_nI hj hn) hd ?_
  rw [hc]
  simp only [hq, Option.map_some]
  exact k
theorem XW.alen (pc' : Nat) {o : Nat} {a : vp_A} {v : Int32} (hd : decode M.2.1 pc = .ok (.arraylength, 1)) (hh : h[o]? = some (.inl a)) (hv : Int32.ofNat a.1 = v) (hp : pc + 1 = pc') (k : XW M d mc ms pc' L (.int v :: st) h Post) : XW M d mc ms pc L (.ref o :: st) h Post := by
  subst hp; subst hv
  refine XW.row (fun p l e R s m args below meth c G Q H locs cells slots ls F P S E k => ?_) k
  obtain ⟨n, f | f | f | f | f⟩ := a
  · exact va_alen F.1 F.2.1 F.2.2.2.2.2.1.1 P o 0 (xw_get hh) rfl rfl hd k
  · exact va_alen F.1 F.2.1 F.2.2.2.2.2.1.1 P o 0 (xw_get hh) rfl rfl hd k
  · exact va_alen F.1 F.2.1 F.2.2.2.2.2.1.1 P o 1 (xw_get hh) rfl rfl hd k
  · exact va_alen F.1 F.2.1 F.2.2.2.2.2.1.1 P o 1 (xw_get hh) rfl rfl hd k
  · exact va_alen F.1 F.2.1 F.2.2.2.2.2.1.1 P o 2 (xw_get hh) rfl rfl hd k
theorem XW.iast (pc' : Nat) {o n : Nat} {f : Nat → Int32} {i x : Int32} {h' : xH} (j : Nat) (hd : decode M.2.1 pc = .ok (.iastore, 1)) (hh : h[o]? = some (.inl (n, .inl f))) (hi : i = nI j) (hj : j < n) (hn : n < 2 ^ 31) (he : h.set o (.inl (n, .inl (upd f j x))) = h') (hp : pc + 1 = pc') (k : XW M d mc ms pc' L st h' Post) : XW M d mc ms pc L (.int x :: .int i :: .ref o :: st) h Post := by
  subst hp; subst hi; subst he
  have hc : (nI j).toNatClampNeg = j := nI_clamp (by omega)
  refine XW.rowH (by rw [List.length_set]) (fun p l e R s m args below meth c G Q H locs cells slots ls F P S E k => ?_) k
  refine va_iast (i := nI j) F.1 F.2.1 F.2.2.2.2.2.1.1 P (xw_D G h) S o 0 (xw_get hh) rfl (vp_in_nI hj hn) hd (fun H1 locs1 hP _ hS => ?_)
  rw [hc] at hP
  exact k H1 locs1 (xP_set (c := .inl (n, .inl (upd f j x))) hP) hS
theorem XW.fast (pc' : Nat) {o n : Nat} {f : Nat → UInt32} {i : Int32} {x : UInt32} {h' : xH} (j : Nat) (hd : decode M.2.1 pc = .ok (.fastore, 1)) (hh : h[o]? = some (.inl (n, .inr (.inr (.inl f))))) (hi : i = nI j) (hj : j < n) (hn : n < 2 ^ 31) (he : h.set o (.inl (n, .inr (.inr (.inl (vf_upd f j x))))) = h') (hp : pc + 1 = pc') (k : XW M d mc ms pc' L st h' Post) : XW M d mc ms pc L (.float x :: .int i :: .ref o :: st) h Post := by
  subst hp; subst hi; subst he
  have hc : (nI j).toNatClampNeg = j := nI_clamp (by omega)
  refine XW.rowH (by rw [List.length_set]) (fun p l e R s m args below meth c G Q H locs cells slots ls F P S E k => ?_) k
  refine va_fast (i := nI j) F.1 F.2.1 F.2.2.2.2.2.1.1 P (xw_D G h) S o 1 (xw_get hh) rfl (vp_in_nI hj hn) hd (fun H1 locs1 hP _ hS => ?_)
  rw [hc] at hP
  exact k H1 locs1 (xP_set (c := .inl (n, .inr (.inr (.inl (vf_upd f j x))))) hP) hS
theorem XW.aast (pc' : Nat) {o n q : Nat} {f : Nat → Option Nat} {i : Int32} {fs : List Value} {h' : xH} (j : Nat) (hd : decode M.2.1 pc = .ok (.aastore, 1)) (hh : h[o]? = some (.inl (n, .inr (.inr (.inr (.inr f)))))) (hq : h[q]? = some (.inr (1, fs))) (hi : i = nI j) (hj : j < n) (hn : n < 2 ^ 31) (he : h.set o (.inl (n, .inr (.inr (.inr (.inr (va_up f j (some q))))))) = h') (hp : pc + 1 = pc') (k : XW M d mc ms pc' L st h' Post) : XW M d mc ms pc L (.ref q :: .int i :: .ref o :: st) h Post := by
  subst hp; subst hi; subst he
  have hc : (nI j).toNatClampNeg = j := nI_clamp (by omega)
  refine XW.rowH (by rw [List.length_set]) (fun p l e R s m args below meth c G Q H locs cells slots ls F P S E k => ?_) k
  refine va_astq (i := nI j) F.1 F.2.1 F.2.2.2.2.2.1.1 P (xw_D G h) S o 2 q 1 (r := (RX1, TX1, 8)) (xw_get hh) rfl (xw_get hq) rfl (vp_in_nI hj hn) hd (fun H1 locs1 hP _ hS => ?_)
  rw [hc] at hP
  have e1 : (va_up (fun j => (f j).map (fun k => G.2.2.1 + k)) j (some (G.2.2.1 + q))) = (fun i => (va_up f j (some q) i).map (fun k => G.2.2.1 + k)) := by
    funext i
    unfold va_up
    by_cases e : i = j
    · simp [e]
    · simp [e]
  rw [e1] at hP
  exact k H1 locs1 (xP_set (c := .inl (n, .inr (.inr (.inr (.inr (va_up f j (some q))))))) hP) hS
end XRows3
end
section
/-! The rows, on: making cells, returning, calling -/
section XRows4
variable {M : xM} {d mc ms pc : Nat} {L : xL} {st : List Value} {h : xH} {Post : Option Value → xH → Prop}
theorem xP.push {G : xG} {h : xH} {H H1 : Heap} {c : xC} (P : xP G h H) (hz : H.size = G.2.2.1 + h.length) (o1 : ∀ q, q < H.size → H1[q]? = H[q]?) (hc : va_at G.1 vwCl (G.2.2.1 + h.length, xe G c) H1) : xP G (h ++ [c]) H1 := by
  unfold xP
  rw [← xw_push]
  refine (P.kept (fun k x hx => o1 x.1 ((P k x hx).lt))).app (fun k x hx => ?_)
  have hl : k < 1 := (List.getElem?_eq_some_iff.mp hx).1
  rw [show k = 0 by omega] at hx
  cases hx
  exact hc
theorem xS.push {G : xG} {H0 H H1 : Heap} {locs : List Loc} (S : va_S (xA G) H0 H locs) (z1 : H1.size = H.size + 1) (o1 : ∀ q, q < H.size → H1[q]? = H[q]?) : va_S (xA G) H0 H1 locs :=
  ⟨Nat.le_trans S.1 (by omega), fun x h1 h2 => (o1 x (Nat.lt_of_lt_of_le h1 S.1)).trans (S.2.1 x h1 h2), S.2.2⟩
/-- what 'new' needs -/
def xNc (own : String) (idx ci N : Nat) (fs : List Value) : Prop := ∃ (C : String) (T : u_T) (ty0 : Nat → FieldType), vwCl[ci]? = some (C, T, N) ∧ (∀ w ∈ u_ws C T N, w ∈ lw_good) ∧ (∀ k, k < N → parseFieldDescriptor (T k).2.2.1 = some (ty0 k)) ∧ Cond.classLink own idx C ∈ lw_good ∧ Cond.instantiable C N ∈ lw_good ∧ Cond.initialized C ∈ lw_good ∧ ∀ (G : xG) (j : Nat), j < N → defaultValue (ty0 j) = vp_V (fs.map (xv G)) j
theorem XW.newc (pc' : Nat) {idx ci N mc' ms' : Nat} {fs : List Value} {h' : xH} (hw : xNc M.1.cls idx ci N fs) (hd : decode M.2.1 pc = .ok (.new idx, 3)) (hmc : mc' + 1 = mc) (hms : ms' + N = ms) (he : h ++ [.inr (ci, fs)] = h') (hp : pc + 3 = pc') (k : XW M d mc' ms' pc' L (.ref h.length :: st) h' Post) : XW M d mc ms pc L st h Post := by
  subst hp; subst he; subst hmc; subst hms
  obtain ⟨C, T, ty0, hc, hin, hty, w1, w2, w3, hfs⟩ := hw
  intro p l e R s m args below meth c G Q H locs cells slots C1 S1 ls F P S E b hr T0 hT X
  obtain ⟨b1, b2, b3, b4, b5⟩ := b
  have hz := P.size F.2.2.2.2.2.2.1 hT X b5
  have hKn := F.2.2.2.2.2.1.1.1 ci _ hc
  suffices key : W p l e R s m args below meth c H locs cells slots Q (F0 m pc ls (st.map (xv G))) from key T0 hT X
  refine W.newcK F.1 F.2.1 F.2.2.2.1 (F.2.2.2.2.1 _ w1) (F.2.2.2.2.1 _ w2) (F.2.2.2.2.1 _ w3) rfl hd (by omega) (by omega) hKn.2.1 hz (fun H1 kC hkC e1 z1 o1 => ?_)
  rw [← hz] at o1 z1
  refine k p l e R s m args below meth c G Q H1 locs (cells + 1) (slots + N) C1 S1 ls F (P.push hz o1 ⟨_, hc, (u_born ty0 F.2.2.2.2.1 hin hKn hkC e1 hty).to (hfs G)⟩) (xS.push S z1 o1) E ⟨by omega, by omega, b3, b4, ?_⟩ hr
  rw [List.length_append, List.length_singleton]; omega
theorem XW.newI (pc' : Nat) {n : Int32} {N mc' ms' : Nat} {h' : xH} (hw : Cond.arrayClass .int ∈ lw_good) (hd : decode M.2.1 pc = .ok (.newarray .int, 2)) (hn : n = nI N) (hN : N < 100000) (hmc : mc' + 1 = mc) (hms : ms' + N = ms) (he : h ++ [.inl (N, .inl (fun _ => 0))] = h') (hp : pc + 2 = pc') (k : XW M d mc' ms' pc' L (.ref h.length :: st) h' Post) : XW M d mc ms pc L (.int n :: st) h Post := by
  subst hp; subst he; subst hmc; subst hms; subst hn
  intro p l e R s m args below meth c G Q H locs cells slots C1 S1 ls F P S E b hr T0 hT X
  obtain ⟨b1, b2, b3, b4, b5⟩ := b
  have hz := P.size F.2.2.2.2.2.2.1 hT X b5
  suffices key : W p l e R s m args below meth c H locs cells slots Q (F0 m pc ls (.int (nI N) :: st.map (xv G))) from key T0 hT X
  refine va_newaK (atype := .int) F.1 F.2.1 (F.2.2.2.2.1 _ hw) rfl hd rfl (nI_pos (by omega)) (nI_clamp (by omega)) (by show N * 4 ≤ _; omega) (by omega) (by omega) hz (fun H1 cA e1 z1 o1 hAr hNm => ?_)
  have hcl : s.vm.findClass ("[" ++ (FieldType.int).toString) = some G.2.1.1 := (F.2.2.2.2.2.1.1.2 0 _ rfl).2
  have hcA : cA = G.2.1.1 := Option.some.inj (hNm.symm.trans hcl)
  subst hcA
  rw [← hz] at o1 z1
  refine k p l e R s m args below meth c G Q H1 locs (cells + 1) (slots + N) C1 S1 ls F (P.push hz o1 e1) (xS.push S z1 o1) E ⟨by omega, by omega, b3, b4, ?_⟩ hr
  rw [List.length_append, List.length_singleton]; omega
theorem XW.newF (pc' : Nat) {n : Int32} {N mc' ms' : Nat} {h' : xH} (hw : Cond.arrayClass .float ∈ lw_good) (hd : decode M.2.1 pc = .ok (.newarray .float, 2)) (hn : n = nI N) (hN : N < 100000) (hmc : mc' + 1 = mc) (hms : ms' + N = ms) (he : h ++ [.inl (N, .inr (.inr (.inl (fun _ => 0))))] = h') (hp : pc + 2 = pc') (k : XW M d mc' ms' pc' L (.ref h.length :: st) h' Post) : XW M d mc ms pc L (.int n :: st) h Post := by
  subst hp; subst he; subst hmc; subst hms; subst hn
  intro p l e R s m args below meth c G Q H locs cells slots C1 S1 ls F P S E b hr T0 hT X
  obtain ⟨b1, b2, b3, b4, b5⟩ := b
  have hz := P.size F.2.2.2.2.2.2.1 hT X b5
  suffices key : W p l e R s m args below meth c H locs cells slots Q (F0 m pc ls (.int (nI N) :: st.map (xv G))) from key T0 hT X
  refine va_newaK (atype := .float) F.1 F.2.1 (F.2.2.2.2.1 _ hw) rfl hd rfl (nI_pos (by omega)) (nI_clamp (by omega)) (by show N * 4 ≤ _; omega) (by omega) (by omega) hz (fun H1 cA e1 z1 o1 hAr hNm => ?_)
  have hcl : s.vm.findClass ("[" ++ (FieldType.float).toString) = some G.2.1.2.1 := (F.2.2.2.2.2.1.1.2 1 _ rfl).2
  have hcA : cA = G.2.1.2.1 := Option.some.inj (hNm.symm.trans hcl)
  subst hcA
  rw [← hz] at o1 z1
  refine k p l e R s m args below meth c G Q H1 locs (cells + 1) (slots + N) C1 S1 ls F (P.push hz o1 e1) (xS.push S z1 o1) E ⟨by omega, by omega, b3, b4, ?_⟩ hr
  rw [List.length_append, List.length_singleton]; omega
theorem XW.newA (pc' : Nat) {idx : Nat} {n : Int32} {N mc' ms' : Nat} {h' : xH} (hw : Cond.classLink M.1.cls idx RX1 ∈ lw_good) (hd : decode M.2.1 pc = .ok (.anewarray idx, 3)) (hn : n = nI N) (hN : N < 100000) (hmc : mc' + 1 = mc) (hms : ms' + N = ms) (he : h ++ [.inl (N, .inr (.inr (.inr (.inr (fun _ => none)))))] = h') (hp : pc + 3 = pc') (k : XW M d mc' ms' pc' L (.ref h.length :: st) h' Post) : XW M d mc ms pc L (.int n :: st) h Post := by
  subst hp; subst he; subst hmc; subst hms; subst hn
  intro p l e R s m args below meth c G Q H locs cells slots C1 S1 ls F P S E b hr T0 hT X
  obtain ⟨b1, b2, b3, b4, b5⟩ := b
  have hz := P.size F.2.2.2.2.2.2.1 hT X b5
  have hc0 : (nI N).toNatClampNeg = N := nI_clamp (by omega)
  suffices key : W p l e R s m args below meth c H locs cells slots Q (F0 m pc ls (.int (nI N) :: st.map (xv G))) from key T0 hT X
  refine W.anew F.1 F.2.1 F.2.2.2.1 (F.2.2.2.2.1 _ hw) (va_AO.use F.2.2.2.2.2.1.2.2) rfl hd rfl (nI_pos (by omega)) (by rw [hc0]; omega) (by omega) (by rw [hc0]; omega) (fun cA kA comp f1 f2 f3 f4 => ?_)
  have hcl : s.vm.findClass ("[" ++ (FieldType.object RX1).toString) = some G.2.1.2.2 := by
    obtain ⟨kA', comp', g1, g2, g3, g4⟩ := (F.2.2.2.2.2.1.1.2 2 _ rfl).2
    exact g4
  have hcA : cA = G.2.1.2.2 := Option.some.inj (f1.symm.trans hcl)
  subst hcA
  rw [hc0]
  generalize hH1 : H.push ({ cls := G.2.1.2.2, slots := Array.replicate N .null, vm := .none } : Cell) = H1
  have z1 : H1.size = H.size + 1 := by rw [← hH1, Array.size_push]
  have e1 : H1[H.size]? = some (arrV G.2.1.2.2 N (fun _ => .null)) := by rw [← hH1, Array.getElem?_push_size, ← arrV_new]
  have o1 : ∀ q : Nat, q < H.size → H1[q]? = H[q]? := fun q hq => by rw [← hH1, Array.getElem?_push, if_neg (Nat.ne_of_lt hq)]
  rw [hz] at e1
  have := k p l e R s m args below meth c G Q H1 locs (cells + 1) (slots + N) C1 S1 ls F (P.push hz o1 e1) (xS.push S z1 o1) E ⟨by omega, by omega, b3, b4, by rw [List.length_append, List.length_singleton]; omega⟩ hr
  rw [hz]
  exact this
-- returns
theorem XW.iret {v : Int32} (hd : decode M.2.1 pc = .ok (.ireturn, 1)) (hn : xnar M.2.2.2.1 (some (.int v))) (hp : Post (some (.int v)) h) : XW M d 0 ms pc L [.int v] h Post := by
  intro p l e R s m args below meth c G Q H locs cells slots C1 S1 ls F P S E b hr
  obtain ⟨b1, b2, b3, b4, b5⟩ := b
  have b1 : cells = C1 := b1
  subst b1
  exact W.widen (Nat.le_refl _) (by omega) (hr pc ls (some (.int v)) h H locs hp hn hd P S b5)
theorem XW.lret {v : Int64} (hd : decode M.2.1 pc = .ok (.lreturn, 1)) (hn : xnar M.2.2.2.1 (some (.long v))) (hp : Post (some (.long v)) h) : XW M d 0 ms pc L [.long v] h Post := by
  intro p l e R s m args below meth c G Q H locs cells slots C1 S1 ls F P S E b hr
  obtain ⟨b1, b2, b3, b4, b5⟩ := b
  have b1 : cells = C1 := b1
  subst b1
  exact W.widen (Nat.le_refl _) (by omega) (hr pc ls (some (.long v)) h H locs hp hn hd P S b5)
theorem XW.fret {v : UInt32} (hd : decode M.2.1 pc = .ok (.freturn, 1)) (hn : xnar M.2.2.2.1 (some (.float v))) (hp : Post (some (.float v)) h) : XW M d 0 ms pc L [.float v] h Post := by
  intro p l e R s m args below meth c G Q H locs cells slots C1 S1 ls F P S E b hr
  obtain ⟨b1, b2, b3, b4, b5⟩ := b
  have b1 : cells = C1 := b1
  subst b1
  exact W.widen (Nat.le_refl _) (by omega) (hr pc ls (some (.float v)) h H locs hp hn hd P S b5)
theorem XW.vret (hd : decode M.2.1 pc = .ok (.return_, 1)) (hn : xnar M.2.2.2.1 none) (hp : Post none h) : XW M d 0 ms pc L [] h Post := by
  intro p l e R s m args below meth c G Q H locs cells slots C1 S1 ls F P S E b hr
  obtain ⟨b1, b2, b3, b4, b5⟩ := b
  have b1 : cells = C1 := b1
  subst b1
  exact W.widen (Nat.le_refl _) (by omega) (hr pc ls none h H locs hp hn hd P S b5)
end XRows4
end
section
/-! Calling: a contract is XW from the method's first instruction -/
section XCalls
variable {M : xM} {d mc ms pc : Nat} {L : xL} {st : List Value} {h : xH} {Post : Option Value → xH → Prop}
def xsl (vs : List Value) : xL := vs.flatMap (fun v => if v.category = 2 then [some v, none] else [some v])
def xin (vs : List Value) (n : Nat) : xL := xsl vs ++ List.replicate (n - (xsl vs).length) none
/-- the method's contract: with these values and this world it returns, with Post -/
abbrev XC (M : xM) (d mc ms : Nat) (vs : List Value) (h : xH) (Post : Option Value → xH → Prop) : Prop := XW M d mc ms 0 (xin vs M.2.2.1) [] h Post
theorem xsl_args (G : xG) : ∀ (vs : List Value) (i k : Nat) (v : Value), (xsl vs)[i]? = some (some v) → (k + i, xv G v) ∈ lv_args k (vs.map (xv G))
  | [], i, k, v, h => by simp [xsl] at h
  | w :: vs, i, k, v, h => by
    have ih := xsl_args G vs
    by_cases hc : w.category = 2
    · have e : xsl (w :: vs) = some w :: none :: xsl vs := by simp [xsl, hc]
      rw [e] at h
      show (k + i, xv G v) ∈ (k, xv G w) :: lv_args (if (xv G w).category = 2 then k + 2 else k + 1) (vs.map (xv G))
      rw [xv_cat, if_pos hc]
      match i, h with
      | 0, h => cases h; exact List.mem_cons_self
      | 1, h => simp at h
      | i + 2, h =>
        have h : (xsl vs)[i]? = some (some v) := by simpa using h
        have := ih i (k + 2) v h
        rw [show k + 2 + i = k + (i + 2) by omega] at this
        exact List.mem_cons_of_mem _ this
    · have e : xsl (w :: vs) = some w :: xsl vs := by simp [xsl, hc]
      rw [e] at h
      show (k + i, xv G v) ∈ (k, xv G w) :: lv_args (if (xv G w).category = 2 then k + 2 else k + 1) (vs.map (xv G))
      rw [xv_cat, if_neg hc]
      match i, h with
      | 0, h => cases h; exact List.mem_cons_self
      | i + 1, h =>
        have h : (xsl vs)[i]? = some (some v) := by simpa using h
        have := ih i (k + 1) v h
        rw [show k + 1 + i = k + (i + 1) by omega] at this
        exact List.mem_cons_of_mem _ this
theorem xsl_len (G : xG) : ∀ vs : List Value, (lg_sl (vs.map (xv G))).length = (xsl vs).length
  | [] => rfl
  | w :: vs => by
    have ih := xsl_len G vs
    simp only [lg_sl, xsl, List.map_cons, List.flatMap_cons, List.length_append, xv_cat] at ih ⊢
    rw [ih]
    by_cases hc : w.category = 2 <;> simp [hc]
theorem xin_entry {G : xG} {vs : List Value} {n : Nat} (hn : (xsl vs).length ≤ n) : xls G ((lg_sl (vs.map (xv G)) ++ List.replicate (n - (lg_sl (vs.map (xv G))).length) Slot.unset).toArray) n (xin vs n) := by
  have hl := lv_entry (vs.map (xv G)) (n := n) (by rw [xsl_len]; exact hn)
  refine ⟨hl.1, hl.2.1, fun i v hv => ?_⟩
  refine hl.2.2 (i, xv G v) ?_
  unfold xin at hv
  by_cases hi : i < (xsl vs).length
  · rw [List.getElem?_append_left hi] at hv
    have := xsl_args G vs i 0 v hv
    rw [Nat.zero_add] at this
    exact this
  · rw [List.getElem?_append_right (by omega), List.getElem?_replicate] at hv
    split at hv <;> cases hv
def xws (M : xM) : List Cond := Cond.code M.1 M.2.1 M.2.2.1 M.2.2.2.1 :: lw_good
def xrm (d mc ms : Nat) : Room := { frames := d, cells := mc, slots := ms, locals := 38 * d }
def xPc (G : xG) (vs : List Value) (h : xH) : Array Value → State → Prop := fun a U => a = (vs.map (xv G)).toArray ∧ xP G h U.heap ∧ U.heap.size = G.2.2.1 + h.length ∧ xK G U
def xQc (G : xG) (h : xH) (mc : Nat) (Post : Option Value → xH → Prop) : Array Value → State → Outcome → State → Prop := fun _ st0 oc t => ∃ (r : Option Value) (h' : xH), oc = .returned (r.map (xv G)) ∧ Post r h' ∧ xP G h' t.heap ∧ h'.length = h.length + mc ∧ va_F (xA G) st0 t
theorem XC.met (l : Launch) (G : xG) {vs : List Value} (hM : M.2.2.2.2 = none) (hpl : plainName M.1.cls = true) (hn : (xsl vs).length ≤ M.2.2.1) (k : XC M d mc ms vs h Post) : Met l M.1 (xws M) (xrm d mc ms) (xPc G vs h) (xQc G h mc Post) mc ms (xA G) := by
  refine Met.ofW (cc := M.2.1) (maxL := M.2.2.1) (ret := M.2.2.2.1) hpl rfl ?_
  intro p e s m args below meth c s₁ B hml hv
  obtain ⟨rfl, hP, hz, hK⟩ := hv
  have hts := atoms_spec (ws := xws M) B.pre
  have hown : s.vm.findClass M.1.cls = some m.cls := findClass_of_methodNamed B.named
  have hname := (name_of_methodNamed B.named B.method).1
  have hr := B.returns
  have hx := B.exec
  have hb := B.bytes
  have hlocks := B.notSynchronized
  rw [lg_entry_eq]
  refine k p l e (xrm d mc ms) s m _ below meth c G _ s.heap [] 0 0 mc ms _ ⟨hx, hb, hml, hown, fun w hw => hts w (List.mem_cons_of_mem _ hw), hK, by omega, hname, hlocks, by rw [hM]; trivial, Nat.le_refl _, Nat.le_refl _⟩ hP va_S.rf (xin_entry hn) ⟨Nat.zero_add _, by omega, Nat.le_refl _, Nat.le_refl _, by omega⟩ (fun pc ls r h' H' locs' hPost hnar hdec hP' hS' hz' => ?_)
  have hlen : h'.length = h.length + mc := by omega
  have fin : ∀ t : State, t.heap = H' → s.WarmedH t.vm → xQc G h mc Post ((vs.map (xv G)).toArray) s (.returned (r.map (xv G))) t := fun t ht _ => ⟨r, h', rfl, hPost, by rw [ht]; exact hP', hlen, hS'.F ht⟩
  generalize hret : M.2.2.2.1 = ret at hnar hr
  match ret, r, hnar with
  | none, none, _ => exact W.vret hx hb hr fin hS'.2.2 hdec
  | some ty, some (.int v), hn => exact W.zret (ty := ty) hx hb hr hn fin hS'.2.2 hdec
  | some .long, some (.long v), _ => exact W.lret hx hb hr fin hS'.2.2 hdec
  | some .float, some (.float v), _ => exact W.fret hx hb hr fin hS'.2.2 hdec
/-- a method that can be called -/
def xMd (M' : xM) (n : Nat) : Prop := M'.2.2.2.2 = none ∧ plainName M'.1.cls = true ∧ M'.2.2.1 ≤ 19 ∧ Cond.code M'.1 M'.2.1 M'.2.2.1 M'.2.2.2.1 ∈ lw_good ∧ Cond.initialized M'.1.cls ∈ lw_good ∧ (M'.1.cls ≠ "java/lang/invoke/MethodHandle" ∧ M'.1.cls ≠ "java/lang/invoke/VarHandle" ∧ (parseMethodDescriptor M'.1.desc).map (fun d => d.parameters.length) = some n)
theorem lw_goodIn {ws : List Cond} (hw : ∀ w ∈ ws, w ∈ lw_good) : GoodIn lw_good ws := fun w h => ⟨hw w h, good_of_word (List.mem_filter.mp (hw w h)).2⟩
theorem xws_in {M' : xM} {n : Nat} (hm : xMd M' n) : ∀ w ∈ xws M', w ∈ lw_good := fun w hw => (List.mem_cons.mp hw).elim (fun e => by rw [e]; exact hm.2.2.2.1) id
theorem xPc_blind {G : xG} {vs : List Value} {h : xH} : FrameBlind (xPc G vs h) := fun a U g mk q => ⟨q.1, q.2.1, q.2.2.1, xK.same (rfl : U.vm = (U.calling g mk a).vm) q.2.2.2⟩
/-- behind a call -/
theorem xgo {M : xM} {p : Program} {l : Launch} {e : Env} {R : Room} {s : State} {m : MethodId} {args : Array Value} {below : List Frame} {meth : Method} {c : Code} {G : xG} {Q : State → Prop} {H : Heap} {locs : List Loc} {cells slots C1 S1 mc' ms' mcr msr : Nat} {ls : Array Slot} {T0 : State} {st0 : List Value} {rest : List Value} {a : Array Value} {Post' : Option Value → xH → Prop}
    (hr0 : va_Run p l e R s m args below meth c H locs cells slots mc' ms' (F0 m pc ls st0) (rest.map (xv G)) (xQc G h mc' Post' a) (xA G)) (S : va_S (xA G) s.heap H locs) (hT : T0.heap = H) (X : Stand p l e R s m args below meth c T0 locs cells slots)
    (F : xF M d p R s m args meth c G) (E : xls G ls M.2.2.1 L) (b1 : cells + (mc' + mcr) = C1) (b2 : slots + (ms' + msr) ≤ S1) (b3 : C1 ≤ R.cells) (b4 : S1 ≤ R.slots) (b5 : G.2.2.1 + h.length = s.heap.size + cells)
    (hr : ∀ (pc : Nat) (ls : Array Slot) (r : Option Value) (h' : xH) (H' : Heap) (locs' : List Loc), Post r h' → xnar M.2.2.2.1 r → decode M.2.1 pc = .ok (xrins r, 1) → xP G h' H' → va_S (xA G) s.heap H' locs' → G.2.2.1 + h'.length = s.heap.size + C1 → W p l e R s m args below meth c H' locs' C1 S1 Q (F0 m pc ls (r.toList.map (xv G))))
    (k : ∀ (r : Option Value) (h1 : xH), Post' r h1 → XW M d mcr msr (pc + 3) L (r.toList ++ rest) h1 Post) : ∃ t, Steps p.tables e below (T0.setTop (F0 m pc ls st0)) t ∧ Q t := by
  obtain ⟨v, st₀, t, T', Lc, h0, X', hLc, e1, e2, ⟨r, h1, hv, hPost, hP1, hl1, hF⟩, go⟩ := hr0 T0 hT X
  have hv : v = r.map (xv G) := by injection hv
  subst hv
  obtain ⟨hz, hk⟩ := hF
  rw [h0] at hz hk
  have S' : va_S (xA G) s.heap T'.heap (locs ++ Lc) := ⟨Nat.le_trans S.1 (by rw [e1]; exact hz), fun q h1 h2 => by rw [e1, hk q (Nat.lt_of_lt_of_le h1 S.1) h2]; exact S.2.1 q h1 h2, fun q hq => by
      rcases List.mem_append.mp hq with h | h
      · exact S.2.2 q h
      · exact hLc q h⟩
  obtain ⟨t2, a1, b1'⟩ := k r h1 hPost p l e R s m args below meth c G Q T'.heap (locs ++ Lc) (cells + mc') (slots + ms') C1 S1 ls F (by rw [e1]; exact hP1) S' E ⟨by omega, by omega, b3, b4, by omega⟩ hr T' rfl X'
  refine ⟨t2, go t2 ?_, b1'⟩
  cases r with
  | none => exact a1
  | some w => exact a1
/-- a virtual call of a method of the receiver's own class -/
def xMv (own : String) (idx ci n : Nat) (M' : xM) : Prop := xMd M' n ∧ Cond.methodLink own idx M'.1 ∈ lw_good ∧ Cond.instanceMethod M'.1 ∈ lw_good ∧ Cond.selects M'.1.cls M'.1 M'.1 ∈ lw_good ∧ ∃ q : vw_C, vwCl[ci]? = some q ∧ q.1 = M'.1.cls
theorem XW.callV (pc' : Nat) {M' : xM} {d' mc' ms' mcr msr idx ci o : Nat} {fs vs rest : List Value} {st0 : List Value} {Post' : Option Value → xH → Prop} (hw : xMv M.1.cls idx ci vs.length M') (hd : decode M.2.1 pc = .ok (.invokevirtual idx, 3)) (hst : st0 = vs.reverse ++ .ref o :: rest) (ho : h[o]? = some (.inr (ci, fs))) (hdd : d' + 1 ≤ d) (hre : (rest.map (fun v => v.category)).sum ≤ 8) (hmc : mc' + mcr = mc) (hms : ms' + msr = ms) (hnn : (xsl (.ref o :: vs)).length ≤ M'.2.2.1) (hp : pc + 3 = pc') (hc : XC M' d' mc' ms' (.ref o :: vs) h Post') (k : ∀ (r : Option Value) (h1 : xH), Post' r h1 → XW M d mcr msr pc' L (r.toList ++ rest) h1 Post) : XW M d mc ms pc L st0 h Post := by
  subst hp; subst hmc; subst hms; subst hst
  obtain ⟨hmd, w1, w2, w3, q, hq1, hq2⟩ := hw
  intro p l e R s m args below meth c G Q H locs cells slots C1 S1 ls F P S E b hr T0 hT X
  obtain ⟨b1, b2, b3, b4, b5⟩ := b
  have hz := P.size F.2.2.2.2.2.2.1 hT X b5
  have hfr : d ≤ R.frames := F.2.2.2.2.2.2.2.2.2.2.1
  have hlo : 38 * d ≤ R.locals := F.2.2.2.2.2.2.2.2.2.2.2
  have h19 := hmd.2.2.1
  have cw : CallW R s args M.1.cls M'.1.cls idx M'.1 M'.2.1 M'.2.2.1 M'.2.2.2.1 (xws M') (xrm d' mc' ms') mc' ms' vs.length := by
    refine cwV vs.length F.2.2.2.2.1 (lw_goodIn (fun w hw => ?_)) rfl rfl rfl ⟨rfl, hmd.2.2.2.2.2⟩ ⟨by show d' + 1 ≤ _; omega, by show 8 + (M'.2.2.1 + 11) + 38 * d' ≤ _; omega⟩
    rcases List.mem_append.mp hw with hw | hw
    · simp only [List.mem_cons, List.not_mem_nil, or_false] at hw
      rcases hw with rfl | rfl | rfl | rfl
      · exact w1
      · exact w2
      · exact w3
      · exact hmd.2.2.2.2.1
    · exact xws_in hmd w hw
  have hcat : ((rest.map (xv G)).map (fun v => v.category)).sum ≤ 8 := by
    rw [List.map_map]
    have : ((fun v : Value => v.category) ∘ xv G) = (fun v => v.category) := funext (fun v => xv_cat G v)
    rw [this]; exact hre
  have hpre : PreV s H M'.1.cls (G.2.2.1 + o) (xPc G (.ref o :: vs) h) (vs.map (xv G)) := ⟨xPc_blind, by
      have := va_recv F.2.2.2.2.2.1.1 P hq1 (xw_get ho)
      rw [hq2] at this
      exact this, fun U hU hW => ⟨rfl, by rw [hU]; exact P, by rw [hU]; exact hz, F.2.2.2.2.2.1.warm hW⟩⟩
  have run := va_runV (l := l) (e := e) (below := below) (meth := meth) (H := H) (locs := locs) (cells := cells) (slots := slots) (rest := rest.map (xv G)) (g := F0 m pc ls ((vs.reverse ++ .ref o :: rest).map (xv G))) (As := vs.map (xv G)) (b := G.2.2.1 + o) ⟨F.1, F.2.1, F.2.2.1, F.2.2.2.1, F.2.2.2.2.1⟩ (XC.met l G hmd.1 hmd.2.1 hnn hc) cw hpre rfl (List.length_map _) E.1 (by show (vs.reverse ++ .ref o :: rest).map (xv G) = _; rw [List.map_append, List.map_reverse]; rfl) (lv_room hcat) hd ⟨by omega, by omega⟩
  exact xgo run S hT X F E b1 b2 b3 b4 b5 hr k
/-- a static call, or one of a nest mate's static method -/
def xMs (own : String) (idx n : Nat) (M' : xM) : Prop := xMd M' n ∧ Cond.static M'.1 ∈ lw_good ∧ (Cond.methodLink own idx M'.1 ∈ lw_good ∨ Cond.methodLinkNest own idx M'.1 RX3 ∈ lw_nest)
theorem XW.callS (pc' : Nat) {M' : xM} {d' mc' ms' mcr msr idx : Nat} {vs rest : List Value} {st0 : List Value} {Post' : Option Value → xH → Prop} (hw : xMs M.1.cls idx vs.length M') (hd : decode M.2.1 pc = .ok (.invokestatic idx, 3)) (hst : st0 = vs.reverse ++ rest) (hdd : d' + 1 ≤ d) (hre : (rest.map (fun v => v.category)).sum ≤ 8) (hmc : mc' + mcr = mc) (hms : ms' + msr = ms) (hnn : (xsl vs).length ≤ M'.2.2.1) (hp : pc + 3 = pc') (hc : XC M' d' mc' ms' vs h Post') (k : ∀ (r : Option Value) (h1 : xH), Post' r h1 → XW M d mcr msr pc' L (r.toList ++ rest) h1 Post) : XW M d mc ms pc L st0 h Post := by
  subst hp; subst hmc; subst hms; subst hst
  obtain ⟨hmd, w1, w2⟩ := hw
  intro p l e R s m args below meth c G Q H locs cells slots C1 S1 ls F P S E b hr T0 hT X
  obtain ⟨b1, b2, b3, b4, b5⟩ := b
  have hz := P.size F.2.2.2.2.2.2.1 hT X b5
  have hfr : d ≤ R.frames := F.2.2.2.2.2.2.2.2.2.2.1
  have hlo : 38 * d ≤ R.locals := F.2.2.2.2.2.2.2.2.2.2.2
  have h19 := hmd.2.2.1
  have hcat : ((rest.map (xv G)).map (fun v => v.category)).sum ≤ 8 := by
    rw [List.map_map]
    have : ((fun v : Value => v.category) ∘ xv G) = (fun v => v.category) := funext (fun v => xv_cat G v)
    rw [this]; exact hre
  have hpre : PreS s H (xPc G vs h) (vs.map (xv G)) := ⟨xPc_blind, fun U hU hW => ⟨rfl, by rw [hU]; exact P, by rw [hU]; exact hz, F.2.2.2.2.2.1.warm hW⟩⟩
  have hstk : (vs.reverse ++ rest).map (xv G) = (vs.map (xv G)).reverse ++ rest.map (xv G) := by rw [List.map_append, List.map_reverse]
  rcases w2 with w2 | w2
  · have cw : CallB R s args M.1.cls idx M'.1 M'.2.1 M'.2.2.1 M'.2.2.2.1 (xws M') (xrm d' mc' ms') mc' ms' vs.length ∧ (Cond.static M'.1).before args s = true := by
      refine va_cwS vs.length F.2.2.2.2.1 (lw_goodIn (fun w hw => ?_)) rfl rfl rfl hmd.2.2.2.2.2 ⟨by show d' + 1 ≤ _; omega, by show 8 + (M'.2.2.1 + 11) + 38 * d' ≤ _; omega⟩
      rcases List.mem_append.mp hw with hw | hw
      · simp only [List.mem_cons, List.not_mem_nil, or_false] at hw
        rcases hw with rfl | rfl | rfl
        · exact w2
        · exact w1
        · exact hmd.2.2.2.2.1
      · exact xws_in hmd w hw
    have run := va_runS (l := l) (e := e) (below := below) (meth := meth) (H := H) (locs := locs) (cells := cells) (slots := slots) (rest := rest.map (xv G)) (g := F0 m pc ls ((vs.reverse ++ rest).map (xv G))) (As := vs.map (xv G)) ⟨F.1, F.2.1, F.2.2.1, F.2.2.2.1, F.2.2.2.2.1⟩ (XC.met l G hmd.1 hmd.2.1 hnn hc) cw hpre rfl (List.length_map _) E.1 hstk (lv_room hcat) hd ⟨by omega, by omega⟩
    exact xgo run S hT X F E b1 b2 b3 b4 b5 hr k
  · have cw : va_CN R s args M.1.cls idx M'.1 RX3 M'.2.1 M'.2.2.1 M'.2.2.2.1 (xws M') (xrm d' mc' ms') mc' ms' vs.length := va_cnB vs.length F.2.2.2.2.1 (lw_goodIn (xws_in hmd)) rfl rfl rfl (F.2.2.2.2.2.1.2.1 _ w2) (F.2.2.2.2.1 _ hmd.2.2.2.2.1) hmd.2.2.2.2.2 ⟨by show d' + 1 ≤ _; omega, by show 8 + (M'.2.2.1 + 11) + 38 * d' ≤ _; omega⟩
    have run := va_runSN (l := l) (e := e) (below := below) (meth := meth) (H := H) (locs := locs) (cells := cells) (slots := slots) (rest := rest.map (xv G)) (g := F0 m pc ls ((vs.reverse ++ rest).map (xv G))) (As := vs.map (xv G)) ⟨F.1, F.2.1, F.2.2.1, F.2.2.2.1, F.2.2.2.2.1⟩ (XC.met l G hmd.1 hmd.2.1 hnn hc) ⟨cw, F.2.2.2.2.1 _ w1, trivial⟩ hpre rfl (List.length_map _) E.1 hstk (lv_room hcat) hd ⟨by omega, by omega⟩
    exact xgo run S hT X F E b1 b2 b3 b4 b5 hr k
/-- a constructor's call -/
def xMi (own : String) (idx n : Nat) (M' : xM) : Prop := xMd M' n ∧ Cond.methodLink own idx M'.1 ∈ lw_good ∧ Cond.instanceMethod M'.1 ∈ lw_good ∧ M'.1.name = "<init>" ∧ M'.2.2.2.1 = none
theorem XW.callI (pc' : Nat) {M' : xM} {d' mc' ms' mcr msr idx o : Nat} {vs rest : List Value} {st0 : List Value} {Post' : Option Value → xH → Prop} (hw : xMi M.1.cls idx vs.length M') (hd : decode M.2.1 pc = .ok (.invokespecial idx, 3)) (hst : st0 = vs.reverse ++ .ref o :: rest) (hdd : d' + 1 ≤ d) (hre : (rest.map (fun v => v.category)).sum ≤ 8) (hmc : mc' + mcr = mc) (hms : ms' + msr = ms) (hnn : (xsl (.ref o :: vs)).length ≤ M'.2.2.1) (hp : pc + 3 = pc') (hc : XC M' d' mc' ms' (.ref o :: vs) h Post') (k : ∀ (r : Option Value) (h1 : xH), Post' r h1 → XW M d mcr msr pc' L (r.toList ++ rest) h1 Post) : XW M d mc ms pc L st0 h Post := by
  subst hp; subst hmc; subst hms; subst hst
  obtain ⟨hmd, w1, w2, w3, w4⟩ := hw
  intro p l e R s m args below meth c G Q H locs cells slots C1 S1 ls F P S E b hr T0 hT X
  obtain ⟨b1, b2, b3, b4, b5⟩ := b
  have hz := P.size F.2.2.2.2.2.2.1 hT X b5
  have hfr : d ≤ R.frames := F.2.2.2.2.2.2.2.2.2.2.1
  have hlo : 38 * d ≤ R.locals := F.2.2.2.2.2.2.2.2.2.2.2
  have h19 := hmd.2.2.1
  have hcat : ((rest.map (xv G)).map (fun v => v.category)).sum ≤ 8 := by
    rw [List.map_map]
    have : ((fun v : Value => v.category) ∘ xv G) = (fun v => v.category) := funext (fun v => xv_cat G v)
    rw [this]; exact hre
  have hpre : PreS s H (xPc G (.ref o :: vs) h) (.ref (G.2.2.1 + o) :: vs.map (xv G)) := ⟨xPc_blind, fun U hU hW => ⟨rfl, by rw [hU]; exact P, by rw [hU]; exact hz, F.2.2.2.2.2.1.warm hW⟩⟩
  have hwe : xws M' = Cond.code M'.1 M'.2.1 M'.2.2.1 none :: lw_good := by unfold xws; rw [w4]
  have cw := cwI (R := R) (bytes := M'.2.1) (maxL := M'.2.2.1) (rm := xrm d' mc' ms') vs.length F.2.2.2.2.1 (lw_goodIn (xws_in hmd)) hwe rfl rfl (F.2.2.2.2.1 _ hmd.2.2.2.2.1) (F.2.2.2.2.1 _ w1) (F.2.2.2.2.1 _ w2) w3 hmd.2.2.2.2.2 ⟨by show d' + 1 ≤ _; omega, by show 8 + (M'.2.2.1 + 11) + 38 * d' ≤ _; omega⟩
  have run := va_runI (l := l) (e := e) (below := below) (meth := meth) (H := H) (locs := locs) (cells := cells) (slots := slots) (rest := rest.map (xv G)) (g := F0 m pc ls ((vs.reverse ++ .ref o :: rest).map (xv G))) (As := vs.map (xv G)) (b := G.2.2.1 + o) ⟨F.1, F.2.1, F.2.2.1, F.2.2.2.1, F.2.2.2.2.1⟩ (XC.met l G hmd.1 hmd.2.1 hnn hc) cw hpre rfl (List.length_map _) E.1 (by show (vs.reverse ++ .ref o :: rest).map (xv G) = _; rw [List.map_append, List.map_reverse]; rfl) (lv_room hcat) hd ⟨by omega, by omega⟩
  exact xgo run S hT X F E b1 b2 b3 b4 b5 hr k
/-- Object's own constructor -/
theorem XW.objInit (pc' : Nat) {idx o : Nat} (w1 : Cond.methodLink M.1.cls idx Lib.objectInit ∈ lw_good) (w2 : Cond.instanceMethod Lib.objectInit ∈ lw_good) (w3 : Cond.code Lib.objectInit ⟨#[0xb1]⟩ 1 none ∈ lw_good) (hd : decode M.2.1 pc = .ok (.invokespecial idx, 3)) (hdd : 1 ≤ d) (hp : pc + 3 = pc') (k : XW M d mc ms pc' L [] h Post) : XW M d mc ms pc L [.ref o] h Post := by
  subst hp
  refine XW.row (fun p l e R s m args below meth c G Q H locs cells slots ls F P S E k => ?_) k
  have hfr : d ≤ R.frames := F.2.2.2.2.2.2.2.2.2.2.1
  have hlo : 38 * d ≤ R.locals := F.2.2.2.2.2.2.2.2.2.2.2
  exact W.objInit (rest := []) F.1 F.2.1 F.2.2.2.1 (F.2.2.2.2.1 _ w1) (F.2.2.2.2.1 _ w2) (F.2.2.2.2.1 _ w3) rfl (E.1.trans F.2.2.1.symm) rfl hd (by omega) (by show 2 * 0 + 0 + 12 ≤ _; omega) k
/-- System.arraycopy of whole rows of ints, from their beginning -/
theorem XW.copy (pc' : Nat) {idx a0 a n0 n1 : Nat} {z1 z2 z3 : Int32} {f g : Nat → Int32} {h' : xH} (n : Nat) (w1 : Cond.methodLink M.1.cls idx arraycopyName ∈ lw_good) (w2 : Cond.native arraycopyName ∈ lw_good) (w3 : Cond.static arraycopyName ∈ lw_good) (w4 : Cond.initialized "java/lang/System" ∈ lw_good) (hd : decode M.2.1 pc = .ok (.invokestatic idx, 3)) (h0 : h[a0]? = some (.inl (n0, .inl f))) (h1 : h[a]? = some (.inl (n1, .inl g))) (e1 : z1 = 0) (e2 : z2 = 0) (e3 : z3 = nI n) (hn0 : n ≤ n0) (hn1 : n ≤ n1) (hn : n < 2 ^ 31) (hdd : 1 ≤ d) (he : h.set a (.inl (n1, .inl (va_cpy f g 0 0 n))) = h') (hp : pc + 3 = pc') (k : XW M d mc ms pc' L [] h' Post) : XW M d mc ms pc L [.int z3, .int z2, .ref a, .int z1, .ref a0] h Post := by
  subst hp; subst e1; subst e2; subst e3; subst he
  have hc : (nI n).toNatClampNeg = n := nI_clamp hn
  have hc0 : (0 : Int32).toNatClampNeg = 0 := rfl
  refine XW.rowH (by rw [List.length_set]) (fun p l e R s m args below meth c G Q H locs cells slots ls F P S E k => ?_) k
  have hfr : d ≤ R.frames := F.2.2.2.2.2.2.2.2.2.2.1
  have hlo : 38 * d ≤ R.locals := F.2.2.2.2.2.2.2.2.2.2.2
  have hnf : nativeFrameWords "java/lang/System" "arraycopy" 5 = 7 := by decide +kernel
  refine va_copyi (rest := []) F.1 F.2.1 (F.2.2.1.trans E.1.symm) F.2.2.2.1 (F.2.2.2.2.1 _ w1) (F.2.2.2.2.1 _ w2) (F.2.2.2.2.1 _ w3) (F.2.2.2.2.1 _ w4) F.2.2.2.2.2.1.1 P (xw_D G h) S a0 a 0 0 (ty := .int) (xw_get h0) (xw_get h1) rfl rfl rfl (sp := 0) (dp := 0) (n := nI n) (by decide) (by decide) (nI_pos hn) (by rw [hc, hc0]; omega) (by rw [hc, hc0]; omega) (fun _ _ => rfl) (by omega) (by rw [hnf]; show 0 + (7 + 11) ≤ _; omega) hd (fun H1 locs1 hP _ hS => ?_)
  rw [hc, hc0] at hP
  exact k H1 locs1 (xP_set (c := .inl (n1, .inl (va_cpy f g 0 0 n))) hP) hS
end XCalls
end
