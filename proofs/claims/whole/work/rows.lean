section
-- ===== PART A: goes FIRST, ahead of the names: the tables' words, and 'selects' of the private methods out of them =====
/-- a private method of a class that the tables say can be made, by its rows of tables_1 -/
def lw_okq (q : MethodName × Nat) : Prop := (q.1.cls ≠ "java/lang/invoke/MethodHandle" ∧ q.1.cls ≠ "java/lang/invoke/VarHandle") ∧ Cond.instantiable q.1.cls q.2 ∈ tables_1 ∧ Cond.privateMethod q.1 ∈ tables_1 ∧ Cond.instanceMethod q.1 ∈ tables_1
theorem lw_p0 : lw_okq (⟨"HuesApart", "whyNoColour", "(III)I"⟩, 6) := ⟨⟨by decide +kernel, by decide +kernel⟩, List.mem_of_getElem? (i := 10) (by decide +kernel), List.mem_of_getElem? (i := 136) (by decide +kernel), List.mem_of_getElem? (i := 137) (by decide +kernel)⟩
theorem lw_p1 : lw_okq (⟨"HuesApart", "refuse", "(I)I"⟩, 6) := ⟨⟨by decide +kernel, by decide +kernel⟩, List.mem_of_getElem? (i := 10) (by decide +kernel), List.mem_of_getElem? (i := 146) (by decide +kernel), List.mem_of_getElem? (i := 147) (by decide +kernel)⟩
theorem lw_p2 : lw_okq (⟨"HuesApart", "leaveState", "()V"⟩, 6) := ⟨⟨by decide +kernel, by decide +kernel⟩, List.mem_of_getElem? (i := 10) (by decide +kernel), List.mem_of_getElem? (i := 150) (by decide +kernel), List.mem_of_getElem? (i := 151) (by decide +kernel)⟩
theorem lw_p3 : lw_okq (⟨"HuesApart", "noteState", "()V"⟩, 6) := ⟨⟨by decide +kernel, by decide +kernel⟩, List.mem_of_getElem? (i := 10) (by decide +kernel), List.mem_of_getElem? (i := 154) (by decide +kernel), List.mem_of_getElem? (i := 155) (by decide +kernel)⟩
theorem lw_p4 : lw_okq (⟨"HuesApart", "keepNoted", "()V"⟩, 6) := ⟨⟨by decide +kernel, by decide +kernel⟩, List.mem_of_getElem? (i := 10) (by decide +kernel), List.mem_of_getElem? (i := 165) (by decide +kernel), List.mem_of_getElem? (i := 166) (by decide +kernel)⟩
theorem lw_p5 : lw_okq (⟨"HuesApart", "isColour", "(I)Z"⟩, 6) := ⟨⟨by decide +kernel, by decide +kernel⟩, List.mem_of_getElem? (i := 10) (by decide +kernel), List.mem_of_getElem? (i := 180) (by decide +kernel), List.mem_of_getElem? (i := 181) (by decide +kernel)⟩
theorem lw_p6 : lw_okq (⟨"HuesApart", "whyNoLimit", "(II)I"⟩, 6) := ⟨⟨by decide +kernel, by decide +kernel⟩, List.mem_of_getElem? (i := 10) (by decide +kernel), List.mem_of_getElem? (i := 203) (by decide +kernel), List.mem_of_getElem? (i := 204) (by decide +kernel)⟩
theorem lw_p7 : lw_okq (⟨"HuesApart", "whyNotFixed", "(II)I"⟩, 6) := ⟨⟨by decide +kernel, by decide +kernel⟩, List.mem_of_getElem? (i := 10) (by decide +kernel), List.mem_of_getElem? (i := 215) (by decide +kernel), List.mem_of_getElem? (i := 216) (by decide +kernel)⟩
theorem lw_p8 : lw_okq (⟨"HuesApart", "whyNoFilling", "(I)I"⟩, 6) := ⟨⟨by decide +kernel, by decide +kernel⟩, List.mem_of_getElem? (i := 10) (by decide +kernel), List.mem_of_getElem? (i := 305) (by decide +kernel), List.mem_of_getElem? (i := 306) (by decide +kernel)⟩
theorem lw_p9 : lw_okq (⟨"HuesApart$Chooser", "nextOne", "(LHuesApart$Scene;I)I"⟩, 2) := ⟨⟨by decide +kernel, by decide +kernel⟩, List.mem_of_getElem? (i := 99) (by decide +kernel), List.mem_of_getElem? (i := 333) (by decide +kernel), List.mem_of_getElem? (i := 334) (by decide +kernel)⟩
theorem lw_p10 : lw_okq (⟨"HuesApart$Chooser", "gapToRow", "(LHuesApart$Scene;I)F"⟩, 2) := ⟨⟨by decide +kernel, by decide +kernel⟩, List.mem_of_getElem? (i := 99) (by decide +kernel), List.mem_of_getElem? (i := 338) (by decide +kernel), List.mem_of_getElem? (i := 339) (by decide +kernel)⟩
theorem lw_p11 : lw_okq (⟨"HuesApart$Chooser", "gap", "(II)F"⟩, 2) := ⟨⟨by decide +kernel, by decide +kernel⟩, List.mem_of_getElem? (i := 99) (by decide +kernel), List.mem_of_getElem? (i := 342) (by decide +kernel), List.mem_of_getElem? (i := 343) (by decide +kernel)⟩
theorem lw_p12 : lw_okq (⟨"HuesApart$Chooser", "swapOne", "(LHuesApart$Scene;I)Z"⟩, 2) := ⟨⟨by decide +kernel, by decide +kernel⟩, List.mem_of_getElem? (i := 99) (by decide +kernel), List.mem_of_getElem? (i := 354) (by decide +kernel), List.mem_of_getElem? (i := 355) (by decide +kernel)⟩
theorem lw_p13 : lw_okq (⟨"HuesApart$Chooser", "listMembers", "(I)I"⟩, 2) := ⟨⟨by decide +kernel, by decide +kernel⟩, List.mem_of_getElem? (i := 99) (by decide +kernel), List.mem_of_getElem? (i := 388) (by decide +kernel), List.mem_of_getElem? (i := 389) (by decide +kernel)⟩
theorem lw_p14 : lw_okq (⟨"HuesApart$Script", "skipBlanks", "()V"⟩, 7) := ⟨⟨by decide +kernel, by decide +kernel⟩, List.mem_of_getElem? (i := 66) (by decide +kernel), List.mem_of_getElem? (i := 433) (by decide +kernel), List.mem_of_getElem? (i := 434) (by decide +kernel)⟩
theorem lw_p15 : lw_okq (⟨"HuesApart$Script", "byteHere", "()I"⟩, 7) := ⟨⟨by decide +kernel, by decide +kernel⟩, List.mem_of_getElem? (i := 66) (by decide +kernel), List.mem_of_getElem? (i := 437) (by decide +kernel), List.mem_of_getElem? (i := 438) (by decide +kernel)⟩
def lw_privs_1 : List (MethodName × Nat) := [(⟨"HuesApart", "whyNoColour", "(III)I"⟩, 6), (⟨"HuesApart", "refuse", "(I)I"⟩, 6), (⟨"HuesApart", "leaveState", "()V"⟩, 6), (⟨"HuesApart", "noteState", "()V"⟩, 6), (⟨"HuesApart", "keepNoted", "()V"⟩, 6), (⟨"HuesApart", "isColour", "(I)Z"⟩, 6), (⟨"HuesApart", "whyNoLimit", "(II)I"⟩, 6), (⟨"HuesApart", "whyNotFixed", "(II)I"⟩, 6), (⟨"HuesApart", "whyNoFilling", "(I)I"⟩, 6), (⟨"HuesApart$Chooser", "nextOne", "(LHuesApart$Scene;I)I"⟩, 2), (⟨"HuesApart$Chooser", "gapToRow", "(LHuesApart$Scene;I)F"⟩, 2), (⟨"HuesApart$Chooser", "gap", "(II)F"⟩, 2), (⟨"HuesApart$Chooser", "swapOne", "(LHuesApart$Scene;I)Z"⟩, 2), (⟨"HuesApart$Chooser", "listMembers", "(I)I"⟩, 2), (⟨"HuesApart$Script", "skipBlanks", "()V"⟩, 7), (⟨"HuesApart$Script", "byteHere", "()I"⟩, 7)]
theorem lw_r1 : ∀ q ∈ lw_privs_1, lw_okq q := List.forall_mem_cons.mpr ⟨lw_p0, List.forall_mem_cons.mpr ⟨lw_p1, List.forall_mem_cons.mpr ⟨lw_p2, List.forall_mem_cons.mpr ⟨lw_p3, List.forall_mem_cons.mpr ⟨lw_p4, List.forall_mem_cons.mpr ⟨lw_p5, List.forall_mem_cons.mpr ⟨lw_p6, List.forall_mem_cons.mpr ⟨lw_p7, List.forall_mem_cons.mpr ⟨lw_p8, List.forall_mem_cons.mpr ⟨lw_p9, List.forall_mem_cons.mpr ⟨lw_p10, List.forall_mem_cons.mpr ⟨lw_p11, List.forall_mem_cons.mpr ⟨lw_p12, List.forall_mem_cons.mpr ⟨lw_p13, List.forall_mem_cons.mpr ⟨lw_p14, List.forall_mem_cons.mpr ⟨lw_p15, fun _ h => absurd h List.not_mem_nil⟩⟩⟩⟩⟩⟩⟩⟩⟩⟩⟩⟩⟩⟩⟩⟩
theorem lw_p16 : lw_okq (⟨"HuesApart$Script", "readOrder", "()Z"⟩, 7) := ⟨⟨by decide +kernel, by decide +kernel⟩, List.mem_of_getElem? (i := 66) (by decide +kernel), List.mem_of_getElem? (i := 441) (by decide +kernel), List.mem_of_getElem? (i := 442) (by decide +kernel)⟩
theorem lw_p17 : lw_okq (⟨"HuesApart$Script", "readSixFigures", "()Z"⟩, 7) := ⟨⟨by decide +kernel, by decide +kernel⟩, List.mem_of_getElem? (i := 66) (by decide +kernel), List.mem_of_getElem? (i := 445) (by decide +kernel), List.mem_of_getElem? (i := 446) (by decide +kernel)⟩
theorem lw_p18 : lw_okq (⟨"HuesApart$Script", "readEnd", "()Z"⟩, 7) := ⟨⟨by decide +kernel, by decide +kernel⟩, List.mem_of_getElem? (i := 66) (by decide +kernel), List.mem_of_getElem? (i := 455) (by decide +kernel), List.mem_of_getElem? (i := 456) (by decide +kernel)⟩
theorem lw_p19 : lw_okq (⟨"HuesApart$Script", "readNumber", "([I)Z"⟩, 7) := ⟨⟨by decide +kernel, by decide +kernel⟩, List.mem_of_getElem? (i := 66) (by decide +kernel), List.mem_of_getElem? (i := 459) (by decide +kernel), List.mem_of_getElem? (i := 460) (by decide +kernel)⟩
theorem lw_p20 : lw_okq (⟨"HuesApart", "whyNoOrder", "(III)I"⟩, 6) := ⟨⟨by decide +kernel, by decide +kernel⟩, List.mem_of_getElem? (i := 10) (by decide +kernel), List.mem_of_getElem? (i := 463) (by decide +kernel), List.mem_of_getElem? (i := 464) (by decide +kernel)⟩
theorem lw_p21 : lw_okq (⟨"HuesApart", "obey", "(III)V"⟩, 6) := ⟨⟨by decide +kernel, by decide +kernel⟩, List.mem_of_getElem? (i := 10) (by decide +kernel), List.mem_of_getElem? (i := 476) (by decide +kernel), List.mem_of_getElem? (i := 477) (by decide +kernel)⟩
theorem lw_p22 : lw_okq (⟨"HuesApartModel", "no", "()I"⟩, 16) := ⟨⟨by decide +kernel, by decide +kernel⟩, List.mem_of_getElem? (i := 500) (by decide +kernel), List.mem_of_getElem? (i := 559) (by decide +kernel), List.mem_of_getElem? (i := 560) (by decide +kernel)⟩
theorem lw_p23 : lw_okq (⟨"HuesApartModel", "bad", "()I"⟩, 16) := ⟨⟨by decide +kernel, by decide +kernel⟩, List.mem_of_getElem? (i := 500) (by decide +kernel), List.mem_of_getElem? (i := 576) (by decide +kernel), List.mem_of_getElem? (i := 577) (by decide +kernel)⟩
theorem lw_p24 : lw_okq (⟨"HuesApartModel", "full", "()I"⟩, 16) := ⟨⟨by decide +kernel, by decide +kernel⟩, List.mem_of_getElem? (i := 500) (by decide +kernel), List.mem_of_getElem? (i := 580) (by decide +kernel), List.mem_of_getElem? (i := 581) (by decide +kernel)⟩
theorem lw_p25 : lw_okq (⟨"HuesApartModel", "remembers", "()V"⟩, 16) := ⟨⟨by decide +kernel, by decide +kernel⟩, List.mem_of_getElem? (i := 500) (by decide +kernel), List.mem_of_getElem? (i := 584) (by decide +kernel), List.mem_of_getElem? (i := 585) (by decide +kernel)⟩
theorem lw_p26 : lw_okq (⟨"HuesApartModel", "comes", "(III)I"⟩, 16) := ⟨⟨by decide +kernel, by decide +kernel⟩, List.mem_of_getElem? (i := 500) (by decide +kernel), List.mem_of_getElem? (i := 588) (by decide +kernel), List.mem_of_getElem? (i := 589) (by decide +kernel)⟩
theorem lw_p27 : lw_okq (⟨"HuesApartModel", "colourAt", "(I)I"⟩, 16) := ⟨⟨by decide +kernel, by decide +kernel⟩, List.mem_of_getElem? (i := 500) (by decide +kernel), List.mem_of_getElem? (i := 592) (by decide +kernel), List.mem_of_getElem? (i := 593) (by decide +kernel)⟩
theorem lw_p28 : lw_okq (⟨"HuesApartModel", "becomes", "(IIII)I"⟩, 16) := ⟨⟨by decide +kernel, by decide +kernel⟩, List.mem_of_getElem? (i := 500) (by decide +kernel), List.mem_of_getElem? (i := 596) (by decide +kernel), List.mem_of_getElem? (i := 597) (by decide +kernel)⟩
theorem lw_p29 : lw_okq (⟨"HuesApartModel", "isColour", "(I)Z"⟩, 16) := ⟨⟨by decide +kernel, by decide +kernel⟩, List.mem_of_getElem? (i := 500) (by decide +kernel), List.mem_of_getElem? (i := 604) (by decide +kernel), List.mem_of_getElem? (i := 605) (by decide +kernel)⟩
theorem lw_p30 : lw_okq (⟨"HuesApartModel", "exchanges", "(II)I"⟩, 16) := ⟨⟨by decide +kernel, by decide +kernel⟩, List.mem_of_getElem? (i := 500) (by decide +kernel), List.mem_of_getElem? (i := 622) (by decide +kernel), List.mem_of_getElem? (i := 623) (by decide +kernel)⟩
theorem lw_p31 : lw_okq (⟨"HuesApartModel", "fixesOne", "(II)I"⟩, 16) := ⟨⟨by decide +kernel, by decide +kernel⟩, List.mem_of_getElem? (i := 500) (by decide +kernel), List.mem_of_getElem? (i := 634) (by decide +kernel), List.mem_of_getElem? (i := 635) (by decide +kernel)⟩
def lw_privs_2 : List (MethodName × Nat) := [(⟨"HuesApart$Script", "readOrder", "()Z"⟩, 7), (⟨"HuesApart$Script", "readSixFigures", "()Z"⟩, 7), (⟨"HuesApart$Script", "readEnd", "()Z"⟩, 7), (⟨"HuesApart$Script", "readNumber", "([I)Z"⟩, 7), (⟨"HuesApart", "whyNoOrder", "(III)I"⟩, 6), (⟨"HuesApart", "obey", "(III)V"⟩, 6), (⟨"HuesApartModel", "no", "()I"⟩, 16), (⟨"HuesApartModel", "bad", "()I"⟩, 16), (⟨"HuesApartModel", "full", "()I"⟩, 16), (⟨"HuesApartModel", "remembers", "()V"⟩, 16), (⟨"HuesApartModel", "comes", "(III)I"⟩, 16), (⟨"HuesApartModel", "colourAt", "(I)I"⟩, 16), (⟨"HuesApartModel", "becomes", "(IIII)I"⟩, 16), (⟨"HuesApartModel", "isColour", "(I)Z"⟩, 16), (⟨"HuesApartModel", "exchanges", "(II)I"⟩, 16), (⟨"HuesApartModel", "fixesOne", "(II)I"⟩, 16)]
theorem lw_r2 : ∀ q ∈ lw_privs_2, lw_okq q := List.forall_mem_cons.mpr ⟨lw_p16, List.forall_mem_cons.mpr ⟨lw_p17, List.forall_mem_cons.mpr ⟨lw_p18, List.forall_mem_cons.mpr ⟨lw_p19, List.forall_mem_cons.mpr ⟨lw_p20, List.forall_mem_cons.mpr ⟨lw_p21, List.forall_mem_cons.mpr ⟨lw_p22, List.forall_mem_cons.mpr ⟨lw_p23, List.forall_mem_cons.mpr ⟨lw_p24, List.forall_mem_cons.mpr ⟨lw_p25, List.forall_mem_cons.mpr ⟨lw_p26, List.forall_mem_cons.mpr ⟨lw_p27, List.forall_mem_cons.mpr ⟨lw_p28, List.forall_mem_cons.mpr ⟨lw_p29, List.forall_mem_cons.mpr ⟨lw_p30, List.forall_mem_cons.mpr ⟨lw_p31, fun _ h => absurd h List.not_mem_nil⟩⟩⟩⟩⟩⟩⟩⟩⟩⟩⟩⟩⟩⟩⟩⟩
theorem lw_p32 : lw_okq (⟨"HuesApartModel", "ofColour", "(II)I"⟩, 16) := ⟨⟨by decide +kernel, by decide +kernel⟩, List.mem_of_getElem? (i := 500) (by decide +kernel), List.mem_of_getElem? (i := 645) (by decide +kernel), List.mem_of_getElem? (i := 646) (by decide +kernel)⟩
theorem lw_p33 : lw_okq (⟨"HuesApartModel", "isFitting", "(I)Z"⟩, 16) := ⟨⟨by decide +kernel, by decide +kernel⟩, List.mem_of_getElem? (i := 500) (by decide +kernel), List.mem_of_getElem? (i := 649) (by decide +kernel), List.mem_of_getElem? (i := 650) (by decide +kernel)⟩
theorem lw_p34 : lw_okq (⟨"HuesApartModel", "shineAt", "(I)F"⟩, 16) := ⟨⟨by decide +kernel, by decide +kernel⟩, List.mem_of_getElem? (i := 500) (by decide +kernel), List.mem_of_getElem? (i := 653) (by decide +kernel), List.mem_of_getElem? (i := 654) (by decide +kernel)⟩
theorem lw_p35 : lw_okq (⟨"HuesApartModel", "placeOf", "(I)I"⟩, 16) := ⟨⟨by decide +kernel, by decide +kernel⟩, List.mem_of_getElem? (i := 500) (by decide +kernel), List.mem_of_getElem? (i := 660) (by decide +kernel), List.mem_of_getElem? (i := 661) (by decide +kernel)⟩
theorem lw_p36 : lw_okq (⟨"HuesApartModel", "sight", "(III)F"⟩, 16) := ⟨⟨by decide +kernel, by decide +kernel⟩, List.mem_of_getElem? (i := 500) (by decide +kernel), List.mem_of_getElem? (i := 682) (by decide +kernel), List.mem_of_getElem? (i := 683) (by decide +kernel)⟩
theorem lw_p37 : lw_okq (⟨"HuesApartModel", "farFor", "(III)F"⟩, 16) := ⟨⟨by decide +kernel, by decide +kernel⟩, List.mem_of_getElem? (i := 500) (by decide +kernel), List.mem_of_getElem? (i := 691) (by decide +kernel), List.mem_of_getElem? (i := 692) (by decide +kernel)⟩
theorem lw_p38 : lw_okq (⟨"HuesApartModel", "apartOf", "(II)F"⟩, 16) := ⟨⟨by decide +kernel, by decide +kernel⟩, List.mem_of_getElem? (i := 500) (by decide +kernel), List.mem_of_getElem? (i := 699) (by decide +kernel), List.mem_of_getElem? (i := 700) (by decide +kernel)⟩
theorem lw_p39 : lw_okq (⟨"HuesApartModel", "canFill", "(I)Z"⟩, 16) := ⟨⟨by decide +kernel, by decide +kernel⟩, List.mem_of_getElem? (i := 500) (by decide +kernel), List.mem_of_getElem? (i := 707) (by decide +kernel), List.mem_of_getElem? (i := 708) (by decide +kernel)⟩
theorem lw_p40 : lw_okq (⟨"HuesApartModel", "fillsFor", "(I)I"⟩, 16) := ⟨⟨by decide +kernel, by decide +kernel⟩, List.mem_of_getElem? (i := 500) (by decide +kernel), List.mem_of_getElem? (i := 711) (by decide +kernel), List.mem_of_getElem? (i := 712) (by decide +kernel)⟩
theorem lw_p41 : lw_okq (⟨"HuesApartModel", "laysFar", "()V"⟩, 16) := ⟨⟨by decide +kernel, by decide +kernel⟩, List.mem_of_getElem? (i := 500) (by decide +kernel), List.mem_of_getElem? (i := 715) (by decide +kernel), List.mem_of_getElem? (i := 716) (by decide +kernel)⟩
theorem lw_p42 : lw_okq (⟨"HuesApartModel", "putsLast", "(I)V"⟩, 16) := ⟨⟨by decide +kernel, by decide +kernel⟩, List.mem_of_getElem? (i := 500) (by decide +kernel), List.mem_of_getElem? (i := 722) (by decide +kernel), List.mem_of_getElem? (i := 723) (by decide +kernel)⟩
theorem lw_p43 : lw_okq (⟨"HuesApartModel", "lightest", "()I"⟩, 16) := ⟨⟨by decide +kernel, by decide +kernel⟩, List.mem_of_getElem? (i := 500) (by decide +kernel), List.mem_of_getElem? (i := 726) (by decide +kernel), List.mem_of_getElem? (i := 727) (by decide +kernel)⟩
theorem lw_p44 : lw_okq (⟨"HuesApartModel", "farthest", "()I"⟩, 16) := ⟨⟨by decide +kernel, by decide +kernel⟩, List.mem_of_getElem? (i := 500) (by decide +kernel), List.mem_of_getElem? (i := 730) (by decide +kernel), List.mem_of_getElem? (i := 731) (by decide +kernel)⟩
theorem lw_p45 : lw_okq (⟨"HuesApartModel", "nearestIn", "(I)F"⟩, 16) := ⟨⟨by decide +kernel, by decide +kernel⟩, List.mem_of_getElem? (i := 500) (by decide +kernel), List.mem_of_getElem? (i := 734) (by decide +kernel), List.mem_of_getElem? (i := 735) (by decide +kernel)⟩
theorem lw_p46 : lw_okq (⟨"HuesApartModel", "swapsAll", "()I"⟩, 16) := ⟨⟨by decide +kernel, by decide +kernel⟩, List.mem_of_getElem? (i := 500) (by decide +kernel), List.mem_of_getElem? (i := 742) (by decide +kernel), List.mem_of_getElem? (i := 743) (by decide +kernel)⟩
theorem lw_p47 : lw_okq (⟨"HuesApartModel", "isSwapped", "()Z"⟩, 16) := ⟨⟨by decide +kernel, by decide +kernel⟩, List.mem_of_getElem? (i := 500) (by decide +kernel), List.mem_of_getElem? (i := 746) (by decide +kernel), List.mem_of_getElem? (i := 747) (by decide +kernel)⟩
def lw_privs_3 : List (MethodName × Nat) := [(⟨"HuesApartModel", "ofColour", "(II)I"⟩, 16), (⟨"HuesApartModel", "isFitting", "(I)Z"⟩, 16), (⟨"HuesApartModel", "shineAt", "(I)F"⟩, 16), (⟨"HuesApartModel", "placeOf", "(I)I"⟩, 16), (⟨"HuesApartModel", "sight", "(III)F"⟩, 16), (⟨"HuesApartModel", "farFor", "(III)F"⟩, 16), (⟨"HuesApartModel", "apartOf", "(II)F"⟩, 16), (⟨"HuesApartModel", "canFill", "(I)Z"⟩, 16), (⟨"HuesApartModel", "fillsFor", "(I)I"⟩, 16), (⟨"HuesApartModel", "laysFar", "()V"⟩, 16), (⟨"HuesApartModel", "putsLast", "(I)V"⟩, 16), (⟨"HuesApartModel", "lightest", "()I"⟩, 16), (⟨"HuesApartModel", "farthest", "()I"⟩, 16), (⟨"HuesApartModel", "nearestIn", "(I)F"⟩, 16), (⟨"HuesApartModel", "swapsAll", "()I"⟩, 16), (⟨"HuesApartModel", "isSwapped", "()Z"⟩, 16)]
theorem lw_r3 : ∀ q ∈ lw_privs_3, lw_okq q := List.forall_mem_cons.mpr ⟨lw_p32, List.forall_mem_cons.mpr ⟨lw_p33, List.forall_mem_cons.mpr ⟨lw_p34, List.forall_mem_cons.mpr ⟨lw_p35, List.forall_mem_cons.mpr ⟨lw_p36, List.forall_mem_cons.mpr ⟨lw_p37, List.forall_mem_cons.mpr ⟨lw_p38, List.forall_mem_cons.mpr ⟨lw_p39, List.forall_mem_cons.mpr ⟨lw_p40, List.forall_mem_cons.mpr ⟨lw_p41, List.forall_mem_cons.mpr ⟨lw_p42, List.forall_mem_cons.mpr ⟨lw_p43, List.forall_mem_cons.mpr ⟨lw_p44, List.forall_mem_cons.mpr ⟨lw_p45, List.forall_mem_cons.mpr ⟨lw_p46, List.forall_mem_cons.mpr ⟨lw_p47, fun _ h => absurd h List.not_mem_nil⟩⟩⟩⟩⟩⟩⟩⟩⟩⟩⟩⟩⟩⟩⟩⟩
theorem lw_p48 : lw_okq (⟨"HuesApartModel", "takesPalette", "()V"⟩, 16) := ⟨⟨by decide +kernel, by decide +kernel⟩, List.mem_of_getElem? (i := 500) (by decide +kernel), List.mem_of_getElem? (i := 750) (by decide +kernel), List.mem_of_getElem? (i := 751) (by decide +kernel)⟩
theorem lw_p49 : lw_okq (⟨"HuesApartModel", "leastOf", "(I)F"⟩, 16) := ⟨⟨by decide +kernel, by decide +kernel⟩, List.mem_of_getElem? (i := 500) (by decide +kernel), List.mem_of_getElem? (i := 754) (by decide +kernel), List.mem_of_getElem? (i := 755) (by decide +kernel)⟩
theorem lw_p50 : lw_okq (⟨"HuesApartModel", "leastNow", "()I"⟩, 16) := ⟨⟨by decide +kernel, by decide +kernel⟩, List.mem_of_getElem? (i := 500) (by decide +kernel), List.mem_of_getElem? (i := 766) (by decide +kernel), List.mem_of_getElem? (i := 767) (by decide +kernel)⟩
theorem lw_p51 : lw_okq (⟨"HuesApartModel", "nearestNow", "()I"⟩, 16) := ⟨⟨by decide +kernel, by decide +kernel⟩, List.mem_of_getElem? (i := 500) (by decide +kernel), List.mem_of_getElem? (i := 774) (by decide +kernel), List.mem_of_getElem? (i := 775) (by decide +kernel)⟩
theorem lw_p52 : lw_okq (⟨"HuesApartModel", "bestOf", "(I)I"⟩, 16) := ⟨⟨by decide +kernel, by decide +kernel⟩, List.mem_of_getElem? (i := 500) (by decide +kernel), List.mem_of_getElem? (i := 782) (by decide +kernel), List.mem_of_getElem? (i := 783) (by decide +kernel)⟩
theorem lw_p53 : lw_okq (⟨"HuesApartModel", "setOf", "(I)I"⟩, 16) := ⟨⟨by decide +kernel, by decide +kernel⟩, List.mem_of_getElem? (i := 500) (by decide +kernel), List.mem_of_getElem? (i := 786) (by decide +kernel), List.mem_of_getElem? (i := 787) (by decide +kernel)⟩
theorem lw_p54 : lw_okq (⟨"HuesApartModel", "isNext", "(I)Z"⟩, 16) := ⟨⟨by decide +kernel, by decide +kernel⟩, List.mem_of_getElem? (i := 500) (by decide +kernel), List.mem_of_getElem? (i := 790) (by decide +kernel), List.mem_of_getElem? (i := 791) (by decide +kernel)⟩
theorem lw_p55 : lw_okq (⟨"HuesApartModel", "countOf", "(I)I"⟩, 16) := ⟨⟨by decide +kernel, by decide +kernel⟩, List.mem_of_getElem? (i := 500) (by decide +kernel), List.mem_of_getElem? (i := 802) (by decide +kernel), List.mem_of_getElem? (i := 803) (by decide +kernel)⟩
theorem lw_p56 : lw_okq (⟨"HuesApartModel", "fittingMany", "()I"⟩, 16) := ⟨⟨by decide +kernel, by decide +kernel⟩, List.mem_of_getElem? (i := 500) (by decide +kernel), List.mem_of_getElem? (i := 806) (by decide +kernel), List.mem_of_getElem? (i := 807) (by decide +kernel)⟩
theorem lw_p57 : lw_okq (⟨"HuesApartModel", "countsSet", "()I"⟩, 16) := ⟨⟨by decide +kernel, by decide +kernel⟩, List.mem_of_getElem? (i := 500) (by decide +kernel), List.mem_of_getElem? (i := 810) (by decide +kernel), List.mem_of_getElem? (i := 811) (by decide +kernel)⟩
theorem lw_p58 : lw_okq (⟨"HuesApartModel", "isRead", "()Z"⟩, 16) := ⟨⟨by decide +kernel, by decide +kernel⟩, List.mem_of_getElem? (i := 500) (by decide +kernel), List.mem_of_getElem? (i := 826) (by decide +kernel), List.mem_of_getElem? (i := 827) (by decide +kernel)⟩
theorem lw_p59 : lw_okq (⟨"HuesApartModel", "blanks", "()V"⟩, 16) := ⟨⟨by decide +kernel, by decide +kernel⟩, List.mem_of_getElem? (i := 500) (by decide +kernel), List.mem_of_getElem? (i := 830) (by decide +kernel), List.mem_of_getElem? (i := 831) (by decide +kernel)⟩
theorem lw_p60 : lw_okq (⟨"HuesApartModel", "isAt", "(II)Z"⟩, 16) := ⟨⟨by decide +kernel, by decide +kernel⟩, List.mem_of_getElem? (i := 500) (by decide +kernel), List.mem_of_getElem? (i := 834) (by decide +kernel), List.mem_of_getElem? (i := 835) (by decide +kernel)⟩
theorem lw_p61 : lw_okq (⟨"HuesApartModel", "takesOrder", "()Z"⟩, 16) := ⟨⟨by decide +kernel, by decide +kernel⟩, List.mem_of_getElem? (i := 500) (by decide +kernel), List.mem_of_getElem? (i := 838) (by decide +kernel), List.mem_of_getElem? (i := 839) (by decide +kernel)⟩
theorem lw_p62 : lw_okq (⟨"HuesApartModel", "fails", "(I)Z"⟩, 16) := ⟨⟨by decide +kernel, by decide +kernel⟩, List.mem_of_getElem? (i := 500) (by decide +kernel), List.mem_of_getElem? (i := 842) (by decide +kernel), List.mem_of_getElem? (i := 843) (by decide +kernel)⟩
theorem lw_p63 : lw_okq (⟨"HuesApartModel", "takesNumbers", "(I)Z"⟩, 16) := ⟨⟨by decide +kernel, by decide +kernel⟩, List.mem_of_getElem? (i := 500) (by decide +kernel), List.mem_of_getElem? (i := 846) (by decide +kernel), List.mem_of_getElem? (i := 847) (by decide +kernel)⟩
def lw_privs_4 : List (MethodName × Nat) := [(⟨"HuesApartModel", "takesPalette", "()V"⟩, 16), (⟨"HuesApartModel", "leastOf", "(I)F"⟩, 16), (⟨"HuesApartModel", "leastNow", "()I"⟩, 16), (⟨"HuesApartModel", "nearestNow", "()I"⟩, 16), (⟨"HuesApartModel", "bestOf", "(I)I"⟩, 16), (⟨"HuesApartModel", "setOf", "(I)I"⟩, 16), (⟨"HuesApartModel", "isNext", "(I)Z"⟩, 16), (⟨"HuesApartModel", "countOf", "(I)I"⟩, 16), (⟨"HuesApartModel", "fittingMany", "()I"⟩, 16), (⟨"HuesApartModel", "countsSet", "()I"⟩, 16), (⟨"HuesApartModel", "isRead", "()Z"⟩, 16), (⟨"HuesApartModel", "blanks", "()V"⟩, 16), (⟨"HuesApartModel", "isAt", "(II)Z"⟩, 16), (⟨"HuesApartModel", "takesOrder", "()Z"⟩, 16), (⟨"HuesApartModel", "fails", "(I)Z"⟩, 16), (⟨"HuesApartModel", "takesNumbers", "(I)Z"⟩, 16)]
theorem lw_r4 : ∀ q ∈ lw_privs_4, lw_okq q := List.forall_mem_cons.mpr ⟨lw_p48, List.forall_mem_cons.mpr ⟨lw_p49, List.forall_mem_cons.mpr ⟨lw_p50, List.forall_mem_cons.mpr ⟨lw_p51, List.forall_mem_cons.mpr ⟨lw_p52, List.forall_mem_cons.mpr ⟨lw_p53, List.forall_mem_cons.mpr ⟨lw_p54, List.forall_mem_cons.mpr ⟨lw_p55, List.forall_mem_cons.mpr ⟨lw_p56, List.forall_mem_cons.mpr ⟨lw_p57, List.forall_mem_cons.mpr ⟨lw_p58, List.forall_mem_cons.mpr ⟨lw_p59, List.forall_mem_cons.mpr ⟨lw_p60, List.forall_mem_cons.mpr ⟨lw_p61, List.forall_mem_cons.mpr ⟨lw_p62, List.forall_mem_cons.mpr ⟨lw_p63, fun _ h => absurd h List.not_mem_nil⟩⟩⟩⟩⟩⟩⟩⟩⟩⟩⟩⟩⟩⟩⟩⟩
theorem lw_p64 : lw_okq (⟨"HuesApartModel", "takesSix", "(I)Z"⟩, 16) := ⟨⟨by decide +kernel, by decide +kernel⟩, List.mem_of_getElem? (i := 500) (by decide +kernel), List.mem_of_getElem? (i := 850) (by decide +kernel), List.mem_of_getElem? (i := 851) (by decide +kernel)⟩
theorem lw_p65 : lw_okq (⟨"HuesApartModel", "takesNumber", "(I)Z"⟩, 16) := ⟨⟨by decide +kernel, by decide +kernel⟩, List.mem_of_getElem? (i := 500) (by decide +kernel), List.mem_of_getElem? (i := 854) (by decide +kernel), List.mem_of_getElem? (i := 855) (by decide +kernel)⟩
theorem lw_p66 : lw_okq (⟨"HuesApartModel", "obeys", "(I)Z"⟩, 16) := ⟨⟨by decide +kernel, by decide +kernel⟩, List.mem_of_getElem? (i := 500) (by decide +kernel), List.mem_of_getElem? (i := 858) (by decide +kernel), List.mem_of_getElem? (i := 859) (by decide +kernel)⟩
theorem lw_p67 : lw_okq (⟨"HuesApartModel", "comesTold", "(I)Z"⟩, 16) := ⟨⟨by decide +kernel, by decide +kernel⟩, List.mem_of_getElem? (i := 500) (by decide +kernel), List.mem_of_getElem? (i := 862) (by decide +kernel), List.mem_of_getElem? (i := 863) (by decide +kernel)⟩
theorem lw_p68 : lw_okq (⟨"HuesApartModel", "limits", "(II)Z"⟩, 16) := ⟨⟨by decide +kernel, by decide +kernel⟩, List.mem_of_getElem? (i := 500) (by decide +kernel), List.mem_of_getElem? (i := 866) (by decide +kernel), List.mem_of_getElem? (i := 867) (by decide +kernel)⟩
theorem lw_p69 : lw_okq (⟨"HuesApartModel", "turns", "()V"⟩, 16) := ⟨⟨by decide +kernel, by decide +kernel⟩, List.mem_of_getElem? (i := 500) (by decide +kernel), List.mem_of_getElem? (i := 870) (by decide +kernel), List.mem_of_getElem? (i := 871) (by decide +kernel)⟩
theorem lw_p70 : lw_okq (⟨"HuesApartModel", "toldOf", "(I)I"⟩, 16) := ⟨⟨by decide +kernel, by decide +kernel⟩, List.mem_of_getElem? (i := 500) (by decide +kernel), List.mem_of_getElem? (i := 878) (by decide +kernel), List.mem_of_getElem? (i := 879) (by decide +kernel)⟩
theorem lw_p71 : lw_okq (⟨"HuesApartModel", "mix", "(J)V"⟩, 16) := ⟨⟨by decide +kernel, by decide +kernel⟩, List.mem_of_getElem? (i := 500) (by decide +kernel), List.mem_of_getElem? (i := 887) (by decide +kernel), List.mem_of_getElem? (i := 888) (by decide +kernel)⟩
def lw_privs_5 : List (MethodName × Nat) := [(⟨"HuesApartModel", "takesSix", "(I)Z"⟩, 16), (⟨"HuesApartModel", "takesNumber", "(I)Z"⟩, 16), (⟨"HuesApartModel", "obeys", "(I)Z"⟩, 16), (⟨"HuesApartModel", "comesTold", "(I)Z"⟩, 16), (⟨"HuesApartModel", "limits", "(II)Z"⟩, 16), (⟨"HuesApartModel", "turns", "()V"⟩, 16), (⟨"HuesApartModel", "toldOf", "(I)I"⟩, 16), (⟨"HuesApartModel", "mix", "(J)V"⟩, 16)]
theorem lw_r5 : ∀ q ∈ lw_privs_5, lw_okq q := List.forall_mem_cons.mpr ⟨lw_p64, List.forall_mem_cons.mpr ⟨lw_p65, List.forall_mem_cons.mpr ⟨lw_p66, List.forall_mem_cons.mpr ⟨lw_p67, List.forall_mem_cons.mpr ⟨lw_p68, List.forall_mem_cons.mpr ⟨lw_p69, List.forall_mem_cons.mpr ⟨lw_p70, List.forall_mem_cons.mpr ⟨lw_p71, fun _ h => absurd h List.not_mem_nil⟩⟩⟩⟩⟩⟩⟩⟩
def lw_privs : List (MethodName × Nat) := lw_privs_1 ++ (lw_privs_2 ++ (lw_privs_3 ++ (lw_privs_4 ++ (lw_privs_5))))
def lw_tbl : List Cond := k2_sels lw_privs ++ tables_1
theorem lw_privs_ok : ∀ q ∈ lw_privs, lw_okq q := by
  show ∀ q ∈ lw_privs_1 ++ (lw_privs_2 ++ (lw_privs_3 ++ (lw_privs_4 ++ (lw_privs_5)))), lw_okq q
  exact List.forall_mem_append.mpr ⟨lw_r1, List.forall_mem_append.mpr ⟨lw_r2, List.forall_mem_append.mpr ⟨lw_r3, List.forall_mem_append.mpr ⟨lw_r4, lw_r5⟩⟩⟩⟩
/-- the streams that the claim lets the run draw from -/
abbrev lw_cs : List Choice := [Jvm.Choice.named "NaN.bits"]
theorem lw_bits : nanBits ∈ lw_cs := by first | decide | exact List.mem_cons_self | simp [lw_cs, nanBits]
-- ===== end of PART A
end
section
def RX0 : String := "HuesApart$Chooser"
def TX0 : u_T := fun k => match k with
  | 0 => ("HuesApart$Chooser", "gaps", "[F", true)
  | _ => ("HuesApart$Chooser", "members", "[I", true)
def tyX0 : Nat → FieldType := fun k => match k with
  | 0 => .array .float
  | _ => .array .int
abbrev wsX00 : List Cond := u_ws RX0 TX0 2
theorem nmX0 : ∀ a, a < 2 → ∀ b, b < 2 → a ≠ b → (TX0 a).2.1 ≠ (TX0 b).2.1 := by decide +kernel
theorem tyX0_ok : ∀ k, k < 2 → parseFieldDescriptor (TX0 k).2.2.1 = some (tyX0 k) := by decide +kernel
abbrev cX0_init : ByteArray := prog_2_method_1_code
def yX0_init : MethodName := ⟨RX0, "<init>", "()V"⟩
abbrev cX0_measure : ByteArray := prog_2_method_2_code
def yX0_measure : MethodName := ⟨RX0, "measure", "(LHuesApart$Scene;)V"⟩
abbrev cX0_gap : ByteArray := prog_2_method_3_code
def yX0_gap : MethodName := ⟨RX0, "gap", "(II)F"⟩
abbrev cX0_leastOf : ByteArray := prog_2_method_4_code
def yX0_leastOf : MethodName := ⟨RX0, "leastOf", "([II)F"⟩
abbrev cX0_nearestPlaces : ByteArray := prog_2_method_5_code
def yX0_nearestPlaces : MethodName := ⟨RX0, "nearestPlaces", "(LHuesApart$Scene;)I"⟩
abbrev cX0_fill : ByteArray := prog_2_method_6_code
def yX0_fill : MethodName := ⟨RX0, "fill", "(LHuesApart$Scene;I)V"⟩
abbrev cX0_nextOne : ByteArray := prog_2_method_7_code
def yX0_nextOne : MethodName := ⟨RX0, "nextOne", "(LHuesApart$Scene;I)I"⟩
abbrev cX0_gapToRow : ByteArray := prog_2_method_8_code
def yX0_gapToRow : MethodName := ⟨RX0, "gapToRow", "(LHuesApart$Scene;I)F"⟩
abbrev cX0_swapAll : ByteArray := prog_2_method_9_code
def yX0_swapAll : MethodName := ⟨RX0, "swapAll", "(LHuesApart$Scene;)I"⟩
abbrev cX0_swapOne : ByteArray := prog_2_method_10_code
def yX0_swapOne : MethodName := ⟨RX0, "swapOne", "(LHuesApart$Scene;I)Z"⟩
abbrev cX0_bestSet : ByteArray := prog_2_method_11_code
def yX0_bestSet : MethodName := ⟨RX0, "bestSet", "(LHuesApart$Scene;I)I"⟩
abbrev cX0_listMembers : ByteArray := prog_2_method_12_code
def yX0_listMembers : MethodName := ⟨RX0, "listMembers", "(I)I"⟩
abbrev cX0_nextOfLikeSize : ByteArray := prog_2_method_13_code
def yX0_nextOfLikeSize : MethodName := ⟨RX0, "nextOfLikeSize", "(I)I"⟩
def RX1 : String := "HuesApart$Scene"
def TX1 : u_T := fun k => match k with
  | 0 => ("HuesApart$Scene", "colours", "I", false)
  | 1 => ("HuesApart$Scene", "rgb", "[I", true)
  | 2 => ("HuesApart$Scene", "groundRgb", "[I", true)
  | 3 => ("HuesApart$Scene", "eyes", "[I", true)
  | 4 => ("HuesApart$Scene", "limits", "[I", true)
  | 5 => ("HuesApart$Scene", "fixedBits", "I", false)
  | 6 => ("HuesApart$Scene", "row", "[I", true)
  | _ => ("HuesApart$Scene", "rowLength", "I", false)
def tyX1 : Nat → FieldType := fun k => match k with
  | 0 => .int
  | 1 => .array .int
  | 2 => .array .int
  | 3 => .array .int
  | 4 => .array .int
  | 5 => .int
  | 6 => .array .int
  | _ => .int
abbrev wsX10 : List Cond := u_ws RX1 TX1 8
theorem nmX1 : ∀ a, a < 8 → ∀ b, b < 8 → a ≠ b → (TX1 a).2.1 ≠ (TX1 b).2.1 := by decide +kernel
theorem tyX1_ok : ∀ k, k < 8 → parseFieldDescriptor (TX1 k).2.2.1 = some (tyX1 k) := by decide +kernel
abbrev cX1_init : ByteArray := prog_3_method_1_code
def yX1_init : MethodName := ⟨RX1, "<init>", "()V"⟩
abbrev cX1_become : ByteArray := prog_3_method_2_code
def yX1_become : MethodName := ⟨RX1, "become", "(LHuesApart$Scene;)V"⟩
abbrev cX1_addColour : ByteArray := prog_3_method_3_code
def yX1_addColour : MethodName := ⟨RX1, "addColour", "(III)I"⟩
abbrev cX1_setLimit : ByteArray := prog_3_method_4_code
def yX1_setLimit : MethodName := ⟨RX1, "setLimit", "(II)I"⟩
abbrev cX1_setFixed : ByteArray := prog_3_method_5_code
def yX1_setFixed : MethodName := ⟨RX1, "setFixed", "(II)I"⟩
abbrev cX1_isFixed : ByteArray := prog_3_method_6_code
def yX1_isFixed : MethodName := ⟨RX1, "isFixed", "(I)Z"⟩
abbrev cX1_putIntoRow : ByteArray := prog_3_method_7_code
def yX1_putIntoRow : MethodName := ⟨RX1, "putIntoRow", "(I)V"⟩
abbrev cX1_placeOf : ByteArray := prog_3_method_8_code
def yX1_placeOf : MethodName := ⟨RX1, "placeOf", "(I)I"⟩
abbrev cX1_rowBits : ByteArray := prog_3_method_9_code
def yX1_rowBits : MethodName := ⟨RX1, "rowBits", "()I"⟩
abbrev cX1_countingBits : ByteArray := prog_3_method_10_code
def yX1_countingBits : MethodName := ⟨RX1, "countingBits", "()I"⟩
abbrev cX1_fitBits : ByteArray := prog_3_method_11_code
def yX1_fitBits : MethodName := ⟨RX1, "fitBits", "()I"⟩
abbrev cX1_isFit : ByteArray := prog_3_method_12_code
def yX1_isFit : MethodName := ⟨RX1, "isFit", "(I)Z"⟩
abbrev cX1_lightOf : ByteArray := prog_3_method_13_code
def yX1_lightOf : MethodName := ⟨RX1, "lightOf", "(I)F"⟩
abbrev cX1_lightAt : ByteArray := prog_3_method_14_code
def yX1_lightAt : MethodName := ⟨RX1, "lightAt", "([II)F"⟩
abbrev cX1_seenBy : ByteArray := prog_3_method_15_code
def yX1_seenBy : MethodName := ⟨RX1, "seenBy", "(III)F"⟩
abbrev cX1_isSeenAsMinusZero : ByteArray := prog_3_method_16_code
def yX1_isSeenAsMinusZero : MethodName := ⟨RX1, "isSeenAsMinusZero", "(III)Z"⟩
abbrev cX1_distanceFor : ByteArray := prog_3_method_17_code
def yX1_distanceFor : MethodName := ⟨RX1, "distanceFor", "(III)F"⟩
abbrev cX1_apartOf : ByteArray := prog_3_method_18_code
def yX1_apartOf : MethodName := ⟨RX1, "apartOf", "(II)F"⟩
abbrev cX1_pairsBelow : ByteArray := prog_3_method_19_code
def yX1_pairsBelow : MethodName := ⟨RX1, "pairsBelow", "(II)I"⟩
def RX2 : String := "HuesApart$Script"
def TX2 : u_T := fun k => match k with
  | 0 => ("HuesApart$Script", "bytes", "[I", true)
  | 1 => ("HuesApart$Script", "length", "I", false)
  | 2 => ("HuesApart$Script", "at", "I", false)
  | 3 => ("HuesApart$Script", "orders", "I", false)
  | 4 => ("HuesApart$Script", "kinds", "[I", true)
  | 5 => ("HuesApart$Script", "firsts", "[I", true)
  | _ => ("HuesApart$Script", "seconds", "[I", true)
def tyX2 : Nat → FieldType := fun k => match k with
  | 0 => .array .int
  | 1 => .int
  | 2 => .int
  | 3 => .int
  | 4 => .array .int
  | 5 => .array .int
  | _ => .array .int
abbrev wsX20 : List Cond := u_ws RX2 TX2 7
theorem nmX2 : ∀ a, a < 7 → ∀ b, b < 7 → a ≠ b → (TX2 a).2.1 ≠ (TX2 b).2.1 := by decide +kernel
theorem tyX2_ok : ∀ k, k < 7 → parseFieldDescriptor (TX2 k).2.2.1 = some (tyX2 k) := by decide +kernel
abbrev cX2_init : ByteArray := prog_4_method_1_code
def yX2_init : MethodName := ⟨RX2, "<init>", "()V"⟩
abbrev cX2_append : ByteArray := prog_4_method_2_code
def yX2_append : MethodName := ⟨RX2, "append", "(I)I"⟩
abbrev cX2_read : ByteArray := prog_4_method_3_code
def yX2_read : MethodName := ⟨RX2, "read", "()I"⟩
abbrev cX2_readOrder : ByteArray := prog_4_method_4_code
def yX2_readOrder : MethodName := ⟨RX2, "readOrder", "()Z"⟩
abbrev cX2_readSixFigures : ByteArray := prog_4_method_5_code
def yX2_readSixFigures : MethodName := ⟨RX2, "readSixFigures", "()Z"⟩
abbrev cX2_readNumber : ByteArray := prog_4_method_6_code
def yX2_readNumber : MethodName := ⟨RX2, "readNumber", "([I)Z"⟩
abbrev cX2_readEnd : ByteArray := prog_4_method_7_code
def yX2_readEnd : MethodName := ⟨RX2, "readEnd", "()Z"⟩
abbrev cX2_skipBlanks : ByteArray := prog_4_method_8_code
def yX2_skipBlanks : MethodName := ⟨RX2, "skipBlanks", "()V"⟩
abbrev cX2_byteHere : ByteArray := prog_4_method_9_code
def yX2_byteHere : MethodName := ⟨RX2, "byteHere", "()I"⟩
abbrev cX2_isTenFigure : ByteArray := prog_4_method_10_code
def yX2_isTenFigure : MethodName := ⟨RX2, "isTenFigure", "(I)Z"⟩
abbrev cX2_figureOf : ByteArray := prog_4_method_11_code
def yX2_figureOf : MethodName := ⟨RX2, "figureOf", "(I)I"⟩
def RX3 : String := "HuesApart"
def TX3 : u_T := fun k => match k with
  | 0 => ("HuesApart", "scene", "LHuesApart$Scene;", true)
  | 1 => ("HuesApart", "kept", "[LHuesApart$Scene;", true)
  | 2 => ("HuesApart", "states", "I", false)
  | 3 => ("HuesApart", "refused", "[I", true)
  | 4 => ("HuesApart", "script", "LHuesApart$Script;", true)
  | _ => ("HuesApart", "chooser", "LHuesApart$Chooser;", true)
def tyX3 : Nat → FieldType := fun k => match k with
  | 0 => .object "HuesApart$Scene"
  | 1 => .array (.object "HuesApart$Scene")
  | 2 => .int
  | 3 => .array .int
  | 4 => .object "HuesApart$Script"
  | _ => .object "HuesApart$Chooser"
abbrev wsX30 : List Cond := u_ws RX3 TX3 6
theorem nmX3 : ∀ a, a < 6 → ∀ b, b < 6 → a ≠ b → (TX3 a).2.1 ≠ (TX3 b).2.1 := by decide +kernel
theorem tyX3_ok : ∀ k, k < 6 → parseFieldDescriptor (TX3 k).2.2.1 = some (tyX3 k) := by decide +kernel
abbrev cX3_init : ByteArray := prog_1_method_1_code
def yX3_init : MethodName := ⟨RX3, "<init>", "()V"⟩
abbrev cX3_colour : ByteArray := prog_1_method_2_code
def yX3_colour : MethodName := ⟨RX3, "colour", "(III)I"⟩
abbrev cX3_paints : ByteArray := prog_1_method_3_code
def yX3_paints : MethodName := ⟨RX3, "paints", "(IIII)I"⟩
abbrev cX3_ground : ByteArray := prog_1_method_4_code
def yX3_ground : MethodName := ⟨RX3, "ground", "(III)I"⟩
abbrev cX3_eye : ByteArray := prog_1_method_5_code
def yX3_eye : MethodName := ⟨RX3, "eye", "(III)I"⟩
abbrev cX3_sets : ByteArray := prog_1_method_6_code
def yX3_sets : MethodName := ⟨RX3, "sets", "(II)I"⟩
abbrev cX3_fixes : ByteArray := prog_1_method_7_code
def yX3_fixes : MethodName := ⟨RX3, "fixes", "(II)I"⟩
abbrev cX3_of : ByteArray := prog_1_method_8_code
def yX3_of : MethodName := ⟨RX3, "of", "(II)I"⟩
abbrev cX3_look : ByteArray := prog_1_method_9_code
def yX3_look : MethodName := ⟨RX3, "look", "(II)I"⟩
abbrev cX3_light : ByteArray := prog_1_method_10_code
def yX3_light : MethodName := ⟨RX3, "light", "(I)I"⟩
abbrev cX3_seen : ByteArray := prog_1_method_11_code
def yX3_seen : MethodName := ⟨RX3, "seen", "(III)I"⟩
abbrev cX3_distance : ByteArray := prog_1_method_12_code
def yX3_distance : MethodName := ⟨RX3, "distance", "(III)I"⟩
abbrev cX3_apart : ByteArray := prog_1_method_13_code
def yX3_apart : MethodName := ⟨RX3, "apart", "(II)I"⟩
abbrev cX3_fills : ByteArray := prog_1_method_14_code
def yX3_fills : MethodName := ⟨RX3, "fills", "(I)I"⟩
abbrev cX3_swaps : ByteArray := prog_1_method_15_code
def yX3_swaps : MethodName := ⟨RX3, "swaps", "()I"⟩
abbrev cX3_palette : ByteArray := prog_1_method_16_code
def yX3_palette : MethodName := ⟨RX3, "palette", "(I)I"⟩
abbrev cX3_least : ByteArray := prog_1_method_17_code
def yX3_least : MethodName := ⟨RX3, "least", "()I"⟩
abbrev cX3_nearest : ByteArray := prog_1_method_18_code
def yX3_nearest : MethodName := ⟨RX3, "nearest", "()I"⟩
abbrev cX3_best : ByteArray := prog_1_method_19_code
def yX3_best : MethodName := ⟨RX3, "best", "(I)I"⟩
abbrev cX3_mistaken : ByteArray := prog_1_method_20_code
def yX3_mistaken : MethodName := ⟨RX3, "mistaken", "(II)I"⟩
abbrev cX3_count : ByteArray := prog_1_method_21_code
def yX3_count : MethodName := ⟨RX3, "count", "(I)I"⟩
abbrev cX3_type : ByteArray := prog_1_method_22_code
def yX3_type : MethodName := ⟨RX3, "type", "(I)I"⟩
abbrev cX3_clear : ByteArray := prog_1_method_23_code
def yX3_clear : MethodName := ⟨RX3, "clear", "()I"⟩
abbrev cX3_does : ByteArray := prog_1_method_24_code
def yX3_does : MethodName := ⟨RX3, "does", "()I"⟩
abbrev cX3_back : ByteArray := prog_1_method_25_code
def yX3_back : MethodName := ⟨RX3, "back", "()I"⟩
abbrev cX3_told : ByteArray := prog_1_method_26_code
def yX3_told : MethodName := ⟨RX3, "told", "(I)I"⟩
abbrev cX3_digest : ByteArray := prog_1_method_27_code
def yX3_digest : MethodName := ⟨RX3, "digest", "()J"⟩
abbrev cX3_whyNoColour : ByteArray := prog_1_method_28_code
def yX3_whyNoColour : MethodName := ⟨RX3, "whyNoColour", "(III)I"⟩
abbrev cX3_whyNoLimit : ByteArray := prog_1_method_29_code
def yX3_whyNoLimit : MethodName := ⟨RX3, "whyNoLimit", "(II)I"⟩
abbrev cX3_whyNotFixed : ByteArray := prog_1_method_30_code
def yX3_whyNotFixed : MethodName := ⟨RX3, "whyNotFixed", "(II)I"⟩
abbrev cX3_whyNoFilling : ByteArray := prog_1_method_31_code
def yX3_whyNoFilling : MethodName := ⟨RX3, "whyNoFilling", "(I)I"⟩
abbrev cX3_refuse : ByteArray := prog_1_method_32_code
def yX3_refuse : MethodName := ⟨RX3, "refuse", "(I)I"⟩
abbrev cX3_isColour : ByteArray := prog_1_method_33_code
def yX3_isColour : MethodName := ⟨RX3, "isColour", "(I)Z"⟩
abbrev cX3_isEye : ByteArray := prog_1_method_34_code
def yX3_isEye : MethodName := ⟨RX3, "isEye", "(I)Z"⟩
abbrev cX3_isEyeNumber : ByteArray := prog_1_method_35_code
def yX3_isEyeNumber : MethodName := ⟨RX3, "isEyeNumber", "(II)Z"⟩
abbrev cX3_isRgb : ByteArray := prog_1_method_36_code
def yX3_isRgb : MethodName := ⟨RX3, "isRgb", "(III)Z"⟩
abbrev cX3_isWithin : ByteArray := prog_1_method_37_code
def yX3_isWithin : MethodName := ⟨RX3, "isWithin", "(III)Z"⟩
abbrev cX3_whyNoOrder : ByteArray := prog_1_method_38_code
def yX3_whyNoOrder : MethodName := ⟨RX3, "whyNoOrder", "(III)I"⟩
abbrev cX3_obey : ByteArray := prog_1_method_39_code
def yX3_obey : MethodName := ⟨RX3, "obey", "(III)V"⟩
abbrev cX3_redOf : ByteArray := prog_1_method_40_code
def yX3_redOf : MethodName := ⟨RX3, "redOf", "(I)I"⟩
abbrev cX3_greenOf : ByteArray := prog_1_method_41_code
def yX3_greenOf : MethodName := ⟨RX3, "greenOf", "(I)I"⟩
abbrev cX3_blueOf : ByteArray := prog_1_method_42_code
def yX3_blueOf : MethodName := ⟨RX3, "blueOf", "(I)I"⟩
abbrev cX3_leaveState : ByteArray := prog_1_method_43_code
def yX3_leaveState : MethodName := ⟨RX3, "leaveState", "()V"⟩
abbrev cX3_noteState : ByteArray := prog_1_method_44_code
def yX3_noteState : MethodName := ⟨RX3, "noteState", "()V"⟩
abbrev cX3_keepNoted : ByteArray := prog_1_method_45_code
def yX3_keepNoted : MethodName := ⟨RX3, "keepNoted", "()V"⟩
abbrev cX3_putRgb : ByteArray := prog_1_method_46_code
def yX3_putRgb : MethodName := ⟨RX3, "putRgb", "([IIIII)I"⟩
abbrev cX3_bitsOf : ByteArray := prog_1_method_47_code
def yX3_bitsOf : MethodName := ⟨RX3, "bitsOf", "(F)I"⟩
def RX4 : String := "HuesApartModel"
def TX4 : u_T := fun k => match k with
  | 0 => ("HuesApartModel", "now", "[I", true)
  | 1 => ("HuesApartModel", "aside", "[I", true)
  | 2 => ("HuesApartModel", "past", "[I", true)
  | 3 => ("HuesApartModel", "states", "I", false)
  | 4 => ("HuesApartModel", "refused", "[I", true)
  | 5 => ("HuesApartModel", "text", "[I", true)
  | 6 => ("HuesApartModel", "bytes", "I", false)
  | 7 => ("HuesApartModel", "far", "[F", true)
  | 8 => ("HuesApartModel", "fitting", "I", false)
  | 9 => ("HuesApartModel", "some", "[I", true)
  | 10 => ("HuesApartModel", "letters", "[I", true)
  | 11 => ("HuesApartModel", "numbers", "[I", true)
  | 12 => ("HuesApartModel", "orders", "I", false)
  | 13 => ("HuesApartModel", "spot", "I", false)
  | 14 => ("HuesApartModel", "wrongAt", "I", false)
  | _ => ("HuesApartModel", "hash", "J", false)
def tyX4 : Nat → FieldType := fun k => match k with
  | 0 => .array .int
  | 1 => .array .int
  | 2 => .array .int
  | 3 => .int
  | 4 => .array .int
  | 5 => .array .int
  | 6 => .int
  | 7 => .array .float
  | 8 => .int
  | 9 => .array .int
  | 10 => .array .int
  | 11 => .array .int
  | 12 => .int
  | 13 => .int
  | 14 => .int
  | _ => .long
abbrev wsX40 : List Cond := u_ws RX4 TX4 16
theorem nmX4 : ∀ a, a < 16 → ∀ b, b < 16 → a ≠ b → (TX4 a).2.1 ≠ (TX4 b).2.1 := by decide +kernel
theorem tyX4_ok : ∀ k, k < 16 → parseFieldDescriptor (TX4 k).2.2.1 = some (tyX4 k) := by decide +kernel
abbrev cX4_init : ByteArray := prog_6_method_1_code
def yX4_init : MethodName := ⟨RX4, "<init>", "()V"⟩
abbrev cX4_in : ByteArray := prog_6_method_3_code
def yX4_in : MethodName := ⟨RX4, "in", "(III)Z"⟩
abbrev cX4_has : ByteArray := prog_6_method_4_code
def yX4_has : MethodName := ⟨RX4, "has", "(II)Z"⟩
abbrev cX4_bitsIn : ByteArray := prog_6_method_5_code
def yX4_bitsIn : MethodName := ⟨RX4, "bitsIn", "(I)I"⟩
abbrev cX4_bitsOf : ByteArray := prog_6_method_6_code
def yX4_bitsOf : MethodName := ⟨RX4, "bitsOf", "(F)I"⟩
abbrev cX4_bad : ByteArray := prog_6_method_7_code
def yX4_bad : MethodName := ⟨RX4, "bad", "()I"⟩
abbrev cX4_no : ByteArray := prog_6_method_8_code
def yX4_no : MethodName := ⟨RX4, "no", "()I"⟩
abbrev cX4_full : ByteArray := prog_6_method_9_code
def yX4_full : MethodName := ⟨RX4, "full", "()I"⟩
abbrev cX4_remembers : ByteArray := prog_6_method_10_code
def yX4_remembers : MethodName := ⟨RX4, "remembers", "()V"⟩
abbrev cX4_back : ByteArray := prog_6_method_11_code
def yX4_back : MethodName := ⟨RX4, "back", "()I"⟩
abbrev cX4_isPart : ByteArray := prog_6_method_12_code
def yX4_isPart : MethodName := ⟨RX4, "isPart", "(I)Z"⟩
abbrev cX4_areParts : ByteArray := prog_6_method_13_code
def yX4_areParts : MethodName := ⟨RX4, "areParts", "(III)Z"⟩
abbrev cX4_isColour : ByteArray := prog_6_method_14_code
def yX4_isColour : MethodName := ⟨RX4, "isColour", "(I)Z"⟩
abbrev cX4_isEye : ByteArray := prog_6_method_15_code
def yX4_isEye : MethodName := ⟨RX4, "isEye", "(I)Z"⟩
abbrev cX4_becomes : ByteArray := prog_6_method_16_code
def yX4_becomes : MethodName := ⟨RX4, "becomes", "(IIII)I"⟩
abbrev cX4_colourAt : ByteArray := prog_6_method_17_code
def yX4_colourAt : MethodName := ⟨RX4, "colourAt", "(I)I"⟩
abbrev cX4_comes : ByteArray := prog_6_method_18_code
def yX4_comes : MethodName := ⟨RX4, "comes", "(III)I"⟩
abbrev cX4_colour : ByteArray := prog_6_method_19_code
def yX4_colour : MethodName := ⟨RX4, "colour", "(III)I"⟩
abbrev cX4_paints : ByteArray := prog_6_method_20_code
def yX4_paints : MethodName := ⟨RX4, "paints", "(IIII)I"⟩
abbrev cX4_ground : ByteArray := prog_6_method_21_code
def yX4_ground : MethodName := ⟨RX4, "ground", "(III)I"⟩
abbrev cX4_isOfEye : ByteArray := prog_6_method_22_code
def yX4_isOfEye : MethodName := ⟨RX4, "isOfEye", "(II)Z"⟩
abbrev cX4_exchanges : ByteArray := prog_6_method_23_code
def yX4_exchanges : MethodName := ⟨RX4, "exchanges", "(II)I"⟩
abbrev cX4_eye : ByteArray := prog_6_method_24_code
def yX4_eye : MethodName := ⟨RX4, "eye", "(III)I"⟩
abbrev cX4_sets : ByteArray := prog_6_method_25_code
def yX4_sets : MethodName := ⟨RX4, "sets", "(II)I"⟩
abbrev cX4_fixesOne : ByteArray := prog_6_method_26_code
def yX4_fixesOne : MethodName := ⟨RX4, "fixesOne", "(II)I"⟩
abbrev cX4_fixes : ByteArray := prog_6_method_27_code
def yX4_fixes : MethodName := ⟨RX4, "fixes", "(II)I"⟩
abbrev cX4_shineAt : ByteArray := prog_6_method_28_code
def yX4_shineAt : MethodName := ⟨RX4, "shineAt", "(I)F"⟩
abbrev cX4_isFitting : ByteArray := prog_6_method_29_code
def yX4_isFitting : MethodName := ⟨RX4, "isFitting", "(I)Z"⟩
abbrev cX4_placeOf : ByteArray := prog_6_method_30_code
def yX4_placeOf : MethodName := ⟨RX4, "placeOf", "(I)I"⟩
abbrev cX4_ofColour : ByteArray := prog_6_method_31_code
def yX4_ofColour : MethodName := ⟨RX4, "ofColour", "(II)I"⟩
abbrev cX4_of : ByteArray := prog_6_method_32_code
def yX4_of : MethodName := ⟨RX4, "of", "(II)I"⟩
abbrev cX4_look : ByteArray := prog_6_method_33_code
def yX4_look : MethodName := ⟨RX4, "look", "(II)I"⟩
abbrev cX4_light : ByteArray := prog_6_method_34_code
def yX4_light : MethodName := ⟨RX4, "light", "(I)I"⟩
abbrev cX4_sight : ByteArray := prog_6_method_35_code
def yX4_sight : MethodName := ⟨RX4, "sight", "(III)F"⟩
abbrev cX4_seen : ByteArray := prog_6_method_36_code
def yX4_seen : MethodName := ⟨RX4, "seen", "(III)I"⟩
abbrev cX4_farFor : ByteArray := prog_6_method_37_code
def yX4_farFor : MethodName := ⟨RX4, "farFor", "(III)F"⟩
abbrev cX4_distance : ByteArray := prog_6_method_38_code
def yX4_distance : MethodName := ⟨RX4, "distance", "(III)I"⟩
abbrev cX4_apartOf : ByteArray := prog_6_method_39_code
def yX4_apartOf : MethodName := ⟨RX4, "apartOf", "(II)F"⟩
abbrev cX4_apart : ByteArray := prog_6_method_40_code
def yX4_apart : MethodName := ⟨RX4, "apart", "(II)I"⟩
abbrev cX4_laysFar : ByteArray := prog_6_method_41_code
def yX4_laysFar : MethodName := ⟨RX4, "laysFar", "()V"⟩
abbrev cX4_leastOf : ByteArray := prog_6_method_42_code
def yX4_leastOf : MethodName := ⟨RX4, "leastOf", "(I)F"⟩
abbrev cX4_takesPalette : ByteArray := prog_6_method_43_code
def yX4_takesPalette : MethodName := ⟨RX4, "takesPalette", "()V"⟩
abbrev cX4_putsLast : ByteArray := prog_6_method_44_code
def yX4_putsLast : MethodName := ⟨RX4, "putsLast", "(I)V"⟩
abbrev cX4_lightest : ByteArray := prog_6_method_45_code
def yX4_lightest : MethodName := ⟨RX4, "lightest", "()I"⟩
abbrev cX4_nearestIn : ByteArray := prog_6_method_46_code
def yX4_nearestIn : MethodName := ⟨RX4, "nearestIn", "(I)F"⟩
abbrev cX4_farthest : ByteArray := prog_6_method_47_code
def yX4_farthest : MethodName := ⟨RX4, "farthest", "()I"⟩
abbrev cX4_fillsFor : ByteArray := prog_6_method_48_code
def yX4_fillsFor : MethodName := ⟨RX4, "fillsFor", "(I)I"⟩
abbrev cX4_canFill : ByteArray := prog_6_method_49_code
def yX4_canFill : MethodName := ⟨RX4, "canFill", "(I)Z"⟩
abbrev cX4_fills : ByteArray := prog_6_method_50_code
def yX4_fills : MethodName := ⟨RX4, "fills", "(I)I"⟩
abbrev cX4_isSwapped : ByteArray := prog_6_method_51_code
def yX4_isSwapped : MethodName := ⟨RX4, "isSwapped", "()Z"⟩
abbrev cX4_swapsAll : ByteArray := prog_6_method_52_code
def yX4_swapsAll : MethodName := ⟨RX4, "swapsAll", "()I"⟩
abbrev cX4_swaps : ByteArray := prog_6_method_53_code
def yX4_swaps : MethodName := ⟨RX4, "swaps", "()I"⟩
abbrev cX4_palette : ByteArray := prog_6_method_54_code
def yX4_palette : MethodName := ⟨RX4, "palette", "(I)I"⟩
abbrev cX4_leastNow : ByteArray := prog_6_method_55_code
def yX4_leastNow : MethodName := ⟨RX4, "leastNow", "()I"⟩
abbrev cX4_least : ByteArray := prog_6_method_56_code
def yX4_least : MethodName := ⟨RX4, "least", "()I"⟩
abbrev cX4_nearestNow : ByteArray := prog_6_method_57_code
def yX4_nearestNow : MethodName := ⟨RX4, "nearestNow", "()I"⟩
abbrev cX4_nearest : ByteArray := prog_6_method_58_code
def yX4_nearest : MethodName := ⟨RX4, "nearest", "()I"⟩
abbrev cX4_isNext : ByteArray := prog_6_method_59_code
def yX4_isNext : MethodName := ⟨RX4, "isNext", "(I)Z"⟩
abbrev cX4_setOf : ByteArray := prog_6_method_60_code
def yX4_setOf : MethodName := ⟨RX4, "setOf", "(I)I"⟩
abbrev cX4_bestOf : ByteArray := prog_6_method_61_code
def yX4_bestOf : MethodName := ⟨RX4, "bestOf", "(I)I"⟩
abbrev cX4_best : ByteArray := prog_6_method_62_code
def yX4_best : MethodName := ⟨RX4, "best", "(I)I"⟩
abbrev cX4_mistaken : ByteArray := prog_6_method_63_code
def yX4_mistaken : MethodName := ⟨RX4, "mistaken", "(II)I"⟩
abbrev cX4_countsSet : ByteArray := prog_6_method_64_code
def yX4_countsSet : MethodName := ⟨RX4, "countsSet", "()I"⟩
abbrev cX4_fittingMany : ByteArray := prog_6_method_65_code
def yX4_fittingMany : MethodName := ⟨RX4, "fittingMany", "()I"⟩
abbrev cX4_countOf : ByteArray := prog_6_method_66_code
def yX4_countOf : MethodName := ⟨RX4, "countOf", "(I)I"⟩
abbrev cX4_count : ByteArray := prog_6_method_67_code
def yX4_count : MethodName := ⟨RX4, "count", "(I)I"⟩
abbrev cX4_type : ByteArray := prog_6_method_68_code
def yX4_type : MethodName := ⟨RX4, "type", "(I)I"⟩
abbrev cX4_clear : ByteArray := prog_6_method_69_code
def yX4_clear : MethodName := ⟨RX4, "clear", "()I"⟩
abbrev cX4_isAt : ByteArray := prog_6_method_70_code
def yX4_isAt : MethodName := ⟨RX4, "isAt", "(II)Z"⟩
abbrev cX4_blanks : ByteArray := prog_6_method_71_code
def yX4_blanks : MethodName := ⟨RX4, "blanks", "()V"⟩
abbrev cX4_fails : ByteArray := prog_6_method_72_code
def yX4_fails : MethodName := ⟨RX4, "fails", "(I)Z"⟩
abbrev cX4_takesSix : ByteArray := prog_6_method_73_code
def yX4_takesSix : MethodName := ⟨RX4, "takesSix", "(I)Z"⟩
abbrev cX4_takesNumber : ByteArray := prog_6_method_74_code
def yX4_takesNumber : MethodName := ⟨RX4, "takesNumber", "(I)Z"⟩
abbrev cX4_takesNumbers : ByteArray := prog_6_method_75_code
def yX4_takesNumbers : MethodName := ⟨RX4, "takesNumbers", "(I)Z"⟩
abbrev cX4_takesOrder : ByteArray := prog_6_method_76_code
def yX4_takesOrder : MethodName := ⟨RX4, "takesOrder", "()Z"⟩
abbrev cX4_isRead : ByteArray := prog_6_method_77_code
def yX4_isRead : MethodName := ⟨RX4, "isRead", "()Z"⟩
abbrev cX4_comesTold : ByteArray := prog_6_method_78_code
def yX4_comesTold : MethodName := ⟨RX4, "comesTold", "(I)Z"⟩
abbrev cX4_limits : ByteArray := prog_6_method_79_code
def yX4_limits : MethodName := ⟨RX4, "limits", "(II)Z"⟩
abbrev cX4_obeys : ByteArray := prog_6_method_80_code
def yX4_obeys : MethodName := ⟨RX4, "obeys", "(I)Z"⟩
abbrev cX4_turns : ByteArray := prog_6_method_81_code
def yX4_turns : MethodName := ⟨RX4, "turns", "()V"⟩
abbrev cX4_does : ByteArray := prog_6_method_82_code
def yX4_does : MethodName := ⟨RX4, "does", "()I"⟩
abbrev cX4_toldOf : ByteArray := prog_6_method_83_code
def yX4_toldOf : MethodName := ⟨RX4, "toldOf", "(I)I"⟩
abbrev cX4_told : ByteArray := prog_6_method_84_code
def yX4_told : MethodName := ⟨RX4, "told", "(I)I"⟩
abbrev cX4_mix : ByteArray := prog_6_method_85_code
def yX4_mix : MethodName := ⟨RX4, "mix", "(J)V"⟩
abbrev cX4_digest : ByteArray := prog_6_method_86_code
def yX4_digest : MethodName := ⟨RX4, "digest", "()J"⟩
def RJ6 : String := "java/lang/Integer"
abbrev cJ6_bitCount_0f7a4 : ByteArray := prog_7_method_49_code
def yJ6_bitCount_0f7a4 : MethodName := ⟨RJ6, "bitCount", "(I)I"⟩
def RJ10 : String := "java/lang/System"
def RJ7 : String := "java/util/Arrays"
abbrev cJ7_fill_53178 : ByteArray := prog_9_method_103_code
def yJ7_fill_53178 : MethodName := ⟨RJ7, "fill", "([II)V"⟩
def RL : String := "HuesApartLaw"
abbrev cL_law : ByteArray := code
def yL_law : MethodName := ⟨RL, "law", "([I)Z"⟩
abbrev vwCl : List vw_C := [(RX0, TX0, 2), (RX1, TX1, 8), (RX2, TX2, 7), (RX3, TX3, 6), (RX4, TX4, 16)]
end
section
/-! A uniform world: the cells that the run has made, numbered 0, 1, .. in the order of their making; values whose references are such numbers (the law's own script is written retAddr 0) -/
abbrev xC : Type := vp_A ⊕ (Nat × List Value)
abbrev xH : Type := List xC
abbrev xL : Type := List (Option Value)
/-- a method: its name, code, size of its locals, what it returns; the script, where it has it -/
abbrev xM : Type := MethodName × ByteArray × Nat × Option FieldType × Option (Nat × (Nat → Int32))
/-- where a world lies: the classes' numbers and slots; the three array classes; the first cell; the script's cell -/
abbrev xG : Type := va_G × (ClassId × ClassId × ClassId) × Nat × Nat
def xv (G : xG) : Value → Value
  | .ref k => .ref (G.2.2.1 + k)
  | .retAddr _ => .ref G.2.2.2
  | v => v
def xe (G : xG) : xC → va_E
  | .inr (ci, fs) => .inr (ci, fs.map (xv G))
  | .inl (n, .inl f) => .inl (G.2.1.1, n, .inl f)
  | .inl (n, .inr (.inl f)) => .inl (G.2.1.1, n, .inr (.inl f))
  | .inl (n, .inr (.inr (.inl f))) => .inl (G.2.1.2.1, n, .inr (.inr (.inl f)))
  | .inl (n, .inr (.inr (.inr (.inl f)))) => .inl (G.2.1.2.1, n, .inr (.inr (.inr (.inl f))))
  | .inl (n, .inr (.inr (.inr (.inr f)))) => .inl (G.2.1.2.2, n, .inr (.inr (.inr (.inr (fun j => (f j).map (fun k => G.2.2.1 + k))))))
def xw (G : xG) (h : xH) : va_W := h.mapIdx (fun k c => (G.2.2.1 + k, xe G c))
abbrev xty (G : xG) : List (ClassId × FieldType) := [(G.2.1.1, .int), (G.2.1.2.1, .float), (G.2.1.2.2, .object RX1)]
abbrev xA (G : xG) : Nat → Prop := fun q => G.2.2.1 ≤ q
theorem xw_get {G : xG} {h : xH} {k : Nat} {c : xC} (hk : h[k]? = some c) : (xw G h)[k]? = some (G.2.2.1 + k, xe G c) := by
  unfold xw; rw [List.getElem?_mapIdx, hk]; rfl
theorem xw_getI {G : xG} {h : xH} {k : Nat} {q : Nat × va_E} (hk : (xw G h)[k]? = some q) : ∃ c, h[k]? = some c ∧ q = (G.2.2.1 + k, xe G c) := by
  unfold xw at hk; rw [List.getElem?_mapIdx] at hk
  cases hc : h[k]? with
  | none => rw [hc] at hk; cases hk
  | some c => rw [hc] at hk; exact ⟨c, rfl, (Option.some.inj hk).symm⟩
theorem xw_set {G : xG} {h : xH} {k : Nat} {c : xC} : (xw G h).set k (G.2.2.1 + k, xe G c) = xw G (h.set k c) := by
  apply List.ext_getElem?
  intro j
  unfold xw
  rw [List.getElem?_set, List.getElem?_mapIdx, List.getElem?_mapIdx, List.getElem?_set, List.length_mapIdx]
  by_cases e : k = j
  · subst e
    by_cases l : k < h.length
    · simp [l]
    · simp [l]
  · simp [e]
theorem xw_push {G : xG} {h : xH} {c : xC} : xw G h ++ [(G.2.2.1 + h.length, xe G c)] = xw G (h ++ [c]) := by
  unfold xw
  rw [List.mapIdx_append]
  simp
/-- the cells lie apart, all from the first on -/
theorem xw_D (G : xG) (h : xH) : va_D (xA G) (xw G h) := by
  refine ⟨fun i j p q hi hj e => ?_, fun k q hk => ?_⟩
  · obtain ⟨c, -, rfl⟩ := xw_getI hi
    obtain ⟨d, -, rfl⟩ := xw_getI hj
    have e : G.2.2.1 + i = G.2.2.1 + j := e
    omega
  · obtain ⟨c, -, rfl⟩ := xw_getI hk
    exact Nat.le_add_right _ _
/-- the heap holds the world -/
def xP (G : xG) (h : xH) (H : Heap) : Prop := va_P G.1 vwCl (xw G h) H
/-- the locals -/
def xls (G : xG) (ls : Array Slot) (n : Nat) (L : xL) : Prop := ls.size = n ∧ lv_wf ls ∧ ∀ (i : Nat) (v : Value), L[i]? = some (some v) → ls[i]? = some (.val (xv G v))
def xisN : Cond → Bool
  | .fieldLinkNest .. => true
  | .methodLinkNest .. => true
  | _ => false
def lw_good : List Cond := lw_tbl.filter goodWord
def lw_nest : List Cond := lw_tbl.filter xisN
theorem xNw_warm {w : Cond} (hw : xisN w = true) {s U : State} (hW : s.WarmedH U.vm) (h : va_Nw w s) : va_Nw w U := by
  cases w <;> first | (cases hw; done) | exact va_Nw.warmF hW h | exact va_Nw.warmM hW h
theorem xNw_same {w : Cond} (hw : xisN w = true) {s U : State} (hv : s.vm = U.vm) (h : va_Nw w s) : va_Nw w U := by
  cases w <;> first | (cases hw; done) | exact va_Nw.same rfl hv h
/-- what the tables say of a state -/
def xK (G : xG) (U : State) : Prop := va_K G.1 vwCl (xty G) U ∧ (∀ w ∈ lw_nest, va_Nw w U) ∧ va_AO RX1 U
theorem xK.warm {G : xG} {s U : State} (hW : s.WarmedH U.vm) (h : xK G s) : xK G U :=
  ⟨va_K.moved hW.alike h.1, fun w hw => xNw_warm (List.mem_filter.mp hw).2 hW (h.2.1 w hw), va_AO.moved hW.alike h.2.2⟩
theorem xK.same {G : xG} {s U : State} (hv : s.vm = U.vm) (h : xK G s) : xK G U :=
  ⟨va_K.moved (hv ▸ Vm.Alike.refl s.vm) h.1, fun w hw => xNw_same (List.mem_filter.mp hw).2 hv (h.2.1 w hw), va_AO.moved (hv ▸ Vm.Alike.refl s.vm) h.2.2⟩
/-- the script, where the frame has it -/
def xX (scr : Option (Nat × (Nat → Int32))) (G : xG) (s : State) : Prop := match scr with
  | none => True
  | some (n, f) => va_X G.2.2.2 n f s s.heap ∧ G.2.2.2 < s.heap.size ∧ G.2.2.2 < G.2.2.1
/-- a frame of the method M, with room for d calls below it -/
def xF (M : xM) (d : Nat) (p : Program) (R : Room) (s : State) (m : MethodId) (args : Array Value) (meth : Method) (c : Code) (G : xG) : Prop :=
  p.tables.exec = Jvm.exec ∧ c.code = M.2.1 ∧ c.maxLocals = M.2.2.1 ∧ s.vm.findClass M.1.cls = some m.cls ∧ (∀ w ∈ lw_good, w.before args s = true) ∧ xK G s ∧ G.2.2.1 ≤ s.heap.size ∧ meth.name = M.1.name ∧ meth.locks = false ∧ xX M.2.2.2.2 G s ∧ d ≤ R.frames ∧ 38 * d ≤ R.locals
/-- a value that the method may return -/
def xnar : Option FieldType → Option Value → Prop
  | none, none => True
  | some ty, some (.int v) => narrow ty (.int v) = .int v
  | some .long, some (.long _) => True
  | some .float, some (.float _) => True
  | _, _ => False
def xrins : Option Value → Instr
  | none => .return_
  | some (.int _) => .ireturn
  | some (.long _) => .lreturn
  | some (.float _) => .freturn
  | some _ => .areturn
/-- the count of cells and slots: so many are to come yet; the world ends where the heap ends -/
def xB (G : xG) (h : xH) (s : State) (R : Room) (mc ms cells slots C1 S1 : Nat) : Prop := cells + mc = C1 ∧ slots + ms ≤ S1 ∧ C1 ≤ R.cells ∧ S1 ≤ R.slots ∧ G.2.2.1 + h.length = s.heap.size + cells
theorem xP.size {p : Program} {l : Launch} {e : Env} {R : Room} {s : State} {m : MethodId} {args : Array Value} {below : List Frame} {meth : Method} {c : Code} {T : State} {H : Heap} {locs : List Loc} {cells slots : Nat} {G : xG} {h : xH} (P : xP G h H) (hb0 : G.2.2.1 ≤ s.heap.size) (hT : T.heap = H) (X : Stand p l e R s m args below meth c T locs cells slots) (hz : G.2.2.1 + h.length = s.heap.size + cells) : H.size = G.2.2.1 + h.length := by
  have h1 : (T.setVm s.vm).heap.size ≤ s.heap.size + cells := X.same.2.2.1
  have h2 : s.heap.size ≤ (T.setVm s.vm).heap.size := X.same.2.1
  have e1 : (T.setVm s.vm).heap = H := hT
  rw [e1] at h1 h2
  cases hl : h.length with
  | zero => omega
  | succ n =>
    have hn : n < h.length := by omega
    have h3 : _ < H.size := (P n _ (xw_get (List.getElem?_eq_getElem hn))).lt
    have h3 : G.2.2.1 + n < H.size := h3
    omega
/-- from this point of the method on: it returns, with Post; it makes mc cells of at most ms slots -/
def XW (M : xM) (d mc ms : Nat) (pc : Nat) (L : xL) (st : List Value) (h : xH) (Post : Option Value → xH → Prop) : Prop :=
  ∀ (p : Program) (l : Launch) (e : Env) (R : Room) (s : State) (m : MethodId) (args : Array Value) (below : List Frame) (meth : Method) (c : Code) (G : xG) (Q : State → Prop) (H : Heap) (locs : List Loc) (cells slots C1 S1 : Nat) (ls : Array Slot),
    xF M d p R s m args meth c G → xP G h H → va_S (xA G) s.heap H locs → xls G ls M.2.2.1 L → xB G h s R mc ms cells slots C1 S1 →
    (∀ (pc : Nat) (ls : Array Slot) (r : Option Value) (h' : xH) (H' : Heap) (locs' : List Loc), Post r h' → xnar M.2.2.2.1 r → decode M.2.1 pc = .ok (xrins r, 1) → xP G h' H' → va_S (xA G) s.heap H' locs' → G.2.2.1 + h'.length = s.heap.size + C1 → W p l e R s m args below meth c H' locs' C1 S1 Q (F0 m pc ls (r.toList.map (xv G)))) →
    W p l e R s m args below meth c H locs cells slots Q (F0 m pc ls (st.map (xv G)))
end
section
/-! The rows: an instruction each -/
section XRows
variable {M : xM} {d mc ms pc : Nat} {L : xL} {st : List Value} {h : xH} {Post : Option Value → xH → Prop}
theorem XW.row {pc' : Nat} {st' : List Value}
    (row : ∀ (p : Program) (l : Launch) (e : Env) (R : Room) (s : State) (m : MethodId) (args : Array Value) (below : List Frame) (meth : Method) (c : Code) (G : xG) (Q : State → Prop) (H : Heap) (locs : List Loc) (cells slots : Nat) (ls : Array Slot),
      xF M d p R s m args meth c G → xP G h H → va_S (xA G) s.heap H locs → xls G ls M.2.2.1 L → W p l e R s m args below meth c H locs cells slots Q (F0 m pc' ls (st'.map (xv G))) → W p l e R s m args below meth c H locs cells slots Q (F0 m pc ls (st.map (xv G))))
    (k : XW M d mc ms pc' L st' h Post) : XW M d mc ms pc L st h Post := by
  intro p l e R s m args below meth c G Q H locs cells slots C1 S1 ls F P S E b hr
  exact row p l e R s m args below meth c G Q H locs cells slots ls F P S E (k p l e R s m args below meth c G Q H locs cells slots C1 S1 ls F P S E b hr)
theorem XW.row2 {pc1 pc2 : Nat} {st1 st2 : List Value} {c1 c2 : Prop}
    (row : ∀ (p : Program) (l : Launch) (e : Env) (R : Room) (s : State) (m : MethodId) (args : Array Value) (below : List Frame) (meth : Method) (c : Code) (G : xG) (Q : State → Prop) (H : Heap) (locs : List Loc) (cells slots : Nat) (ls : Array Slot),
      xF M d p R s m args meth c G → (c1 → W p l e R s m args below meth c H locs cells slots Q (F0 m pc1 ls (st1.map (xv G)))) → (c2 → W p l e R s m args below meth c H locs cells slots Q (F0 m pc2 ls (st2.map (xv G)))) → W p l e R s m args below meth c H locs cells slots Q (F0 m pc ls (st.map (xv G))))
    (k1 : c1 → XW M d mc ms pc1 L st1 h Post) (k2 : c2 → XW M d mc ms pc2 L st2 h Post) : XW M d mc ms pc L st h Post := by
  intro p l e R s m args below meth c G Q H locs cells slots C1 S1 ls F P S E b hr
  exact row p l e R s m args below meth c G Q H locs cells slots ls F (fun q => k1 q p l e R s m args below meth c G Q H locs cells slots C1 S1 ls F P S E b hr) (fun q => k2 q p l e R s m args below meth c G Q H locs cells slots C1 S1 ls F P S E b hr)
theorem XW.post {Post' : Option Value → xH → Prop} (k : XW M d mc ms pc L st h Post') (hp : ∀ r h', Post' r h' → Post r h') : XW M d mc ms pc L st h Post := by
  intro p l e R s m args below meth c G Q H locs cells slots C1 S1 ls F P S E b hr
  exact k p l e R s m args below meth c G Q H locs cells slots C1 S1 ls F P S E b (fun pc ls r h' H' locs' hP => hr pc ls r h' H' locs' (hp r h' hP))
theorem XW.eqs {L' : xL} {st' : List Value} {h' : xH} (e1 : L = L') (e2 : st = st') (e3 : h = h') (k : XW M d mc ms pc L' st' h' Post) : XW M d mc ms pc L st h Post := by
  subst e1; subst e2; subst e3; exact k
/-- fewer locals are known -/
def xle : xL → xL → Bool
  | [], _ => true
  | _ :: _, [] => false
  | none :: a, _ :: b => xle a b
  | some v :: a, some w :: b => decide (v = w) && xle a b
  | some _ :: _, none :: _ => false
theorem XW.weakP {L' : xL} (hl : ∀ (i : Nat) (v : Value), L'[i]? = some (some v) → L[i]? = some (some v)) (k : XW M d mc ms pc L' st h Post) : XW M d mc ms pc L st h Post := by
  intro p l e R s m args below meth c G Q H locs cells slots C1 S1 ls F P S E b hr
  exact k p l e R s m args below meth c G Q H locs cells slots C1 S1 ls F P S ⟨E.1, E.2.1, fun i v q => E.2.2 i v (hl i v q)⟩ b hr
/-- fewer locals, as a list of which to keep -/
def xkeep : List Bool → xL → xL
  | _, [] => []
  | [], L => L
  | true :: b, o :: L => o :: xkeep b L
  | false :: b, _ :: L => none :: xkeep b L
theorem xkeep_le : ∀ (b : List Bool) (L : xL) (i : Nat) (v : Value), (xkeep b L)[i]? = some (some v) → L[i]? = some (some v)
  | [], [], i, v, h => by simp [xkeep] at h
  | _ :: _, [], i, v, h => by simp [xkeep] at h
  | [], _ :: _, i, v, h => h
  | true :: b, o :: L, 0, v, h => h
  | false :: b, o :: L, 0, v, h => by simp [xkeep] at h
  | true :: b, o :: L, i + 1, v, h => by
    simp only [xkeep, List.getElem?_cons_succ] at h ⊢
    exact xkeep_le b L i v h
  | false :: b, o :: L, i + 1, v, h => by
    simp only [xkeep, List.getElem?_cons_succ] at h ⊢
    exact xkeep_le b L i v h
theorem XW.weak {L' : xL} (b : List Bool) (e : xkeep b L = L') (k : XW M d mc ms pc L' st h Post) : XW M d mc ms pc L st h Post := by
  subst e; exact XW.weakP (xkeep_le b L) k
-- constants
theorem XW.iconst (pc' : Nat) {n : Int} {v : Int32} (hd : decode M.2.1 pc = .ok (.iconst n, 1)) (hv : Int32.ofInt n = v) (hp : pc + 1 = pc') (k : XW M d mc ms pc' L (.int v :: st) h Post) : XW M d mc ms pc L st h Post := by
  subst hp; exact XW.row (fun p l e R s m args below meth c G Q H locs cells slots ls F P S E k => lv_iconst F.1 F.2.1 hd hv k) k
theorem XW.bipush (pc' : Nat) {n : Int} {v : Int32} (hd : decode M.2.1 pc = .ok (.bipush n, 2)) (hv : (Int8.ofInt n).toInt32 = v) (hp : pc + 2 = pc') (k : XW M d mc ms pc' L (.int v :: st) h Post) : XW M d mc ms pc L st h Post := by
  subst hp; exact XW.row (fun p l e R s m args below meth c G Q H locs cells slots ls F P S E k => lv_bipush F.1 F.2.1 hd hv k) k
theorem XW.sipush (pc' : Nat) {n : Int} {v : Int32} (hd : decode M.2.1 pc = .ok (.sipush n, 3)) (hv : (Int16.ofInt n).toInt32 = v) (hp : pc + 3 = pc') (k : XW M d mc ms pc' L (.int v :: st) h Post) : XW M d mc ms pc L st h Post := by
  subst hp; exact XW.row (fun p l e R s m args below meth c G Q H locs cells slots ls F P S E k => lv_sipush F.1 F.2.1 hd hv k) k
theorem XW.ldci (pc' : Nat) {i : Nat} {v : Int32} (hw : Jvm.Cond.constant M.1.cls i v ∈ lw_good) (hd : decode M.2.1 pc = .ok (.ldc i, 2)) (hp : pc + 2 = pc') (k : XW M d mc ms pc' L (.int v :: st) h Post) : XW M d mc ms pc L st h Post := by
  subst hp; exact XW.row (fun p l e R s m args below meth c G Q H locs cells slots ls F P S E k => lv_ldc F.1 F.2.1 F.2.2.2.1 (F.2.2.2.2.1 _ hw) hd k) k
theorem XW.ldcwi (pc' : Nat) {i : Nat} {v : Int32} (hw : Jvm.Cond.constant M.1.cls i v ∈ lw_good) (hd : decode M.2.1 pc = .ok (.ldc_w i, 3)) (hp : pc + 3 = pc') (k : XW M d mc ms pc' L (.int v :: st) h Post) : XW M d mc ms pc L st h Post := by
  subst hp; exact XW.row (fun p l e R s m args below meth c G Q H locs cells slots ls F P S E k => lv_ldcw F.1 F.2.1 F.2.2.2.1 (F.2.2.2.2.1 _ hw) hd k) k
theorem XW.ldcf (pc' : Nat) {i : Nat} {v : UInt32} (hw : Jvm.Cond.constantFloat M.1.cls i v ∈ lw_good) (hd : decode M.2.1 pc = .ok (.ldc i, 2)) (hp : pc + 2 = pc') (k : XW M d mc ms pc' L (.float v :: st) h Post) : XW M d mc ms pc L st h Post := by
  subst hp; exact XW.row (fun p l e R s m args below meth c G Q H locs cells slots ls F P S E k => lv_ldcf F.1 F.2.1 F.2.2.2.1 (F.2.2.2.2.1 _ hw) hd k) k
theorem XW.ldc2 (pc' : Nat) {i : Nat} {v : Int64} (hw : Jvm.Cond.constantLong M.1.cls i v ∈ lw_good) (hd : decode M.2.1 pc = .ok (.ldc2_w i, 3)) (hp : pc + 3 = pc') (k : XW M d mc ms pc' L (.long v :: st) h Post) : XW M d mc ms pc L st h Post := by
  subst hp; exact XW.row (fun p l e R s m args below meth c G Q H locs cells slots ls F P S E k => lv_ldc2 F.1 F.2.1 F.2.2.2.1 (F.2.2.2.2.1 _ hw) hd k) k
theorem XW.fconst0 (pc' : Nat) (hd : decode M.2.1 pc = .ok (.fconst 0, 1)) (hp : pc + 1 = pc') (k : XW M d mc ms pc' L (.float FP.fconst0 :: st) h Post) : XW M d mc ms pc L st h Post := by
  subst hp; exact XW.row (fun p l e R s m args below meth c G Q H locs cells slots ls F P S E k => lv_fconst0 F.1 F.2.1 hd k) k
theorem XW.fconst1 (pc' : Nat) (hd : decode M.2.1 pc = .ok (.fconst 1, 1)) (hp : pc + 1 = pc') (k : XW M d mc ms pc' L (.float FP.fconst1 :: st) h Post) : XW M d mc ms pc L st h Post := by
  subst hp; exact XW.row (fun p l e R s m args below meth c G Q H locs cells slots ls F P S E k => lv_fconst1 F.1 F.2.1 hd k) k
theorem XW.fconst2 (pc' : Nat) (hd : decode M.2.1 pc = .ok (.fconst 2, 1)) (hp : pc + 1 = pc') (k : XW M d mc ms pc' L (.float FP.fconst2 :: st) h Post) : XW M d mc ms pc L st h Post := by
  subst hp; exact XW.row (fun p l e R s m args below meth c G Q H locs cells slots ls F P S E k => lv_fconst2 F.1 F.2.1 hd k) k
-- loads
theorem XW.iload_n (pc' : Nat) {n : Fin 4} {x : Int32} (hd : decode M.2.1 pc = .ok (.iload_n n, 1)) (hl : L[(n : Nat)]? = some (some (.int x))) (hp : pc + 1 = pc') (k : XW M d mc ms pc' L (.int x :: st) h Post) : XW M d mc ms pc L st h Post := by
  subst hp; exact XW.row (fun p l e R s m args below meth c G Q H locs cells slots ls F P S E k => lv_iload_n F.1 F.2.1 hd rfl (E.2.2 _ _ hl) k) k
theorem XW.iload (pc' : Nat) {n : Nat} {x : Int32} (hd : decode M.2.1 pc = .ok (.iload n, 2)) (hl : L[n]? = some (some (.int x))) (hp : pc + 2 = pc') (k : XW M d mc ms pc' L (.int x :: st) h Post) : XW M d mc ms pc L st h Post := by
  subst hp; exact XW.row (fun p l e R s m args below meth c G Q H locs cells slots ls F P S E k => lv_iload F.1 F.2.1 hd (E.2.2 _ _ hl) k) k
theorem XW.fload_n (pc' : Nat) {n : Fin 4} {x : UInt32} (hd : decode M.2.1 pc = .ok (.fload_n n, 1)) (hl : L[(n : Nat)]? = some (some (.float x))) (hp : pc + 1 = pc') (k : XW M d mc ms pc' L (.float x :: st) h Post) : XW M d mc ms pc L st h Post := by
  subst hp; exact XW.row (fun p l e R s m args below meth c G Q H locs cells slots ls F P S E k => lv_fload_n F.1 F.2.1 hd rfl (E.2.2 _ _ hl) k) k
theorem XW.fload (pc' : Nat) {n : Nat} {x : UInt32} (hd : decode M.2.1 pc = .ok (.fload n, 2)) (hl : L[n]? = some (some (.float x))) (hp : pc + 2 = pc') (k : XW M d mc ms pc' L (.float x :: st) h Post) : XW M d mc ms pc L st h Post := by
  subst hp; exact XW.row (fun p l e R s m args below meth c G Q H locs cells slots ls F P S E k => lv_fload F.1 F.2.1 hd (E.2.2 _ _ hl) k) k
theorem XW.lload_n (pc' : Nat) {n : Fin 4} {x : Int64} (hd : decode M.2.1 pc = .ok (.lload_n n, 1)) (hl : L[(n : Nat)]? = some (some (.long x))) (hp : pc + 1 = pc') (k : XW M d mc ms pc' L (.long x :: st) h Post) : XW M d mc ms pc L st h Post := by
  subst hp; exact XW.row (fun p l e R s m args below meth c G Q H locs cells slots ls F P S E k => lv_lload_n F.1 F.2.1 hd rfl (E.2.2 _ _ hl) k) k
theorem XW.aload_n (pc' : Nat) {n : Fin 4} {x : Nat} (hd : decode M.2.1 pc = .ok (.aload_n n, 1)) (hl : L[(n : Nat)]? = some (some (.ref x))) (hp : pc + 1 = pc') (k : XW M d mc ms pc' L (.ref x :: st) h Post) : XW M d mc ms pc L st h Post := by
  subst hp; exact XW.row (fun p l e R s m args below meth c G Q H locs cells slots ls F P S E k => lv_aload_n F.1 F.2.1 hd rfl (E.2.2 _ _ hl) k) k
theorem XW.aload_s (pc' : Nat) {n : Fin 4} {x : Nat} (hd : decode M.2.1 pc = .ok (.aload_n n, 1)) (hl : L[(n : Nat)]? = some (some (.retAddr x))) (hp : pc + 1 = pc') (k : XW M d mc ms pc' L (.retAddr x :: st) h Post) : XW M d mc ms pc L st h Post := by
  subst hp; exact XW.row (fun p l e R s m args below meth c G Q H locs cells slots ls F P S E k => lv_aload_n F.1 F.2.1 hd rfl (E.2.2 _ _ hl) k) k
theorem XW.aload (pc' : Nat) {n : Nat} {x : Nat} (hd : decode M.2.1 pc = .ok (.aload n, 2)) (hl : L[n]? = some (some (.ref x))) (hp : pc + 2 = pc') (k : XW M d mc ms pc' L (.ref x :: st) h Post) : XW M d mc ms pc L st h Post := by
  subst hp; exact XW.row (fun p l e R s m args below meth c G Q H locs cells slots ls F P S E k => lv_aload F.1 F.2.1 hd (E.2.2 _ _ hl) k) k
end XRows
end
section
/-! The rows, on: stores, arithmetic, branches -/
section XRows2
variable {M : xM} {d mc ms pc : Nat} {L : xL} {st : List Value} {h : xH} {Post : Option Value → xH → Prop}
def xen (G : xG) (L : xL) : List (Nat × Value) := L.zipIdx.filterMap (fun q => q.1.map (fun v => (q.2, xv G v)))
theorem mem_xen {G : xG} {L : xL} {i : Nat} {w : Value} : (i, w) ∈ xen G L ↔ ∃ v, L[i]? = some (some v) ∧ w = xv G v := by
  unfold xen
  rw [List.mem_filterMap]
  constructor
  · rintro ⟨⟨o, j⟩, hm, hq⟩
    have hm := List.mem_zipIdx_iff_getElem?.mp hm
    cases o with
    | none => cases hq
    | some v =>
      simp only [Option.map_some, Option.some.injEq, Prod.mk.injEq] at hq
      obtain ⟨rfl, rfl⟩ := hq
      exact ⟨v, hm, rfl⟩
  · rintro ⟨v, hv, rfl⟩
    exact ⟨(some v, i), List.mem_zipIdx_iff_getElem?.mpr hv, rfl⟩
theorem xls_has {G : xG} {ls : Array Slot} {n : Nat} {L : xL} (E : xls G ls n L) : lv_has ls n (xen G L) := by
  refine ⟨E.1, E.2.1, fun q hq => ?_⟩
  obtain ⟨i, w⟩ := q
  obtain ⟨v, hv, rfl⟩ := mem_xen.mp hq
  exact E.2.2 i v hv
/-- no long or double stands ahead of this place -/
def xno2 (L : xL) (i : Nat) : Bool := match i with
  | 0 => true
  | j + 1 => match L[j]? with
    | some (some v) => v.category == 1
    | _ => true
theorem xv_cat (G : xG) (v : Value) : (xv G v).category = v.category := by cases v <;> rfl
theorem xls_set {G : xG} {ls' : Array Slot} {n i : Nat} {L : xL} {v : Value} (h2 : xno2 L i = true) (E : lv_has ls' n ((i, xv G v) :: (xen G L).filter (fun q => !(q.1 == i) && !(q.1 + 1 == i && q.2.category == 2)))) : xls G ls' n (L.set i (some v)) := by
  refine ⟨E.1, E.2.1, fun j w hw => ?_⟩
  rw [List.getElem?_set] at hw
  by_cases e : i = j
  · subst e
    rw [if_pos rfl] at hw
    by_cases l : i < L.length
    · rw [if_pos l] at hw
      cases hw
      exact E.2.2 (i, xv G v) List.mem_cons_self
    · rw [if_neg l] at hw
      cases hw
  · rw [if_neg e] at hw
    refine E.2.2 (j, xv G w) (List.mem_cons_of_mem _ (List.mem_filter.mpr ⟨mem_xen.mpr ⟨w, hw, rfl⟩, ?_⟩))
    have e1 : (j == i) = false := by simp; exact fun q => e q.symm
    simp only [e1, xv_cat]
    by_cases e2 : j + 1 = i
    · subst e2
      simp only [xno2, hw] at h2
      have h3 : w.category = 1 := by simpa using h2
      simp [h3]
    · simp [e2]
/-- a long takes two places -/
theorem xls_set2 {G : xG} {ls' : Array Slot} {n i : Nat} {L : xL} {v : Value} (h2 : xno2 L i = true) (E : lv_has ls' n ((i, xv G v) :: (xen G L).filter (fun q => !(q.1 == i) && (!(q.1 == i + 1) && !(q.1 + 1 == i && q.2.category == 2))))) : xls G ls' n ((L.set i (some v)).set (i + 1) none) := by
  refine ⟨E.1, E.2.1, fun j w hw => ?_⟩
  rw [List.getElem?_set, List.getElem?_set] at hw
  by_cases f : i + 1 = j
  · rw [if_pos f] at hw
    split at hw <;> cases hw
  · rw [if_neg f] at hw
    by_cases e : i = j
    · subst e
      rw [if_pos rfl] at hw
      by_cases l : i < L.length
      · rw [if_pos l] at hw
        cases hw
        exact E.2.2 (i, xv G v) List.mem_cons_self
      · rw [if_neg l] at hw
        cases hw
    · rw [if_neg e] at hw
      refine E.2.2 (j, xv G w) (List.mem_cons_of_mem _ (List.mem_filter.mpr ⟨mem_xen.mpr ⟨w, hw, rfl⟩, ?_⟩))
      have e1 : (j == i) = false := by simp; exact fun q => e q.symm
      have e3 : (j == i + 1) = false := by simp; exact fun q => f q.symm
      simp only [e1, e3, xv_cat]
      by_cases e2 : j + 1 = i
      · subst e2
        simp only [xno2, hw] at h2
        have h3 : w.category = 1 := by simpa using h2
        simp [h3]
      · simp [e2]
theorem XW.rowL {pc' : Nat} {st' : List Value} {L' : xL}
    (row : ∀ (p : Program) (l : Launch) (e : Env) (R : Room) (s : State) (m : MethodId) (args : Array Value) (below : List Frame) (meth : Method) (c : Code) (G : xG) (Q : State → Prop) (H : Heap) (locs : List Loc) (cells slots : Nat) (ls : Array Slot),
      xF M d p R s m args meth c G → xls G ls M.2.2.1 L → (∀ ls' : Array Slot, xls G ls' M.2.2.1 L' → W p l e R s m args below meth c H locs cells slots Q (F0 m pc' ls' (st'.map (xv G)))) → W p l e R s m args below meth c H locs cells slots Q (F0 m pc ls (st.map (xv G))))
    (k : XW M d mc ms pc' L' st' h Post) : XW M d mc ms pc L st h Post := by
  intro p l e R s m args below meth c G Q H locs cells slots C1 S1 ls F P S E b hr
  exact row p l e R s m args below meth c G Q H locs cells slots ls F E (fun ls' E' => k p l e R s m args below meth c G Q H locs cells slots C1 S1 ls' F P S E' b hr)

theorem XW.istore_n (pc' : Nat) {n : Fin 4} {x : Int32} {L' : xL} (hd : decode M.2.1 pc = .ok (.istore_n n, 1)) (hn : (n : Nat) < M.2.2.1) (h2 : xno2 L (n : Nat) = true) (hl : L.set (n : Nat) (some (.int x)) = L') (hp : pc + 1 = pc') (k : XW M d mc ms pc' L' st h Post) : XW M d mc ms pc L (.int x :: st) h Post := by
  subst hp; subst hl; exact XW.rowL (fun p l e R s m args below meth c G Q H locs cells slots ls F E k => lv_istore_n F.1 F.2.1 hd rfl (xls_has E) hn rfl (fun ls' E' => k ls' (xls_set (v := .int x) h2 E'))) k
theorem XW.istore (pc' : Nat) {n : Nat} {x : Int32} {L' : xL} (hd : decode M.2.1 pc = .ok (.istore n, 2)) (hn : n < M.2.2.1) (h2 : xno2 L n = true) (hl : L.set n (some (.int x)) = L') (hp : pc + 2 = pc') (k : XW M d mc ms pc' L' st h Post) : XW M d mc ms pc L (.int x :: st) h Post := by
  subst hp; subst hl; exact XW.rowL (fun p l e R s m args below meth c G Q H locs cells slots ls F E k => lv_istore F.1 F.2.1 hd (xls_has E) hn rfl (fun ls' E' => k ls' (xls_set (v := .int x) h2 E'))) k
theorem XW.fstore_n (pc' : Nat) {n : Fin 4} {x : UInt32} {L' : xL} (hd : decode M.2.1 pc = .ok (.fstore_n n, 1)) (hn : (n : Nat) < M.2.2.1) (h2 : xno2 L (n : Nat) = true) (hl : L.set (n : Nat) (some (.float x)) = L') (hp : pc + 1 = pc') (k : XW M d mc ms pc' L' st h Post) : XW M d mc ms pc L (.float x :: st) h Post := by
  subst hp; subst hl; exact XW.rowL (fun p l e R s m args below meth c G Q H locs cells slots ls F E k => lv_fstore_n F.1 F.2.1 hd rfl (xls_has E) hn rfl (fun ls' E' => k ls' (xls_set (v := .float x) h2 E'))) k
theorem XW.fstore (pc' : Nat) {n : Nat} {x : UInt32} {L' : xL} (hd : decode M.2.1 pc = .ok (.fstore n, 2)) (hn : n < M.2.2.1) (h2 : xno2 L n = true) (hl : L.set n (some (.float x)) = L') (hp : pc + 2 = pc') (k : XW M d mc ms pc' L' st h Post) : XW M d mc ms pc L (.float x :: st) h Post := by
  subst hp; subst hl; exact XW.rowL (fun p l e R s m args below meth c G Q H locs cells slots ls F E k => lv_fstore F.1 F.2.1 hd (xls_has E) hn rfl (fun ls' E' => k ls' (xls_set (v := .float x) h2 E'))) k
theorem XW.astore_n (pc' : Nat) {n : Fin 4} {x : Nat} {L' : xL} (hd : decode M.2.1 pc = .ok (.astore_n n, 1)) (hn : (n : Nat) < M.2.2.1) (h2 : xno2 L (n : Nat) = true) (hl : L.set (n : Nat) (some (.ref x)) = L') (hp : pc + 1 = pc') (k : XW M d mc ms pc' L' st h Post) : XW M d mc ms pc L (.ref x :: st) h Post := by
  subst hp; subst hl; exact XW.rowL (fun p l e R s m args below meth c G Q H locs cells slots ls F E k => lv_astore_n F.1 F.2.1 hd rfl (xls_has E) hn rfl (fun ls' E' => k ls' (xls_set (v := .ref x) h2 E'))) k
theorem XW.lstore_n (pc' : Nat) {n : Fin 4} {x : Int64} {L' : xL} (hd : decode M.2.1 pc = .ok (.lstore_n n, 1)) (hn : (n : Nat) + 1 < M.2.2.1) (h2 : xno2 L (n : Nat) = true) (hl : (L.set (n : Nat) (some (.long x))).set ((n : Nat) + 1) none = L') (hp : pc + 1 = pc') (k : XW M d mc ms pc' L' st h Post) : XW M d mc ms pc L (.long x :: st) h Post := by
  subst hp; subst hl; exact XW.rowL (fun p l e R s m args below meth c G Q H locs cells slots ls F E k => lv_lstore_n F.1 F.2.1 hd rfl (xls_has E) hn rfl (fun ls' E' => k ls' (xls_set2 (v := .long x) h2 E'))) k
theorem XW.iinc (pc' : Nat) {n : Nat} {z : Int} {x y : Int32} {L' : xL} (hd : decode M.2.1 pc = .ok (.iinc n z, 3)) (hx : L[n]? = some (some (.int x))) (hv : x + Int32.ofInt z = y) (hn : n < M.2.2.1) (h2 : xno2 L n = true) (hl : L.set n (some (.int y)) = L') (hp : pc + 3 = pc') (k : XW M d mc ms pc' L' st h Post) : XW M d mc ms pc L st h Post := by
  subst hp; subst hl; subst hv
  refine XW.rowL (fun p l e R s m args below meth c G Q H locs cells slots ls F E k => ?_) k
  obtain ⟨k0, hk0⟩ := List.getElem?_of_mem (mem_xen.mpr ⟨_, hx, rfl⟩ : (n, xv G (.int x)) ∈ xen G L)
  exact lv_iinc F.1 F.2.1 hd (xls_has E) hk0 rfl hn rfl (fun ls' E' => k ls' (xls_set (v := .int (x + Int32.ofInt z)) h2 E'))
theorem XW.iadd (pc' : Nat) {x y : Int32} (hd : decode M.2.1 pc = .ok (.iadd, 1)) (hp : pc + 1 = pc') (k : XW M d mc ms pc' L (.int (x + y) :: st) h Post) : XW M d mc ms pc L (.int y :: .int x :: st) h Post := by
  subst hp; exact XW.row (fun p l e R s m args below meth c G Q H locs cells slots ls F P S E k => lv_iadd F.1 F.2.1 hd k) k
theorem XW.isub (pc' : Nat) {x y : Int32} (hd : decode M.2.1 pc = .ok (.isub, 1)) (hp : pc + 1 = pc') (k : XW M d mc ms pc' L (.int (x - y) :: st) h Post) : XW M d mc ms pc L (.int y :: .int x :: st) h Post := by
  subst hp; exact XW.row (fun p l e R s m args below meth c G Q H locs cells slots ls F P S E k => lv_isub F.1 F.2.1 hd k) k
theorem XW.imul (pc' : Nat) {x y : Int32} (hd : decode M.2.1 pc = .ok (.imul, 1)) (hp : pc + 1 = pc') (k : XW M d mc ms pc' L (.int (x * y) :: st) h Post) : XW M d mc ms pc L (.int y :: .int x :: st) h Post := by
  subst hp; exact XW.row (fun p l e R s m args below meth c G Q H locs cells slots ls F P S E k => lv_imul F.1 F.2.1 hd k) k
theorem XW.iand (pc' : Nat) {x y : Int32} (hd : decode M.2.1 pc = .ok (.iand, 1)) (hp : pc + 1 = pc') (k : XW M d mc ms pc' L (.int (x &&& y) :: st) h Post) : XW M d mc ms pc L (.int y :: .int x :: st) h Post := by
  subst hp; exact XW.row (fun p l e R s m args below meth c G Q H locs cells slots ls F P S E k => lv_iand F.1 F.2.1 hd k) k
theorem XW.ior (pc' : Nat) {x y : Int32} (hd : decode M.2.1 pc = .ok (.ior, 1)) (hp : pc + 1 = pc') (k : XW M d mc ms pc' L (.int (x ||| y) :: st) h Post) : XW M d mc ms pc L (.int y :: .int x :: st) h Post := by
  subst hp; exact XW.row (fun p l e R s m args below meth c G Q H locs cells slots ls F P S E k => lv_ior F.1 F.2.1 hd k) k
theorem XW.ixor (pc' : Nat) {x y : Int32} (hd : decode M.2.1 pc = .ok (.ixor, 1)) (hp : pc + 1 = pc') (k : XW M d mc ms pc' L (.int (x ^^^ y) :: st) h Post) : XW M d mc ms pc L (.int y :: .int x :: st) h Post := by
  subst hp; exact XW.row (fun p l e R s m args below meth c G Q H locs cells slots ls F P S E k => lv_ixor F.1 F.2.1 hd k) k
theorem XW.ishl (pc' : Nat) {x y : Int32} (hd : decode M.2.1 pc = .ok (.ishl, 1)) (hp : pc + 1 = pc') (k : XW M d mc ms pc' L (.int (x <<< (y &&& 31)) :: st) h Post) : XW M d mc ms pc L (.int y :: .int x :: st) h Post := by
  subst hp; exact XW.row (fun p l e R s m args below meth c G Q H locs cells slots ls F P S E k => lv_ishl F.1 F.2.1 hd k) k
theorem XW.ishr (pc' : Nat) {x y : Int32} (hd : decode M.2.1 pc = .ok (.ishr, 1)) (hp : pc + 1 = pc') (k : XW M d mc ms pc' L (.int (x >>> (y &&& 31)) :: st) h Post) : XW M d mc ms pc L (.int y :: .int x :: st) h Post := by
  subst hp; exact XW.row (fun p l e R s m args below meth c G Q H locs cells slots ls F P S E k => lv_ishr F.1 F.2.1 hd k) k
theorem XW.iushr (pc' : Nat) {x y : Int32} (hd : decode M.2.1 pc = .ok (.iushr, 1)) (hp : pc + 1 = pc') (k : XW M d mc ms pc' L (.int (x.toUInt32 >>> (y.toUInt32 &&& Int32.toUInt32 31)).toInt32 :: st) h Post) : XW M d mc ms pc L (.int y :: .int x :: st) h Post := by
  subst hp; exact XW.row (fun p l e R s m args below meth c G Q H locs cells slots ls F P S E k => lv_iushr F.1 F.2.1 hd rfl k) k
theorem XW.ineg (pc' : Nat) {x : Int32} (hd : decode M.2.1 pc = .ok (.ineg, 1)) (hp : pc + 1 = pc') (k : XW M d mc ms pc' L (.int (-x) :: st) h Post) : XW M d mc ms pc L (.int x :: st) h Post := by
  subst hp; exact XW.row (fun p l e R s m args below meth c G Q H locs cells slots ls F P S E k => lv_ineg F.1 F.2.1 hd k) k
theorem XW.i2l (pc' : Nat) {x : Int32} (hd : decode M.2.1 pc = .ok (.i2l, 1)) (hp : pc + 1 = pc') (k : XW M d mc ms pc' L (.long x.toInt64 :: st) h Post) : XW M d mc ms pc L (.int x :: st) h Post := by
  subst hp; exact XW.row (fun p l e R s m args below meth c G Q H locs cells slots ls F P S E k => lv_i2l F.1 F.2.1 hd rfl k) k
theorem XW.ladd (pc' : Nat) {x y : Int64} (hd : decode M.2.1 pc = .ok (.ladd, 1)) (hp : pc + 1 = pc') (k : XW M d mc ms pc' L (.long (x + y) :: st) h Post) : XW M d mc ms pc L (.long y :: .long x :: st) h Post := by
  subst hp; exact XW.row (fun p l e R s m args below meth c G Q H locs cells slots ls F P S E k => lv_ladd F.1 F.2.1 hd k) k
theorem XW.lmul (pc' : Nat) {x y : Int64} (hd : decode M.2.1 pc = .ok (.lmul, 1)) (hp : pc + 1 = pc') (k : XW M d mc ms pc' L (.long (x * y) :: st) h Post) : XW M d mc ms pc L (.long y :: .long x :: st) h Post := by
  subst hp; exact XW.row (fun p l e R s m args below meth c G Q H locs cells slots ls F P S E k => lv_lmul F.1 F.2.1 hd k) k
theorem XW.lcmp (pc' : Nat) {x y : Int64} (hd : decode M.2.1 pc = .ok (.lcmp, 1)) (hp : pc + 1 = pc') (k : XW M d mc ms pc' L (.int (lg_cmp x y) :: st) h Post) : XW M d mc ms pc L (.long y :: .long x :: st) h Post := by
  subst hp; exact XW.row (fun p l e R s m args below meth c G Q H locs cells slots ls F P S E k => W.lcmp F.1 F.2.1 hd k) k
theorem XW.fadd (pc' : Nat) {x y : UInt32} (hd : decode M.2.1 pc = .ok (.fadd, 1)) (hn : vf_n32 (FP.fadd x y)) (hp : pc + 1 = pc') (k : XW M d mc ms pc' L (.float (FP.fadd x y) :: st) h Post) : XW M d mc ms pc L (.float y :: .float x :: st) h Post := by
  subst hp; exact XW.row (fun p l e R s m args below meth c G Q H locs cells slots ls F P S E k => lv_fadd F.1 F.2.1 hd hn k) k
theorem XW.fsub (pc' : Nat) {x y : UInt32} (hd : decode M.2.1 pc = .ok (.fsub, 1)) (hn : vf_n32 (FP.fsub x y)) (hp : pc + 1 = pc') (k : XW M d mc ms pc' L (.float (FP.fsub x y) :: st) h Post) : XW M d mc ms pc L (.float y :: .float x :: st) h Post := by
  subst hp; exact XW.row (fun p l e R s m args below meth c G Q H locs cells slots ls F P S E k => lv_fsub F.1 F.2.1 hd hn k) k
theorem XW.fmul (pc' : Nat) {x y : UInt32} (hd : decode M.2.1 pc = .ok (.fmul, 1)) (hn : vf_n32 (FP.fmul x y)) (hp : pc + 1 = pc') (k : XW M d mc ms pc' L (.float (FP.fmul x y) :: st) h Post) : XW M d mc ms pc L (.float y :: .float x :: st) h Post := by
  subst hp; exact XW.row (fun p l e R s m args below meth c G Q H locs cells slots ls F P S E k => lv_fmul F.1 F.2.1 hd hn k) k
theorem XW.fdiv (pc' : Nat) {x y : UInt32} (hd : decode M.2.1 pc = .ok (.fdiv, 1)) (hn : vf_n32 (FP.fdiv x y)) (hp : pc + 1 = pc') (k : XW M d mc ms pc' L (.float (FP.fdiv x y) :: st) h Post) : XW M d mc ms pc L (.float y :: .float x :: st) h Post := by
  subst hp; exact XW.row (fun p l e R s m args below meth c G Q H locs cells slots ls F P S E k => lv_fdiv F.1 F.2.1 hd hn k) k
theorem XW.fneg (pc' : Nat) {x : UInt32} (hd : decode M.2.1 pc = .ok (.fneg, 1)) (hp : pc + 1 = pc') (k : XW M d mc ms pc' L (.float (FP.fneg x) :: st) h Post) : XW M d mc ms pc L (.float x :: st) h Post := by
  subst hp; exact XW.row (fun p l e R s m args below meth c G Q H locs cells slots ls F P S E k => lv_fneg F.1 F.2.1 hd k) k
theorem XW.fcmp (pc' : Nat) {x y : UInt32} {op : CmpOp} (hd : decode M.2.1 pc = .ok (.fcmp op, 1)) (hp : pc + 1 = pc') (k : XW M d mc ms pc' L (.int (Op.cmpValue (FP.fcmp x y) op) :: st) h Post) : XW M d mc ms pc L (.float y :: .float x :: st) h Post := by
  subst hp; exact XW.row (fun p l e R s m args below meth c G Q H locs cells slots ls F P S E k => lv_fcmp F.1 F.2.1 hd k) k
theorem XW.i2f (pc' : Nat) {x : Int32} (hd : decode M.2.1 pc = .ok (.i2f, 1)) (hp : pc + 1 = pc') (k : XW M d mc ms pc' L (.float (FP.i2f x) :: st) h Post) : XW M d mc ms pc L (.int x :: st) h Post := by
  subst hp; exact XW.row (fun p l e R s m args below meth c G Q H locs cells slots ls F P S E k => lv_i2f F.1 F.2.1 hd k) k
theorem XW.f2i (pc' : Nat) {x : UInt32} (hd : decode M.2.1 pc = .ok (.f2i, 1)) (hp : pc + 1 = pc') (k : XW M d mc ms pc' L (.int (FP.f2i x) :: st) h Post) : XW M d mc ms pc L (.float x :: st) h Post := by
  subst hp; exact XW.row (fun p l e R s m args below meth c G Q H locs cells slots ls F P S E k => lv_f2i F.1 F.2.1 hd k) k
theorem XW.dup (pc' : Nat) {v : Value} (hd : decode M.2.1 pc = .ok (.dup, 1)) (hv : v.category = 1) (hp : pc + 1 = pc') (k : XW M d mc ms pc' L (v :: v :: st) h Post) : XW M d mc ms pc L (v :: st) h Post := by
  subst hp; exact XW.row (fun p l e R s m args below meth c G Q H locs cells slots ls F P S E k => lv_dup F.1 F.2.1 hd ((xv_cat G v).trans hv) k) k
theorem XW.pop (pc' : Nat) {v : Value} (hd : decode M.2.1 pc = .ok (.pop, 1)) (hv : v.category = 1) (hp : pc + 1 = pc') (k : XW M d mc ms pc' L st h Post) : XW M d mc ms pc L (v :: st) h Post := by
  subst hp; exact XW.row (fun p l e R s m args below meth c G Q H locs cells slots ls F P S E k => lv_pop F.1 F.2.1 hd ((xv_cat G v).trans hv) k) k
theorem XW.dup2 (pc' : Nat) {v w : Value} (hd : decode M.2.1 pc = .ok (.dup2, 1)) (hv : v.category = 1) (hw : w.category = 1) (hp : pc + 1 = pc') (k : XW M d mc ms pc' L (v :: w :: v :: w :: st) h Post) : XW M d mc ms pc L (v :: w :: st) h Post := by
  subst hp; exact XW.row (fun p l e R s m args below meth c G Q H locs cells slots ls F P S E k => lv_dup2_11 F.1 F.2.1 hd ((xv_cat G v).trans hv) ((xv_cat G w).trans hw) k) k
theorem XW.if_eq (t f : Nat) {x : Int32} {off : Int} (hd : decode M.2.1 pc = .ok (.ifCond .eq off, 3)) (ht : (pc : Int) + off = (t : Int)) (hp : pc + 3 = f) (kt : x = 0 → XW M d mc ms t L st h Post) (kf : ¬ x = 0 → XW M d mc ms f L st h Post) : XW M d mc ms pc L (.int x :: st) h Post := by
  subst hp; exact XW.row2 (fun p l e R s m args below meth c G Q H locs cells slots ls F k1 k2 => lv_if_eq F.1 F.2.1 hd ht k1 k2) kt kf
theorem XW.icmp_eq (t f : Nat) {x y : Int32} {off : Int} (hd : decode M.2.1 pc = .ok (.if_icmp .eq off, 3)) (ht : (pc : Int) + off = (t : Int)) (hp : pc + 3 = f) (kt : x = y → XW M d mc ms t L st h Post) (kf : ¬ x = y → XW M d mc ms f L st h Post) : XW M d mc ms pc L (.int y :: .int x :: st) h Post := by
  subst hp; exact XW.row2 (fun p l e R s m args below meth c G Q H locs cells slots ls F k1 k2 => lv_icmp_eq F.1 F.2.1 hd ht k1 k2) kt kf
theorem XW.if_ne (t f : Nat) {x : Int32} {off : Int} (hd : decode M.2.1 pc = .ok (.ifCond .ne off, 3)) (ht : (pc : Int) + off = (t : Int)) (hp : pc + 3 = f) (kt : ¬ x = 0 → XW M d mc ms t L st h Post) (kf : x = 0 → XW M d mc ms f L st h Post) : XW M d mc ms pc L (.int x :: st) h Post := by
  subst hp; exact XW.row2 (fun p l e R s m args below meth c G Q H locs cells slots ls F k1 k2 => lv_if_ne F.1 F.2.1 hd ht k1 k2) kt kf
theorem XW.icmp_ne (t f : Nat) {x y : Int32} {off : Int} (hd : decode M.2.1 pc = .ok (.if_icmp .ne off, 3)) (ht : (pc : Int) + off = (t : Int)) (hp : pc + 3 = f) (kt : ¬ x = y → XW M d mc ms t L st h Post) (kf : x = y → XW M d mc ms f L st h Post) : XW M d mc ms pc L (.int y :: .int x :: st) h Post := by
  subst hp; exact XW.row2 (fun p l e R s m args below meth c G Q H locs cells slots ls F k1 k2 => lv_icmp_ne F.1 F.2.1 hd ht k1 k2) kt kf
theorem XW.if_lt (t f : Nat) {x : Int32} {off : Int} (hd : decode M.2.1 pc = .ok (.ifCond .lt off, 3)) (ht : (pc : Int) + off = (t : Int)) (hp : pc + 3 = f) (kt : x < 0 → XW M d mc ms t L st h Post) (kf : ¬ x < 0 → XW M d mc ms f L st h Post) : XW M d mc ms pc L (.int x :: st) h Post := by
  subst hp; exact XW.row2 (fun p l e R s m args below meth c G Q H locs cells slots ls F k1 k2 => lv_if_lt F.1 F.2.1 hd ht k1 k2) kt kf
theorem XW.icmp_lt (t f : Nat) {x y : Int32} {off : Int} (hd : decode M.2.1 pc = .ok (.if_icmp .lt off, 3)) (ht : (pc : Int) + off = (t : Int)) (hp : pc + 3 = f) (kt : x < y → XW M d mc ms t L st h Post) (kf : ¬ x < y → XW M d mc ms f L st h Post) : XW M d mc ms pc L (.int y :: .int x :: st) h Post := by
  subst hp; exact XW.row2 (fun p l e R s m args below meth c G Q H locs cells slots ls F k1 k2 => lv_icmp_lt F.1 F.2.1 hd ht k1 k2) kt kf
theorem XW.if_ge (t f : Nat) {x : Int32} {off : Int} (hd : decode M.2.1 pc = .ok (.ifCond .ge off, 3)) (ht : (pc : Int) + off = (t : Int)) (hp : pc + 3 = f) (kt : 0 ≤ x → XW M d mc ms t L st h Post) (kf : ¬ 0 ≤ x → XW M d mc ms f L st h Post) : XW M d mc ms pc L (.int x :: st) h Post := by
  subst hp; exact XW.row2 (fun p l e R s m args below meth c G Q H locs cells slots ls F k1 k2 => lv_if_ge F.1 F.2.1 hd ht k1 k2) kt kf
theorem XW.icmp_ge (t f : Nat) {x y : Int32} {off : Int} (hd : decode M.2.1 pc = .ok (.if_icmp .ge off, 3)) (ht : (pc : Int) + off = (t : Int)) (hp : pc + 3 = f) (kt : y ≤ x → XW M d mc ms t L st h Post) (kf : ¬ y ≤ x → XW M d mc ms f L st h Post) : XW M d mc ms pc L (.int y :: .int x :: st) h Post := by
  subst hp; exact XW.row2 (fun p l e R s m args below meth c G Q H locs cells slots ls F k1 k2 => lv_icmp_ge F.1 F.2.1 hd ht k1 k2) kt kf
theorem XW.if_gt (t f : Nat) {x : Int32} {off : Int} (hd : decode M.2.1 pc = .ok (.ifCond .gt off, 3)) (ht : (pc : Int) + off = (t : Int)) (hp : pc + 3 = f) (kt : 0 < x → XW M d mc ms t L st h Post) (kf : ¬ 0 < x → XW M d mc ms f L st h Post) : XW M d mc ms pc L (.int x :: st) h Post := by
  subst hp; exact XW.row2 (fun p l e R s m args below meth c G Q H locs cells slots ls F k1 k2 => lv_if_gt F.1 F.2.1 hd ht k1 k2) kt kf
theorem XW.icmp_gt (t f : Nat) {x y : Int32} {off : Int} (hd : decode M.2.1 pc = .ok (.if_icmp .gt off, 3)) (ht : (pc : Int) + off = (t : Int)) (hp : pc + 3 = f) (kt : y < x → XW M d mc ms t L st h Post) (kf : ¬ y < x → XW M d mc ms f L st h Post) : XW M d mc ms pc L (.int y :: .int x :: st) h Post := by
  subst hp; exact XW.row2 (fun p l e R s m args below meth c G Q H locs cells slots ls F k1 k2 => lv_icmp_gt F.1 F.2.1 hd ht k1 k2) kt kf
theorem XW.if_le (t f : Nat) {x : Int32} {off : Int} (hd : decode M.2.1 pc = .ok (.ifCond .le off, 3)) (ht : (pc : Int) + off = (t : Int)) (hp : pc + 3 = f) (kt : x ≤ 0 → XW M d mc ms t L st h Post) (kf : ¬ x ≤ 0 → XW M d mc ms f L st h Post) : XW M d mc ms pc L (.int x :: st) h Post := by
  subst hp; exact XW.row2 (fun p l e R s m args below meth c G Q H locs cells slots ls F k1 k2 => lv_if_le F.1 F.2.1 hd ht k1 k2) kt kf
theorem XW.icmp_le (t f : Nat) {x y : Int32} {off : Int} (hd : decode M.2.1 pc = .ok (.if_icmp .le off, 3)) (ht : (pc : Int) + off = (t : Int)) (hp : pc + 3 = f) (kt : x ≤ y → XW M d mc ms t L st h Post) (kf : ¬ x ≤ y → XW M d mc ms f L st h Post) : XW M d mc ms pc L (.int y :: .int x :: st) h Post := by
  subst hp; exact XW.row2 (fun p l e R s m args below meth c G Q H locs cells slots ls F k1 k2 => lv_icmp_le F.1 F.2.1 hd ht k1 k2) kt kf
theorem XW.goto (t : Nat) {off : Int} (hd : decode M.2.1 pc = .ok (.goto off, 3)) (ht : (pc : Int) + off = (t : Int)) (k : XW M d mc ms t L st h Post) : XW M d mc ms pc L st h Post := XW.row (fun p l e R s m args below meth c G Q H locs cells slots ls F P S E k => lv_goto F.1 F.2.1 hd ht k) k
theorem XW.tableIn (t : Nat) {df lo hi : Int} {offs : Array Int} {len : Nat} {x : Int32} {off : Int} (hd : decode M.2.1 pc = .ok (.tableswitch df lo hi offs, len)) (h1 : ¬ x.toInt < lo) (h2 : ¬ hi < x.toInt) (ho : offs[(x.toInt - lo).toNat]? = some off) (ht : (pc : Int) + off = (t : Int)) (k : XW M d mc ms t L st h Post) : XW M d mc ms pc L (.int x :: st) h Post := XW.row (fun p l e R s m args below meth c G Q H locs cells slots ls F P S E k => lv_tableIn F.1 F.2.1 hd h1 h2 ho ht k) k
theorem XW.tableOut (t : Nat) {df lo hi : Int} {offs : Array Int} {len : Nat} {x : Int32} (hd : decode M.2.1 pc = .ok (.tableswitch df lo hi offs, len)) (h1 : x.toInt < lo ∨ hi < x.toInt) (ht : (pc : Int) + df = (t : Int)) (k : XW M d mc ms t L st h Post) : XW M d mc ms pc L (.int x :: st) h Post := XW.row (fun p l e R s m args below meth c G Q H locs cells slots ls F P S E k => lv_tableOut F.1 F.2.1 hd h1 ht k) k
theorem XW.lookup (t : Nat) {df : Int} {ps : Array (Int × Int)} {len : Nat} {x : Int32} {off : Int} (hd : decode M.2.1 pc = .ok (.lookupswitch df ps, len)) (hq : (ps.toList.zip (ps.toList.drop 1)).all (fun (a, next) => a.1 < next.1) = true) (ho : Op.lookupswitch.offset ps.toList df x.toInt = off) (ht : (pc : Int) + off = (t : Int)) (k : XW M d mc ms t L st h Post) : XW M d mc ms pc L (.int x :: st) h Post := XW.row (fun p l e R s m args below meth c G Q H locs cells slots ls F P S E k => lv_lookup F.1 F.2.1 hd hq ho ht k) k
end XRows2
end
section
/-! The rows, on: fields, arrays, making -/
section XRows3
variable {M : xM} {d mc ms pc : Nat} {L : xL} {st : List Value} {h : xH} {Post : Option Value → xH → Prop}
/-- a field's link: in the class itself, or of a nest mate -/
def xFd (own : String) (idx ci j : Nat) : Prop := ∃ (C : String) (T : u_T) (N : Nat), vwCl[ci]? = some (C, T, N) ∧ (∀ w ∈ u_ws C T N, w ∈ lw_good) ∧ j < N ∧ (Cond.fieldLink own idx (T j).1 (T j).2.1 (T j).2.2.1 ∈ lw_good ∨ Cond.fieldLinkNest own idx (T j).1 (T j).2.1 (T j).2.2.1 RX3 ∈ lw_nest)
theorem XW.getf (pc' : Nat) {idx ci j o : Nat} {fs : List Value} {v : Value} (hw : xFd M.1.cls idx ci j) (hd : decode M.2.1 pc = .ok (.getfield idx, 3)) (hh : h[o]? = some (.inr (ci, fs))) (hv : fs[j]? = some v) (hp : pc + 3 = pc') (k : XW M d mc ms pc' L (v :: st) h Post) : XW M d mc ms pc L (.ref o :: st) h Post := by
  subst hp
  obtain ⟨C, T, N, hc, hin, hj, hl⟩ := hw
  refine XW.row (fun p l e R s m args below meth c G Q H locs cells slots ls F P S E k => ?_) k
  have hv' : (fs.map (xv G))[j]? = some (xv G v) := by rw [List.getElem?_map, hv]; rfl
  rcases hl with hl | hl
  · exact va_get F.1 F.2.1 F.2.2.2.2.1 hin F.2.2.2.1 F.2.2.2.2.2.1.1 P o (xw_get hh) hc j hj (F.2.2.2.2.1 _ hl) (fun _ h9 => h9) hv' hd k
  · exact va_getN F.1 F.2.1 F.2.2.2.2.1 hin F.2.2.2.1 F.2.2.2.2.2.1.1 P o (xw_get hh) hc j hj ((F.2.2.2.2.2.1.2.1 _ hl).use rfl) (fun _ h9 => h9) hv' hd k
theorem XW.rowH {pc' : Nat} {st' : List Value} {h' : xH} (hl : h'.length = h.length)
    (row : ∀ (p : Program) (l : Launch) (e : Env) (R : Room) (s : State) (m : MethodId) (args : Array Value) (below : List Frame) (meth : Method) (c : Code) (G : xG) (Q : State → Prop) (H : Heap) (locs : List Loc) (cells slots : Nat) (ls : Array Slot),
      xF M d p R s m args meth c G → xP G h H → va_S (xA G) s.heap H locs → xls G ls M.2.2.1 L → (∀ (H1 : Heap) (locs1 : List Loc), xP G h' H1 → va_S (xA G) s.heap H1 locs1 → W p l e R s m args below meth c H1 locs1 cells slots Q (F0 m pc' ls (st'.map (xv G)))) → W p l e R s m args below meth c H locs cells slots Q (F0 m pc ls (st.map (xv G))))
    (k : XW M d mc ms pc' L st' h' Post) : XW M d mc ms pc L st h Post := by
  intro p l e R s m args below meth c G Q H locs cells slots C1 S1 ls F P S E b hr
  exact row p l e R s m args below meth c G Q H locs cells slots ls F P S E (fun H1 locs1 P1 S1' => k p l e R s m args below meth c G Q H1 locs1 cells slots C1 S1 ls F P1 S1' E ⟨b.1, b.2.1, b.2.2.1, b.2.2.2.1, by rw [hl]; exact b.2.2.2.2⟩ hr)
theorem xe_set (G : xG) (ci j : Nat) (fs : List Value) (v : Value) : xe G (.inr (ci, fs.set j v)) = .inr (ci, (fs.map (xv G)).set j (xv G v)) := by
  show Sum.inr (ci, (fs.set j v).map (xv G)) = _
  rw [List.map_set]
/-- a value that a field of this type takes -/
def xfit (ty : FieldType) (v : Value) : Prop := ∀ G : xG, narrow ty (xv G v) = xv G v ∧ fits ty (xv G v) = true
theorem xfit_i (x : Int32) : xfit .int (.int x) := fun _ => ⟨rfl, rfl⟩
theorem xfit_l (x : Int64) : xfit .long (.long x) := fun _ => ⟨rfl, rfl⟩
theorem xfit_a (t : FieldType) (x : Nat) : xfit (.array t) (.ref x) := fun _ => ⟨rfl, rfl⟩
theorem xfit_o (t : String) (x : Nat) : xfit (.object t) (.ref x) := fun _ => ⟨rfl, rfl⟩
/-- a field that may be written: not final, or final and its class's own, in a constructor -/
def xFp (own name : String) (idx ci j : Nat) (ty : FieldType) : Prop := ∃ (C : String) (T : u_T) (N : Nat) (ty0 : Nat → FieldType), vwCl[ci]? = some (C, T, N) ∧ (∀ w ∈ u_ws C T N, w ∈ lw_good) ∧ j < N ∧ (∀ k, k < N → parseFieldDescriptor (T k).2.2.1 = some (ty0 k)) ∧ (∀ a, a < N → ∀ b, b < N → a ≠ b → (T a).2.1 ≠ (T b).2.1) ∧ parseFieldDescriptor (T j).2.2.1 = some ty ∧
  (((T j).2.2.2 = false ∧ Cond.fieldLink own idx (T j).1 (T j).2.1 (T j).2.2.1 ∈ lw_good) ∨ ((T j).2.2.2 = false ∧ Cond.fieldLinkNest own idx (T j).1 (T j).2.1 (T j).2.2.1 RX3 ∈ lw_nest) ∨ ((T j).2.2.2 = true ∧ (T j).1 = own ∧ name = "<init>" ∧ Cond.fieldLink own idx (T j).1 (T j).2.1 (T j).2.2.1 ∈ lw_good))
theorem XW.putf (pc' : Nat) {idx ci j o : Nat} {fs : List Value} {v : Value} {ty : FieldType} {h' : xH} (hw : xFp M.1.cls M.1.name idx ci j ty) (hd : decode M.2.1 pc = .ok (.putfield idx, 3)) (hh : h[o]? = some (.inr (ci, fs))) (hj : j < fs.length) (hf : xfit ty v) (he : h.set o (.inr (ci, fs.set j v)) = h') (hp : pc + 3 = pc') (k : XW M d mc ms pc' L st h' Post) : XW M d mc ms pc L (v :: .ref o :: st) h Post := by
  subst hp; subst he
  obtain ⟨C, T, N, ty0, hc, hin, hjN, hty, hnm, hpd, hl⟩ := hw
  refine XW.rowH (by rw [List.length_set]) (fun p l e R s m args below meth c G Q H locs cells slots ls F P S E k => ?_) k
  have hl0 : j < (fs.map (xv G)).length := by rw [List.length_map]; exact hj
  have fin : ∀ (H1 : Heap) (locs1 : List Loc), va_P G.1 vwCl ((xw G h).set o (G.2.2.1 + o, .inr (ci, (fs.map (xv G)).set j (xv G v)))) H1 → va_D (xA G) ((xw G h).set o (G.2.2.1 + o, .inr (ci, (fs.map (xv G)).set j (xv G v)))) → va_S (xA G) s.heap H1 locs1 → W p l e R s m args below meth c H1 locs1 cells slots Q (F0 m (pc + 3) ls (st.map (xv G))) := by
    intro H1 locs1 hP _ hS
    rw [← xe_set, xw_set] at hP
    exact k H1 locs1 hP hS
  rcases hl with ⟨hfn, hl⟩ | ⟨hfn, hl⟩ | ⟨hfn, hdc, hin2, hl⟩
  · exact va_put F.1 F.2.1 F.2.2.2.2.1 hin ty0 hty hnm F.2.2.2.1 F.2.2.2.2.2.1.1 P (xw_D G h) S o (xw_get hh) hc j hjN (F.2.2.2.2.1 _ hl) (fun _ h9 => h9) hfn hpd (hf G).1 (hf G).2 hl0 hd fin
  · exact va_putN F.1 F.2.1 F.2.2.2.2.1 hin ty0 hty hnm F.2.2.2.1 F.2.2.2.2.2.1.1 P (xw_D G h) S o (xw_get hh) hc j hjN ((F.2.2.2.2.2.1.2.1 _ hl).use rfl) (fun _ h9 => h9) hfn hpd (hf G).1 (hf G).2 hl0 hd fin
  · exact va_putF F.1 F.2.1 F.2.2.2.2.1 hin ty0 hty hnm F.2.2.2.1 F.2.2.2.2.2.1.1 P (xw_D G h) S o (xw_get hh) hc j hjN (F.2.2.2.2.1 _ hl) (fun _ h9 => h9) hfn (F.2.2.2.2.2.2.2.1.trans hin2) hdc hpd (hf G).1 (hf G).2 hl0 hd fin
-- arrays
theorem xP_set {G : xG} {h : xH} {H1 : Heap} {o : Nat} {c : xC} (hP : va_P G.1 vwCl ((xw G h).set o (G.2.2.1 + o, xe G c)) H1) : xP G (h.set o c) H1 := by
  rw [xw_set] at hP; exact hP
theorem XW.iald (pc' : Nat) {o n : Nat} {f : Nat → Int32} {i : Int32} (j : Nat) (hd : decode M.2.1 pc = .ok (.iaload, 1)) (hh : h[o]? = some (.inl (n, .inl f))) (hi : i = nI j) (hj : j < n) (hn : n < 2 ^ 31) (hp : pc + 1 = pc') (k : XW M d mc ms pc' L (.int (f j) :: st) h Post) : XW M d mc ms pc L (.int i :: .ref o :: st) h Post := by
  subst hp; subst hi
  have hc : (nI j).toNatClampNeg = j := nI_clamp (by omega)
  refine XW.row (fun p l e R s m args below meth c G Q H locs cells slots ls F P S E k => ?_) k
  refine va_iald (i := nI j) F.1 F.2.1 F.2.2.2.2.2.1.1 P o 0 (xw_get hh) rfl (vp_in_nI hj hn) hd ?_
  rw [hc]; exact k
theorem XW.sald (pc' : Nat) {x n : Nat} {f : Nat → Int32} {i : Int32} (j : Nat) (hm : M.2.2.2.2 = some (n, f)) (hd : decode M.2.1 pc = .ok (.iaload, 1)) (hi : i = nI j) (hj : j < n) (hn : n < 2 ^ 31) (hp : pc + 1 = pc') (k : XW M d mc ms pc' L (.int (f j) :: st) h Post) : XW M d mc ms pc L (.int i :: .retAddr x :: st) h Post := by
  subst hp; subst hi
  have hc : (nI j).toNatClampNeg = j := nI_clamp (by omega)
  refine XW.row (fun p l e R s m args below meth c G Q H locs cells slots ls F P S E k => ?_) k
  have hX := F.2.2.2.2.2.2.2.2.2.1
  unfold xX at hX
  rw [hm] at hX
  refine va_sld (i := nI j) F.1 F.2.1 hX.1 hX.2.1 (Nat.not_le.mpr hX.2.2) S (vp_in_nI hj hn) hd ?_
  rw [hc]; exact k
theorem XW.slen (pc' : Nat) {x n : Nat} {f : Nat → Int32} (hm : M.2.2.2.2 = some (n, f)) (hd : decode M.2.1 pc = .ok (.arraylength, 1)) (hp : pc + 1 = pc') (k : XW M d mc ms pc' L (.int (nI n) :: st) h Post) : XW M d mc ms pc L (.retAddr x :: st) h Post := by
  subst hp
  refine XW.row (fun p l e R s m args below meth c G Q H locs cells slots ls F P S E k => ?_) k
  have hX := F.2.2.2.2.2.2.2.2.2.1
  unfold xX at hX
  rw [hm] at hX
  exact va_slen F.1 F.2.1 hX.1 hX.2.1 (Nat.not_le.mpr hX.2.2) S hd k
theorem XW.fald (pc' : Nat) {o n : Nat} {f : Nat → UInt32} {i : Int32} (j : Nat) (hd : decode M.2.1 pc = .ok (.faload, 1)) (hh : h[o]? = some (.inl (n, .inr (.inr (.inl f))))) (hi : i = nI j) (hj : j < n) (hn : n < 2 ^ 31) (hp : pc + 1 = pc') (k : XW M d mc ms pc' L (.float (f j) :: st) h Post) : XW M d mc ms pc L (.int i :: .ref o :: st) h Post := by
  subst hp; subst hi
  have hc : (nI j).toNatClampNeg = j := nI_clamp (by omega)
  refine XW.row (fun p l e R s m args below meth c G Q H locs cells slots ls F P S E k => ?_) k
  refine va_fald (i := nI j) F.1 F.2.1 F.2.2.2.2.2.1.1 P o 1 (xw_get hh) rfl (vp_in_nI hj hn) hd ?_
  rw [hc]; exact k
theorem XW.aald (pc' : Nat) {o n q : Nat} {f : Nat → Option Nat} {i : Int32} (j : Nat) (hd : decode M.2.1 pc = .ok (.aaload, 1)) (hh : h[o]? = some (.inl (n, .inr (.inr (.inr (.inr f)))))) (hi : i = nI j) (hj : j < n) (hn : n < 2 ^ 31) (hq : f j = some q) (hp : pc + 1 = pc') (k : XW M d mc ms pc' L (.ref q :: st) h Post) : XW M d mc ms pc L (.int i :: .ref o :: st) h Post := by
  subst hp; subst hi
  have hc : (nI j).toNatClampNeg = j := nI_clamp (by omega)
  refine XW.row (fun p l e R s m args below meth c G Q H locs cells slots ls F P S E k => ?_) k
  refine va_aldq (i := nI j) F.1 F.2.1 F.2.2.2.2.2.1.1 P o 2 (xw_get hh) rfl (vp_in_nI hj hn) hd ?_
  rw [hc]
  simp only [hq, Option.map_some]
  exact k
theorem XW.alen (pc' : Nat) {o : Nat} {a : vp_A} {v : Int32} (hd : decode M.2.1 pc = .ok (.arraylength, 1)) (hh : h[o]? = some (.inl a)) (hv : Int32.ofNat a.1 = v) (hp : pc + 1 = pc') (k : XW M d mc ms pc' L (.int v :: st) h Post) : XW M d mc ms pc L (.ref o :: st) h Post := by
  subst hp; subst hv
  refine XW.row (fun p l e R s m args below meth c G Q H locs cells slots ls F P S E k => ?_) k
  obtain ⟨n, f | f | f | f | f⟩ := a
  · exact va_alen F.1 F.2.1 F.2.2.2.2.2.1.1 P o 0 (xw_get hh) rfl rfl hd k
  · exact va_alen F.1 F.2.1 F.2.2.2.2.2.1.1 P o 0 (xw_get hh) rfl rfl hd k
  · exact va_alen F.1 F.2.1 F.2.2.2.2.2.1.1 P o 1 (xw_get hh) rfl rfl hd k
  · exact va_alen F.1 F.2.1 F.2.2.2.2.2.1.1 P o 1 (xw_get hh) rfl rfl hd k
  · exact va_alen F.1 F.2.1 F.2.2.2.2.2.1.1 P o 2 (xw_get hh) rfl rfl hd k
theorem XW.iast (pc' : Nat) {o n : Nat} {f : Nat → Int32} {i x : Int32} {h' : xH} (j : Nat) (hd : decode M.2.1 pc = .ok (.iastore, 1)) (hh : h[o]? = some (.inl (n, .inl f))) (hi : i = nI j) (hj : j < n) (hn : n < 2 ^ 31) (he : h.set o (.inl (n, .inl (upd f j x))) = h') (hp : pc + 1 = pc') (k : XW M d mc ms pc' L st h' Post) : XW M d mc ms pc L (.int x :: .int i :: .ref o :: st) h Post := by
  subst hp; subst hi; subst he
  have hc : (nI j).toNatClampNeg = j := nI_clamp (by omega)
  refine XW.rowH (by rw [List.length_set]) (fun p l e R s m args below meth c G Q H locs cells slots ls F P S E k => ?_) k
  refine va_iast (i := nI j) F.1 F.2.1 F.2.2.2.2.2.1.1 P (xw_D G h) S o 0 (xw_get hh) rfl (vp_in_nI hj hn) hd (fun H1 locs1 hP _ hS => ?_)
  rw [hc] at hP
  exact k H1 locs1 (xP_set (c := .inl (n, .inl (upd f j x))) hP) hS
theorem XW.fast (pc' : Nat) {o n : Nat} {f : Nat → UInt32} {i : Int32} {x : UInt32} {h' : xH} (j : Nat) (hd : decode M.2.1 pc = .ok (.fastore, 1)) (hh : h[o]? = some (.inl (n, .inr (.inr (.inl f))))) (hi : i = nI j) (hj : j < n) (hn : n < 2 ^ 31) (he : h.set o (.inl (n, .inr (.inr (.inl (vf_upd f j x))))) = h') (hp : pc + 1 = pc') (k : XW M d mc ms pc' L st h' Post) : XW M d mc ms pc L (.float x :: .int i :: .ref o :: st) h Post := by
  subst hp; subst hi; subst he
  have hc : (nI j).toNatClampNeg = j := nI_clamp (by omega)
  refine XW.rowH (by rw [List.length_set]) (fun p l e R s m args below meth c G Q H locs cells slots ls F P S E k => ?_) k
  refine va_fast (i := nI j) F.1 F.2.1 F.2.2.2.2.2.1.1 P (xw_D G h) S o 1 (xw_get hh) rfl (vp_in_nI hj hn) hd (fun H1 locs1 hP _ hS => ?_)
  rw [hc] at hP
  exact k H1 locs1 (xP_set (c := .inl (n, .inr (.inr (.inl (vf_upd f j x))))) hP) hS
theorem XW.aast (pc' : Nat) {o n q : Nat} {f : Nat → Option Nat} {i : Int32} {fs : List Value} {h' : xH} (j : Nat) (hd : decode M.2.1 pc = .ok (.aastore, 1)) (hh : h[o]? = some (.inl (n, .inr (.inr (.inr (.inr f)))))) (hq : h[q]? = some (.inr (1, fs))) (hi : i = nI j) (hj : j < n) (hn : n < 2 ^ 31) (he : h.set o (.inl (n, .inr (.inr (.inr (.inr (va_up f j (some q))))))) = h') (hp : pc + 1 = pc') (k : XW M d mc ms pc' L st h' Post) : XW M d mc ms pc L (.ref q :: .int i :: .ref o :: st) h Post := by
  subst hp; subst hi; subst he
  have hc : (nI j).toNatClampNeg = j := nI_clamp (by omega)
  refine XW.rowH (by rw [List.length_set]) (fun p l e R s m args below meth c G Q H locs cells slots ls F P S E k => ?_) k
  refine va_astq (i := nI j) F.1 F.2.1 F.2.2.2.2.2.1.1 P (xw_D G h) S o 2 q 1 (r := (RX1, TX1, 8)) (xw_get hh) rfl (xw_get hq) rfl (vp_in_nI hj hn) hd (fun H1 locs1 hP _ hS => ?_)
  rw [hc] at hP
  have e1 : (va_up (fun j => (f j).map (fun k => G.2.2.1 + k)) j (some (G.2.2.1 + q))) = (fun i => (va_up f j (some q) i).map (fun k => G.2.2.1 + k)) := by
    funext i
    unfold va_up
    by_cases e : i = j
    · simp [e]
    · simp [e]
  rw [e1] at hP
  exact k H1 locs1 (xP_set (c := .inl (n, .inr (.inr (.inr (.inr (va_up f j (some q))))))) hP) hS
end XRows3
end
section
/-! The rows, on: making cells, returning, calling -/
section XRows4
variable {M : xM} {d mc ms pc : Nat} {L : xL} {st : List Value} {h : xH} {Post : Option Value → xH → Prop}
theorem xP.push {G : xG} {h : xH} {H H1 : Heap} {c : xC} (P : xP G h H) (hz : H.size = G.2.2.1 + h.length) (o1 : ∀ q, q < H.size → H1[q]? = H[q]?) (hc : va_at G.1 vwCl (G.2.2.1 + h.length, xe G c) H1) : xP G (h ++ [c]) H1 := by
  unfold xP
  rw [← xw_push]
  refine (P.kept (fun k x hx => o1 x.1 ((P k x hx).lt))).app (fun k x hx => ?_)
  have hl : k < 1 := (List.getElem?_eq_some_iff.mp hx).1
  rw [show k = 0 by omega] at hx
  cases hx
  exact hc
theorem xS.push {G : xG} {H0 H H1 : Heap} {locs : List Loc} (S : va_S (xA G) H0 H locs) (z1 : H1.size = H.size + 1) (o1 : ∀ q, q < H.size → H1[q]? = H[q]?) : va_S (xA G) H0 H1 locs :=
  ⟨Nat.le_trans S.1 (by omega), fun x h1 h2 => (o1 x (Nat.lt_of_lt_of_le h1 S.1)).trans (S.2.1 x h1 h2), S.2.2⟩
/-- what 'new' needs -/
def xNc (own : String) (idx ci N : Nat) (fs : List Value) : Prop := ∃ (C : String) (T : u_T) (ty0 : Nat → FieldType), vwCl[ci]? = some (C, T, N) ∧ (∀ w ∈ u_ws C T N, w ∈ lw_good) ∧ (∀ k, k < N → parseFieldDescriptor (T k).2.2.1 = some (ty0 k)) ∧ Cond.classLink own idx C ∈ lw_good ∧ Cond.instantiable C N ∈ lw_good ∧ Cond.initialized C ∈ lw_good ∧ ∀ (G : xG) (j : Nat), j < N → defaultValue (ty0 j) = vp_V (fs.map (xv G)) j
theorem XW.newc (pc' : Nat) {idx ci N mc' ms' : Nat} {fs : List Value} {h' : xH} (hw : xNc M.1.cls idx ci N fs) (hd : decode M.2.1 pc = .ok (.new idx, 3)) (hmc : mc' + 1 = mc) (hms : ms' + N = ms) (he : h ++ [.inr (ci, fs)] = h') (hp : pc + 3 = pc') (k : XW M d mc' ms' pc' L (.ref h.length :: st) h' Post) : XW M d mc ms pc L st h Post := by
  subst hp; subst he; subst hmc; subst hms
  obtain ⟨C, T, ty0, hc, hin, hty, w1, w2, w3, hfs⟩ := hw
  intro p l e R s m args below meth c G Q H locs cells slots C1 S1 ls F P S E b hr T0 hT X
  obtain ⟨b1, b2, b3, b4, b5⟩ := b
  have hz := P.size F.2.2.2.2.2.2.1 hT X b5
  have hKn := F.2.2.2.2.2.1.1.1 ci _ hc
  suffices key : W p l e R s m args below meth c H locs cells slots Q (F0 m pc ls (st.map (xv G))) from key T0 hT X
  refine W.newcK F.1 F.2.1 F.2.2.2.1 (F.2.2.2.2.1 _ w1) (F.2.2.2.2.1 _ w2) (F.2.2.2.2.1 _ w3) rfl hd (by omega) (by omega) hKn.2.1 hz (fun H1 kC hkC e1 z1 o1 => ?_)
  rw [← hz] at o1 z1
  refine k p l e R s m args below meth c G Q H1 locs (cells + 1) (slots + N) C1 S1 ls F (P.push hz o1 ⟨_, hc, (u_born ty0 F.2.2.2.2.1 hin hKn hkC e1 hty).to (hfs G)⟩) (xS.push S z1 o1) E ⟨by omega, by omega, b3, b4, ?_⟩ hr
  rw [List.length_append, List.length_singleton]; omega
theorem XW.newI (pc' : Nat) {n : Int32} {N mc' ms' : Nat} {h' : xH} (hw : Cond.arrayClass .int ∈ lw_good) (hd : decode M.2.1 pc = .ok (.newarray .int, 2)) (hn : n = nI N) (hN : N < 100000) (hmc : mc' + 1 = mc) (hms : ms' + N = ms) (he : h ++ [.inl (N, .inl (fun _ => 0))] = h') (hp : pc + 2 = pc') (k : XW M d mc' ms' pc' L (.ref h.length :: st) h' Post) : XW M d mc ms pc L (.int n :: st) h Post := by
  subst hp; subst he; subst hmc; subst hms; subst hn
  intro p l e R s m args below meth c G Q H locs cells slots C1 S1 ls F P S E b hr T0 hT X
  obtain ⟨b1, b2, b3, b4, b5⟩ := b
  have hz := P.size F.2.2.2.2.2.2.1 hT X b5
  suffices key : W p l e R s m args below meth c H locs cells slots Q (F0 m pc ls (.int (nI N) :: st.map (xv G))) from key T0 hT X
  refine va_newaK (atype := .int) F.1 F.2.1 (F.2.2.2.2.1 _ hw) rfl hd rfl (nI_pos (by omega)) (nI_clamp (by omega)) (by show N * 4 ≤ _; omega) (by omega) (by omega) hz (fun H1 cA e1 z1 o1 hAr hNm => ?_)
  have hcl : s.vm.findClass ("[" ++ (FieldType.int).toString) = some G.2.1.1 := (F.2.2.2.2.2.1.1.2 0 _ rfl).2
  have hcA : cA = G.2.1.1 := Option.some.inj (hNm.symm.trans hcl)
  subst hcA
  rw [← hz] at o1 z1
  refine k p l e R s m args below meth c G Q H1 locs (cells + 1) (slots + N) C1 S1 ls F (P.push hz o1 e1) (xS.push S z1 o1) E ⟨by omega, by omega, b3, b4, ?_⟩ hr
  rw [List.length_append, List.length_singleton]; omega
theorem XW.newF (pc' : Nat) {n : Int32} {N mc' ms' : Nat} {h' : xH} (hw : Cond.arrayClass .float ∈ lw_good) (hd : decode M.2.1 pc = .ok (.newarray .float, 2)) (hn : n = nI N) (hN : N < 100000) (hmc : mc' + 1 = mc) (hms : ms' + N = ms) (he : h ++ [.inl (N, .inr (.inr (.inl (fun _ => 0))))] = h') (hp : pc + 2 = pc') (k : XW M d mc' ms' pc' L (.ref h.length :: st) h' Post) : XW M d mc ms pc L (.int n :: st) h Post := by
  subst hp; subst he; subst hmc; subst hms; subst hn
  intro p l e R s m args below meth c G Q H locs cells slots C1 S1 ls F P S E b hr T0 hT X
  obtain ⟨b1, b2, b3, b4, b5⟩ := b
  have hz := P.size F.2.2.2.2.2.2.1 hT X b5
  suffices key : W p l e R s m args below meth c H locs cells slots Q (F0 m pc ls (.int (nI N) :: st.map (xv G))) from key T0 hT X
  refine va_newaK (atype := .float) F.1 F.2.1 (F.2.2.2.2.1 _ hw) rfl hd rfl (nI_pos (by omega)) (nI_clamp (by omega)) (by show N * 4 ≤ _; omega) (by omega) (by omega) hz (fun H1 cA e1 z1 o1 hAr hNm => ?_)
  have hcl : s.vm.findClass ("[" ++ (FieldType.float).toString) = some G.2.1.2.1 := (F.2.2.2.2.2.1.1.2 1 _ rfl).2
  have hcA : cA = G.2.1.2.1 := Option.some.inj (hNm.symm.trans hcl)
  subst hcA
  rw [← hz] at o1 z1
  refine k p l e R s m args below meth c G Q H1 locs (cells + 1) (slots + N) C1 S1 ls F (P.push hz o1 e1) (xS.push S z1 o1) E ⟨by omega, by omega, b3, b4, ?_⟩ hr
  rw [List.length_append, List.length_singleton]; omega
theorem XW.newA (pc' : Nat) {idx : Nat} {n : Int32} {N mc' ms' : Nat} {h' : xH} (hw : Cond.classLink M.1.cls idx RX1 ∈ lw_good) (hd : decode M.2.1 pc = .ok (.anewarray idx, 3)) (hn : n = nI N) (hN : N < 100000) (hmc : mc' + 1 = mc) (hms : ms' + N = ms) (he : h ++ [.inl (N, .inr (.inr (.inr (.inr (fun _ => none)))))] = h') (hp : pc + 3 = pc') (k : XW M d mc' ms' pc' L (.ref h.length :: st) h' Post) : XW M d mc ms pc L (.int n :: st) h Post := by
  subst hp; subst he; subst hmc; subst hms; subst hn
  intro p l e R s m args below meth c G Q H locs cells slots C1 S1 ls F P S E b hr T0 hT X
  obtain ⟨b1, b2, b3, b4, b5⟩ := b
  have hz := P.size F.2.2.2.2.2.2.1 hT X b5
  have hc0 : (nI N).toNatClampNeg = N := nI_clamp (by omega)
  suffices key : W p l e R s m args below meth c H locs cells slots Q (F0 m pc ls (.int (nI N) :: st.map (xv G))) from key T0 hT X
  refine W.anew F.1 F.2.1 F.2.2.2.1 (F.2.2.2.2.1 _ hw) (va_AO.use F.2.2.2.2.2.1.2.2) rfl hd rfl (nI_pos (by omega)) (by rw [hc0]; omega) (by omega) (by rw [hc0]; omega) (fun cA kA comp f1 f2 f3 f4 => ?_)
  have hcl : s.vm.findClass ("[" ++ (FieldType.object RX1).toString) = some G.2.1.2.2 := by
    obtain ⟨kA', comp', g1, g2, g3, g4⟩ := (F.2.2.2.2.2.1.1.2 2 _ rfl).2
    exact g4
  have hcA : cA = G.2.1.2.2 := Option.some.inj (f1.symm.trans hcl)
  subst hcA
  rw [hc0]
  generalize hH1 : H.push ({ cls := G.2.1.2.2, slots := Array.replicate N .null, vm := .none } : Cell) = H1
  have z1 : H1.size = H.size + 1 := by rw [← hH1, Array.size_push]
  have e1 : H1[H.size]? = some (arrV G.2.1.2.2 N (fun _ => .null)) := by rw [← hH1, Array.getElem?_push_size, ← arrV_new]
  have o1 : ∀ q : Nat, q < H.size → H1[q]? = H[q]? := fun q hq => by rw [← hH1, Array.getElem?_push, if_neg (Nat.ne_of_lt hq)]
  rw [hz] at e1
  have := k p l e R s m args below meth c G Q H1 locs (cells + 1) (slots + N) C1 S1 ls F (P.push hz o1 e1) (xS.push S z1 o1) E ⟨by omega, by omega, b3, b4, by rw [List.length_append, List.length_singleton]; omega⟩ hr
  rw [hz]
  exact this
-- returns
theorem XW.iret {v : Int32} (hd : decode M.2.1 pc = .ok (.ireturn, 1)) (hn : xnar M.2.2.2.1 (some (.int v))) (hp : Post (some (.int v)) h) : XW M d 0 ms pc L [.int v] h Post := by
  intro p l e R s m args below meth c G Q H locs cells slots C1 S1 ls F P S E b hr
  obtain ⟨b1, b2, b3, b4, b5⟩ := b
  have b1 : cells = C1 := b1
  subst b1
  exact W.widen (Nat.le_refl _) (by omega) (hr pc ls (some (.int v)) h H locs hp hn hd P S b5)
theorem XW.lret {v : Int64} (hd : decode M.2.1 pc = .ok (.lreturn, 1)) (hn : xnar M.2.2.2.1 (some (.long v))) (hp : Post (some (.long v)) h) : XW M d 0 ms pc L [.long v] h Post := by
  intro p l e R s m args below meth c G Q H locs cells slots C1 S1 ls F P S E b hr
  obtain ⟨b1, b2, b3, b4, b5⟩ := b
  have b1 : cells = C1 := b1
  subst b1
  exact W.widen (Nat.le_refl _) (by omega) (hr pc ls (some (.long v)) h H locs hp hn hd P S b5)
theorem XW.fret {v : UInt32} (hd : decode M.2.1 pc = .ok (.freturn, 1)) (hn : xnar M.2.2.2.1 (some (.float v))) (hp : Post (some (.float v)) h) : XW M d 0 ms pc L [.float v] h Post := by
  intro p l e R s m args below meth c G Q H locs cells slots C1 S1 ls F P S E b hr
  obtain ⟨b1, b2, b3, b4, b5⟩ := b
  have b1 : cells = C1 := b1
  subst b1
  exact W.widen (Nat.le_refl _) (by omega) (hr pc ls (some (.float v)) h H locs hp hn hd P S b5)
theorem XW.vret (hd : decode M.2.1 pc = .ok (.return_, 1)) (hn : xnar M.2.2.2.1 none) (hp : Post none h) : XW M d 0 ms pc L [] h Post := by
  intro p l e R s m args below meth c G Q H locs cells slots C1 S1 ls F P S E b hr
  obtain ⟨b1, b2, b3, b4, b5⟩ := b
  have b1 : cells = C1 := b1
  subst b1
  exact W.widen (Nat.le_refl _) (by omega) (hr pc ls none h H locs hp hn hd P S b5)
end XRows4
end
section
/-! Calling: a contract is XW from the method's first instruction -/
section XCalls
variable {M : xM} {d mc ms pc : Nat} {L : xL} {st : List Value} {h : xH} {Post : Option Value → xH → Prop}
def xsl (vs : List Value) : xL := vs.flatMap (fun v => if v.category = 2 then [some v, none] else [some v])
def xin (vs : List Value) (n : Nat) : xL := xsl vs ++ List.replicate (n - (xsl vs).length) none
/-- the method's contract: with these values and this world it returns, with Post -/
abbrev XC (M : xM) (d mc ms : Nat) (vs : List Value) (h : xH) (Post : Option Value → xH → Prop) : Prop := XW M d mc ms 0 (xin vs M.2.2.1) [] h Post
theorem xsl_args (G : xG) : ∀ (vs : List Value) (i k : Nat) (v : Value), (xsl vs)[i]? = some (some v) → (k + i, xv G v) ∈ lv_args k (vs.map (xv G))
  | [], i, k, v, h => by simp [xsl] at h
  | w :: vs, i, k, v, h => by
    have ih := xsl_args G vs
    by_cases hc : w.category = 2
    · have e : xsl (w :: vs) = some w :: none :: xsl vs := by simp [xsl, hc]
      rw [e] at h
      show (k + i, xv G v) ∈ (k, xv G w) :: lv_args (if (xv G w).category = 2 then k + 2 else k + 1) (vs.map (xv G))
      rw [xv_cat, if_pos hc]
      match i, h with
      | 0, h => cases h; exact List.mem_cons_self
      | 1, h => simp at h
      | i + 2, h =>
        have h : (xsl vs)[i]? = some (some v) := by simpa using h
        have := ih i (k + 2) v h
        rw [show k + 2 + i = k + (i + 2) by omega] at this
        exact List.mem_cons_of_mem _ this
    · have e : xsl (w :: vs) = some w :: xsl vs := by simp [xsl, hc]
      rw [e] at h
      show (k + i, xv G v) ∈ (k, xv G w) :: lv_args (if (xv G w).category = 2 then k + 2 else k + 1) (vs.map (xv G))
      rw [xv_cat, if_neg hc]
      match i, h with
      | 0, h => cases h; exact List.mem_cons_self
      | i + 1, h =>
        have h : (xsl vs)[i]? = some (some v) := by simpa using h
        have := ih i (k + 1) v h
        rw [show k + 1 + i = k + (i + 1) by omega] at this
        exact List.mem_cons_of_mem _ this
theorem xsl_len (G : xG) : ∀ vs : List Value, (lg_sl (vs.map (xv G))).length = (xsl vs).length
  | [] => rfl
  | w :: vs => by
    have ih := xsl_len G vs
    simp only [lg_sl, xsl, List.map_cons, List.flatMap_cons, List.length_append, xv_cat] at ih ⊢
    rw [ih]
    by_cases hc : w.category = 2 <;> simp [hc]
theorem xin_entry {G : xG} {vs : List Value} {n : Nat} (hn : (xsl vs).length ≤ n) : xls G ((lg_sl (vs.map (xv G)) ++ List.replicate (n - (lg_sl (vs.map (xv G))).length) Slot.unset).toArray) n (xin vs n) := by
  have hl := lv_entry (vs.map (xv G)) (n := n) (by rw [xsl_len]; exact hn)
  refine ⟨hl.1, hl.2.1, fun i v hv => ?_⟩
  refine hl.2.2 (i, xv G v) ?_
  unfold xin at hv
  by_cases hi : i < (xsl vs).length
  · rw [List.getElem?_append_left hi] at hv
    have := xsl_args G vs i 0 v hv
    rw [Nat.zero_add] at this
    exact this
  · rw [List.getElem?_append_right (by omega), List.getElem?_replicate] at hv
    split at hv <;> cases hv
def xws (M : xM) : List Cond := Cond.code M.1 M.2.1 M.2.2.1 M.2.2.2.1 :: lw_good
def xrm (d mc ms : Nat) : Room := { frames := d, cells := mc, slots := ms, locals := 38 * d }
def xPc (G : xG) (vs : List Value) (h : xH) : Array Value → State → Prop := fun a U => a = (vs.map (xv G)).toArray ∧ xP G h U.heap ∧ U.heap.size = G.2.2.1 + h.length ∧ xK G U
def xQc (G : xG) (h : xH) (mc : Nat) (Post : Option Value → xH → Prop) : Array Value → State → Outcome → State → Prop := fun _ st0 oc t => ∃ (r : Option Value) (h' : xH), oc = .returned (r.map (xv G)) ∧ Post r h' ∧ xP G h' t.heap ∧ h'.length = h.length + mc ∧ va_F (xA G) st0 t
theorem XC.met (l : Launch) (G : xG) {vs : List Value} (hM : M.2.2.2.2 = none) (hpl : plainName M.1.cls = true) (hn : (xsl vs).length ≤ M.2.2.1) (k : XC M d mc ms vs h Post) : Met l M.1 (xws M) (xrm d mc ms) (xPc G vs h) (xQc G h mc Post) mc ms (xA G) := by
  refine Met.ofW (cc := M.2.1) (maxL := M.2.2.1) (ret := M.2.2.2.1) hpl rfl ?_
  intro p e s m args below meth c s₁ B hml hv
  obtain ⟨rfl, hP, hz, hK⟩ := hv
  have hts := atoms_spec (ws := xws M) B.pre
  have hown : s.vm.findClass M.1.cls = some m.cls := findClass_of_methodNamed B.named
  have hname := (name_of_methodNamed B.named B.method).1
  have hr := B.returns
  have hx := B.exec
  have hb := B.bytes
  have hlocks := B.notSynchronized
  rw [lg_entry_eq]
  refine k p l e (xrm d mc ms) s m _ below meth c G _ s.heap [] 0 0 mc ms _ ⟨hx, hb, hml, hown, fun w hw => hts w (List.mem_cons_of_mem _ hw), hK, by omega, hname, hlocks, by rw [hM]; trivial, Nat.le_refl _, Nat.le_refl _⟩ hP va_S.rf (xin_entry hn) ⟨Nat.zero_add _, by omega, Nat.le_refl _, Nat.le_refl _, by omega⟩ (fun pc ls r h' H' locs' hPost hnar hdec hP' hS' hz' => ?_)
  have hlen : h'.length = h.length + mc := by omega
  have fin : ∀ t : State, t.heap = H' → s.WarmedH t.vm → xQc G h mc Post ((vs.map (xv G)).toArray) s (.returned (r.map (xv G))) t := fun t ht _ => ⟨r, h', rfl, hPost, by rw [ht]; exact hP', hlen, hS'.F ht⟩
  generalize hret : M.2.2.2.1 = ret at hnar hr
  match ret, r, hnar with
  | none, none, _ => exact W.vret hx hb hr fin hS'.2.2 hdec
  | some ty, some (.int v), hn => exact W.zret (ty := ty) hx hb hr hn fin hS'.2.2 hdec
  | some .long, some (.long v), _ => exact W.lret hx hb hr fin hS'.2.2 hdec
  | some .float, some (.float v), _ => exact W.fret hx hb hr fin hS'.2.2 hdec
/-- a method that can be called -/
def xMd (M' : xM) (n : Nat) : Prop := M'.2.2.2.2 = none ∧ plainName M'.1.cls = true ∧ M'.2.2.1 ≤ 19 ∧ Cond.code M'.1 M'.2.1 M'.2.2.1 M'.2.2.2.1 ∈ lw_good ∧ Cond.initialized M'.1.cls ∈ lw_good ∧ (M'.1.cls ≠ "java/lang/invoke/MethodHandle" ∧ M'.1.cls ≠ "java/lang/invoke/VarHandle" ∧ (parseMethodDescriptor M'.1.desc).map (fun d => d.parameters.length) = some n)
theorem lw_goodIn {ws : List Cond} (hw : ∀ w ∈ ws, w ∈ lw_good) : GoodIn lw_good ws := fun w h => ⟨hw w h, good_of_word (List.mem_filter.mp (hw w h)).2⟩
theorem xws_in {M' : xM} {n : Nat} (hm : xMd M' n) : ∀ w ∈ xws M', w ∈ lw_good := fun w hw => (List.mem_cons.mp hw).elim (fun e => by rw [e]; exact hm.2.2.2.1) id
theorem xPc_blind {G : xG} {vs : List Value} {h : xH} : FrameBlind (xPc G vs h) := fun a U g mk q => ⟨q.1, q.2.1, q.2.2.1, xK.same (rfl : U.vm = (U.calling g mk a).vm) q.2.2.2⟩
/-- behind a call -/
theorem xgo {M : xM} {p : Program} {l : Launch} {e : Env} {R : Room} {s : State} {m : MethodId} {args : Array Value} {below : List Frame} {meth : Method} {c : Code} {G : xG} {Q : State → Prop} {H : Heap} {locs : List Loc} {cells slots C1 S1 mc' ms' mcr msr : Nat} {ls : Array Slot} {T0 : State} {st0 : List Value} {rest : List Value} {a : Array Value} {Post' : Option Value → xH → Prop}
    (hr0 : va_Run p l e R s m args below meth c H locs cells slots mc' ms' (F0 m pc ls st0) (rest.map (xv G)) (xQc G h mc' Post' a) (xA G)) (S : va_S (xA G) s.heap H locs) (hT : T0.heap = H) (X : Stand p l e R s m args below meth c T0 locs cells slots)
    (F : xF M d p R s m args meth c G) (E : xls G ls M.2.2.1 L) (b1 : cells + (mc' + mcr) = C1) (b2 : slots + (ms' + msr) ≤ S1) (b3 : C1 ≤ R.cells) (b4 : S1 ≤ R.slots) (b5 : G.2.2.1 + h.length = s.heap.size + cells)
    (hr : ∀ (pc : Nat) (ls : Array Slot) (r : Option Value) (h' : xH) (H' : Heap) (locs' : List Loc), Post r h' → xnar M.2.2.2.1 r → decode M.2.1 pc = .ok (xrins r, 1) → xP G h' H' → va_S (xA G) s.heap H' locs' → G.2.2.1 + h'.length = s.heap.size + C1 → W p l e R s m args below meth c H' locs' C1 S1 Q (F0 m pc ls (r.toList.map (xv G))))
    (k : ∀ (r : Option Value) (h1 : xH), Post' r h1 → XW M d mcr msr (pc + 3) L (r.toList ++ rest) h1 Post) : ∃ t, Steps p.tables e below (T0.setTop (F0 m pc ls st0)) t ∧ Q t := by
  obtain ⟨v, st₀, t, T', Lc, h0, X', hLc, e1, e2, ⟨r, h1, hv, hPost, hP1, hl1, hF⟩, go⟩ := hr0 T0 hT X
  have hv : v = r.map (xv G) := by injection hv
  subst hv
  obtain ⟨hz, hk⟩ := hF
  rw [h0] at hz hk
  have S' : va_S (xA G) s.heap T'.heap (locs ++ Lc) := ⟨Nat.le_trans S.1 (by rw [e1]; exact hz), fun q h1 h2 => by rw [e1, hk q (Nat.lt_of_lt_of_le h1 S.1) h2]; exact S.2.1 q h1 h2, fun q hq => by
      rcases List.mem_append.mp hq with h | h
      · exact S.2.2 q h
      · exact hLc q h⟩
  obtain ⟨t2, a1, b1'⟩ := k r h1 hPost p l e R s m args below meth c G Q T'.heap (locs ++ Lc) (cells + mc') (slots + ms') C1 S1 ls F (by rw [e1]; exact hP1) S' E ⟨by omega, by omega, b3, b4, by omega⟩ hr T' rfl X'
  refine ⟨t2, go t2 ?_, b1'⟩
  cases r with
  | none => exact a1
  | some w => exact a1
/-- a virtual call of a method of the receiver's own class -/
def xMv (own : String) (idx ci n : Nat) (M' : xM) : Prop := xMd M' n ∧ Cond.methodLink own idx M'.1 ∈ lw_good ∧ Cond.instanceMethod M'.1 ∈ lw_good ∧ Cond.selects M'.1.cls M'.1 M'.1 ∈ lw_good ∧ ∃ q : vw_C, vwCl[ci]? = some q ∧ q.1 = M'.1.cls
theorem XW.callV (pc' : Nat) {M' : xM} {d' mc' ms' mcr msr idx ci o : Nat} {fs vs rest : List Value} {st0 : List Value} {Post' : Option Value → xH → Prop} (hw : xMv M.1.cls idx ci vs.length M') (hd : decode M.2.1 pc = .ok (.invokevirtual idx, 3)) (hst : st0 = vs.reverse ++ .ref o :: rest) (ho : h[o]? = some (.inr (ci, fs))) (hdd : d' + 1 ≤ d) (hre : (rest.map (fun v => v.category)).sum ≤ 8) (hmc : mc' + mcr = mc) (hms : ms' + msr = ms) (hnn : (xsl (.ref o :: vs)).length ≤ M'.2.2.1) (hp : pc + 3 = pc') (hc : XC M' d' mc' ms' (.ref o :: vs) h Post') (k : ∀ (r : Option Value) (h1 : xH), Post' r h1 → XW M d mcr msr pc' L (r.toList ++ rest) h1 Post) : XW M d mc ms pc L st0 h Post := by
  subst hp; subst hmc; subst hms; subst hst
  obtain ⟨hmd, w1, w2, w3, q, hq1, hq2⟩ := hw
  intro p l e R s m args below meth c G Q H locs cells slots C1 S1 ls F P S E b hr T0 hT X
  obtain ⟨b1, b2, b3, b4, b5⟩ := b
  have hz := P.size F.2.2.2.2.2.2.1 hT X b5
  have hfr : d ≤ R.frames := F.2.2.2.2.2.2.2.2.2.2.1
  have hlo : 38 * d ≤ R.locals := F.2.2.2.2.2.2.2.2.2.2.2
  have h19 := hmd.2.2.1
  have cw : CallW R s args M.1.cls M'.1.cls idx M'.1 M'.2.1 M'.2.2.1 M'.2.2.2.1 (xws M') (xrm d' mc' ms') mc' ms' vs.length := by
    refine cwV vs.length F.2.2.2.2.1 (lw_goodIn (fun w hw => ?_)) rfl rfl rfl ⟨rfl, hmd.2.2.2.2.2⟩ ⟨by show d' + 1 ≤ _; omega, by show 8 + (M'.2.2.1 + 11) + 38 * d' ≤ _; omega⟩
    rcases List.mem_append.mp hw with hw | hw
    · simp only [List.mem_cons, List.not_mem_nil, or_false] at hw
      rcases hw with rfl | rfl | rfl | rfl
      · exact w1
      · exact w2
      · exact w3
      · exact hmd.2.2.2.2.1
    · exact xws_in hmd w hw
  have hcat : ((rest.map (xv G)).map (fun v => v.category)).sum ≤ 8 := by
    rw [List.map_map]
    have : ((fun v : Value => v.category) ∘ xv G) = (fun v => v.category) := funext (fun v => xv_cat G v)
    rw [this]; exact hre
  have hpre : PreV s H M'.1.cls (G.2.2.1 + o) (xPc G (.ref o :: vs) h) (vs.map (xv G)) := ⟨xPc_blind, by
      have := va_recv F.2.2.2.2.2.1.1 P hq1 (xw_get ho)
      rw [hq2] at this
      exact this, fun U hU hW => ⟨rfl, by rw [hU]; exact P, by rw [hU]; exact hz, F.2.2.2.2.2.1.warm hW⟩⟩
  have run := va_runV (l := l) (e := e) (below := below) (meth := meth) (H := H) (locs := locs) (cells := cells) (slots := slots) (rest := rest.map (xv G)) (g := F0 m pc ls ((vs.reverse ++ .ref o :: rest).map (xv G))) (As := vs.map (xv G)) (b := G.2.2.1 + o) ⟨F.1, F.2.1, F.2.2.1, F.2.2.2.1, F.2.2.2.2.1⟩ (XC.met l G hmd.1 hmd.2.1 hnn hc) cw hpre rfl (List.length_map _) E.1 (by show (vs.reverse ++ .ref o :: rest).map (xv G) = _; rw [List.map_append, List.map_reverse]; rfl) (lv_room hcat) hd ⟨by omega, by omega⟩
  exact xgo run S hT X F E b1 b2 b3 b4 b5 hr k
/-- a static call, or one of a nest mate's static method -/
def xMs (own : String) (idx n : Nat) (M' : xM) : Prop := xMd M' n ∧ Cond.static M'.1 ∈ lw_good ∧ (Cond.methodLink own idx M'.1 ∈ lw_good ∨ Cond.methodLinkNest own idx M'.1 RX3 ∈ lw_nest)
theorem XW.callS (pc' : Nat) {M' : xM} {d' mc' ms' mcr msr idx : Nat} {vs rest : List Value} {st0 : List Value} {Post' : Option Value → xH → Prop} (hw : xMs M.1.cls idx vs.length M') (hd : decode M.2.1 pc = .ok (.invokestatic idx, 3)) (hst : st0 = vs.reverse ++ rest) (hdd : d' + 1 ≤ d) (hre : (rest.map (fun v => v.category)).sum ≤ 8) (hmc : mc' + mcr = mc) (hms : ms' + msr = ms) (hnn : (xsl vs).length ≤ M'.2.2.1) (hp : pc + 3 = pc') (hc : XC M' d' mc' ms' vs h Post') (k : ∀ (r : Option Value) (h1 : xH), Post' r h1 → XW M d mcr msr pc' L (r.toList ++ rest) h1 Post) : XW M d mc ms pc L st0 h Post := by
  subst hp; subst hmc; subst hms; subst hst
  obtain ⟨hmd, w1, w2⟩ := hw
  intro p l e R s m args below meth c G Q H locs cells slots C1 S1 ls F P S E b hr T0 hT X
  obtain ⟨b1, b2, b3, b4, b5⟩ := b
  have hz := P.size F.2.2.2.2.2.2.1 hT X b5
  have hfr : d ≤ R.frames := F.2.2.2.2.2.2.2.2.2.2.1
  have hlo : 38 * d ≤ R.locals := F.2.2.2.2.2.2.2.2.2.2.2
  have h19 := hmd.2.2.1
  have hcat : ((rest.map (xv G)).map (fun v => v.category)).sum ≤ 8 := by
    rw [List.map_map]
    have : ((fun v : Value => v.category) ∘ xv G) = (fun v => v.category) := funext (fun v => xv_cat G v)
    rw [this]; exact hre
  have hpre : PreS s H (xPc G vs h) (vs.map (xv G)) := ⟨xPc_blind, fun U hU hW => ⟨rfl, by rw [hU]; exact P, by rw [hU]; exact hz, F.2.2.2.2.2.1.warm hW⟩⟩
  have hstk : (vs.reverse ++ rest).map (xv G) = (vs.map (xv G)).reverse ++ rest.map (xv G) := by rw [List.map_append, List.map_reverse]
  rcases w2 with w2 | w2
  · have cw : CallB R s args M.1.cls idx M'.1 M'.2.1 M'.2.2.1 M'.2.2.2.1 (xws M') (xrm d' mc' ms') mc' ms' vs.length ∧ (Cond.static M'.1).before args s = true := by
      refine va_cwS vs.length F.2.2.2.2.1 (lw_goodIn (fun w hw => ?_)) rfl rfl rfl hmd.2.2.2.2.2 ⟨by show d' + 1 ≤ _; omega, by show 8 + (M'.2.2.1 + 11) + 38 * d' ≤ _; omega⟩
      rcases List.mem_append.mp hw with hw | hw
      · simp only [List.mem_cons, List.not_mem_nil, or_false] at hw
        rcases hw with rfl | rfl | rfl
        · exact w2
        · exact w1
        · exact hmd.2.2.2.2.1
      · exact xws_in hmd w hw
    have run := va_runS (l := l) (e := e) (below := below) (meth := meth) (H := H) (locs := locs) (cells := cells) (slots := slots) (rest := rest.map (xv G)) (g := F0 m pc ls ((vs.reverse ++ rest).map (xv G))) (As := vs.map (xv G)) ⟨F.1, F.2.1, F.2.2.1, F.2.2.2.1, F.2.2.2.2.1⟩ (XC.met l G hmd.1 hmd.2.1 hnn hc) cw hpre rfl (List.length_map _) E.1 hstk (lv_room hcat) hd ⟨by omega, by omega⟩
    exact xgo run S hT X F E b1 b2 b3 b4 b5 hr k
  · have cw : va_CN R s args M.1.cls idx M'.1 RX3 M'.2.1 M'.2.2.1 M'.2.2.2.1 (xws M') (xrm d' mc' ms') mc' ms' vs.length := va_cnB vs.length F.2.2.2.2.1 (lw_goodIn (xws_in hmd)) rfl rfl rfl (F.2.2.2.2.2.1.2.1 _ w2) (F.2.2.2.2.1 _ hmd.2.2.2.2.1) hmd.2.2.2.2.2 ⟨by show d' + 1 ≤ _; omega, by show 8 + (M'.2.2.1 + 11) + 38 * d' ≤ _; omega⟩
    have run := va_runSN (l := l) (e := e) (below := below) (meth := meth) (H := H) (locs := locs) (cells := cells) (slots := slots) (rest := rest.map (xv G)) (g := F0 m pc ls ((vs.reverse ++ rest).map (xv G))) (As := vs.map (xv G)) ⟨F.1, F.2.1, F.2.2.1, F.2.2.2.1, F.2.2.2.2.1⟩ (XC.met l G hmd.1 hmd.2.1 hnn hc) ⟨cw, F.2.2.2.2.1 _ w1, trivial⟩ hpre rfl (List.length_map _) E.1 hstk (lv_room hcat) hd ⟨by omega, by omega⟩
    exact xgo run S hT X F E b1 b2 b3 b4 b5 hr k
/-- a constructor's call -/
def xMi (own : String) (idx n : Nat) (M' : xM) : Prop := xMd M' n ∧ Cond.methodLink own idx M'.1 ∈ lw_good ∧ Cond.instanceMethod M'.1 ∈ lw_good ∧ M'.1.name = "<init>" ∧ M'.2.2.2.1 = none
theorem XW.callI (pc' : Nat) {M' : xM} {d' mc' ms' mcr msr idx o : Nat} {vs rest : List Value} {st0 : List Value} {Post' : Option Value → xH → Prop} (hw : xMi M.1.cls idx vs.length M') (hd : decode M.2.1 pc = .ok (.invokespecial idx, 3)) (hst : st0 = vs.reverse ++ .ref o :: rest) (hdd : d' + 1 ≤ d) (hre : (rest.map (fun v => v.category)).sum ≤ 8) (hmc : mc' + mcr = mc) (hms : ms' + msr = ms) (hnn : (xsl (.ref o :: vs)).length ≤ M'.2.2.1) (hp : pc + 3 = pc') (hc : XC M' d' mc' ms' (.ref o :: vs) h Post') (k : ∀ (r : Option Value) (h1 : xH), Post' r h1 → XW M d mcr msr pc' L (r.toList ++ rest) h1 Post) : XW M d mc ms pc L st0 h Post := by
  subst hp; subst hmc; subst hms; subst hst
  obtain ⟨hmd, w1, w2, w3, w4⟩ := hw
  intro p l e R s m args below meth c G Q H locs cells slots C1 S1 ls F P S E b hr T0 hT X
  obtain ⟨b1, b2, b3, b4, b5⟩ := b
  have hz := P.size F.2.2.2.2.2.2.1 hT X b5
  have hfr : d ≤ R.frames := F.2.2.2.2.2.2.2.2.2.2.1
  have hlo : 38 * d ≤ R.locals := F.2.2.2.2.2.2.2.2.2.2.2
  have h19 := hmd.2.2.1
  have hcat : ((rest.map (xv G)).map (fun v => v.category)).sum ≤ 8 := by
    rw [List.map_map]
    have : ((fun v : Value => v.category) ∘ xv G) = (fun v => v.category) := funext (fun v => xv_cat G v)
    rw [this]; exact hre
  have hpre : PreS s H (xPc G (.ref o :: vs) h) (.ref (G.2.2.1 + o) :: vs.map (xv G)) := ⟨xPc_blind, fun U hU hW => ⟨rfl, by rw [hU]; exact P, by rw [hU]; exact hz, F.2.2.2.2.2.1.warm hW⟩⟩
  have hwe : xws M' = Cond.code M'.1 M'.2.1 M'.2.2.1 none :: lw_good := by unfold xws; rw [w4]
  have cw := cwI (R := R) (bytes := M'.2.1) (maxL := M'.2.2.1) (rm := xrm d' mc' ms') vs.length F.2.2.2.2.1 (lw_goodIn (xws_in hmd)) hwe rfl rfl (F.2.2.2.2.1 _ hmd.2.2.2.2.1) (F.2.2.2.2.1 _ w1) (F.2.2.2.2.1 _ w2) w3 hmd.2.2.2.2.2 ⟨by show d' + 1 ≤ _; omega, by show 8 + (M'.2.2.1 + 11) + 38 * d' ≤ _; omega⟩
  have run := va_runI (l := l) (e := e) (below := below) (meth := meth) (H := H) (locs := locs) (cells := cells) (slots := slots) (rest := rest.map (xv G)) (g := F0 m pc ls ((vs.reverse ++ .ref o :: rest).map (xv G))) (As := vs.map (xv G)) (b := G.2.2.1 + o) ⟨F.1, F.2.1, F.2.2.1, F.2.2.2.1, F.2.2.2.2.1⟩ (XC.met l G hmd.1 hmd.2.1 hnn hc) cw hpre rfl (List.length_map _) E.1 (by show (vs.reverse ++ .ref o :: rest).map (xv G) = _; rw [List.map_append, List.map_reverse]; rfl) (lv_room hcat) hd ⟨by omega, by omega⟩
  exact xgo run S hT X F E b1 b2 b3 b4 b5 hr k
/-- Object's own constructor -/
theorem XW.objInit (pc' : Nat) {idx o : Nat} (w1 : Cond.methodLink M.1.cls idx Lib.objectInit ∈ lw_good) (w2 : Cond.instanceMethod Lib.objectInit ∈ lw_good) (w3 : Cond.code Lib.objectInit ⟨#[0xb1]⟩ 1 none ∈ lw_good) (hd : decode M.2.1 pc = .ok (.invokespecial idx, 3)) (hdd : 1 ≤ d) (hp : pc + 3 = pc') (k : XW M d mc ms pc' L [] h Post) : XW M d mc ms pc L [.ref o] h Post := by
  subst hp
  refine XW.row (fun p l e R s m args below meth c G Q H locs cells slots ls F P S E k => ?_) k
  have hfr : d ≤ R.frames := F.2.2.2.2.2.2.2.2.2.2.1
  have hlo : 38 * d ≤ R.locals := F.2.2.2.2.2.2.2.2.2.2.2
  exact W.objInit (rest := []) F.1 F.2.1 F.2.2.2.1 (F.2.2.2.2.1 _ w1) (F.2.2.2.2.1 _ w2) (F.2.2.2.2.1 _ w3) rfl (E.1.trans F.2.2.1.symm) rfl hd (by omega) (by show 2 * 0 + 0 + 12 ≤ _; omega) k
/-- System.arraycopy of whole rows of ints, from their beginning -/
theorem XW.copy (pc' : Nat) {idx a0 a n0 n1 : Nat} {z1 z2 z3 : Int32} {f g : Nat → Int32} {h' : xH} (n : Nat) (w1 : Cond.methodLink M.1.cls idx arraycopyName ∈ lw_good) (w2 : Cond.native arraycopyName ∈ lw_good) (w3 : Cond.static arraycopyName ∈ lw_good) (w4 : Cond.initialized "java/lang/System" ∈ lw_good) (hd : decode M.2.1 pc = .ok (.invokestatic idx, 3)) (h0 : h[a0]? = some (.inl (n0, .inl f))) (h1 : h[a]? = some (.inl (n1, .inl g))) (e1 : z1 = 0) (e2 : z2 = 0) (e3 : z3 = nI n) (hn0 : n ≤ n0) (hn1 : n ≤ n1) (hn : n < 2 ^ 31) (hdd : 1 ≤ d) (he : h.set a (.inl (n1, .inl (va_cpy f g 0 0 n))) = h') (hp : pc + 3 = pc') (k : XW M d mc ms pc' L [] h' Post) : XW M d mc ms pc L [.int z3, .int z2, .ref a, .int z1, .ref a0] h Post := by
  subst hp; subst e1; subst e2; subst e3; subst he
  have hc : (nI n).toNatClampNeg = n := nI_clamp hn
  have hc0 : (0 : Int32).toNatClampNeg = 0 := rfl
  refine XW.rowH (by rw [List.length_set]) (fun p l e R s m args below meth c G Q H locs cells slots ls F P S E k => ?_) k
  have hfr : d ≤ R.frames := F.2.2.2.2.2.2.2.2.2.2.1
  have hlo : 38 * d ≤ R.locals := F.2.2.2.2.2.2.2.2.2.2.2
  have hnf : nativeFrameWords "java/lang/System" "arraycopy" 5 = 7 := by decide +kernel
  refine va_copyi (rest := []) F.1 F.2.1 (F.2.2.1.trans E.1.symm) F.2.2.2.1 (F.2.2.2.2.1 _ w1) (F.2.2.2.2.1 _ w2) (F.2.2.2.2.1 _ w3) (F.2.2.2.2.1 _ w4) F.2.2.2.2.2.1.1 P (xw_D G h) S a0 a 0 0 (ty := .int) (xw_get h0) (xw_get h1) rfl rfl rfl (sp := 0) (dp := 0) (n := nI n) (by decide) (by decide) (nI_pos hn) (by rw [hc, hc0]; omega) (by rw [hc, hc0]; omega) (fun _ _ => rfl) (by omega) (by rw [hnf]; show 0 + (7 + 11) ≤ _; omega) hd (fun H1 locs1 hP _ hS => ?_)
  rw [hc, hc0] at hP
  exact k H1 locs1 (xP_set (c := .inl (n1, .inl (va_cpy f g 0 0 n))) hP) hS
end XCalls
end
section
/-! Links: what each reference of a constant pool names; the methods as records-/
theorem lw_at {w : Cond} (i : Nat) (h : lw_tbl[i]? = some w) (hg : goodWord w = true) : w ∈ lw_good := List.mem_filter.mpr ⟨List.mem_of_getElem? h, hg⟩
theorem lw_atN {w : Cond} (i : Nat) (h : lw_tbl[i]? = some w) (hg : xisN w = true) : w ∈ lw_nest := List.mem_filter.mpr ⟨List.mem_of_getElem? h, hg⟩
theorem inX0 : ∀ w ∈ wsX00, w ∈ lw_good := by
  intro w hw
  obtain ⟨k, hk, rfl⟩ := List.mem_map.mp hw
  have hk := List.mem_range.mp hk
  match k, hk with
  | 0, _ => exact lw_at 178 (by decide +kernel) rfl
  | 1, _ => exact lw_at 180 (by decide +kernel) rfl
  | n + 2, h => omega
theorem inX1 : ∀ w ∈ wsX10, w ∈ lw_good := by
  intro w hw
  obtain ⟨k, hk, rfl⟩ := List.mem_map.mp hw
  have hk := List.mem_range.mp hk
  match k, hk with
  | 0, _ => exact lw_at 118 (by decide +kernel) rfl
  | 1, _ => exact lw_at 120 (by decide +kernel) rfl
  | 2, _ => exact lw_at 122 (by decide +kernel) rfl
  | 3, _ => exact lw_at 124 (by decide +kernel) rfl
  | 4, _ => exact lw_at 126 (by decide +kernel) rfl
  | 5, _ => exact lw_at 128 (by decide +kernel) rfl
  | 6, _ => exact lw_at 130 (by decide +kernel) rfl
  | 7, _ => exact lw_at 132 (by decide +kernel) rfl
  | n + 8, h => omega
theorem inX2 : ∀ w ∈ wsX20, w ∈ lw_good := by
  intro w hw
  obtain ⟨k, hk, rfl⟩ := List.mem_map.mp hw
  have hk := List.mem_range.mp hk
  match k, hk with
  | 0, _ => exact lw_at 155 (by decide +kernel) rfl
  | 1, _ => exact lw_at 157 (by decide +kernel) rfl
  | 2, _ => exact lw_at 159 (by decide +kernel) rfl
  | 3, _ => exact lw_at 161 (by decide +kernel) rfl
  | 4, _ => exact lw_at 163 (by decide +kernel) rfl
  | 5, _ => exact lw_at 165 (by decide +kernel) rfl
  | 6, _ => exact lw_at 167 (by decide +kernel) rfl
  | n + 7, h => omega
theorem inX3 : ∀ w ∈ wsX30, w ∈ lw_good := by
  intro w hw
  obtain ⟨k, hk, rfl⟩ := List.mem_map.mp hw
  have hk := List.mem_range.mp hk
  match k, hk with
  | 0, _ => exact lw_at 190 (by decide +kernel) rfl
  | 1, _ => exact lw_at 192 (by decide +kernel) rfl
  | 2, _ => exact lw_at 194 (by decide +kernel) rfl
  | 3, _ => exact lw_at 196 (by decide +kernel) rfl
  | 4, _ => exact lw_at 198 (by decide +kernel) rfl
  | 5, _ => exact lw_at 200 (by decide +kernel) rfl
  | n + 6, h => omega
theorem inX4 : ∀ w ∈ wsX40, w ∈ lw_good := by
  intro w hw
  obtain ⟨k, hk, rfl⟩ := List.mem_map.mp hw
  have hk := List.mem_range.mp hk
  match k, hk with
  | 0, _ => exact lw_at 593 (by decide +kernel) rfl
  | 1, _ => exact lw_at 595 (by decide +kernel) rfl
  | 2, _ => exact lw_at 597 (by decide +kernel) rfl
  | 3, _ => exact lw_at 599 (by decide +kernel) rfl
  | 4, _ => exact lw_at 601 (by decide +kernel) rfl
  | 5, _ => exact lw_at 603 (by decide +kernel) rfl
  | 6, _ => exact lw_at 605 (by decide +kernel) rfl
  | 7, _ => exact lw_at 607 (by decide +kernel) rfl
  | 8, _ => exact lw_at 609 (by decide +kernel) rfl
  | 9, _ => exact lw_at 611 (by decide +kernel) rfl
  | 10, _ => exact lw_at 613 (by decide +kernel) rfl
  | 11, _ => exact lw_at 615 (by decide +kernel) rfl
  | 12, _ => exact lw_at 617 (by decide +kernel) rfl
  | 13, _ => exact lw_at 619 (by decide +kernel) rfl
  | 14, _ => exact lw_at 621 (by decide +kernel) rfl
  | 15, _ => exact lw_at 623 (by decide +kernel) rfl
  | n + 16, h => omega
theorem l5_7 : Cond.classLink RL 7 RX3 ∈ lw_good := lw_at 81 (by decide +kernel) rfl
theorem n5_7 : xNc RL 7 3 6 [.null, .null, .int 0, .null, .null, .null] := by
  refine ⟨RX3, TX3, tyX3, rfl, inX3, tyX3_ok, l5_7, lw_at 82 (by decide +kernel) rfl, lw_at 73 (by decide +kernel) rfl, fun G j hj => ?_⟩
  match j, hj with
  | 0, _ => rfl
  | 1, _ => rfl
  | 2, _ => rfl
  | 3, _ => rfl
  | 4, _ => rfl
  | 5, _ => rfl
  | n + 6, h => omega
theorem l3_7 : Cond.classLink RX3 7 RX1 ∈ lw_good := lw_at 89 (by decide +kernel) rfl
theorem n3_7 : xNc RX3 7 1 8 [.int 0, .null, .null, .null, .null, .int 0, .null, .int 0] := by
  refine ⟨RX1, TX1, tyX1, rfl, inX1, tyX1_ok, l3_7, lw_at 90 (by decide +kernel) rfl, lw_at 74 (by decide +kernel) rfl, fun G j hj => ?_⟩
  match j, hj with
  | 0, _ => rfl
  | 1, _ => rfl
  | 2, _ => rfl
  | 3, _ => rfl
  | 4, _ => rfl
  | 5, _ => rfl
  | 6, _ => rfl
  | 7, _ => rfl
  | n + 8, h => omega
theorem f1_9 : xFd RX1 9 1 0 := ⟨RX1, TX1, 8, rfl, inX1, by decide, Or.inl (lw_at 98 (by decide +kernel) rfl)⟩
theorem p1_9 (n : String) : xFp RX1 n 9 1 0 (.int) := ⟨RX1, TX1, 8, tyX1, rfl, inX1, by decide, tyX1_ok, nmX1, by decide +kernel, Or.inl ⟨rfl, lw_at 98 (by decide +kernel) rfl⟩⟩
theorem f0_19 : xFd RX0 19 1 0 := ⟨RX1, TX1, 8, rfl, inX1, by decide, Or.inr (lw_atN 99 (by decide +kernel) rfl)⟩
theorem p0_19 (n : String) : xFp RX0 n 19 1 0 (.int) := ⟨RX1, TX1, 8, tyX1, rfl, inX1, by decide, tyX1_ok, nmX1, by decide +kernel, Or.inr (Or.inl ⟨rfl, lw_atN 99 (by decide +kernel) rfl⟩)⟩
theorem f3_167 : xFd RX3 167 1 0 := ⟨RX1, TX1, 8, rfl, inX1, by decide, Or.inr (lw_atN 100 (by decide +kernel) rfl)⟩
theorem p3_167 (n : String) : xFp RX3 n 167 1 0 (.int) := ⟨RX1, TX1, 8, tyX1, rfl, inX1, by decide, tyX1_ok, nmX1, by decide +kernel, Or.inr (Or.inl ⟨rfl, lw_atN 100 (by decide +kernel) rfl⟩)⟩
theorem f1_15 : xFd RX1 15 1 1 := ⟨RX1, TX1, 8, rfl, inX1, by decide, Or.inl (lw_at 101 (by decide +kernel) rfl)⟩
theorem p1_15 : xFp RX1 "<init>" 15 1 1 (.array .int) := ⟨RX1, TX1, 8, tyX1, rfl, inX1, by decide, tyX1_ok, nmX1, by decide +kernel, Or.inr (Or.inr ⟨rfl, rfl, rfl, lw_at 101 (by decide +kernel) rfl⟩)⟩
theorem f3_64 : xFd RX3 64 1 1 := ⟨RX1, TX1, 8, rfl, inX1, by decide, Or.inr (lw_atN 102 (by decide +kernel) rfl)⟩
theorem f1_19 : xFd RX1 19 1 2 := ⟨RX1, TX1, 8, rfl, inX1, by decide, Or.inl (lw_at 103 (by decide +kernel) rfl)⟩
theorem p1_19 : xFp RX1 "<init>" 19 1 2 (.array .int) := ⟨RX1, TX1, 8, tyX1, rfl, inX1, by decide, tyX1_ok, nmX1, by decide +kernel, Or.inr (Or.inr ⟨rfl, rfl, rfl, lw_at 103 (by decide +kernel) rfl⟩)⟩
theorem f3_71 : xFd RX3 71 1 2 := ⟨RX1, TX1, 8, rfl, inX1, by decide, Or.inr (lw_atN 104 (by decide +kernel) rfl)⟩
theorem f1_28 : xFd RX1 28 1 3 := ⟨RX1, TX1, 8, rfl, inX1, by decide, Or.inl (lw_at 105 (by decide +kernel) rfl)⟩
theorem p1_28 : xFp RX1 "<init>" 28 1 3 (.array .int) := ⟨RX1, TX1, 8, tyX1, rfl, inX1, by decide, tyX1_ok, nmX1, by decide +kernel, Or.inr (Or.inr ⟨rfl, rfl, rfl, lw_at 105 (by decide +kernel) rfl⟩)⟩
theorem f3_81 : xFd RX3 81 1 3 := ⟨RX1, TX1, 8, rfl, inX1, by decide, Or.inr (lw_atN 106 (by decide +kernel) rfl)⟩
theorem f1_31 : xFd RX1 31 1 4 := ⟨RX1, TX1, 8, rfl, inX1, by decide, Or.inl (lw_at 107 (by decide +kernel) rfl)⟩
theorem p1_31 : xFp RX1 "<init>" 31 1 4 (.array .int) := ⟨RX1, TX1, 8, tyX1, rfl, inX1, by decide, tyX1_ok, nmX1, by decide +kernel, Or.inr (Or.inr ⟨rfl, rfl, rfl, lw_at 107 (by decide +kernel) rfl⟩)⟩
theorem f3_222 : xFd RX3 222 1 4 := ⟨RX1, TX1, 8, rfl, inX1, by decide, Or.inr (lw_atN 108 (by decide +kernel) rfl)⟩
theorem f1_34 : xFd RX1 34 1 5 := ⟨RX1, TX1, 8, rfl, inX1, by decide, Or.inl (lw_at 109 (by decide +kernel) rfl)⟩
theorem p1_34 (n : String) : xFp RX1 n 34 1 5 (.int) := ⟨RX1, TX1, 8, tyX1, rfl, inX1, by decide, tyX1_ok, nmX1, by decide +kernel, Or.inl ⟨rfl, lw_at 109 (by decide +kernel) rfl⟩⟩
theorem f0_77 : xFd RX0 77 1 5 := ⟨RX1, TX1, 8, rfl, inX1, by decide, Or.inr (lw_atN 110 (by decide +kernel) rfl)⟩
theorem p0_77 (n : String) : xFp RX0 n 77 1 5 (.int) := ⟨RX1, TX1, 8, tyX1, rfl, inX1, by decide, tyX1_ok, nmX1, by decide +kernel, Or.inr (Or.inl ⟨rfl, lw_atN 110 (by decide +kernel) rfl⟩)⟩
theorem f3_179 : xFd RX3 179 1 5 := ⟨RX1, TX1, 8, rfl, inX1, by decide, Or.inr (lw_atN 111 (by decide +kernel) rfl)⟩
theorem p3_179 (n : String) : xFp RX3 n 179 1 5 (.int) := ⟨RX1, TX1, 8, tyX1, rfl, inX1, by decide, tyX1_ok, nmX1, by decide +kernel, Or.inr (Or.inl ⟨rfl, lw_atN 111 (by decide +kernel) rfl⟩)⟩
theorem f1_37 : xFd RX1 37 1 6 := ⟨RX1, TX1, 8, rfl, inX1, by decide, Or.inl (lw_at 112 (by decide +kernel) rfl)⟩
theorem p1_37 : xFp RX1 "<init>" 37 1 6 (.array .int) := ⟨RX1, TX1, 8, tyX1, rfl, inX1, by decide, tyX1_ok, nmX1, by decide +kernel, Or.inr (Or.inr ⟨rfl, rfl, rfl, lw_at 112 (by decide +kernel) rfl⟩)⟩
theorem f0_35 : xFd RX0 35 1 6 := ⟨RX1, TX1, 8, rfl, inX1, by decide, Or.inr (lw_atN 113 (by decide +kernel) rfl)⟩
theorem f3_146 : xFd RX3 146 1 6 := ⟨RX1, TX1, 8, rfl, inX1, by decide, Or.inr (lw_atN 114 (by decide +kernel) rfl)⟩
theorem f1_40 : xFd RX1 40 1 7 := ⟨RX1, TX1, 8, rfl, inX1, by decide, Or.inl (lw_at 115 (by decide +kernel) rfl)⟩
theorem p1_40 (n : String) : xFp RX1 n 40 1 7 (.int) := ⟨RX1, TX1, 8, tyX1, rfl, inX1, by decide, tyX1_ok, nmX1, by decide +kernel, Or.inl ⟨rfl, lw_at 115 (by decide +kernel) rfl⟩⟩
theorem f0_32 : xFd RX0 32 1 7 := ⟨RX1, TX1, 8, rfl, inX1, by decide, Or.inr (lw_atN 116 (by decide +kernel) rfl)⟩
theorem p0_32 (n : String) : xFp RX0 n 32 1 7 (.int) := ⟨RX1, TX1, 8, tyX1, rfl, inX1, by decide, tyX1_ok, nmX1, by decide +kernel, Or.inr (Or.inl ⟨rfl, lw_atN 116 (by decide +kernel) rfl⟩)⟩
theorem f3_139 : xFd RX3 139 1 7 := ⟨RX1, TX1, 8, rfl, inX1, by decide, Or.inr (lw_atN 117 (by decide +kernel) rfl)⟩
theorem p3_139 (n : String) : xFp RX3 n 139 1 7 (.int) := ⟨RX1, TX1, 8, tyX1, rfl, inX1, by decide, tyX1_ok, nmX1, by decide +kernel, Or.inr (Or.inl ⟨rfl, lw_atN 117 (by decide +kernel) rfl⟩)⟩
theorem wA_int : Cond.arrayClass .int ∈ lw_good := lw_at 135 (by decide +kernel) rfl
theorem l3_28 : Cond.classLink RX3 28 RX2 ∈ lw_good := lw_at 137 (by decide +kernel) rfl
theorem n3_28 : xNc RX3 28 2 7 [.null, .int 0, .int 0, .int 0, .null, .null, .null] := by
  refine ⟨RX2, TX2, tyX2, rfl, inX2, tyX2_ok, l3_28, lw_at 138 (by decide +kernel) rfl, lw_at 76 (by decide +kernel) rfl, fun G j hj => ?_⟩
  match j, hj with
  | 0, _ => rfl
  | 1, _ => rfl
  | 2, _ => rfl
  | 3, _ => rfl
  | 4, _ => rfl
  | 5, _ => rfl
  | 6, _ => rfl
  | n + 7, h => omega
theorem f2_9 : xFd RX2 9 2 0 := ⟨RX2, TX2, 7, rfl, inX2, by decide, Or.inl (lw_at 143 (by decide +kernel) rfl)⟩
theorem p2_9 : xFp RX2 "<init>" 9 2 0 (.array .int) := ⟨RX2, TX2, 7, tyX2, rfl, inX2, by decide, tyX2_ok, nmX2, by decide +kernel, Or.inr (Or.inr ⟨rfl, rfl, rfl, lw_at 143 (by decide +kernel) rfl⟩)⟩
theorem f2_15 : xFd RX2 15 2 1 := ⟨RX2, TX2, 7, rfl, inX2, by decide, Or.inl (lw_at 144 (by decide +kernel) rfl)⟩
theorem p2_15 (n : String) : xFp RX2 n 15 2 1 (.int) := ⟨RX2, TX2, 7, tyX2, rfl, inX2, by decide, tyX2_ok, nmX2, by decide +kernel, Or.inl ⟨rfl, lw_at 144 (by decide +kernel) rfl⟩⟩
theorem f3_185 : xFd RX3 185 2 1 := ⟨RX2, TX2, 7, rfl, inX2, by decide, Or.inr (lw_atN 145 (by decide +kernel) rfl)⟩
theorem p3_185 (n : String) : xFp RX3 n 185 2 1 (.int) := ⟨RX2, TX2, 7, tyX2, rfl, inX2, by decide, tyX2_ok, nmX2, by decide +kernel, Or.inr (Or.inl ⟨rfl, lw_atN 145 (by decide +kernel) rfl⟩)⟩
theorem f2_19 : xFd RX2 19 2 2 := ⟨RX2, TX2, 7, rfl, inX2, by decide, Or.inl (lw_at 146 (by decide +kernel) rfl)⟩
theorem p2_19 (n : String) : xFp RX2 n 19 2 2 (.int) := ⟨RX2, TX2, 7, tyX2, rfl, inX2, by decide, tyX2_ok, nmX2, by decide +kernel, Or.inl ⟨rfl, lw_at 146 (by decide +kernel) rfl⟩⟩
theorem f2_22 : xFd RX2 22 2 3 := ⟨RX2, TX2, 7, rfl, inX2, by decide, Or.inl (lw_at 147 (by decide +kernel) rfl)⟩
theorem p2_22 (n : String) : xFp RX2 n 22 2 3 (.int) := ⟨RX2, TX2, 7, tyX2, rfl, inX2, by decide, tyX2_ok, nmX2, by decide +kernel, Or.inl ⟨rfl, lw_at 147 (by decide +kernel) rfl⟩⟩
theorem f3_197 : xFd RX3 197 2 3 := ⟨RX2, TX2, 7, rfl, inX2, by decide, Or.inr (lw_atN 148 (by decide +kernel) rfl)⟩
theorem p3_197 (n : String) : xFp RX3 n 197 2 3 (.int) := ⟨RX2, TX2, 7, tyX2, rfl, inX2, by decide, tyX2_ok, nmX2, by decide +kernel, Or.inr (Or.inl ⟨rfl, lw_atN 148 (by decide +kernel) rfl⟩)⟩
theorem f2_25 : xFd RX2 25 2 4 := ⟨RX2, TX2, 7, rfl, inX2, by decide, Or.inl (lw_at 149 (by decide +kernel) rfl)⟩
theorem p2_25 : xFp RX2 "<init>" 25 2 4 (.array .int) := ⟨RX2, TX2, 7, tyX2, rfl, inX2, by decide, tyX2_ok, nmX2, by decide +kernel, Or.inr (Or.inr ⟨rfl, rfl, rfl, lw_at 149 (by decide +kernel) rfl⟩)⟩
theorem f3_200 : xFd RX3 200 2 4 := ⟨RX2, TX2, 7, rfl, inX2, by decide, Or.inr (lw_atN 150 (by decide +kernel) rfl)⟩
theorem f2_28 : xFd RX2 28 2 5 := ⟨RX2, TX2, 7, rfl, inX2, by decide, Or.inl (lw_at 151 (by decide +kernel) rfl)⟩
theorem p2_28 : xFp RX2 "<init>" 28 2 5 (.array .int) := ⟨RX2, TX2, 7, tyX2, rfl, inX2, by decide, tyX2_ok, nmX2, by decide +kernel, Or.inr (Or.inr ⟨rfl, rfl, rfl, lw_at 151 (by decide +kernel) rfl⟩)⟩
theorem f3_203 : xFd RX3 203 2 5 := ⟨RX2, TX2, 7, rfl, inX2, by decide, Or.inr (lw_atN 152 (by decide +kernel) rfl)⟩
theorem f2_31 : xFd RX2 31 2 6 := ⟨RX2, TX2, 7, rfl, inX2, by decide, Or.inl (lw_at 153 (by decide +kernel) rfl)⟩
theorem p2_31 : xFp RX2 "<init>" 31 2 6 (.array .int) := ⟨RX2, TX2, 7, tyX2, rfl, inX2, by decide, tyX2_ok, nmX2, by decide +kernel, Or.inr (Or.inr ⟨rfl, rfl, rfl, lw_at 153 (by decide +kernel) rfl⟩)⟩
theorem f3_206 : xFd RX3 206 2 6 := ⟨RX2, TX2, 7, rfl, inX2, by decide, Or.inr (lw_atN 154 (by decide +kernel) rfl)⟩
theorem l3_35 : Cond.classLink RX3 35 RX0 ∈ lw_good := lw_at 170 (by decide +kernel) rfl
theorem n3_35 : xNc RX3 35 0 2 [.null, .null] := by
  refine ⟨RX0, TX0, tyX0, rfl, inX0, tyX0_ok, l3_35, lw_at 171 (by decide +kernel) rfl, lw_at 77 (by decide +kernel) rfl, fun G j hj => ?_⟩
  match j, hj with
  | 0, _ => rfl
  | 1, _ => rfl
  | n + 2, h => omega
theorem f0_9 : xFd RX0 9 0 0 := ⟨RX0, TX0, 2, rfl, inX0, by decide, Or.inl (lw_at 176 (by decide +kernel) rfl)⟩
theorem p0_9 : xFp RX0 "<init>" 9 0 0 (.array .float) := ⟨RX0, TX0, 2, tyX0, rfl, inX0, by decide, tyX0_ok, nmX0, by decide +kernel, Or.inr (Or.inr ⟨rfl, rfl, rfl, lw_at 176 (by decide +kernel) rfl⟩)⟩
theorem f0_15 : xFd RX0 15 0 1 := ⟨RX0, TX0, 2, rfl, inX0, by decide, Or.inl (lw_at 177 (by decide +kernel) rfl)⟩
theorem p0_15 : xFp RX0 "<init>" 15 0 1 (.array .int) := ⟨RX0, TX0, 2, tyX0, rfl, inX0, by decide, tyX0_ok, nmX0, by decide +kernel, Or.inr (Or.inr ⟨rfl, rfl, rfl, lw_at 177 (by decide +kernel) rfl⟩)⟩
theorem wA_float : Cond.arrayClass .float ∈ lw_good := lw_at 183 (by decide +kernel) rfl
theorem f3_10 : xFd RX3 10 3 0 := ⟨RX3, TX3, 6, rfl, inX3, by decide, Or.inl (lw_at 184 (by decide +kernel) rfl)⟩
theorem p3_10 : xFp RX3 "<init>" 10 3 0 (.object "HuesApart$Scene") := ⟨RX3, TX3, 6, tyX3, rfl, inX3, by decide, tyX3_ok, nmX3, by decide +kernel, Or.inr (Or.inr ⟨rfl, rfl, rfl, lw_at 184 (by decide +kernel) rfl⟩)⟩
theorem f3_16 : xFd RX3 16 3 1 := ⟨RX3, TX3, 6, rfl, inX3, by decide, Or.inl (lw_at 185 (by decide +kernel) rfl)⟩
theorem p3_16 : xFp RX3 "<init>" 16 3 1 (.array (.object "HuesApart$Scene")) := ⟨RX3, TX3, 6, tyX3, rfl, inX3, by decide, tyX3_ok, nmX3, by decide +kernel, Or.inr (Or.inr ⟨rfl, rfl, rfl, lw_at 185 (by decide +kernel) rfl⟩)⟩
theorem f3_20 : xFd RX3 20 3 2 := ⟨RX3, TX3, 6, rfl, inX3, by decide, Or.inl (lw_at 186 (by decide +kernel) rfl)⟩
theorem p3_20 (n : String) : xFp RX3 n 20 3 2 (.int) := ⟨RX3, TX3, 6, tyX3, rfl, inX3, by decide, tyX3_ok, nmX3, by decide +kernel, Or.inl ⟨rfl, lw_at 186 (by decide +kernel) rfl⟩⟩
theorem f3_24 : xFd RX3 24 3 3 := ⟨RX3, TX3, 6, rfl, inX3, by decide, Or.inl (lw_at 187 (by decide +kernel) rfl)⟩
theorem p3_24 : xFp RX3 "<init>" 24 3 3 (.array .int) := ⟨RX3, TX3, 6, tyX3, rfl, inX3, by decide, tyX3_ok, nmX3, by decide +kernel, Or.inr (Or.inr ⟨rfl, rfl, rfl, lw_at 187 (by decide +kernel) rfl⟩)⟩
theorem f3_31 : xFd RX3 31 3 4 := ⟨RX3, TX3, 6, rfl, inX3, by decide, Or.inl (lw_at 188 (by decide +kernel) rfl)⟩
theorem p3_31 : xFp RX3 "<init>" 31 3 4 (.object "HuesApart$Script") := ⟨RX3, TX3, 6, tyX3, rfl, inX3, by decide, tyX3_ok, nmX3, by decide +kernel, Or.inr (Or.inr ⟨rfl, rfl, rfl, lw_at 188 (by decide +kernel) rfl⟩)⟩
theorem f3_38 : xFd RX3 38 3 5 := ⟨RX3, TX3, 6, rfl, inX3, by decide, Or.inl (lw_at 189 (by decide +kernel) rfl)⟩
theorem p3_38 : xFp RX3 "<init>" 38 3 5 (.object "HuesApart$Chooser") := ⟨RX3, TX3, 6, tyX3, rfl, inX3, by decide, tyX3_ok, nmX3, by decide +kernel, Or.inr (Or.inr ⟨rfl, rfl, rfl, lw_at 189 (by decide +kernel) rfl⟩)⟩
theorem k6_265 : Jvm.Cond.constant RJ6 265 1431655765 ∈ lw_good := lw_at 297 (by decide +kernel) rfl
theorem k6_266 : Jvm.Cond.constant RJ6 266 858993459 ∈ lw_good := lw_at 298 (by decide +kernel) rfl
theorem k6_267 : Jvm.Cond.constant RJ6 267 252645135 ∈ lw_good := lw_at 299 (by decide +kernel) rfl
theorem k1_71 : Jvm.Cond.constantFloat RX1 71 1050220167 ∈ lw_good := lw_at 319 (by decide +kernel) rfl
theorem k1_72 : Jvm.Cond.constantFloat RX1 72 1058424226 ∈ lw_good := lw_at 320 (by decide +kernel) rfl
theorem k1_73 : Jvm.Cond.constantFloat RX1 73 1038710997 ∈ lw_good := lw_at 321 (by decide +kernel) rfl
theorem k3_256 : Jvm.Cond.constantFloat RX3 256 1056964608 ∈ lw_good := lw_at 338 (by decide +kernel) rfl
theorem k3_257 : Jvm.Cond.constantFloat RX3 257 1258291200 ∈ lw_good := lw_at 339 (by decide +kernel) rfl
theorem k3_120 : Jvm.Cond.constant RX3 120 (-2147483648) ∈ lw_good := lw_at 340 (by decide +kernel) rfl
theorem k1_74 : Jvm.Cond.constantFloat RX1 74 1120403456 ∈ lw_good := lw_at 353 (by decide +kernel) rfl
theorem k3_225 : Jvm.Cond.constantLong RX3 225 2619 ∈ lw_good := lw_at 563 (by decide +kernel) rfl
theorem k3_227 : Jvm.Cond.constantLong RX3 227 31 ∈ lw_good := lw_at 564 (by decide +kernel) rfl
theorem l5_10 : Cond.classLink RL 10 RX4 ∈ lw_good := lw_at 571 (by decide +kernel) rfl
theorem n5_10 : xNc RL 10 4 16 [.null, .null, .null, .int 0, .null, .null, .int 0, .null, .int 0, .null, .null, .null, .int 0, .int 0, .int 0, .long 0] := by
  refine ⟨RX4, TX4, tyX4, rfl, inX4, tyX4_ok, l5_10, lw_at 572 (by decide +kernel) rfl, lw_at 78 (by decide +kernel) rfl, fun G j hj => ?_⟩
  match j, hj with
  | 0, _ => rfl
  | 1, _ => rfl
  | 2, _ => rfl
  | 3, _ => rfl
  | 4, _ => rfl
  | 5, _ => rfl
  | 6, _ => rfl
  | 7, _ => rfl
  | 8, _ => rfl
  | 9, _ => rfl
  | 10, _ => rfl
  | 11, _ => rfl
  | 12, _ => rfl
  | 13, _ => rfl
  | 14, _ => rfl
  | 15, _ => rfl
  | n + 16, h => omega
theorem f4_7 : xFd RX4 7 4 0 := ⟨RX4, TX4, 16, rfl, inX4, by decide, Or.inl (lw_at 577 (by decide +kernel) rfl)⟩
theorem p4_7 : xFp RX4 "<init>" 7 4 0 (.array .int) := ⟨RX4, TX4, 16, tyX4, rfl, inX4, by decide, tyX4_ok, nmX4, by decide +kernel, Or.inr (Or.inr ⟨rfl, rfl, rfl, lw_at 577 (by decide +kernel) rfl⟩)⟩
theorem f4_13 : xFd RX4 13 4 1 := ⟨RX4, TX4, 16, rfl, inX4, by decide, Or.inl (lw_at 578 (by decide +kernel) rfl)⟩
theorem p4_13 : xFp RX4 "<init>" 13 4 1 (.array .int) := ⟨RX4, TX4, 16, tyX4, rfl, inX4, by decide, tyX4_ok, nmX4, by decide +kernel, Or.inr (Or.inr ⟨rfl, rfl, rfl, lw_at 578 (by decide +kernel) rfl⟩)⟩
theorem f4_16 : xFd RX4 16 4 2 := ⟨RX4, TX4, 16, rfl, inX4, by decide, Or.inl (lw_at 579 (by decide +kernel) rfl)⟩
theorem p4_16 : xFp RX4 "<init>" 16 4 2 (.array .int) := ⟨RX4, TX4, 16, tyX4, rfl, inX4, by decide, tyX4_ok, nmX4, by decide +kernel, Or.inr (Or.inr ⟨rfl, rfl, rfl, lw_at 579 (by decide +kernel) rfl⟩)⟩
theorem f4_41 : xFd RX4 41 4 3 := ⟨RX4, TX4, 16, rfl, inX4, by decide, Or.inl (lw_at 580 (by decide +kernel) rfl)⟩
theorem p4_41 (n : String) : xFp RX4 n 41 4 3 (.int) := ⟨RX4, TX4, 16, tyX4, rfl, inX4, by decide, tyX4_ok, nmX4, by decide +kernel, Or.inl ⟨rfl, lw_at 580 (by decide +kernel) rfl⟩⟩
theorem f4_19 : xFd RX4 19 4 4 := ⟨RX4, TX4, 16, rfl, inX4, by decide, Or.inl (lw_at 581 (by decide +kernel) rfl)⟩
theorem p4_19 : xFp RX4 "<init>" 19 4 4 (.array .int) := ⟨RX4, TX4, 16, tyX4, rfl, inX4, by decide, tyX4_ok, nmX4, by decide +kernel, Or.inr (Or.inr ⟨rfl, rfl, rfl, lw_at 581 (by decide +kernel) rfl⟩)⟩
theorem f4_22 : xFd RX4 22 4 5 := ⟨RX4, TX4, 16, rfl, inX4, by decide, Or.inl (lw_at 582 (by decide +kernel) rfl)⟩
theorem p4_22 : xFp RX4 "<init>" 22 4 5 (.array .int) := ⟨RX4, TX4, 16, tyX4, rfl, inX4, by decide, tyX4_ok, nmX4, by decide +kernel, Or.inr (Or.inr ⟨rfl, rfl, rfl, lw_at 582 (by decide +kernel) rfl⟩)⟩
theorem f4_198 : xFd RX4 198 4 6 := ⟨RX4, TX4, 16, rfl, inX4, by decide, Or.inl (lw_at 583 (by decide +kernel) rfl)⟩
theorem p4_198 (n : String) : xFp RX4 n 198 4 6 (.int) := ⟨RX4, TX4, 16, tyX4, rfl, inX4, by decide, tyX4_ok, nmX4, by decide +kernel, Or.inl ⟨rfl, lw_at 583 (by decide +kernel) rfl⟩⟩
theorem f4_25 : xFd RX4 25 4 7 := ⟨RX4, TX4, 16, rfl, inX4, by decide, Or.inl (lw_at 584 (by decide +kernel) rfl)⟩
theorem p4_25 : xFp RX4 "<init>" 25 4 7 (.array .float) := ⟨RX4, TX4, 16, tyX4, rfl, inX4, by decide, tyX4_ok, nmX4, by decide +kernel, Or.inr (Or.inr ⟨rfl, rfl, rfl, lw_at 584 (by decide +kernel) rfl⟩)⟩
theorem f4_133 : xFd RX4 133 4 8 := ⟨RX4, TX4, 16, rfl, inX4, by decide, Or.inl (lw_at 585 (by decide +kernel) rfl)⟩
theorem p4_133 (n : String) : xFp RX4 n 133 4 8 (.int) := ⟨RX4, TX4, 16, tyX4, rfl, inX4, by decide, tyX4_ok, nmX4, by decide +kernel, Or.inl ⟨rfl, lw_at 585 (by decide +kernel) rfl⟩⟩
theorem f4_29 : xFd RX4 29 4 9 := ⟨RX4, TX4, 16, rfl, inX4, by decide, Or.inl (lw_at 586 (by decide +kernel) rfl)⟩
theorem p4_29 : xFp RX4 "<init>" 29 4 9 (.array .int) := ⟨RX4, TX4, 16, tyX4, rfl, inX4, by decide, tyX4_ok, nmX4, by decide +kernel, Or.inr (Or.inr ⟨rfl, rfl, rfl, lw_at 586 (by decide +kernel) rfl⟩)⟩
theorem f4_32 : xFd RX4 32 4 10 := ⟨RX4, TX4, 16, rfl, inX4, by decide, Or.inl (lw_at 587 (by decide +kernel) rfl)⟩
theorem p4_32 : xFp RX4 "<init>" 32 4 10 (.array .int) := ⟨RX4, TX4, 16, tyX4, rfl, inX4, by decide, tyX4_ok, nmX4, by decide +kernel, Or.inr (Or.inr ⟨rfl, rfl, rfl, lw_at 587 (by decide +kernel) rfl⟩)⟩
theorem f4_35 : xFd RX4 35 4 11 := ⟨RX4, TX4, 16, rfl, inX4, by decide, Or.inl (lw_at 588 (by decide +kernel) rfl)⟩
theorem p4_35 : xFp RX4 "<init>" 35 4 11 (.array .int) := ⟨RX4, TX4, 16, tyX4, rfl, inX4, by decide, tyX4_ok, nmX4, by decide +kernel, Or.inr (Or.inr ⟨rfl, rfl, rfl, lw_at 588 (by decide +kernel) rfl⟩)⟩
theorem f4_216 : xFd RX4 216 4 12 := ⟨RX4, TX4, 16, rfl, inX4, by decide, Or.inl (lw_at 589 (by decide +kernel) rfl)⟩
theorem p4_216 (n : String) : xFp RX4 n 216 4 12 (.int) := ⟨RX4, TX4, 16, tyX4, rfl, inX4, by decide, tyX4_ok, nmX4, by decide +kernel, Or.inl ⟨rfl, lw_at 589 (by decide +kernel) rfl⟩⟩
theorem f4_201 : xFd RX4 201 4 13 := ⟨RX4, TX4, 16, rfl, inX4, by decide, Or.inl (lw_at 590 (by decide +kernel) rfl)⟩
theorem p4_201 (n : String) : xFp RX4 n 201 4 13 (.int) := ⟨RX4, TX4, 16, tyX4, rfl, inX4, by decide, tyX4_ok, nmX4, by decide +kernel, Or.inl ⟨rfl, lw_at 590 (by decide +kernel) rfl⟩⟩
theorem f4_207 : xFd RX4 207 4 14 := ⟨RX4, TX4, 16, rfl, inX4, by decide, Or.inl (lw_at 591 (by decide +kernel) rfl)⟩
theorem p4_207 (n : String) : xFp RX4 n 207 4 14 (.int) := ⟨RX4, TX4, 16, tyX4, rfl, inX4, by decide, tyX4_ok, nmX4, by decide +kernel, Or.inl ⟨rfl, lw_at 591 (by decide +kernel) rfl⟩⟩
theorem f4_251 : xFd RX4 251 4 15 := ⟨RX4, TX4, 16, rfl, inX4, by decide, Or.inl (lw_at 592 (by decide +kernel) rfl)⟩
theorem p4_251 (n : String) : xFp RX4 n 251 4 15 (.long) := ⟨RX4, TX4, 16, tyX4, rfl, inX4, by decide, tyX4_ok, nmX4, by decide +kernel, Or.inl ⟨rfl, lw_at 592 (by decide +kernel) rfl⟩⟩
theorem k4_101 : Jvm.Cond.constantFloat RX4 101 1050220167 ∈ lw_good := lw_at 728 (by decide +kernel) rfl
theorem k4_102 : Jvm.Cond.constantFloat RX4 102 1058424226 ∈ lw_good := lw_at 729 (by decide +kernel) rfl
theorem k4_103 : Jvm.Cond.constantFloat RX4 103 1038710997 ∈ lw_good := lw_at 730 (by decide +kernel) rfl
theorem k4_38 : Jvm.Cond.constant RX4 38 (-2147483648) ∈ lw_good := lw_at 746 (by decide +kernel) rfl
theorem k4_39 : Jvm.Cond.constantFloat RX4 39 1056964608 ∈ lw_good := lw_at 747 (by decide +kernel) rfl
theorem k4_40 : Jvm.Cond.constantFloat RX4 40 1258291200 ∈ lw_good := lw_at 748 (by decide +kernel) rfl
theorem k4_121 : Jvm.Cond.constantFloat RX4 121 1120403456 ∈ lw_good := lw_at 757 (by decide +kernel) rfl
theorem k4_255 : Jvm.Cond.constantLong RX4 255 2619 ∈ lw_good := lw_at 957 (by decide +kernel) rfl
theorem k4_249 : Jvm.Cond.constantLong RX4 249 31 ∈ lw_good := lw_at 962 (by decide +kernel) rfl
theorem wO_i : Cond.instanceMethod Lib.objectInit ∈ lw_good := lw_at 87 (by decide +kernel) rfl
theorem wO_c : Cond.code Lib.objectInit ⟨#[0xb1]⟩ 1 none ∈ lw_good := lw_at 88 (by decide +kernel) rfl
theorem wC_n : Cond.native arraycopyName ∈ lw_good := lw_at 235 (by decide +kernel) rfl
theorem wC_s : Cond.static arraycopyName ∈ lw_good := lw_at 234 (by decide +kernel) rfl
theorem wC_i : Cond.initialized "java/lang/System" ∈ lw_good := lw_at 79 (by decide +kernel) rfl
abbrev mX0_init : xM := (yX0_init, cX0_init, 1, none, none)
theorem mdX0_init : xMd mX0_init 0 := ⟨rfl, by decide, by decide, lw_at 174 (by decide +kernel) rfl, lw_at 77 (by decide +kernel) rfl, by decide +kernel⟩
abbrev mX0_measure : xM := (yX0_measure, cX0_measure, 5, none, none)
theorem mdX0_measure : xMd mX0_measure 1 := ⟨rfl, by decide, by decide, lw_at 388 (by decide +kernel) rfl, lw_at 77 (by decide +kernel) rfl, by decide +kernel⟩
abbrev mX0_gap : xM := (yX0_gap, cX0_gap, 3, (some .float), none)
theorem mdX0_gap : xMd mX0_gap 2 := ⟨rfl, by decide, by decide, lw_at 416 (by decide +kernel) rfl, lw_at 77 (by decide +kernel) rfl, by decide +kernel⟩
abbrev mX0_leastOf : xM := (yX0_leastOf, cX0_leastOf, 7, (some .float), none)
theorem mdX0_leastOf : xMd mX0_leastOf 2 := ⟨rfl, by decide, by decide, lw_at 432 (by decide +kernel) rfl, lw_at 77 (by decide +kernel) rfl, by decide +kernel⟩
abbrev mX0_nearestPlaces : xM := (yX0_nearestPlaces, cX0_nearestPlaces, 7, (some .int), none)
theorem mdX0_nearestPlaces : xMd mX0_nearestPlaces 1 := ⟨rfl, by decide, by decide, lw_at 450 (by decide +kernel) rfl, lw_at 77 (by decide +kernel) rfl, by decide +kernel⟩
abbrev mX0_fill : xM := (yX0_fill, cX0_fill, 6, none, none)
theorem mdX0_fill : xMd mX0_fill 2 := ⟨rfl, by decide, by decide, lw_at 384 (by decide +kernel) rfl, lw_at 77 (by decide +kernel) rfl, by decide +kernel⟩
abbrev mX0_nextOne : xM := (yX0_nextOne, cX0_nextOne, 7, (some .int), none)
theorem mdX0_nextOne : xMd mX0_nextOne 2 := ⟨rfl, by decide, by decide, lw_at 407 (by decide +kernel) rfl, lw_at 77 (by decide +kernel) rfl, by decide +kernel⟩
abbrev mX0_gapToRow : xM := (yX0_gapToRow, cX0_gapToRow, 6, (some .float), none)
theorem mdX0_gapToRow : xMd mX0_gapToRow 2 := ⟨rfl, by decide, by decide, lw_at 412 (by decide +kernel) rfl, lw_at 77 (by decide +kernel) rfl, by decide +kernel⟩
abbrev mX0_swapAll : xM := (yX0_swapAll, cX0_swapAll, 4, (some .int), none)
theorem mdX0_swapAll : xMd mX0_swapAll 1 := ⟨rfl, by decide, by decide, lw_at 424 (by decide +kernel) rfl, lw_at 77 (by decide +kernel) rfl, by decide +kernel⟩
abbrev mX0_swapOne : xM := (yX0_swapOne, cX0_swapOne, 7, (some .boolean), none)
theorem mdX0_swapOne : xMd mX0_swapOne 2 := ⟨rfl, by decide, by decide, lw_at 428 (by decide +kernel) rfl, lw_at 77 (by decide +kernel) rfl, by decide +kernel⟩
abbrev mX0_bestSet : xM := (yX0_bestSet, cX0_bestSet, 9, (some .int), none)
theorem mdX0_bestSet : xMd mX0_bestSet 2 := ⟨rfl, by decide, by decide, lw_at 458 (by decide +kernel) rfl, lw_at 77 (by decide +kernel) rfl, by decide +kernel⟩
abbrev mX0_listMembers : xM := (yX0_listMembers, cX0_listMembers, 4, (some .int), none)
theorem mdX0_listMembers : xMd mX0_listMembers 1 := ⟨rfl, by decide, by decide, lw_at 462 (by decide +kernel) rfl, lw_at 77 (by decide +kernel) rfl, by decide +kernel⟩
abbrev mX0_nextOfLikeSize : xM := (yX0_nextOfLikeSize, cX0_nextOfLikeSize, 4, (some .int), none)
theorem mdX0_nextOfLikeSize : xMd mX0_nextOfLikeSize 1 := ⟨rfl, by decide, by decide, lw_at 465 (by decide +kernel) rfl, lw_at 77 (by decide +kernel) rfl, by decide +kernel⟩
abbrev mX1_init : xM := (yX1_init, cX1_init, 3, none, none)
theorem mdX1_init : xMd mX1_init 0 := ⟨rfl, by decide, by decide, lw_at 93 (by decide +kernel) rfl, lw_at 74 (by decide +kernel) rfl, by decide +kernel⟩
abbrev mX1_become : xM := (yX1_become, cX1_become, 2, none, none)
theorem mdX1_become : xMd mX1_become 1 := ⟨rfl, by decide, by decide, lw_at 232 (by decide +kernel) rfl, lw_at 74 (by decide +kernel) rfl, by decide +kernel⟩
abbrev mX1_addColour : xM := (yX1_addColour, cX1_addColour, 5, (some .int), none)
theorem mdX1_addColour : xMd mX1_addColour 3 := ⟨rfl, by decide, by decide, lw_at 243 (by decide +kernel) rfl, lw_at 74 (by decide +kernel) rfl, by decide +kernel⟩
abbrev mX1_setLimit : xM := (yX1_setLimit, cX1_setLimit, 4, (some .int), none)
theorem mdX1_setLimit : xMd mX1_setLimit 2 := ⟨rfl, by decide, by decide, lw_at 281 (by decide +kernel) rfl, lw_at 74 (by decide +kernel) rfl, by decide +kernel⟩
abbrev mX1_setFixed : xM := (yX1_setFixed, cX1_setFixed, 3, (some .int), none)
theorem mdX1_setFixed : xMd mX1_setFixed 2 := ⟨rfl, by decide, by decide, lw_at 293 (by decide +kernel) rfl, lw_at 74 (by decide +kernel) rfl, by decide +kernel⟩
abbrev mX1_isFixed : xM := (yX1_isFixed, cX1_isFixed, 2, (some .boolean), none)
theorem mdX1_isFixed : xMd mX1_isFixed 1 := ⟨rfl, by decide, by decide, lw_at 307 (by decide +kernel) rfl, lw_at 74 (by decide +kernel) rfl, by decide +kernel⟩
abbrev mX1_putIntoRow : xM := (yX1_putIntoRow, cX1_putIntoRow, 2, none, none)
theorem mdX1_putIntoRow : xMd mX1_putIntoRow 1 := ⟨rfl, by decide, by decide, lw_at 394 (by decide +kernel) rfl, lw_at 74 (by decide +kernel) rfl, by decide +kernel⟩
abbrev mX1_placeOf : xM := (yX1_placeOf, cX1_placeOf, 3, (some .int), none)
theorem mdX1_placeOf : xMd mX1_placeOf 1 := ⟨rfl, by decide, by decide, lw_at 325 (by decide +kernel) rfl, lw_at 74 (by decide +kernel) rfl, by decide +kernel⟩
abbrev mX1_rowBits : xM := (yX1_rowBits, cX1_rowBits, 3, (some .int), none)
theorem mdX1_rowBits : xMd mX1_rowBits 0 := ⟨rfl, by decide, by decide, lw_at 403 (by decide +kernel) rfl, lw_at 74 (by decide +kernel) rfl, by decide +kernel⟩
abbrev mX1_countingBits : xM := (yX1_countingBits, cX1_countingBits, 3, (some .int), none)
theorem mdX1_countingBits : xMd mX1_countingBits 0 := ⟨rfl, by decide, by decide, lw_at 483 (by decide +kernel) rfl, lw_at 74 (by decide +kernel) rfl, by decide +kernel⟩
abbrev mX1_fitBits : xM := (yX1_fitBits, cX1_fitBits, 3, (some .int), none)
theorem mdX1_fitBits : xMd mX1_fitBits 0 := ⟨rfl, by decide, by decide, lw_at 398 (by decide +kernel) rfl, lw_at 74 (by decide +kernel) rfl, by decide +kernel⟩
abbrev mX1_isFit : xM := (yX1_isFit, cX1_isFit, 5, (some .boolean), none)
theorem mdX1_isFit : xMd mX1_isFit 1 := ⟨rfl, by decide, by decide, lw_at 311 (by decide +kernel) rfl, lw_at 74 (by decide +kernel) rfl, by decide +kernel⟩
abbrev mX1_lightOf : xM := (yX1_lightOf, cX1_lightOf, 2, (some .float), none)
theorem mdX1_lightOf : xMd mX1_lightOf 1 := ⟨rfl, by decide, by decide, lw_at 315 (by decide +kernel) rfl, lw_at 74 (by decide +kernel) rfl, by decide +kernel⟩
abbrev mX1_lightAt : xM := (yX1_lightAt, cX1_lightAt, 2, (some .float), none)
theorem mdX1_lightAt : xMd mX1_lightAt 2 := ⟨rfl, by decide, by decide, lw_at 318 (by decide +kernel) rfl, lw_at 74 (by decide +kernel) rfl, by decide +kernel⟩
abbrev mX1_seenBy : xM := (yX1_seenBy, cX1_seenBy, 8, (some .float), none)
theorem mdX1_seenBy : xMd mX1_seenBy 3 := ⟨rfl, by decide, by decide, lw_at 352 (by decide +kernel) rfl, lw_at 74 (by decide +kernel) rfl, by decide +kernel⟩
abbrev mX1_isSeenAsMinusZero : xM := (yX1_isSeenAsMinusZero, cX1_isSeenAsMinusZero, 6, (some .boolean), none)
theorem mdX1_isSeenAsMinusZero : xMd mX1_isSeenAsMinusZero 3 := ⟨rfl, by decide, by decide, lw_at 348 (by decide +kernel) rfl, lw_at 74 (by decide +kernel) rfl, by decide +kernel⟩
abbrev mX1_distanceFor : xM := (yX1_distanceFor, cX1_distanceFor, 8, (some .float), none)
theorem mdX1_distanceFor : xMd mX1_distanceFor 3 := ⟨rfl, by decide, by decide, lw_at 361 (by decide +kernel) rfl, lw_at 74 (by decide +kernel) rfl, by decide +kernel⟩
abbrev mX1_apartOf : xM := (yX1_apartOf, cX1_apartOf, 7, (some .float), none)
theorem mdX1_apartOf : xMd mX1_apartOf 2 := ⟨rfl, by decide, by decide, lw_at 370 (by decide +kernel) rfl, lw_at 74 (by decide +kernel) rfl, by decide +kernel⟩
abbrev mX1_pairsBelow : xM := (yX1_pairsBelow, cX1_pairsBelow, 6, (some .int), none)
theorem mdX1_pairsBelow : xMd mX1_pairsBelow 2 := ⟨rfl, by decide, by decide, lw_at 474 (by decide +kernel) rfl, lw_at 74 (by decide +kernel) rfl, by decide +kernel⟩
abbrev mX2_init : xM := (yX2_init, cX2_init, 1, none, none)
theorem mdX2_init : xMd mX2_init 0 := ⟨rfl, by decide, by decide, lw_at 141 (by decide +kernel) rfl, lw_at 76 (by decide +kernel) rfl, by decide +kernel⟩
abbrev mX2_append : xM := (yX2_append, cX2_append, 2, (some .int), none)
theorem mdX2_append : xMd mX2_append 1 := ⟨rfl, by decide, by decide, lw_at 491 (by decide +kernel) rfl, lw_at 76 (by decide +kernel) rfl, by decide +kernel⟩
abbrev mX2_read : xM := (yX2_read, cX2_read, 1, (some .int), none)
theorem mdX2_read : xMd mX2_read 0 := ⟨rfl, by decide, by decide, lw_at 503 (by decide +kernel) rfl, lw_at 76 (by decide +kernel) rfl, by decide +kernel⟩
abbrev mX2_readOrder : xM := (yX2_readOrder, cX2_readOrder, 2, (some .boolean), none)
theorem mdX2_readOrder : xMd mX2_readOrder 0 := ⟨rfl, by decide, by decide, lw_at 515 (by decide +kernel) rfl, lw_at 76 (by decide +kernel) rfl, by decide +kernel⟩
abbrev mX2_readSixFigures : xM := (yX2_readSixFigures, cX2_readSixFigures, 4, (some .boolean), none)
theorem mdX2_readSixFigures : xMd mX2_readSixFigures 0 := ⟨rfl, by decide, by decide, lw_at 519 (by decide +kernel) rfl, lw_at 76 (by decide +kernel) rfl, by decide +kernel⟩
abbrev mX2_readNumber : xM := (yX2_readNumber, cX2_readNumber, 4, (some .boolean), none)
theorem mdX2_readNumber : xMd mX2_readNumber 1 := ⟨rfl, by decide, by decide, lw_at 533 (by decide +kernel) rfl, lw_at 76 (by decide +kernel) rfl, by decide +kernel⟩
abbrev mX2_readEnd : xM := (yX2_readEnd, cX2_readEnd, 1, (some .boolean), none)
theorem mdX2_readEnd : xMd mX2_readEnd 0 := ⟨rfl, by decide, by decide, lw_at 529 (by decide +kernel) rfl, lw_at 76 (by decide +kernel) rfl, by decide +kernel⟩
abbrev mX2_skipBlanks : xM := (yX2_skipBlanks, cX2_skipBlanks, 1, none, none)
theorem mdX2_skipBlanks : xMd mX2_skipBlanks 0 := ⟨rfl, by decide, by decide, lw_at 507 (by decide +kernel) rfl, lw_at 76 (by decide +kernel) rfl, by decide +kernel⟩
abbrev mX2_byteHere : xM := (yX2_byteHere, cX2_byteHere, 1, (some .int), none)
theorem mdX2_byteHere : xMd mX2_byteHere 0 := ⟨rfl, by decide, by decide, lw_at 511 (by decide +kernel) rfl, lw_at 76 (by decide +kernel) rfl, by decide +kernel⟩
abbrev mX2_isTenFigure : xM := (yX2_isTenFigure, cX2_isTenFigure, 1, (some .boolean), none)
theorem mdX2_isTenFigure : xMd mX2_isTenFigure 1 := ⟨rfl, by decide, by decide, lw_at 525 (by decide +kernel) rfl, lw_at 76 (by decide +kernel) rfl, by decide +kernel⟩
abbrev mX2_figureOf : xM := (yX2_figureOf, cX2_figureOf, 1, (some .int), none)
theorem mdX2_figureOf : xMd mX2_figureOf 1 := ⟨rfl, by decide, by decide, lw_at 522 (by decide +kernel) rfl, lw_at 76 (by decide +kernel) rfl, by decide +kernel⟩
abbrev mX3_init : xM := (yX3_init, cX3_init, 2, none, none)
theorem mdX3_init : xMd mX3_init 0 := ⟨rfl, by decide, by decide, lw_at 85 (by decide +kernel) rfl, lw_at 73 (by decide +kernel) rfl, by decide +kernel⟩
abbrev mX3_colour : xM := (yX3_colour, cX3_colour, 5, (some .int), none)
theorem mdX3_colour : xMd mX3_colour 3 := ⟨rfl, by decide, by decide, lw_at 206 (by decide +kernel) rfl, lw_at 73 (by decide +kernel) rfl, by decide +kernel⟩
abbrev mX3_paints : xM := (yX3_paints, cX3_paints, 5, (some .int), none)
theorem mdX3_paints : xMd mX3_paints 4 := ⟨rfl, by decide, by decide, lw_at 250 (by decide +kernel) rfl, lw_at 73 (by decide +kernel) rfl, by decide +kernel⟩
abbrev mX3_ground : xM := (yX3_ground, cX3_ground, 4, (some .int), none)
theorem mdX3_ground : xMd mX3_ground 3 := ⟨rfl, by decide, by decide, lw_at 259 (by decide +kernel) rfl, lw_at 73 (by decide +kernel) rfl, by decide +kernel⟩
abbrev mX3_eye : xM := (yX3_eye, cX3_eye, 6, (some .int), none)
theorem mdX3_eye : xMd mX3_eye 3 := ⟨rfl, by decide, by decide, lw_at 263 (by decide +kernel) rfl, lw_at 73 (by decide +kernel) rfl, by decide +kernel⟩
abbrev mX3_sets : xM := (yX3_sets, cX3_sets, 4, (some .int), none)
theorem mdX3_sets : xMd mX3_sets 2 := ⟨rfl, by decide, by decide, lw_at 273 (by decide +kernel) rfl, lw_at 73 (by decide +kernel) rfl, by decide +kernel⟩
abbrev mX3_fixes : xM := (yX3_fixes, cX3_fixes, 4, (some .int), none)
theorem mdX3_fixes : xMd mX3_fixes 2 := ⟨rfl, by decide, by decide, lw_at 285 (by decide +kernel) rfl, lw_at 73 (by decide +kernel) rfl, by decide +kernel⟩
abbrev mX3_of : xM := (yX3_of, cX3_of, 3, (some .int), none)
theorem mdX3_of : xMd mX3_of 2 := ⟨rfl, by decide, by decide, lw_at 303 (by decide +kernel) rfl, lw_at 73 (by decide +kernel) rfl, by decide +kernel⟩
abbrev mX3_look : xM := (yX3_look, cX3_look, 3, (some .int), none)
theorem mdX3_look : xMd mX3_look 2 := ⟨rfl, by decide, by decide, lw_at 329 (by decide +kernel) rfl, lw_at 73 (by decide +kernel) rfl, by decide +kernel⟩
abbrev mX3_light : xM := (yX3_light, cX3_light, 2, (some .int), none)
theorem mdX3_light : xMd mX3_light 1 := ⟨rfl, by decide, by decide, lw_at 333 (by decide +kernel) rfl, lw_at 73 (by decide +kernel) rfl, by decide +kernel⟩
abbrev mX3_seen : xM := (yX3_seen, cX3_seen, 4, (some .int), none)
theorem mdX3_seen : xMd mX3_seen 3 := ⟨rfl, by decide, by decide, lw_at 344 (by decide +kernel) rfl, lw_at 73 (by decide +kernel) rfl, by decide +kernel⟩
abbrev mX3_distance : xM := (yX3_distance, cX3_distance, 4, (some .int), none)
theorem mdX3_distance : xMd mX3_distance 3 := ⟨rfl, by decide, by decide, lw_at 357 (by decide +kernel) rfl, lw_at 73 (by decide +kernel) rfl, by decide +kernel⟩
abbrev mX3_apart : xM := (yX3_apart, cX3_apart, 3, (some .int), none)
theorem mdX3_apart : xMd mX3_apart 2 := ⟨rfl, by decide, by decide, lw_at 366 (by decide +kernel) rfl, lw_at 73 (by decide +kernel) rfl, by decide +kernel⟩
abbrev mX3_fills : xM := (yX3_fills, cX3_fills, 3, (some .int), none)
theorem mdX3_fills : xMd mX3_fills 1 := ⟨rfl, by decide, by decide, lw_at 375 (by decide +kernel) rfl, lw_at 73 (by decide +kernel) rfl, by decide +kernel⟩
abbrev mX3_swaps : xM := (yX3_swaps, cX3_swaps, 1, (some .int), none)
theorem mdX3_swaps : xMd mX3_swaps 0 := ⟨rfl, by decide, by decide, lw_at 420 (by decide +kernel) rfl, lw_at 73 (by decide +kernel) rfl, by decide +kernel⟩
abbrev mX3_palette : xM := (yX3_palette, cX3_palette, 2, (some .int), none)
theorem mdX3_palette : xMd mX3_palette 1 := ⟨rfl, by decide, by decide, lw_at 436 (by decide +kernel) rfl, lw_at 73 (by decide +kernel) rfl, by decide +kernel⟩
abbrev mX3_least : xM := (yX3_least, cX3_least, 1, (some .int), none)
theorem mdX3_least : xMd mX3_least 0 := ⟨rfl, by decide, by decide, lw_at 440 (by decide +kernel) rfl, lw_at 73 (by decide +kernel) rfl, by decide +kernel⟩
abbrev mX3_nearest : xM := (yX3_nearest, cX3_nearest, 1, (some .int), none)
theorem mdX3_nearest : xMd mX3_nearest 0 := ⟨rfl, by decide, by decide, lw_at 446 (by decide +kernel) rfl, lw_at 73 (by decide +kernel) rfl, by decide +kernel⟩
abbrev mX3_best : xM := (yX3_best, cX3_best, 2, (some .int), none)
theorem mdX3_best : xMd mX3_best 1 := ⟨rfl, by decide, by decide, lw_at 454 (by decide +kernel) rfl, lw_at 73 (by decide +kernel) rfl, by decide +kernel⟩
abbrev mX3_mistaken : xM := (yX3_mistaken, cX3_mistaken, 3, (some .int), none)
theorem mdX3_mistaken : xMd mX3_mistaken 2 := ⟨rfl, by decide, by decide, lw_at 470 (by decide +kernel) rfl, lw_at 73 (by decide +kernel) rfl, by decide +kernel⟩
abbrev mX3_count : xM := (yX3_count, cX3_count, 2, (some .int), none)
theorem mdX3_count : xMd mX3_count 1 := ⟨rfl, by decide, by decide, lw_at 478 (by decide +kernel) rfl, lw_at 73 (by decide +kernel) rfl, by decide +kernel⟩
abbrev mX3_type : xM := (yX3_type, cX3_type, 2, (some .int), none)
theorem mdX3_type : xMd mX3_type 1 := ⟨rfl, by decide, by decide, lw_at 487 (by decide +kernel) rfl, lw_at 73 (by decide +kernel) rfl, by decide +kernel⟩
abbrev mX3_clear : xM := (yX3_clear, cX3_clear, 2, (some .int), none)
theorem mdX3_clear : xMd mX3_clear 0 := ⟨rfl, by decide, by decide, lw_at 495 (by decide +kernel) rfl, lw_at 73 (by decide +kernel) rfl, by decide +kernel⟩
abbrev mX3_does : xM := (yX3_does, cX3_does, 6, (some .int), none)
theorem mdX3_does : xMd mX3_does 0 := ⟨rfl, by decide, by decide, lw_at 499 (by decide +kernel) rfl, lw_at 73 (by decide +kernel) rfl, by decide +kernel⟩
abbrev mX3_back : xM := (yX3_back, cX3_back, 1, (some .int), none)
theorem mdX3_back : xMd mX3_back 0 := ⟨rfl, by decide, by decide, lw_at 554 (by decide +kernel) rfl, lw_at 73 (by decide +kernel) rfl, by decide +kernel⟩
abbrev mX3_told : xM := (yX3_told, cX3_told, 2, (some .int), none)
theorem mdX3_told : xMd mX3_told 1 := ⟨rfl, by decide, by decide, lw_at 558 (by decide +kernel) rfl, lw_at 73 (by decide +kernel) rfl, by decide +kernel⟩
abbrev mX3_digest : xM := (yX3_digest, cX3_digest, 5, (some .long), none)
theorem mdX3_digest : xMd mX3_digest 0 := ⟨rfl, by decide, by decide, lw_at 562 (by decide +kernel) rfl, lw_at 73 (by decide +kernel) rfl, by decide +kernel⟩
abbrev mX3_whyNoColour : xM := (yX3_whyNoColour, cX3_whyNoColour, 4, (some .int), none)
theorem mdX3_whyNoColour : xMd mX3_whyNoColour 3 := ⟨rfl, by decide, by decide, lw_at 210 (by decide +kernel) rfl, lw_at 73 (by decide +kernel) rfl, by decide +kernel⟩
abbrev mX3_whyNoLimit : xM := (yX3_whyNoLimit, cX3_whyNoLimit, 3, (some .int), none)
theorem mdX3_whyNoLimit : xMd mX3_whyNoLimit 2 := ⟨rfl, by decide, by decide, lw_at 277 (by decide +kernel) rfl, lw_at 73 (by decide +kernel) rfl, by decide +kernel⟩
abbrev mX3_whyNotFixed : xM := (yX3_whyNotFixed, cX3_whyNotFixed, 3, (some .int), none)
theorem mdX3_whyNotFixed : xMd mX3_whyNotFixed 2 := ⟨rfl, by decide, by decide, lw_at 289 (by decide +kernel) rfl, lw_at 73 (by decide +kernel) rfl, by decide +kernel⟩
abbrev mX3_whyNoFilling : xM := (yX3_whyNoFilling, cX3_whyNoFilling, 2, (some .int), none)
theorem mdX3_whyNoFilling : xMd mX3_whyNoFilling 1 := ⟨rfl, by decide, by decide, lw_at 379 (by decide +kernel) rfl, lw_at 73 (by decide +kernel) rfl, by decide +kernel⟩
abbrev mX3_refuse : xM := (yX3_refuse, cX3_refuse, 3, (some .int), none)
theorem mdX3_refuse : xMd mX3_refuse 1 := ⟨rfl, by decide, by decide, lw_at 220 (by decide +kernel) rfl, lw_at 73 (by decide +kernel) rfl, by decide +kernel⟩
abbrev mX3_isColour : xM := (yX3_isColour, cX3_isColour, 2, (some .boolean), none)
theorem mdX3_isColour : xMd mX3_isColour 1 := ⟨rfl, by decide, by decide, lw_at 254 (by decide +kernel) rfl, lw_at 73 (by decide +kernel) rfl, by decide +kernel⟩
abbrev mX3_isEye : xM := (yX3_isEye, cX3_isEye, 1, (some .boolean), none)
theorem mdX3_isEye : xMd mX3_isEye 1 := ⟨rfl, by decide, by decide, lw_at 266 (by decide +kernel) rfl, lw_at 73 (by decide +kernel) rfl, by decide +kernel⟩
abbrev mX3_isEyeNumber : xM := (yX3_isEyeNumber, cX3_isEyeNumber, 2, (some .boolean), none)
theorem mdX3_isEyeNumber : xMd mX3_isEyeNumber 2 := ⟨rfl, by decide, by decide, lw_at 269 (by decide +kernel) rfl, lw_at 73 (by decide +kernel) rfl, by decide +kernel⟩
abbrev mX3_isRgb : xM := (yX3_isRgb, cX3_isRgb, 3, (some .boolean), none)
theorem mdX3_isRgb : xMd mX3_isRgb 3 := ⟨rfl, by decide, by decide, lw_at 213 (by decide +kernel) rfl, lw_at 73 (by decide +kernel) rfl, by decide +kernel⟩
abbrev mX3_isWithin : xM := (yX3_isWithin, cX3_isWithin, 3, (some .boolean), none)
theorem mdX3_isWithin : xMd mX3_isWithin 3 := ⟨rfl, by decide, by decide, lw_at 216 (by decide +kernel) rfl, lw_at 73 (by decide +kernel) rfl, by decide +kernel⟩
abbrev mX3_whyNoOrder : xM := (yX3_whyNoOrder, cX3_whyNoOrder, 4, (some .int), none)
theorem mdX3_whyNoOrder : xMd mX3_whyNoOrder 3 := ⟨rfl, by decide, by decide, lw_at 537 (by decide +kernel) rfl, lw_at 73 (by decide +kernel) rfl, by decide +kernel⟩
abbrev mX3_obey : xM := (yX3_obey, cX3_obey, 4, none, none)
theorem mdX3_obey : xMd mX3_obey 3 := ⟨rfl, by decide, by decide, lw_at 550 (by decide +kernel) rfl, lw_at 73 (by decide +kernel) rfl, by decide +kernel⟩
abbrev mX3_redOf : xM := (yX3_redOf, cX3_redOf, 1, (some .int), none)
theorem mdX3_redOf : xMd mX3_redOf 1 := ⟨rfl, by decide, by decide, lw_at 540 (by decide +kernel) rfl, lw_at 73 (by decide +kernel) rfl, by decide +kernel⟩
abbrev mX3_greenOf : xM := (yX3_greenOf, cX3_greenOf, 1, (some .int), none)
theorem mdX3_greenOf : xMd mX3_greenOf 1 := ⟨rfl, by decide, by decide, lw_at 543 (by decide +kernel) rfl, lw_at 73 (by decide +kernel) rfl, by decide +kernel⟩
abbrev mX3_blueOf : xM := (yX3_blueOf, cX3_blueOf, 1, (some .int), none)
theorem mdX3_blueOf : xMd mX3_blueOf 1 := ⟨rfl, by decide, by decide, lw_at 546 (by decide +kernel) rfl, lw_at 73 (by decide +kernel) rfl, by decide +kernel⟩
abbrev mX3_leaveState : xM := (yX3_leaveState, cX3_leaveState, 1, none, none)
theorem mdX3_leaveState : xMd mX3_leaveState 0 := ⟨rfl, by decide, by decide, lw_at 224 (by decide +kernel) rfl, lw_at 73 (by decide +kernel) rfl, by decide +kernel⟩
abbrev mX3_noteState : xM := (yX3_noteState, cX3_noteState, 1, none, none)
theorem mdX3_noteState : xMd mX3_noteState 0 := ⟨rfl, by decide, by decide, lw_at 228 (by decide +kernel) rfl, lw_at 73 (by decide +kernel) rfl, by decide +kernel⟩
abbrev mX3_keepNoted : xM := (yX3_keepNoted, cX3_keepNoted, 3, none, none)
theorem mdX3_keepNoted : xMd mX3_keepNoted 0 := ⟨rfl, by decide, by decide, lw_at 239 (by decide +kernel) rfl, lw_at 73 (by decide +kernel) rfl, by decide +kernel⟩
abbrev mX3_putRgb : xM := (yX3_putRgb, cX3_putRgb, 6, (some .int), none)
theorem mdX3_putRgb : xMd mX3_putRgb 5 := ⟨rfl, by decide, by decide, lw_at 246 (by decide +kernel) rfl, lw_at 73 (by decide +kernel) rfl, by decide +kernel⟩
abbrev mX3_bitsOf : xM := (yX3_bitsOf, cX3_bitsOf, 4, (some .int), none)
theorem mdX3_bitsOf : xMd mX3_bitsOf 1 := ⟨rfl, by decide, by decide, lw_at 337 (by decide +kernel) rfl, lw_at 73 (by decide +kernel) rfl, by decide +kernel⟩
abbrev mX4_init : xM := (yX4_init, cX4_init, 3, none, none)
theorem mdX4_init : xMd mX4_init 0 := ⟨rfl, by decide, by decide, lw_at 575 (by decide +kernel) rfl, lw_at 78 (by decide +kernel) rfl, by decide +kernel⟩
abbrev mX4_in : xM := (yX4_in, cX4_in, 3, (some .boolean), none)
theorem mdX4_in : xMd mX4_in 3 := ⟨rfl, by decide, by decide, lw_at 646 (by decide +kernel) rfl, lw_at 78 (by decide +kernel) rfl, by decide +kernel⟩
abbrev mX4_has : xM := (yX4_has, cX4_has, 2, (some .boolean), none)
theorem mdX4_has : xMd mX4_has 2 := ⟨rfl, by decide, by decide, lw_at 792 (by decide +kernel) rfl, lw_at 78 (by decide +kernel) rfl, by decide +kernel⟩
abbrev mX4_bitsIn : xM := (yX4_bitsIn, cX4_bitsIn, 3, (some .int), none)
theorem mdX4_bitsIn : xMd mX4_bitsIn 1 := ⟨rfl, by decide, by decide, lw_at 711 (by decide +kernel) rfl, lw_at 78 (by decide +kernel) rfl, by decide +kernel⟩
abbrev mX4_bitsOf : xM := (yX4_bitsOf, cX4_bitsOf, 4, (some .int), none)
theorem mdX4_bitsOf : xMd mX4_bitsOf 1 := ⟨rfl, by decide, by decide, lw_at 745 (by decide +kernel) rfl, lw_at 78 (by decide +kernel) rfl, by decide +kernel⟩
abbrev mX4_bad : xM := (yX4_bad, cX4_bad, 1, (some .int), none)
theorem mdX4_bad : xMd mX4_bad 0 := ⟨rfl, by decide, by decide, lw_at 650 (by decide +kernel) rfl, lw_at 78 (by decide +kernel) rfl, by decide +kernel⟩
abbrev mX4_no : xM := (yX4_no, cX4_no, 1, (some .int), none)
theorem mdX4_no : xMd mX4_no 0 := ⟨rfl, by decide, by decide, lw_at 633 (by decide +kernel) rfl, lw_at 78 (by decide +kernel) rfl, by decide +kernel⟩
abbrev mX4_full : xM := (yX4_full, cX4_full, 1, (some .int), none)
theorem mdX4_full : xMd mX4_full 0 := ⟨rfl, by decide, by decide, lw_at 654 (by decide +kernel) rfl, lw_at 78 (by decide +kernel) rfl, by decide +kernel⟩
abbrev mX4_remembers : xM := (yX4_remembers, cX4_remembers, 2, none, none)
theorem mdX4_remembers : xMd mX4_remembers 0 := ⟨rfl, by decide, by decide, lw_at 658 (by decide +kernel) rfl, lw_at 78 (by decide +kernel) rfl, by decide +kernel⟩
abbrev mX4_back : xM := (yX4_back, cX4_back, 2, (some .int), none)
theorem mdX4_back : xMd mX4_back 0 := ⟨rfl, by decide, by decide, lw_at 629 (by decide +kernel) rfl, lw_at 78 (by decide +kernel) rfl, by decide +kernel⟩
abbrev mX4_isPart : xM := (yX4_isPart, cX4_isPart, 1, (some .boolean), none)
theorem mdX4_isPart : xMd mX4_isPart 1 := ⟨rfl, by decide, by decide, lw_at 643 (by decide +kernel) rfl, lw_at 78 (by decide +kernel) rfl, by decide +kernel⟩
abbrev mX4_areParts : xM := (yX4_areParts, cX4_areParts, 3, (some .boolean), none)
theorem mdX4_areParts : xMd mX4_areParts 3 := ⟨rfl, by decide, by decide, lw_at 640 (by decide +kernel) rfl, lw_at 78 (by decide +kernel) rfl, by decide +kernel⟩
abbrev mX4_isColour : xM := (yX4_isColour, cX4_isColour, 2, (some .boolean), none)
theorem mdX4_isColour : xMd mX4_isColour 1 := ⟨rfl, by decide, by decide, lw_at 678 (by decide +kernel) rfl, lw_at 78 (by decide +kernel) rfl, by decide +kernel⟩
abbrev mX4_isEye : xM := (yX4_isEye, cX4_isEye, 1, (some .boolean), none)
theorem mdX4_isEye : xMd mX4_isEye 1 := ⟨rfl, by decide, by decide, lw_at 689 (by decide +kernel) rfl, lw_at 78 (by decide +kernel) rfl, by decide +kernel⟩
abbrev mX4_becomes : xM := (yX4_becomes, cX4_becomes, 6, (some .int), none)
theorem mdX4_becomes : xMd mX4_becomes 4 := ⟨rfl, by decide, by decide, lw_at 670 (by decide +kernel) rfl, lw_at 78 (by decide +kernel) rfl, by decide +kernel⟩
abbrev mX4_colourAt : xM := (yX4_colourAt, cX4_colourAt, 2, (some .int), none)
theorem mdX4_colourAt : xMd mX4_colourAt 1 := ⟨rfl, by decide, by decide, lw_at 666 (by decide +kernel) rfl, lw_at 78 (by decide +kernel) rfl, by decide +kernel⟩
abbrev mX4_comes : xM := (yX4_comes, cX4_comes, 5, (some .int), none)
theorem mdX4_comes : xMd mX4_comes 3 := ⟨rfl, by decide, by decide, lw_at 662 (by decide +kernel) rfl, lw_at 78 (by decide +kernel) rfl, by decide +kernel⟩
abbrev mX4_colour : xM := (yX4_colour, cX4_colour, 4, (some .int), none)
theorem mdX4_colour : xMd mX4_colour 3 := ⟨rfl, by decide, by decide, lw_at 637 (by decide +kernel) rfl, lw_at 78 (by decide +kernel) rfl, by decide +kernel⟩
abbrev mX4_paints : xM := (yX4_paints, cX4_paints, 5, (some .int), none)
theorem mdX4_paints : xMd mX4_paints 4 := ⟨rfl, by decide, by decide, lw_at 674 (by decide +kernel) rfl, lw_at 78 (by decide +kernel) rfl, by decide +kernel⟩
abbrev mX4_ground : xM := (yX4_ground, cX4_ground, 4, (some .int), none)
theorem mdX4_ground : xMd mX4_ground 3 := ⟨rfl, by decide, by decide, lw_at 682 (by decide +kernel) rfl, lw_at 78 (by decide +kernel) rfl, by decide +kernel⟩
abbrev mX4_isOfEye : xM := (yX4_isOfEye, cX4_isOfEye, 2, (some .boolean), none)
theorem mdX4_isOfEye : xMd mX4_isOfEye 2 := ⟨rfl, by decide, by decide, lw_at 692 (by decide +kernel) rfl, lw_at 78 (by decide +kernel) rfl, by decide +kernel⟩
abbrev mX4_exchanges : xM := (yX4_exchanges, cX4_exchanges, 4, (some .int), none)
theorem mdX4_exchanges : xMd mX4_exchanges 2 := ⟨rfl, by decide, by decide, lw_at 696 (by decide +kernel) rfl, lw_at 78 (by decide +kernel) rfl, by decide +kernel⟩
abbrev mX4_eye : xM := (yX4_eye, cX4_eye, 4, (some .int), none)
theorem mdX4_eye : xMd mX4_eye 3 := ⟨rfl, by decide, by decide, lw_at 686 (by decide +kernel) rfl, lw_at 78 (by decide +kernel) rfl, by decide +kernel⟩
abbrev mX4_sets : xM := (yX4_sets, cX4_sets, 3, (some .int), none)
theorem mdX4_sets : xMd mX4_sets 2 := ⟨rfl, by decide, by decide, lw_at 700 (by decide +kernel) rfl, lw_at 78 (by decide +kernel) rfl, by decide +kernel⟩
abbrev mX4_fixesOne : xM := (yX4_fixesOne, cX4_fixesOne, 3, (some .int), none)
theorem mdX4_fixesOne : xMd mX4_fixesOne 2 := ⟨rfl, by decide, by decide, lw_at 708 (by decide +kernel) rfl, lw_at 78 (by decide +kernel) rfl, by decide +kernel⟩
abbrev mX4_fixes : xM := (yX4_fixes, cX4_fixes, 3, (some .int), none)
theorem mdX4_fixes : xMd mX4_fixes 2 := ⟨rfl, by decide, by decide, lw_at 704 (by decide +kernel) rfl, lw_at 78 (by decide +kernel) rfl, by decide +kernel⟩
abbrev mX4_shineAt : xM := (yX4_shineAt, cX4_shineAt, 2, (some .float), none)
theorem mdX4_shineAt : xMd mX4_shineAt 1 := ⟨rfl, by decide, by decide, lw_at 727 (by decide +kernel) rfl, lw_at 78 (by decide +kernel) rfl, by decide +kernel⟩
abbrev mX4_isFitting : xM := (yX4_isFitting, cX4_isFitting, 4, (some .boolean), none)
theorem mdX4_isFitting : xMd mX4_isFitting 1 := ⟨rfl, by decide, by decide, lw_at 723 (by decide +kernel) rfl, lw_at 78 (by decide +kernel) rfl, by decide +kernel⟩
abbrev mX4_placeOf : xM := (yX4_placeOf, cX4_placeOf, 4, (some .int), none)
theorem mdX4_placeOf : xMd mX4_placeOf 1 := ⟨rfl, by decide, by decide, lw_at 734 (by decide +kernel) rfl, lw_at 78 (by decide +kernel) rfl, by decide +kernel⟩
abbrev mX4_ofColour : xM := (yX4_ofColour, cX4_ofColour, 3, (some .int), none)
theorem mdX4_ofColour : xMd mX4_ofColour 2 := ⟨rfl, by decide, by decide, lw_at 719 (by decide +kernel) rfl, lw_at 78 (by decide +kernel) rfl, by decide +kernel⟩
abbrev mX4_of : xM := (yX4_of, cX4_of, 3, (some .int), none)
theorem mdX4_of : xMd mX4_of 2 := ⟨rfl, by decide, by decide, lw_at 715 (by decide +kernel) rfl, lw_at 78 (by decide +kernel) rfl, by decide +kernel⟩
abbrev mX4_look : xM := (yX4_look, cX4_look, 3, (some .int), none)
theorem mdX4_look : xMd mX4_look 2 := ⟨rfl, by decide, by decide, lw_at 738 (by decide +kernel) rfl, lw_at 78 (by decide +kernel) rfl, by decide +kernel⟩
abbrev mX4_light : xM := (yX4_light, cX4_light, 2, (some .int), none)
theorem mdX4_light : xMd mX4_light 1 := ⟨rfl, by decide, by decide, lw_at 742 (by decide +kernel) rfl, lw_at 78 (by decide +kernel) rfl, by decide +kernel⟩
abbrev mX4_sight : xM := (yX4_sight, cX4_sight, 9, (some .float), none)
theorem mdX4_sight : xMd mX4_sight 3 := ⟨rfl, by decide, by decide, lw_at 756 (by decide +kernel) rfl, lw_at 78 (by decide +kernel) rfl, by decide +kernel⟩
abbrev mX4_seen : xM := (yX4_seen, cX4_seen, 4, (some .int), none)
theorem mdX4_seen : xMd mX4_seen 3 := ⟨rfl, by decide, by decide, lw_at 752 (by decide +kernel) rfl, lw_at 78 (by decide +kernel) rfl, by decide +kernel⟩
abbrev mX4_farFor : xM := (yX4_farFor, cX4_farFor, 8, (some .float), none)
theorem mdX4_farFor : xMd mX4_farFor 3 := ⟨rfl, by decide, by decide, lw_at 765 (by decide +kernel) rfl, lw_at 78 (by decide +kernel) rfl, by decide +kernel⟩
abbrev mX4_distance : xM := (yX4_distance, cX4_distance, 4, (some .int), none)
theorem mdX4_distance : xMd mX4_distance 3 := ⟨rfl, by decide, by decide, lw_at 761 (by decide +kernel) rfl, lw_at 78 (by decide +kernel) rfl, by decide +kernel⟩
abbrev mX4_apartOf : xM := (yX4_apartOf, cX4_apartOf, 7, (some .float), none)
theorem mdX4_apartOf : xMd mX4_apartOf 2 := ⟨rfl, by decide, by decide, lw_at 773 (by decide +kernel) rfl, lw_at 78 (by decide +kernel) rfl, by decide +kernel⟩
abbrev mX4_apart : xM := (yX4_apart, cX4_apart, 3, (some .int), none)
theorem mdX4_apart : xMd mX4_apart 2 := ⟨rfl, by decide, by decide, lw_at 769 (by decide +kernel) rfl, lw_at 78 (by decide +kernel) rfl, by decide +kernel⟩
abbrev mX4_laysFar : xM := (yX4_laysFar, cX4_laysFar, 3, none, none)
theorem mdX4_laysFar : xMd mX4_laysFar 0 := ⟨rfl, by decide, by decide, lw_at 789 (by decide +kernel) rfl, lw_at 78 (by decide +kernel) rfl, by decide +kernel⟩
abbrev mX4_leastOf : xM := (yX4_leastOf, cX4_leastOf, 7, (some .float), none)
theorem mdX4_leastOf : xMd mX4_leastOf 1 := ⟨rfl, by decide, by decide, lw_at 828 (by decide +kernel) rfl, lw_at 78 (by decide +kernel) rfl, by decide +kernel⟩
abbrev mX4_takesPalette : xM := (yX4_takesPalette, cX4_takesPalette, 2, none, none)
theorem mdX4_takesPalette : xMd mX4_takesPalette 0 := ⟨rfl, by decide, by decide, lw_at 824 (by decide +kernel) rfl, lw_at 78 (by decide +kernel) rfl, by decide +kernel⟩
abbrev mX4_putsLast : xM := (yX4_putsLast, cX4_putsLast, 2, none, none)
theorem mdX4_putsLast : xMd mX4_putsLast 1 := ⟨rfl, by decide, by decide, lw_at 796 (by decide +kernel) rfl, lw_at 78 (by decide +kernel) rfl, by decide +kernel⟩
abbrev mX4_lightest : xM := (yX4_lightest, cX4_lightest, 4, (some .int), none)
theorem mdX4_lightest : xMd mX4_lightest 0 := ⟨rfl, by decide, by decide, lw_at 800 (by decide +kernel) rfl, lw_at 78 (by decide +kernel) rfl, by decide +kernel⟩
abbrev mX4_nearestIn : xM := (yX4_nearestIn, cX4_nearestIn, 5, (some .float), none)
theorem mdX4_nearestIn : xMd mX4_nearestIn 1 := ⟨rfl, by decide, by decide, lw_at 808 (by decide +kernel) rfl, lw_at 78 (by decide +kernel) rfl, by decide +kernel⟩
abbrev mX4_farthest : xM := (yX4_farthest, cX4_farthest, 5, (some .int), none)
theorem mdX4_farthest : xMd mX4_farthest 0 := ⟨rfl, by decide, by decide, lw_at 804 (by decide +kernel) rfl, lw_at 78 (by decide +kernel) rfl, by decide +kernel⟩
abbrev mX4_fillsFor : xM := (yX4_fillsFor, cX4_fillsFor, 4, (some .int), none)
theorem mdX4_fillsFor : xMd mX4_fillsFor 1 := ⟨rfl, by decide, by decide, lw_at 785 (by decide +kernel) rfl, lw_at 78 (by decide +kernel) rfl, by decide +kernel⟩
abbrev mX4_canFill : xM := (yX4_canFill, cX4_canFill, 2, (some .boolean), none)
theorem mdX4_canFill : xMd mX4_canFill 1 := ⟨rfl, by decide, by decide, lw_at 781 (by decide +kernel) rfl, lw_at 78 (by decide +kernel) rfl, by decide +kernel⟩
abbrev mX4_fills : xM := (yX4_fills, cX4_fills, 2, (some .int), none)
theorem mdX4_fills : xMd mX4_fills 1 := ⟨rfl, by decide, by decide, lw_at 777 (by decide +kernel) rfl, lw_at 78 (by decide +kernel) rfl, by decide +kernel⟩
abbrev mX4_isSwapped : xM := (yX4_isSwapped, cX4_isSwapped, 6, (some .boolean), none)
theorem mdX4_isSwapped : xMd mX4_isSwapped 0 := ⟨rfl, by decide, by decide, lw_at 820 (by decide +kernel) rfl, lw_at 78 (by decide +kernel) rfl, by decide +kernel⟩
abbrev mX4_swapsAll : xM := (yX4_swapsAll, cX4_swapsAll, 2, (some .int), none)
theorem mdX4_swapsAll : xMd mX4_swapsAll 0 := ⟨rfl, by decide, by decide, lw_at 816 (by decide +kernel) rfl, lw_at 78 (by decide +kernel) rfl, by decide +kernel⟩
abbrev mX4_swaps : xM := (yX4_swaps, cX4_swaps, 1, (some .int), none)
theorem mdX4_swaps : xMd mX4_swaps 0 := ⟨rfl, by decide, by decide, lw_at 812 (by decide +kernel) rfl, lw_at 78 (by decide +kernel) rfl, by decide +kernel⟩
abbrev mX4_palette : xM := (yX4_palette, cX4_palette, 2, (some .int), none)
theorem mdX4_palette : xMd mX4_palette 1 := ⟨rfl, by decide, by decide, lw_at 832 (by decide +kernel) rfl, lw_at 78 (by decide +kernel) rfl, by decide +kernel⟩
abbrev mX4_leastNow : xM := (yX4_leastNow, cX4_leastNow, 1, (some .int), none)
theorem mdX4_leastNow : xMd mX4_leastNow 0 := ⟨rfl, by decide, by decide, lw_at 840 (by decide +kernel) rfl, lw_at 78 (by decide +kernel) rfl, by decide +kernel⟩
abbrev mX4_least : xM := (yX4_least, cX4_least, 1, (some .int), none)
theorem mdX4_least : xMd mX4_least 0 := ⟨rfl, by decide, by decide, lw_at 836 (by decide +kernel) rfl, lw_at 78 (by decide +kernel) rfl, by decide +kernel⟩
abbrev mX4_nearestNow : xM := (yX4_nearestNow, cX4_nearestNow, 6, (some .int), none)
theorem mdX4_nearestNow : xMd mX4_nearestNow 0 := ⟨rfl, by decide, by decide, lw_at 848 (by decide +kernel) rfl, lw_at 78 (by decide +kernel) rfl, by decide +kernel⟩
abbrev mX4_nearest : xM := (yX4_nearest, cX4_nearest, 1, (some .int), none)
theorem mdX4_nearest : xMd mX4_nearest 0 := ⟨rfl, by decide, by decide, lw_at 844 (by decide +kernel) rfl, lw_at 78 (by decide +kernel) rfl, by decide +kernel⟩
abbrev mX4_isNext : xM := (yX4_isNext, cX4_isNext, 4, (some .boolean), none)
theorem mdX4_isNext : xMd mX4_isNext 1 := ⟨rfl, by decide, by decide, lw_at 864 (by decide +kernel) rfl, lw_at 78 (by decide +kernel) rfl, by decide +kernel⟩
abbrev mX4_setOf : xM := (yX4_setOf, cX4_setOf, 4, (some .int), none)
theorem mdX4_setOf : xMd mX4_setOf 1 := ⟨rfl, by decide, by decide, lw_at 860 (by decide +kernel) rfl, lw_at 78 (by decide +kernel) rfl, by decide +kernel⟩
abbrev mX4_bestOf : xM := (yX4_bestOf, cX4_bestOf, 8, (some .int), none)
theorem mdX4_bestOf : xMd mX4_bestOf 1 := ⟨rfl, by decide, by decide, lw_at 856 (by decide +kernel) rfl, lw_at 78 (by decide +kernel) rfl, by decide +kernel⟩
abbrev mX4_best : xM := (yX4_best, cX4_best, 2, (some .int), none)
theorem mdX4_best : xMd mX4_best 1 := ⟨rfl, by decide, by decide, lw_at 852 (by decide +kernel) rfl, lw_at 78 (by decide +kernel) rfl, by decide +kernel⟩
abbrev mX4_mistaken : xM := (yX4_mistaken, cX4_mistaken, 6, (some .int), none)
theorem mdX4_mistaken : xMd mX4_mistaken 2 := ⟨rfl, by decide, by decide, lw_at 868 (by decide +kernel) rfl, lw_at 78 (by decide +kernel) rfl, by decide +kernel⟩
abbrev mX4_countsSet : xM := (yX4_countsSet, cX4_countsSet, 3, (some .int), none)
theorem mdX4_countsSet : xMd mX4_countsSet 0 := ⟨rfl, by decide, by decide, lw_at 884 (by decide +kernel) rfl, lw_at 78 (by decide +kernel) rfl, by decide +kernel⟩
abbrev mX4_fittingMany : xM := (yX4_fittingMany, cX4_fittingMany, 3, (some .int), none)
theorem mdX4_fittingMany : xMd mX4_fittingMany 0 := ⟨rfl, by decide, by decide, lw_at 880 (by decide +kernel) rfl, lw_at 78 (by decide +kernel) rfl, by decide +kernel⟩
abbrev mX4_countOf : xM := (yX4_countOf, cX4_countOf, 2, (some .int), none)
theorem mdX4_countOf : xMd mX4_countOf 1 := ⟨rfl, by decide, by decide, lw_at 876 (by decide +kernel) rfl, lw_at 78 (by decide +kernel) rfl, by decide +kernel⟩
abbrev mX4_count : xM := (yX4_count, cX4_count, 2, (some .int), none)
theorem mdX4_count : xMd mX4_count 1 := ⟨rfl, by decide, by decide, lw_at 872 (by decide +kernel) rfl, lw_at 78 (by decide +kernel) rfl, by decide +kernel⟩
abbrev mX4_type : xM := (yX4_type, cX4_type, 2, (some .int), none)
theorem mdX4_type : xMd mX4_type 1 := ⟨rfl, by decide, by decide, lw_at 888 (by decide +kernel) rfl, lw_at 78 (by decide +kernel) rfl, by decide +kernel⟩
abbrev mX4_clear : xM := (yX4_clear, cX4_clear, 2, (some .int), none)
theorem mdX4_clear : xMd mX4_clear 0 := ⟨rfl, by decide, by decide, lw_at 892 (by decide +kernel) rfl, lw_at 78 (by decide +kernel) rfl, by decide +kernel⟩
abbrev mX4_isAt : xM := (yX4_isAt, cX4_isAt, 3, (some .boolean), none)
theorem mdX4_isAt : xMd mX4_isAt 2 := ⟨rfl, by decide, by decide, lw_at 908 (by decide +kernel) rfl, lw_at 78 (by decide +kernel) rfl, by decide +kernel⟩
abbrev mX4_blanks : xM := (yX4_blanks, cX4_blanks, 1, none, none)
theorem mdX4_blanks : xMd mX4_blanks 0 := ⟨rfl, by decide, by decide, lw_at 904 (by decide +kernel) rfl, lw_at 78 (by decide +kernel) rfl, by decide +kernel⟩
abbrev mX4_fails : xM := (yX4_fails, cX4_fails, 2, (some .boolean), none)
theorem mdX4_fails : xMd mX4_fails 1 := ⟨rfl, by decide, by decide, lw_at 916 (by decide +kernel) rfl, lw_at 78 (by decide +kernel) rfl, by decide +kernel⟩
abbrev mX4_takesSix : xM := (yX4_takesSix, cX4_takesSix, 5, (some .boolean), none)
theorem mdX4_takesSix : xMd mX4_takesSix 1 := ⟨rfl, by decide, by decide, lw_at 924 (by decide +kernel) rfl, lw_at 78 (by decide +kernel) rfl, by decide +kernel⟩
abbrev mX4_takesNumber : xM := (yX4_takesNumber, cX4_takesNumber, 4, (some .boolean), none)
theorem mdX4_takesNumber : xMd mX4_takesNumber 1 := ⟨rfl, by decide, by decide, lw_at 928 (by decide +kernel) rfl, lw_at 78 (by decide +kernel) rfl, by decide +kernel⟩
abbrev mX4_takesNumbers : xM := (yX4_takesNumbers, cX4_takesNumbers, 3, (some .boolean), none)
theorem mdX4_takesNumbers : xMd mX4_takesNumbers 1 := ⟨rfl, by decide, by decide, lw_at 920 (by decide +kernel) rfl, lw_at 78 (by decide +kernel) rfl, by decide +kernel⟩
abbrev mX4_takesOrder : xM := (yX4_takesOrder, cX4_takesOrder, 2, (some .boolean), none)
theorem mdX4_takesOrder : xMd mX4_takesOrder 0 := ⟨rfl, by decide, by decide, lw_at 912 (by decide +kernel) rfl, lw_at 78 (by decide +kernel) rfl, by decide +kernel⟩
abbrev mX4_isRead : xM := (yX4_isRead, cX4_isRead, 1, (some .boolean), none)
theorem mdX4_isRead : xMd mX4_isRead 0 := ⟨rfl, by decide, by decide, lw_at 900 (by decide +kernel) rfl, lw_at 78 (by decide +kernel) rfl, by decide +kernel⟩
abbrev mX4_comesTold : xM := (yX4_comesTold, cX4_comesTold, 2, (some .boolean), none)
theorem mdX4_comesTold : xMd mX4_comesTold 1 := ⟨rfl, by decide, by decide, lw_at 936 (by decide +kernel) rfl, lw_at 78 (by decide +kernel) rfl, by decide +kernel⟩
abbrev mX4_limits : xM := (yX4_limits, cX4_limits, 3, (some .boolean), none)
theorem mdX4_limits : xMd mX4_limits 2 := ⟨rfl, by decide, by decide, lw_at 940 (by decide +kernel) rfl, lw_at 78 (by decide +kernel) rfl, by decide +kernel⟩
abbrev mX4_obeys : xM := (yX4_obeys, cX4_obeys, 3, (some .boolean), none)
theorem mdX4_obeys : xMd mX4_obeys 1 := ⟨rfl, by decide, by decide, lw_at 932 (by decide +kernel) rfl, lw_at 78 (by decide +kernel) rfl, by decide +kernel⟩
abbrev mX4_turns : xM := (yX4_turns, cX4_turns, 3, none, none)
theorem mdX4_turns : xMd mX4_turns 0 := ⟨rfl, by decide, by decide, lw_at 944 (by decide +kernel) rfl, lw_at 78 (by decide +kernel) rfl, by decide +kernel⟩
abbrev mX4_does : xM := (yX4_does, cX4_does, 2, (some .int), none)
theorem mdX4_does : xMd mX4_does 0 := ⟨rfl, by decide, by decide, lw_at 896 (by decide +kernel) rfl, lw_at 78 (by decide +kernel) rfl, by decide +kernel⟩
abbrev mX4_toldOf : xM := (yX4_toldOf, cX4_toldOf, 2, (some .int), none)
theorem mdX4_toldOf : xMd mX4_toldOf 1 := ⟨rfl, by decide, by decide, lw_at 952 (by decide +kernel) rfl, lw_at 78 (by decide +kernel) rfl, by decide +kernel⟩
abbrev mX4_told : xM := (yX4_told, cX4_told, 2, (some .int), none)
theorem mdX4_told : xMd mX4_told 1 := ⟨rfl, by decide, by decide, lw_at 948 (by decide +kernel) rfl, lw_at 78 (by decide +kernel) rfl, by decide +kernel⟩
abbrev mX4_mix : xM := (yX4_mix, cX4_mix, 3, none, none)
theorem mdX4_mix : xMd mX4_mix 1 := ⟨rfl, by decide, by decide, lw_at 961 (by decide +kernel) rfl, lw_at 78 (by decide +kernel) rfl, by decide +kernel⟩
abbrev mX4_digest : xM := (yX4_digest, cX4_digest, 3, (some .long), none)
theorem mdX4_digest : xMd mX4_digest 0 := ⟨rfl, by decide, by decide, lw_at 956 (by decide +kernel) rfl, lw_at 78 (by decide +kernel) rfl, by decide +kernel⟩
abbrev mL_law (n : Nat) (f : Nat → Int32) : xM := (yL_law, cL_law, 4, some .boolean, some (n, f))
abbrev mJ6_bitCount_0f7a4 : xM := (yJ6_bitCount_0f7a4, cJ6_bitCount_0f7a4, 1, (some .int), none)
theorem mdJ6_bitCount_0f7a4 : xMd mJ6_bitCount_0f7a4 1 := ⟨rfl, by decide, by decide, lw_at 296 (by decide +kernel) rfl, lw_at 80 (by decide +kernel) rfl, by decide +kernel⟩
abbrev mJ7_fill_53178 : xM := (yJ7_fill_53178, cJ7_fill_53178, 4, none, none)
theorem mdJ7_fill_53178 : xMd mJ7_fill_53178 2 := ⟨rfl, by decide, by decide, lw_at 97 (by decide +kernel) rfl, lw_at 75 (by decide +kernel) rfl, by decide +kernel⟩
theorem c5_9 : xMi RL 9 0 mX3_init := ⟨mdX3_init, lw_at 83 (by decide +kernel) rfl, lw_at 84 (by decide +kernel) rfl, rfl, rfl⟩
theorem c3_1 : Cond.methodLink RX3 1 Lib.objectInit ∈ lw_good := lw_at 86 (by decide +kernel) rfl
theorem c3_9 : xMi RX3 9 0 mX1_init := ⟨mdX1_init, lw_at 91 (by decide +kernel) rfl, lw_at 92 (by decide +kernel) rfl, rfl, rfl⟩
theorem c1_3 : Cond.methodLink RX1 3 Lib.objectInit ∈ lw_good := lw_at 94 (by decide +kernel) rfl
theorem c1_22 : xMs RX1 22 2 mJ7_fill_53178 := ⟨mdJ7_fill_53178, lw_at 96 (by decide +kernel) rfl, Or.inl (lw_at 95 (by decide +kernel) rfl)⟩
theorem c3_30 : xMi RX3 30 0 mX2_init := ⟨mdX2_init, lw_at 139 (by decide +kernel) rfl, lw_at 140 (by decide +kernel) rfl, rfl, rfl⟩
theorem c2_3 : Cond.methodLink RX2 3 Lib.objectInit ∈ lw_good := lw_at 142 (by decide +kernel) rfl
theorem c3_37 : xMi RX3 37 0 mX0_init := ⟨mdX0_init, lw_at 172 (by decide +kernel) rfl, lw_at 173 (by decide +kernel) rfl, rfl, rfl⟩
theorem c0_3 : Cond.methodLink RX0 3 Lib.objectInit ∈ lw_good := lw_at 175 (by decide +kernel) rfl
theorem c5_13 : xMv RL 13 3 3 mX3_colour := ⟨mdX3_colour, lw_at 203 (by decide +kernel) rfl, lw_at 204 (by decide +kernel) rfl, lw_at 205 (by decide +kernel) rfl, _, rfl, rfl⟩
theorem c3_42 : xMv RX3 42 3 3 mX3_whyNoColour := ⟨mdX3_whyNoColour, lw_at 207 (by decide +kernel) rfl, lw_at 209 (by decide +kernel) rfl, lw_at 0 (by decide +kernel) rfl, _, rfl, rfl⟩
theorem c3_60 : xMs RX3 60 3 mX3_isRgb := ⟨mdX3_isRgb, lw_at 212 (by decide +kernel) rfl, Or.inl (lw_at 211 (by decide +kernel) rfl)⟩
theorem c3_97 : xMs RX3 97 3 mX3_isWithin := ⟨mdX3_isWithin, lw_at 215 (by decide +kernel) rfl, Or.inl (lw_at 214 (by decide +kernel) rfl)⟩
theorem c3_46 : xMv RX3 46 3 1 mX3_refuse := ⟨mdX3_refuse, lw_at 217 (by decide +kernel) rfl, lw_at 219 (by decide +kernel) rfl, lw_at 1 (by decide +kernel) rfl, _, rfl, rfl⟩
theorem c3_50 : xMv RX3 50 3 0 mX3_leaveState := ⟨mdX3_leaveState, lw_at 221 (by decide +kernel) rfl, lw_at 223 (by decide +kernel) rfl, lw_at 2 (by decide +kernel) rfl, _, rfl, rfl⟩
theorem c3_194 : xMv RX3 194 3 0 mX3_noteState := ⟨mdX3_noteState, lw_at 225 (by decide +kernel) rfl, lw_at 227 (by decide +kernel) rfl, lw_at 3 (by decide +kernel) rfl, _, rfl, rfl⟩
theorem c3_212 : xMv RX3 212 1 1 mX1_become := ⟨mdX1_become, lw_at 229 (by decide +kernel) rfl, lw_at 230 (by decide +kernel) rfl, lw_at 231 (by decide +kernel) rfl, _, rfl, rfl⟩
theorem c1_43 : Cond.methodLink RX1 43 arraycopyName ∈ lw_good := lw_at 233 (by decide +kernel) rfl
theorem c3_219 : xMv RX3 219 3 0 mX3_keepNoted := ⟨mdX3_keepNoted, lw_at 236 (by decide +kernel) rfl, lw_at 238 (by decide +kernel) rfl, lw_at 4 (by decide +kernel) rfl, _, rfl, rfl⟩
theorem c3_53 : xMv RX3 53 1 3 mX1_addColour := ⟨mdX1_addColour, lw_at 240 (by decide +kernel) rfl, lw_at 241 (by decide +kernel) rfl, lw_at 242 (by decide +kernel) rfl, _, rfl, rfl⟩
theorem c1_49 : xMs RX1 49 5 mX3_putRgb := ⟨mdX3_putRgb, lw_at 245 (by decide +kernel) rfl, Or.inr (lw_atN 244 (by decide +kernel) rfl)⟩
theorem c5_18 : xMv RL 18 3 4 mX3_paints := ⟨mdX3_paints, lw_at 247 (by decide +kernel) rfl, lw_at 248 (by decide +kernel) rfl, lw_at 249 (by decide +kernel) rfl, _, rfl, rfl⟩
theorem c3_56 : xMv RX3 56 3 1 mX3_isColour := ⟨mdX3_isColour, lw_at 251 (by decide +kernel) rfl, lw_at 253 (by decide +kernel) rfl, lw_at 5 (by decide +kernel) rfl, _, rfl, rfl⟩
theorem c3_67 : xMs RX3 67 5 mX3_putRgb := ⟨mdX3_putRgb, lw_at 245 (by decide +kernel) rfl, Or.inl (lw_at 255 (by decide +kernel) rfl)⟩
theorem c5_23 : xMv RL 23 3 3 mX3_ground := ⟨mdX3_ground, lw_at 256 (by decide +kernel) rfl, lw_at 257 (by decide +kernel) rfl, lw_at 258 (by decide +kernel) rfl, _, rfl, rfl⟩
theorem c5_27 : xMv RL 27 3 3 mX3_eye := ⟨mdX3_eye, lw_at 260 (by decide +kernel) rfl, lw_at 261 (by decide +kernel) rfl, lw_at 262 (by decide +kernel) rfl, _, rfl, rfl⟩
theorem c3_74 : xMs RX3 74 1 mX3_isEye := ⟨mdX3_isEye, lw_at 265 (by decide +kernel) rfl, Or.inl (lw_at 264 (by decide +kernel) rfl)⟩
theorem c3_77 : xMs RX3 77 2 mX3_isEyeNumber := ⟨mdX3_isEyeNumber, lw_at 268 (by decide +kernel) rfl, Or.inl (lw_at 267 (by decide +kernel) rfl)⟩
theorem c5_31 : xMv RL 31 3 2 mX3_sets := ⟨mdX3_sets, lw_at 270 (by decide +kernel) rfl, lw_at 271 (by decide +kernel) rfl, lw_at 272 (by decide +kernel) rfl, _, rfl, rfl⟩
theorem c3_84 : xMv RX3 84 3 2 mX3_whyNoLimit := ⟨mdX3_whyNoLimit, lw_at 274 (by decide +kernel) rfl, lw_at 276 (by decide +kernel) rfl, lw_at 6 (by decide +kernel) rfl, _, rfl, rfl⟩
theorem c3_88 : xMv RX3 88 1 2 mX1_setLimit := ⟨mdX1_setLimit, lw_at 278 (by decide +kernel) rfl, lw_at 279 (by decide +kernel) rfl, lw_at 280 (by decide +kernel) rfl, _, rfl, rfl⟩
theorem c5_36 : xMv RL 36 3 2 mX3_fixes := ⟨mdX3_fixes, lw_at 282 (by decide +kernel) rfl, lw_at 283 (by decide +kernel) rfl, lw_at 284 (by decide +kernel) rfl, _, rfl, rfl⟩
theorem c3_91 : xMv RX3 91 3 2 mX3_whyNotFixed := ⟨mdX3_whyNotFixed, lw_at 286 (by decide +kernel) rfl, lw_at 288 (by decide +kernel) rfl, lw_at 7 (by decide +kernel) rfl, _, rfl, rfl⟩
theorem c3_94 : xMv RX3 94 1 2 mX1_setFixed := ⟨mdX1_setFixed, lw_at 290 (by decide +kernel) rfl, lw_at 291 (by decide +kernel) rfl, lw_at 292 (by decide +kernel) rfl, _, rfl, rfl⟩
theorem c1_53 : xMs RX1 53 1 mJ6_bitCount_0f7a4 := ⟨mdJ6_bitCount_0f7a4, lw_at 295 (by decide +kernel) rfl, Or.inl (lw_at 294 (by decide +kernel) rfl)⟩
theorem c5_40 : xMv RL 40 3 2 mX3_of := ⟨mdX3_of, lw_at 300 (by decide +kernel) rfl, lw_at 301 (by decide +kernel) rfl, lw_at 302 (by decide +kernel) rfl, _, rfl, rfl⟩
theorem c3_100 : xMv RX3 100 1 1 mX1_isFixed := ⟨mdX1_isFixed, lw_at 304 (by decide +kernel) rfl, lw_at 305 (by decide +kernel) rfl, lw_at 306 (by decide +kernel) rfl, _, rfl, rfl⟩
theorem c3_103 : xMv RX3 103 1 1 mX1_isFit := ⟨mdX1_isFit, lw_at 308 (by decide +kernel) rfl, lw_at 309 (by decide +kernel) rfl, lw_at 310 (by decide +kernel) rfl, _, rfl, rfl⟩
theorem c1_63 : xMv RX1 63 1 1 mX1_lightOf := ⟨mdX1_lightOf, lw_at 312 (by decide +kernel) rfl, lw_at 313 (by decide +kernel) rfl, lw_at 314 (by decide +kernel) rfl, _, rfl, rfl⟩
theorem c1_67 : xMs RX1 67 2 mX1_lightAt := ⟨mdX1_lightAt, lw_at 317 (by decide +kernel) rfl, Or.inl (lw_at 316 (by decide +kernel) rfl)⟩
theorem c3_106 : xMv RX3 106 1 1 mX1_placeOf := ⟨mdX1_placeOf, lw_at 322 (by decide +kernel) rfl, lw_at 323 (by decide +kernel) rfl, lw_at 324 (by decide +kernel) rfl, _, rfl, rfl⟩
theorem c5_44 : xMv RL 44 3 2 mX3_look := ⟨mdX3_look, lw_at 326 (by decide +kernel) rfl, lw_at 327 (by decide +kernel) rfl, lw_at 328 (by decide +kernel) rfl, _, rfl, rfl⟩
theorem c5_48 : xMv RL 48 3 1 mX3_light := ⟨mdX3_light, lw_at 330 (by decide +kernel) rfl, lw_at 331 (by decide +kernel) rfl, lw_at 332 (by decide +kernel) rfl, _, rfl, rfl⟩
theorem c3_109 : xMv RX3 109 1 1 mX1_lightOf := ⟨mdX1_lightOf, lw_at 334 (by decide +kernel) rfl, lw_at 313 (by decide +kernel) rfl, lw_at 314 (by decide +kernel) rfl, _, rfl, rfl⟩
theorem c3_113 : xMs RX3 113 1 mX3_bitsOf := ⟨mdX3_bitsOf, lw_at 336 (by decide +kernel) rfl, Or.inl (lw_at 335 (by decide +kernel) rfl)⟩
theorem c5_53 : xMv RL 53 3 3 mX3_seen := ⟨mdX3_seen, lw_at 341 (by decide +kernel) rfl, lw_at 342 (by decide +kernel) rfl, lw_at 343 (by decide +kernel) rfl, _, rfl, rfl⟩
theorem c3_117 : xMv RX3 117 1 3 mX1_isSeenAsMinusZero := ⟨mdX1_isSeenAsMinusZero, lw_at 345 (by decide +kernel) rfl, lw_at 346 (by decide +kernel) rfl, lw_at 347 (by decide +kernel) rfl, _, rfl, rfl⟩
theorem c3_121 : xMv RX3 121 1 3 mX1_seenBy := ⟨mdX1_seenBy, lw_at 349 (by decide +kernel) rfl, lw_at 350 (by decide +kernel) rfl, lw_at 351 (by decide +kernel) rfl, _, rfl, rfl⟩
theorem c5_57 : xMv RL 57 3 3 mX3_distance := ⟨mdX3_distance, lw_at 354 (by decide +kernel) rfl, lw_at 355 (by decide +kernel) rfl, lw_at 356 (by decide +kernel) rfl, _, rfl, rfl⟩
theorem c3_125 : xMv RX3 125 1 3 mX1_distanceFor := ⟨mdX1_distanceFor, lw_at 358 (by decide +kernel) rfl, lw_at 359 (by decide +kernel) rfl, lw_at 360 (by decide +kernel) rfl, _, rfl, rfl⟩
theorem c1_75 : xMv RX1 75 1 3 mX1_seenBy := ⟨mdX1_seenBy, lw_at 362 (by decide +kernel) rfl, lw_at 350 (by decide +kernel) rfl, lw_at 351 (by decide +kernel) rfl, _, rfl, rfl⟩
theorem c5_61 : xMv RL 61 3 2 mX3_apart := ⟨mdX3_apart, lw_at 363 (by decide +kernel) rfl, lw_at 364 (by decide +kernel) rfl, lw_at 365 (by decide +kernel) rfl, _, rfl, rfl⟩
theorem c3_128 : xMv RX3 128 1 2 mX1_apartOf := ⟨mdX1_apartOf, lw_at 367 (by decide +kernel) rfl, lw_at 368 (by decide +kernel) rfl, lw_at 369 (by decide +kernel) rfl, _, rfl, rfl⟩
theorem c1_79 : xMv RX1 79 1 3 mX1_distanceFor := ⟨mdX1_distanceFor, lw_at 371 (by decide +kernel) rfl, lw_at 359 (by decide +kernel) rfl, lw_at 360 (by decide +kernel) rfl, _, rfl, rfl⟩
theorem c5_65 : xMv RL 65 3 1 mX3_fills := ⟨mdX3_fills, lw_at 372 (by decide +kernel) rfl, lw_at 373 (by decide +kernel) rfl, lw_at 374 (by decide +kernel) rfl, _, rfl, rfl⟩
theorem c3_132 : xMv RX3 132 3 1 mX3_whyNoFilling := ⟨mdX3_whyNoFilling, lw_at 376 (by decide +kernel) rfl, lw_at 378 (by decide +kernel) rfl, lw_at 8 (by decide +kernel) rfl, _, rfl, rfl⟩
theorem c3_174 : xMs RX3 174 1 mJ6_bitCount_0f7a4 := ⟨mdJ6_bitCount_0f7a4, lw_at 295 (by decide +kernel) rfl, Or.inl (lw_at 380 (by decide +kernel) rfl)⟩
theorem c3_135 : xMv RX3 135 0 2 mX0_fill := ⟨mdX0_fill, lw_at 381 (by decide +kernel) rfl, lw_at 382 (by decide +kernel) rfl, lw_at 383 (by decide +kernel) rfl, _, rfl, rfl⟩
theorem c0_38 : xMv RX0 38 0 1 mX0_measure := ⟨mdX0_measure, lw_at 385 (by decide +kernel) rfl, lw_at 386 (by decide +kernel) rfl, lw_at 387 (by decide +kernel) rfl, _, rfl, rfl⟩
theorem c0_25 : xMv RX0 25 1 2 mX1_apartOf := ⟨mdX1_apartOf, lw_at 389 (by decide +kernel) rfl, lw_at 368 (by decide +kernel) rfl, lw_at 369 (by decide +kernel) rfl, _, rfl, rfl⟩
theorem c0_42 : xMv RX0 42 1 1 mX1_isFixed := ⟨mdX1_isFixed, lw_at 390 (by decide +kernel) rfl, lw_at 305 (by decide +kernel) rfl, lw_at 306 (by decide +kernel) rfl, _, rfl, rfl⟩
theorem c0_46 : xMv RX0 46 1 1 mX1_putIntoRow := ⟨mdX1_putIntoRow, lw_at 391 (by decide +kernel) rfl, lw_at 392 (by decide +kernel) rfl, lw_at 393 (by decide +kernel) rfl, _, rfl, rfl⟩
theorem c0_50 : xMv RX0 50 1 0 mX1_fitBits := ⟨mdX1_fitBits, lw_at 395 (by decide +kernel) rfl, lw_at 396 (by decide +kernel) rfl, lw_at 397 (by decide +kernel) rfl, _, rfl, rfl⟩
theorem c1_59 : xMv RX1 59 1 1 mX1_isFit := ⟨mdX1_isFit, lw_at 399 (by decide +kernel) rfl, lw_at 309 (by decide +kernel) rfl, lw_at 310 (by decide +kernel) rfl, _, rfl, rfl⟩
theorem c0_54 : xMv RX0 54 1 0 mX1_rowBits := ⟨mdX1_rowBits, lw_at 400 (by decide +kernel) rfl, lw_at 401 (by decide +kernel) rfl, lw_at 402 (by decide +kernel) rfl, _, rfl, rfl⟩
theorem c0_57 : xMv RX0 57 0 2 mX0_nextOne := ⟨mdX0_nextOne, lw_at 404 (by decide +kernel) rfl, lw_at 406 (by decide +kernel) rfl, lw_at 9 (by decide +kernel) rfl, _, rfl, rfl⟩
theorem c0_61 : xMv RX0 61 1 1 mX1_lightOf := ⟨mdX1_lightOf, lw_at 408 (by decide +kernel) rfl, lw_at 313 (by decide +kernel) rfl, lw_at 314 (by decide +kernel) rfl, _, rfl, rfl⟩
theorem c0_65 : xMv RX0 65 0 2 mX0_gapToRow := ⟨mdX0_gapToRow, lw_at 409 (by decide +kernel) rfl, lw_at 411 (by decide +kernel) rfl, lw_at 10 (by decide +kernel) rfl, _, rfl, rfl⟩
theorem c0_29 : xMv RX0 29 0 2 mX0_gap := ⟨mdX0_gap, lw_at 413 (by decide +kernel) rfl, lw_at 415 (by decide +kernel) rfl, lw_at 11 (by decide +kernel) rfl, _, rfl, rfl⟩
theorem c5_69 : xMv RL 69 3 0 mX3_swaps := ⟨mdX3_swaps, lw_at 417 (by decide +kernel) rfl, lw_at 418 (by decide +kernel) rfl, lw_at 419 (by decide +kernel) rfl, _, rfl, rfl⟩
theorem c3_142 : xMv RX3 142 0 1 mX0_swapAll := ⟨mdX0_swapAll, lw_at 421 (by decide +kernel) rfl, lw_at 422 (by decide +kernel) rfl, lw_at 423 (by decide +kernel) rfl, _, rfl, rfl⟩
theorem c0_69 : xMv RX0 69 0 2 mX0_swapOne := ⟨mdX0_swapOne, lw_at 425 (by decide +kernel) rfl, lw_at 427 (by decide +kernel) rfl, lw_at 12 (by decide +kernel) rfl, _, rfl, rfl⟩
theorem c0_73 : xMv RX0 73 0 2 mX0_leastOf := ⟨mdX0_leastOf, lw_at 429 (by decide +kernel) rfl, lw_at 430 (by decide +kernel) rfl, lw_at 431 (by decide +kernel) rfl, _, rfl, rfl⟩
theorem c5_74 : xMv RL 74 3 1 mX3_palette := ⟨mdX3_palette, lw_at 433 (by decide +kernel) rfl, lw_at 434 (by decide +kernel) rfl, lw_at 435 (by decide +kernel) rfl, _, rfl, rfl⟩
theorem c5_78 : xMv RL 78 3 0 mX3_least := ⟨mdX3_least, lw_at 437 (by decide +kernel) rfl, lw_at 438 (by decide +kernel) rfl, lw_at 439 (by decide +kernel) rfl, _, rfl, rfl⟩
theorem c3_149 : xMv RX3 149 0 1 mX0_measure := ⟨mdX0_measure, lw_at 441 (by decide +kernel) rfl, lw_at 386 (by decide +kernel) rfl, lw_at 387 (by decide +kernel) rfl, _, rfl, rfl⟩
theorem c3_153 : xMv RX3 153 0 2 mX0_leastOf := ⟨mdX0_leastOf, lw_at 442 (by decide +kernel) rfl, lw_at 430 (by decide +kernel) rfl, lw_at 431 (by decide +kernel) rfl, _, rfl, rfl⟩
theorem c5_82 : xMv RL 82 3 0 mX3_nearest := ⟨mdX3_nearest, lw_at 443 (by decide +kernel) rfl, lw_at 444 (by decide +kernel) rfl, lw_at 445 (by decide +kernel) rfl, _, rfl, rfl⟩
theorem c3_157 : xMv RX3 157 0 1 mX0_nearestPlaces := ⟨mdX0_nearestPlaces, lw_at 447 (by decide +kernel) rfl, lw_at 448 (by decide +kernel) rfl, lw_at 449 (by decide +kernel) rfl, _, rfl, rfl⟩
theorem c5_86 : xMv RL 86 3 1 mX3_best := ⟨mdX3_best, lw_at 451 (by decide +kernel) rfl, lw_at 452 (by decide +kernel) rfl, lw_at 453 (by decide +kernel) rfl, _, rfl, rfl⟩
theorem c3_160 : xMv RX3 160 0 2 mX0_bestSet := ⟨mdX0_bestSet, lw_at 455 (by decide +kernel) rfl, lw_at 456 (by decide +kernel) rfl, lw_at 457 (by decide +kernel) rfl, _, rfl, rfl⟩
theorem c0_80 : xMv RX0 80 0 1 mX0_listMembers := ⟨mdX0_listMembers, lw_at 459 (by decide +kernel) rfl, lw_at 461 (by decide +kernel) rfl, lw_at 13 (by decide +kernel) rfl, _, rfl, rfl⟩
theorem c0_84 : xMs RX0 84 1 mX0_nextOfLikeSize := ⟨mdX0_nextOfLikeSize, lw_at 464 (by decide +kernel) rfl, Or.inl (lw_at 463 (by decide +kernel) rfl)⟩
theorem c0_87 : xMs RX0 87 1 mJ6_bitCount_0f7a4 := ⟨mdJ6_bitCount_0f7a4, lw_at 295 (by decide +kernel) rfl, Or.inl (lw_at 466 (by decide +kernel) rfl)⟩
theorem c5_90 : xMv RL 90 3 2 mX3_mistaken := ⟨mdX3_mistaken, lw_at 467 (by decide +kernel) rfl, lw_at 468 (by decide +kernel) rfl, lw_at 469 (by decide +kernel) rfl, _, rfl, rfl⟩
theorem c3_164 : xMv RX3 164 1 2 mX1_pairsBelow := ⟨mdX1_pairsBelow, lw_at 471 (by decide +kernel) rfl, lw_at 472 (by decide +kernel) rfl, lw_at 473 (by decide +kernel) rfl, _, rfl, rfl⟩
theorem c5_94 : xMv RL 94 3 1 mX3_count := ⟨mdX3_count, lw_at 475 (by decide +kernel) rfl, lw_at 476 (by decide +kernel) rfl, lw_at 477 (by decide +kernel) rfl, _, rfl, rfl⟩
theorem c3_170 : xMv RX3 170 1 0 mX1_fitBits := ⟨mdX1_fitBits, lw_at 479 (by decide +kernel) rfl, lw_at 396 (by decide +kernel) rfl, lw_at 397 (by decide +kernel) rfl, _, rfl, rfl⟩
theorem c3_182 : xMv RX3 182 1 0 mX1_countingBits := ⟨mdX1_countingBits, lw_at 480 (by decide +kernel) rfl, lw_at 481 (by decide +kernel) rfl, lw_at 482 (by decide +kernel) rfl, _, rfl, rfl⟩
theorem c5_98 : xMv RL 98 3 1 mX3_type := ⟨mdX3_type, lw_at 484 (by decide +kernel) rfl, lw_at 485 (by decide +kernel) rfl, lw_at 486 (by decide +kernel) rfl, _, rfl, rfl⟩
theorem c3_188 : xMv RX3 188 2 1 mX2_append := ⟨mdX2_append, lw_at 488 (by decide +kernel) rfl, lw_at 489 (by decide +kernel) rfl, lw_at 490 (by decide +kernel) rfl, _, rfl, rfl⟩
theorem c5_102 : xMv RL 102 3 0 mX3_clear := ⟨mdX3_clear, lw_at 492 (by decide +kernel) rfl, lw_at 493 (by decide +kernel) rfl, lw_at 494 (by decide +kernel) rfl, _, rfl, rfl⟩
theorem c5_106 : xMv RL 106 3 0 mX3_does := ⟨mdX3_does, lw_at 496 (by decide +kernel) rfl, lw_at 497 (by decide +kernel) rfl, lw_at 498 (by decide +kernel) rfl, _, rfl, rfl⟩
theorem c3_191 : xMv RX3 191 2 0 mX2_read := ⟨mdX2_read, lw_at 500 (by decide +kernel) rfl, lw_at 501 (by decide +kernel) rfl, lw_at 502 (by decide +kernel) rfl, _, rfl, rfl⟩
theorem c2_34 : xMv RX2 34 2 0 mX2_skipBlanks := ⟨mdX2_skipBlanks, lw_at 504 (by decide +kernel) rfl, lw_at 506 (by decide +kernel) rfl, lw_at 14 (by decide +kernel) rfl, _, rfl, rfl⟩
theorem c2_41 : xMv RX2 41 2 0 mX2_byteHere := ⟨mdX2_byteHere, lw_at 508 (by decide +kernel) rfl, lw_at 510 (by decide +kernel) rfl, lw_at 15 (by decide +kernel) rfl, _, rfl, rfl⟩
theorem c2_37 : xMv RX2 37 2 0 mX2_readOrder := ⟨mdX2_readOrder, lw_at 512 (by decide +kernel) rfl, lw_at 514 (by decide +kernel) rfl, lw_at 16 (by decide +kernel) rfl, _, rfl, rfl⟩
theorem c2_45 : xMv RX2 45 2 0 mX2_readSixFigures := ⟨mdX2_readSixFigures, lw_at 516 (by decide +kernel) rfl, lw_at 518 (by decide +kernel) rfl, lw_at 17 (by decide +kernel) rfl, _, rfl, rfl⟩
theorem c2_55 : xMs RX2 55 1 mX2_figureOf := ⟨mdX2_figureOf, lw_at 521 (by decide +kernel) rfl, Or.inl (lw_at 520 (by decide +kernel) rfl)⟩
theorem c2_59 : xMs RX2 59 1 mX2_isTenFigure := ⟨mdX2_isTenFigure, lw_at 524 (by decide +kernel) rfl, Or.inl (lw_at 523 (by decide +kernel) rfl)⟩
theorem c2_48 : xMv RX2 48 2 0 mX2_readEnd := ⟨mdX2_readEnd, lw_at 526 (by decide +kernel) rfl, lw_at 528 (by decide +kernel) rfl, lw_at 18 (by decide +kernel) rfl, _, rfl, rfl⟩
theorem c2_51 : xMv RX2 51 2 1 mX2_readNumber := ⟨mdX2_readNumber, lw_at 530 (by decide +kernel) rfl, lw_at 532 (by decide +kernel) rfl, lw_at 19 (by decide +kernel) rfl, _, rfl, rfl⟩
theorem c3_209 : xMv RX3 209 3 3 mX3_whyNoOrder := ⟨mdX3_whyNoOrder, lw_at 534 (by decide +kernel) rfl, lw_at 536 (by decide +kernel) rfl, lw_at 20 (by decide +kernel) rfl, _, rfl, rfl⟩
theorem c3_247 : xMs RX3 247 1 mX3_redOf := ⟨mdX3_redOf, lw_at 539 (by decide +kernel) rfl, Or.inl (lw_at 538 (by decide +kernel) rfl)⟩
theorem c3_250 : xMs RX3 250 1 mX3_greenOf := ⟨mdX3_greenOf, lw_at 542 (by decide +kernel) rfl, Or.inl (lw_at 541 (by decide +kernel) rfl)⟩
theorem c3_253 : xMs RX3 253 1 mX3_blueOf := ⟨mdX3_blueOf, lw_at 545 (by decide +kernel) rfl, Or.inl (lw_at 544 (by decide +kernel) rfl)⟩
theorem c3_215 : xMv RX3 215 3 3 mX3_obey := ⟨mdX3_obey, lw_at 547 (by decide +kernel) rfl, lw_at 549 (by decide +kernel) rfl, lw_at 21 (by decide +kernel) rfl, _, rfl, rfl⟩
theorem c5_110 : xMv RL 110 3 0 mX3_back := ⟨mdX3_back, lw_at 551 (by decide +kernel) rfl, lw_at 552 (by decide +kernel) rfl, lw_at 553 (by decide +kernel) rfl, _, rfl, rfl⟩
theorem c5_114 : xMv RL 114 3 1 mX3_told := ⟨mdX3_told, lw_at 555 (by decide +kernel) rfl, lw_at 556 (by decide +kernel) rfl, lw_at 557 (by decide +kernel) rfl, _, rfl, rfl⟩
theorem c5_118 : xMv RL 118 3 0 mX3_digest := ⟨mdX3_digest, lw_at 559 (by decide +kernel) rfl, lw_at 560 (by decide +kernel) rfl, lw_at 561 (by decide +kernel) rfl, _, rfl, rfl⟩
theorem c3_229 : xMv RX3 229 3 1 mX3_told := ⟨mdX3_told, lw_at 565 (by decide +kernel) rfl, lw_at 556 (by decide +kernel) rfl, lw_at 557 (by decide +kernel) rfl, _, rfl, rfl⟩
theorem c3_232 : xMv RX3 232 3 1 mX3_count := ⟨mdX3_count, lw_at 566 (by decide +kernel) rfl, lw_at 476 (by decide +kernel) rfl, lw_at 477 (by decide +kernel) rfl, _, rfl, rfl⟩
theorem c3_235 : xMv RX3 235 3 2 mX3_of := ⟨mdX3_of, lw_at 567 (by decide +kernel) rfl, lw_at 301 (by decide +kernel) rfl, lw_at 302 (by decide +kernel) rfl, _, rfl, rfl⟩
theorem c3_238 : xMv RX3 238 3 1 mX3_light := ⟨mdX3_light, lw_at 568 (by decide +kernel) rfl, lw_at 331 (by decide +kernel) rfl, lw_at 332 (by decide +kernel) rfl, _, rfl, rfl⟩
theorem c3_241 : xMv RX3 241 3 0 mX3_least := ⟨mdX3_least, lw_at 569 (by decide +kernel) rfl, lw_at 438 (by decide +kernel) rfl, lw_at 439 (by decide +kernel) rfl, _, rfl, rfl⟩
theorem c3_244 : xMv RX3 244 3 0 mX3_nearest := ⟨mdX3_nearest, lw_at 570 (by decide +kernel) rfl, lw_at 444 (by decide +kernel) rfl, lw_at 445 (by decide +kernel) rfl, _, rfl, rfl⟩
theorem c5_12 : xMi RL 12 0 mX4_init := ⟨mdX4_init, lw_at 573 (by decide +kernel) rfl, lw_at 574 (by decide +kernel) rfl, rfl, rfl⟩
theorem c4_1 : Cond.methodLink RX4 1 Lib.objectInit ∈ lw_good := lw_at 576 (by decide +kernel) rfl
theorem c5_113 : xMv RL 113 4 0 mX4_back := ⟨mdX4_back, lw_at 626 (by decide +kernel) rfl, lw_at 627 (by decide +kernel) rfl, lw_at 628 (by decide +kernel) rfl, _, rfl, rfl⟩
theorem c4_45 : xMv RX4 45 4 0 mX4_no := ⟨mdX4_no, lw_at 630 (by decide +kernel) rfl, lw_at 632 (by decide +kernel) rfl, lw_at 22 (by decide +kernel) rfl, _, rfl, rfl⟩
theorem c5_17 : xMv RL 17 4 3 mX4_colour := ⟨mdX4_colour, lw_at 634 (by decide +kernel) rfl, lw_at 635 (by decide +kernel) rfl, lw_at 636 (by decide +kernel) rfl, _, rfl, rfl⟩
theorem c4_65 : xMs RX4 65 3 mX4_areParts := ⟨mdX4_areParts, lw_at 639 (by decide +kernel) rfl, Or.inl (lw_at 638 (by decide +kernel) rfl)⟩
theorem c4_53 : xMs RX4 53 1 mX4_isPart := ⟨mdX4_isPart, lw_at 642 (by decide +kernel) rfl, Or.inl (lw_at 641 (by decide +kernel) rfl)⟩
theorem c4_49 : xMs RX4 49 3 mX4_in := ⟨mdX4_in, lw_at 645 (by decide +kernel) rfl, Or.inl (lw_at 644 (by decide +kernel) rfl)⟩
theorem c4_68 : xMv RX4 68 4 0 mX4_bad := ⟨mdX4_bad, lw_at 647 (by decide +kernel) rfl, lw_at 649 (by decide +kernel) rfl, lw_at 23 (by decide +kernel) rfl, _, rfl, rfl⟩
theorem c4_71 : xMv RX4 71 4 0 mX4_full := ⟨mdX4_full, lw_at 651 (by decide +kernel) rfl, lw_at 653 (by decide +kernel) rfl, lw_at 24 (by decide +kernel) rfl, _, rfl, rfl⟩
theorem c4_74 : xMv RX4 74 4 0 mX4_remembers := ⟨mdX4_remembers, lw_at 655 (by decide +kernel) rfl, lw_at 657 (by decide +kernel) rfl, lw_at 25 (by decide +kernel) rfl, _, rfl, rfl⟩
theorem c4_77 : xMv RX4 77 4 3 mX4_comes := ⟨mdX4_comes, lw_at 659 (by decide +kernel) rfl, lw_at 661 (by decide +kernel) rfl, lw_at 26 (by decide +kernel) rfl, _, rfl, rfl⟩
theorem c4_57 : xMv RX4 57 4 1 mX4_colourAt := ⟨mdX4_colourAt, lw_at 663 (by decide +kernel) rfl, lw_at 665 (by decide +kernel) rfl, lw_at 27 (by decide +kernel) rfl, _, rfl, rfl⟩
theorem c4_61 : xMv RX4 61 4 4 mX4_becomes := ⟨mdX4_becomes, lw_at 667 (by decide +kernel) rfl, lw_at 669 (by decide +kernel) rfl, lw_at 28 (by decide +kernel) rfl, _, rfl, rfl⟩
theorem c5_22 : xMv RL 22 4 4 mX4_paints := ⟨mdX4_paints, lw_at 671 (by decide +kernel) rfl, lw_at 672 (by decide +kernel) rfl, lw_at 673 (by decide +kernel) rfl, _, rfl, rfl⟩
theorem c4_81 : xMv RX4 81 4 1 mX4_isColour := ⟨mdX4_isColour, lw_at 675 (by decide +kernel) rfl, lw_at 677 (by decide +kernel) rfl, lw_at 29 (by decide +kernel) rfl, _, rfl, rfl⟩
theorem c5_26 : xMv RL 26 4 3 mX4_ground := ⟨mdX4_ground, lw_at 679 (by decide +kernel) rfl, lw_at 680 (by decide +kernel) rfl, lw_at 681 (by decide +kernel) rfl, _, rfl, rfl⟩
theorem c5_30 : xMv RL 30 4 3 mX4_eye := ⟨mdX4_eye, lw_at 683 (by decide +kernel) rfl, lw_at 684 (by decide +kernel) rfl, lw_at 685 (by decide +kernel) rfl, _, rfl, rfl⟩
theorem c4_84 : xMs RX4 84 1 mX4_isEye := ⟨mdX4_isEye, lw_at 688 (by decide +kernel) rfl, Or.inl (lw_at 687 (by decide +kernel) rfl)⟩
theorem c4_87 : xMs RX4 87 2 mX4_isOfEye := ⟨mdX4_isOfEye, lw_at 691 (by decide +kernel) rfl, Or.inl (lw_at 690 (by decide +kernel) rfl)⟩
theorem c4_91 : xMv RX4 91 4 2 mX4_exchanges := ⟨mdX4_exchanges, lw_at 693 (by decide +kernel) rfl, lw_at 695 (by decide +kernel) rfl, lw_at 30 (by decide +kernel) rfl, _, rfl, rfl⟩
theorem c5_35 : xMv RL 35 4 2 mX4_sets := ⟨mdX4_sets, lw_at 697 (by decide +kernel) rfl, lw_at 698 (by decide +kernel) rfl, lw_at 699 (by decide +kernel) rfl, _, rfl, rfl⟩
theorem c5_39 : xMv RL 39 4 2 mX4_fixes := ⟨mdX4_fixes, lw_at 701 (by decide +kernel) rfl, lw_at 702 (by decide +kernel) rfl, lw_at 703 (by decide +kernel) rfl, _, rfl, rfl⟩
theorem c4_98 : xMv RX4 98 4 2 mX4_fixesOne := ⟨mdX4_fixesOne, lw_at 705 (by decide +kernel) rfl, lw_at 707 (by decide +kernel) rfl, lw_at 31 (by decide +kernel) rfl, _, rfl, rfl⟩
theorem c4_95 : xMs RX4 95 1 mX4_bitsIn := ⟨mdX4_bitsIn, lw_at 710 (by decide +kernel) rfl, Or.inl (lw_at 709 (by decide +kernel) rfl)⟩
theorem c5_43 : xMv RL 43 4 2 mX4_of := ⟨mdX4_of, lw_at 712 (by decide +kernel) rfl, lw_at 713 (by decide +kernel) rfl, lw_at 714 (by decide +kernel) rfl, _, rfl, rfl⟩
theorem c4_114 : xMv RX4 114 4 2 mX4_ofColour := ⟨mdX4_ofColour, lw_at 716 (by decide +kernel) rfl, lw_at 718 (by decide +kernel) rfl, lw_at 32 (by decide +kernel) rfl, _, rfl, rfl⟩
theorem c4_108 : xMv RX4 108 4 1 mX4_isFitting := ⟨mdX4_isFitting, lw_at 720 (by decide +kernel) rfl, lw_at 722 (by decide +kernel) rfl, lw_at 33 (by decide +kernel) rfl, _, rfl, rfl⟩
theorem c4_104 : xMv RX4 104 4 1 mX4_shineAt := ⟨mdX4_shineAt, lw_at 724 (by decide +kernel) rfl, lw_at 726 (by decide +kernel) rfl, lw_at 34 (by decide +kernel) rfl, _, rfl, rfl⟩
theorem c4_111 : xMv RX4 111 4 1 mX4_placeOf := ⟨mdX4_placeOf, lw_at 731 (by decide +kernel) rfl, lw_at 733 (by decide +kernel) rfl, lw_at 35 (by decide +kernel) rfl, _, rfl, rfl⟩
theorem c5_47 : xMv RL 47 4 2 mX4_look := ⟨mdX4_look, lw_at 735 (by decide +kernel) rfl, lw_at 736 (by decide +kernel) rfl, lw_at 737 (by decide +kernel) rfl, _, rfl, rfl⟩
theorem c5_52 : xMv RL 52 4 1 mX4_light := ⟨mdX4_light, lw_at 739 (by decide +kernel) rfl, lw_at 740 (by decide +kernel) rfl, lw_at 741 (by decide +kernel) rfl, _, rfl, rfl⟩
theorem c4_117 : xMs RX4 117 1 mX4_bitsOf := ⟨mdX4_bitsOf, lw_at 744 (by decide +kernel) rfl, Or.inl (lw_at 743 (by decide +kernel) rfl)⟩
theorem c5_56 : xMv RL 56 4 3 mX4_seen := ⟨mdX4_seen, lw_at 749 (by decide +kernel) rfl, lw_at 750 (by decide +kernel) rfl, lw_at 751 (by decide +kernel) rfl, _, rfl, rfl⟩
theorem c4_122 : xMv RX4 122 4 3 mX4_sight := ⟨mdX4_sight, lw_at 753 (by decide +kernel) rfl, lw_at 755 (by decide +kernel) rfl, lw_at 36 (by decide +kernel) rfl, _, rfl, rfl⟩
theorem c5_60 : xMv RL 60 4 3 mX4_distance := ⟨mdX4_distance, lw_at 758 (by decide +kernel) rfl, lw_at 759 (by decide +kernel) rfl, lw_at 760 (by decide +kernel) rfl, _, rfl, rfl⟩
theorem c4_126 : xMv RX4 126 4 3 mX4_farFor := ⟨mdX4_farFor, lw_at 762 (by decide +kernel) rfl, lw_at 764 (by decide +kernel) rfl, lw_at 37 (by decide +kernel) rfl, _, rfl, rfl⟩
theorem c5_64 : xMv RL 64 4 2 mX4_apart := ⟨mdX4_apart, lw_at 766 (by decide +kernel) rfl, lw_at 767 (by decide +kernel) rfl, lw_at 768 (by decide +kernel) rfl, _, rfl, rfl⟩
theorem c4_129 : xMv RX4 129 4 2 mX4_apartOf := ⟨mdX4_apartOf, lw_at 770 (by decide +kernel) rfl, lw_at 772 (by decide +kernel) rfl, lw_at 38 (by decide +kernel) rfl, _, rfl, rfl⟩
theorem c5_68 : xMv RL 68 4 1 mX4_fills := ⟨mdX4_fills, lw_at 774 (by decide +kernel) rfl, lw_at 775 (by decide +kernel) rfl, lw_at 776 (by decide +kernel) rfl, _, rfl, rfl⟩
theorem c4_155 : xMv RX4 155 4 1 mX4_canFill := ⟨mdX4_canFill, lw_at 778 (by decide +kernel) rfl, lw_at 780 (by decide +kernel) rfl, lw_at 39 (by decide +kernel) rfl, _, rfl, rfl⟩
theorem c4_158 : xMv RX4 158 4 1 mX4_fillsFor := ⟨mdX4_fillsFor, lw_at 782 (by decide +kernel) rfl, lw_at 784 (by decide +kernel) rfl, lw_at 40 (by decide +kernel) rfl, _, rfl, rfl⟩
theorem c4_142 : xMv RX4 142 4 0 mX4_laysFar := ⟨mdX4_laysFar, lw_at 786 (by decide +kernel) rfl, lw_at 788 (by decide +kernel) rfl, lw_at 41 (by decide +kernel) rfl, _, rfl, rfl⟩
theorem c4_136 : xMs RX4 136 2 mX4_has := ⟨mdX4_has, lw_at 791 (by decide +kernel) rfl, Or.inl (lw_at 790 (by decide +kernel) rfl)⟩
theorem c4_145 : xMv RX4 145 4 1 mX4_putsLast := ⟨mdX4_putsLast, lw_at 793 (by decide +kernel) rfl, lw_at 795 (by decide +kernel) rfl, lw_at 42 (by decide +kernel) rfl, _, rfl, rfl⟩
theorem c4_149 : xMv RX4 149 4 0 mX4_lightest := ⟨mdX4_lightest, lw_at 797 (by decide +kernel) rfl, lw_at 799 (by decide +kernel) rfl, lw_at 43 (by decide +kernel) rfl, _, rfl, rfl⟩
theorem c4_152 : xMv RX4 152 4 0 mX4_farthest := ⟨mdX4_farthest, lw_at 801 (by decide +kernel) rfl, lw_at 803 (by decide +kernel) rfl, lw_at 44 (by decide +kernel) rfl, _, rfl, rfl⟩
theorem c4_139 : xMv RX4 139 4 1 mX4_nearestIn := ⟨mdX4_nearestIn, lw_at 805 (by decide +kernel) rfl, lw_at 807 (by decide +kernel) rfl, lw_at 45 (by decide +kernel) rfl, _, rfl, rfl⟩
theorem c5_73 : xMv RL 73 4 0 mX4_swaps := ⟨mdX4_swaps, lw_at 809 (by decide +kernel) rfl, lw_at 810 (by decide +kernel) rfl, lw_at 811 (by decide +kernel) rfl, _, rfl, rfl⟩
theorem c4_171 : xMv RX4 171 4 0 mX4_swapsAll := ⟨mdX4_swapsAll, lw_at 813 (by decide +kernel) rfl, lw_at 815 (by decide +kernel) rfl, lw_at 46 (by decide +kernel) rfl, _, rfl, rfl⟩
theorem c4_167 : xMv RX4 167 4 0 mX4_isSwapped := ⟨mdX4_isSwapped, lw_at 817 (by decide +kernel) rfl, lw_at 819 (by decide +kernel) rfl, lw_at 47 (by decide +kernel) rfl, _, rfl, rfl⟩
theorem c4_161 : xMv RX4 161 4 0 mX4_takesPalette := ⟨mdX4_takesPalette, lw_at 821 (by decide +kernel) rfl, lw_at 823 (by decide +kernel) rfl, lw_at 48 (by decide +kernel) rfl, _, rfl, rfl⟩
theorem c4_164 : xMv RX4 164 4 1 mX4_leastOf := ⟨mdX4_leastOf, lw_at 825 (by decide +kernel) rfl, lw_at 827 (by decide +kernel) rfl, lw_at 49 (by decide +kernel) rfl, _, rfl, rfl⟩
theorem c5_77 : xMv RL 77 4 1 mX4_palette := ⟨mdX4_palette, lw_at 829 (by decide +kernel) rfl, lw_at 830 (by decide +kernel) rfl, lw_at 831 (by decide +kernel) rfl, _, rfl, rfl⟩
theorem c5_81 : xMv RL 81 4 0 mX4_least := ⟨mdX4_least, lw_at 833 (by decide +kernel) rfl, lw_at 834 (by decide +kernel) rfl, lw_at 835 (by decide +kernel) rfl, _, rfl, rfl⟩
theorem c4_174 : xMv RX4 174 4 0 mX4_leastNow := ⟨mdX4_leastNow, lw_at 837 (by decide +kernel) rfl, lw_at 839 (by decide +kernel) rfl, lw_at 50 (by decide +kernel) rfl, _, rfl, rfl⟩
theorem c5_85 : xMv RL 85 4 0 mX4_nearest := ⟨mdX4_nearest, lw_at 841 (by decide +kernel) rfl, lw_at 842 (by decide +kernel) rfl, lw_at 843 (by decide +kernel) rfl, _, rfl, rfl⟩
theorem c4_177 : xMv RX4 177 4 0 mX4_nearestNow := ⟨mdX4_nearestNow, lw_at 845 (by decide +kernel) rfl, lw_at 847 (by decide +kernel) rfl, lw_at 51 (by decide +kernel) rfl, _, rfl, rfl⟩
theorem c5_89 : xMv RL 89 4 1 mX4_best := ⟨mdX4_best, lw_at 849 (by decide +kernel) rfl, lw_at 850 (by decide +kernel) rfl, lw_at 851 (by decide +kernel) rfl, _, rfl, rfl⟩
theorem c4_186 : xMv RX4 186 4 1 mX4_bestOf := ⟨mdX4_bestOf, lw_at 853 (by decide +kernel) rfl, lw_at 855 (by decide +kernel) rfl, lw_at 52 (by decide +kernel) rfl, _, rfl, rfl⟩
theorem c4_180 : xMv RX4 180 4 1 mX4_setOf := ⟨mdX4_setOf, lw_at 857 (by decide +kernel) rfl, lw_at 859 (by decide +kernel) rfl, lw_at 53 (by decide +kernel) rfl, _, rfl, rfl⟩
theorem c4_183 : xMv RX4 183 4 1 mX4_isNext := ⟨mdX4_isNext, lw_at 861 (by decide +kernel) rfl, lw_at 863 (by decide +kernel) rfl, lw_at 54 (by decide +kernel) rfl, _, rfl, rfl⟩
theorem c5_93 : xMv RL 93 4 2 mX4_mistaken := ⟨mdX4_mistaken, lw_at 865 (by decide +kernel) rfl, lw_at 866 (by decide +kernel) rfl, lw_at 867 (by decide +kernel) rfl, _, rfl, rfl⟩
theorem c5_97 : xMv RL 97 4 1 mX4_count := ⟨mdX4_count, lw_at 869 (by decide +kernel) rfl, lw_at 870 (by decide +kernel) rfl, lw_at 871 (by decide +kernel) rfl, _, rfl, rfl⟩
theorem c4_195 : xMv RX4 195 4 1 mX4_countOf := ⟨mdX4_countOf, lw_at 873 (by decide +kernel) rfl, lw_at 875 (by decide +kernel) rfl, lw_at 55 (by decide +kernel) rfl, _, rfl, rfl⟩
theorem c4_189 : xMv RX4 189 4 0 mX4_fittingMany := ⟨mdX4_fittingMany, lw_at 877 (by decide +kernel) rfl, lw_at 879 (by decide +kernel) rfl, lw_at 56 (by decide +kernel) rfl, _, rfl, rfl⟩
theorem c4_192 : xMv RX4 192 4 0 mX4_countsSet := ⟨mdX4_countsSet, lw_at 881 (by decide +kernel) rfl, lw_at 883 (by decide +kernel) rfl, lw_at 57 (by decide +kernel) rfl, _, rfl, rfl⟩
theorem c5_101 : xMv RL 101 4 1 mX4_type := ⟨mdX4_type, lw_at 885 (by decide +kernel) rfl, lw_at 886 (by decide +kernel) rfl, lw_at 887 (by decide +kernel) rfl, _, rfl, rfl⟩
theorem c5_105 : xMv RL 105 4 0 mX4_clear := ⟨mdX4_clear, lw_at 889 (by decide +kernel) rfl, lw_at 890 (by decide +kernel) rfl, lw_at 891 (by decide +kernel) rfl, _, rfl, rfl⟩
theorem c5_109 : xMv RL 109 4 0 mX4_does := ⟨mdX4_does, lw_at 893 (by decide +kernel) rfl, lw_at 894 (by decide +kernel) rfl, lw_at 895 (by decide +kernel) rfl, _, rfl, rfl⟩
theorem c4_237 : xMv RX4 237 4 0 mX4_isRead := ⟨mdX4_isRead, lw_at 897 (by decide +kernel) rfl, lw_at 899 (by decide +kernel) rfl, lw_at 58 (by decide +kernel) rfl, _, rfl, rfl⟩
theorem c4_210 : xMv RX4 210 4 0 mX4_blanks := ⟨mdX4_blanks, lw_at 901 (by decide +kernel) rfl, lw_at 903 (by decide +kernel) rfl, lw_at 59 (by decide +kernel) rfl, _, rfl, rfl⟩
theorem c4_204 : xMv RX4 204 4 2 mX4_isAt := ⟨mdX4_isAt, lw_at 905 (by decide +kernel) rfl, lw_at 907 (by decide +kernel) rfl, lw_at 60 (by decide +kernel) rfl, _, rfl, rfl⟩
theorem c4_228 : xMv RX4 228 4 0 mX4_takesOrder := ⟨mdX4_takesOrder, lw_at 909 (by decide +kernel) rfl, lw_at 911 (by decide +kernel) rfl, lw_at 61 (by decide +kernel) rfl, _, rfl, rfl⟩
theorem c4_213 : xMv RX4 213 4 1 mX4_fails := ⟨mdX4_fails, lw_at 913 (by decide +kernel) rfl, lw_at 915 (by decide +kernel) rfl, lw_at 62 (by decide +kernel) rfl, _, rfl, rfl⟩
theorem c4_225 : xMv RX4 225 4 1 mX4_takesNumbers := ⟨mdX4_takesNumbers, lw_at 917 (by decide +kernel) rfl, lw_at 919 (by decide +kernel) rfl, lw_at 63 (by decide +kernel) rfl, _, rfl, rfl⟩
theorem c4_219 : xMv RX4 219 4 1 mX4_takesSix := ⟨mdX4_takesSix, lw_at 921 (by decide +kernel) rfl, lw_at 923 (by decide +kernel) rfl, lw_at 64 (by decide +kernel) rfl, _, rfl, rfl⟩
theorem c4_222 : xMv RX4 222 4 1 mX4_takesNumber := ⟨mdX4_takesNumber, lw_at 925 (by decide +kernel) rfl, lw_at 927 (by decide +kernel) rfl, lw_at 65 (by decide +kernel) rfl, _, rfl, rfl⟩
theorem c4_240 : xMv RX4 240 4 1 mX4_obeys := ⟨mdX4_obeys, lw_at 929 (by decide +kernel) rfl, lw_at 931 (by decide +kernel) rfl, lw_at 66 (by decide +kernel) rfl, _, rfl, rfl⟩
theorem c4_231 : xMv RX4 231 4 1 mX4_comesTold := ⟨mdX4_comesTold, lw_at 933 (by decide +kernel) rfl, lw_at 935 (by decide +kernel) rfl, lw_at 67 (by decide +kernel) rfl, _, rfl, rfl⟩
theorem c4_234 : xMv RX4 234 4 2 mX4_limits := ⟨mdX4_limits, lw_at 937 (by decide +kernel) rfl, lw_at 939 (by decide +kernel) rfl, lw_at 68 (by decide +kernel) rfl, _, rfl, rfl⟩
theorem c4_243 : xMv RX4 243 4 0 mX4_turns := ⟨mdX4_turns, lw_at 941 (by decide +kernel) rfl, lw_at 943 (by decide +kernel) rfl, lw_at 69 (by decide +kernel) rfl, _, rfl, rfl⟩
theorem c5_117 : xMv RL 117 4 1 mX4_told := ⟨mdX4_told, lw_at 945 (by decide +kernel) rfl, lw_at 946 (by decide +kernel) rfl, lw_at 947 (by decide +kernel) rfl, _, rfl, rfl⟩
theorem c4_246 : xMv RX4 246 4 1 mX4_toldOf := ⟨mdX4_toldOf, lw_at 949 (by decide +kernel) rfl, lw_at 951 (by decide +kernel) rfl, lw_at 70 (by decide +kernel) rfl, _, rfl, rfl⟩
theorem c5_122 : xMv RL 122 4 0 mX4_digest := ⟨mdX4_digest, lw_at 953 (by decide +kernel) rfl, lw_at 954 (by decide +kernel) rfl, lw_at 955 (by decide +kernel) rfl, _, rfl, rfl⟩
theorem c4_257 : xMv RX4 257 4 1 mX4_mix := ⟨mdX4_mix, lw_at 958 (by decide +kernel) rfl, lw_at 960 (by decide +kernel) rfl, lw_at 71 (by decide +kernel) rfl, _, rfl, rfl⟩
end
