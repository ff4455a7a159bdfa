section
-- ===== PART A: goes FIRST, ahead of the names: the tables' words, and 'selects' of the private methods out of them =====
/-- a private method of a class that the tables say can be made, by its rows of tables_1 -/
def lw_okq (q : MethodName × Nat) : Prop := (q.1.cls ≠ "java/lang/invoke/MethodHandle" ∧ q.1.cls ≠ "java/lang/invoke/VarHandle") ∧ Cond.instantiable q.1.cls q.2 ∈ tables_1 ∧ Cond.privateMethod q.1 ∈ tables_1 ∧ Cond.instanceMethod q.1 ∈ tables_1
theorem lw_p0 : lw_okq (⟨"HuesApart", "whyNoColour", "(III)I"⟩, 6) := ⟨⟨by decide +kernel, by decide +kernel⟩, List.mem_of_getElem? (i := 10) (by decide +kernel), List.mem_of_getElem? (i := 136) (by decide +kernel), List.mem_of_getElem? (i := 137) (by decide +kernel)⟩
theorem lw_p1 : lw_okq (⟨"HuesApart", "refuse", "(I)I"⟩, 6) := ⟨⟨by decide +kernel, by decide +kernel⟩, List.mem_of_getElem? (i := 10) (by decide +kernel), List.mem_of_getElem? (i := 146) (by decide +kernel), List.mem_of_getElem? (i := 147) (by decide +kernel)⟩
theorem lw_p2 : lw_okq (⟨"HuesApart", "leaveState", "()V"⟩, 6) := ⟨⟨by decide +kernel, by decide +kernel⟩, List.mem_of_getElem? (i := 10) (by decide +kernel), List.mem_of_getElem? (i := 150) (by decide +kernel), List.mem_of_getElem? (i := 151) (by decide +kernel)⟩
theorem lw_p3 : lw_okq (⟨"HuesApart", "noteState", "()V"⟩, 6) := ⟨⟨by decide +kernel, by decide +kernel⟩, List.mem_of_getElem? (i := 10) (by decide +kernel), List.mem_of_getElem? (i := 154) (by decide +kernel), List.mem_of_getElem? (i := 155) (by decide +kernel)⟩
theorem lw_p4 : lw_okq (⟨"HuesApart", "keepNoted", "()V"⟩, 6) := ⟨⟨by decide +kernel, by decide +kernel⟩, List.mem_of_getElem? (i := 10) (by decide +kernel), List.mem_of_getElem? (i := 165) (by decide +kernel), List.mem_of_getElem? (i := 166) (by decide +kernel)⟩
theorem lw_p5 : lw_okq (⟨"HuesApart", "isColour", "(I)Z"⟩, 6) := ⟨⟨by decide +kernel, by decide +kernel⟩, List.mem_of_getElem? (i := 10) (by decide +kernel), List.mem_of_getElem? (i := 180) (by decide +kernel), List.mem_of_getElem? (i := 181) (by decide +kernel)⟩
theorem lw_p6 : lw_okq (⟨"HuesApart", "whyNoLimit", "(II)I"⟩, 6) := ⟨⟨by decide +kernel, by decide +kernel⟩, List.mem_of_getElem? (i := 10) (by decide +kernel), List.mem_of_getElem? (i := 203) (by decide +kernel), List.mem_of_getElem? (i := 204) (by decide +kernel)⟩
theorem lw_p7 : lw_okq (⟨"HuesApart", "whyNotFixed", "(II)I"⟩, 6) := ⟨⟨by decide +kernel, by decide +kernel⟩, List.mem_of_getElem? (i := 10) (by decide +kernel), List.mem_of_getElem? (i := 215) (by decide +kernel), List.mem_of_getElem? (i := 216) (by decide +kernel)⟩
theorem lw_p8 : lw_okq (⟨"HuesApart", "whyNoFilling", "(I)I"⟩, 6) := ⟨⟨by decide +kernel, by decide +kernel⟩, List.mem_of_getElem? (i := 10) (by decide +kernel), List.mem_of_getElem? (i := 305) (by decide +kernel), List.mem_of_getElem? (i := 306) (by decide +kernel)⟩
theorem lw_p9 : lw_okq (⟨"HuesApart$Chooser", "nextOne", "(LHuesApart$Scene;I)I"⟩, 2) := ⟨⟨by decide +kernel, by decide +kernel⟩, List.mem_of_getElem? (i := 99) (by decide +kernel), List.mem_of_getElem? (i := 333) (by decide +kernel), List.mem_of_getElem? (i := 334) (by decide +kernel)⟩
theorem lw_p10 : lw_okq (⟨"HuesApart$Chooser", "gapToRow", "(LHuesApart$Scene;I)F"⟩, 2) := ⟨⟨by decide +kernel, by decide +kernel⟩, List.mem_of_getElem? (i := 99) (by decide +kernel), List.mem_of_getElem? (i := 338) (by decide +kernel), List.mem_of_getElem? (i := 339) (by decide +kernel)⟩
theorem lw_p11 : lw_okq (⟨"HuesApart$Chooser", "gap", "(II)F"⟩, 2) := ⟨⟨by decide +kernel, by decide +kernel⟩, List.mem_of_getElem? (i := 99) (by decide +kernel), List.mem_of_getElem? (i := 342) (by decide +kernel), List.mem_of_getElem? (i := 343) (by decide +kernel)⟩
theorem lw_p12 : lw_okq (⟨"HuesApart$Chooser", "swapOne", "(LHuesApart$Scene;I)Z"⟩, 2) := ⟨⟨by decide +kernel, by decide +kernel⟩, List.mem_of_getElem? (i := 99) (by decide +kernel), List.mem_of_getElem? (i := 354) (by decide +kernel), List.mem_of_getElem? (i := 355) (by decide +kernel)⟩
theorem lw_p13 : lw_okq (⟨"HuesApart$Chooser", "listMembers", "(I)I"⟩, 2) := ⟨⟨by decide +kernel, by decide +kernel⟩, List.mem_of_getElem? (i := 99) (by decide +kernel), List.mem_of_getElem? (i := 388) (by decide +kernel), List.mem_of_getElem? (i := 389) (by decide +kernel)⟩
theorem lw_p14 : lw_okq (⟨"HuesApart$Script", "skipBlanks", "()V"⟩, 7) := ⟨⟨by decide +kernel, by decide +kernel⟩, List.mem_of_getElem? (i := 66) (by decide +kernel), List.mem_of_getElem? (i := 433) (by decide +kernel), List.mem_of_getElem? (i := 434) (by decide +kernel)⟩
theorem lw_p15 : lw_okq (⟨"HuesApart$Script", "byteHere", "()I"⟩, 7) := ⟨⟨by decide +kernel, by decide +kernel⟩, List.mem_of_getElem? (i := 66) (by decide +kernel), List.mem_of_getElem? (i := 437) (by decide +kernel), List.mem_of_getElem? (i := 438) (by decide +kernel)⟩
def lw_privs_1 : List (MethodName × Nat) := [(⟨"HuesApart", "whyNoColour", "(III)I"⟩, 6), (⟨"HuesApart", "refuse", "(I)I"⟩, 6), (⟨"HuesApart", "leaveState", "()V"⟩, 6), (⟨"HuesApart", "noteState", "()V"⟩, 6), (⟨"HuesApart", "keepNoted", "()V"⟩, 6), (⟨"HuesApart", "isColour", "(I)Z"⟩, 6), (⟨"HuesApart", "whyNoLimit", "(II)I"⟩, 6), (⟨"HuesApart", "whyNotFixed", "(II)I"⟩, 6), (⟨"HuesApart", "whyNoFilling", "(I)I"⟩, 6), (⟨"HuesApart$Chooser", "nextOne", "(LHuesApart$Scene;I)I"⟩, 2), (⟨"HuesApart$Chooser", "gapToRow", "(LHuesApart$Scene;I)F"⟩, 2), (⟨"HuesApart$Chooser", "gap", "(II)F"⟩, 2), (⟨"HuesApart$Chooser", "swapOne", "(LHuesApart$Scene;I)Z"⟩, 2), (⟨"HuesApart$Chooser", "listMembers", "(I)I"⟩, 2), (⟨"HuesApart$Script", "skipBlanks", "()V"⟩, 7), (⟨"HuesApart$Script", "byteHere", "()I"⟩, 7)]
theorem lw_r1 : ∀ q ∈ lw_privs_1, lw_okq q := List.forall_mem_cons.mpr ⟨lw_p0, List.forall_mem_cons.mpr ⟨lw_p1, List.forall_mem_cons.mpr ⟨lw_p2, List.forall_mem_cons.mpr ⟨lw_p3, List.forall_mem_cons.mpr ⟨lw_p4, List.forall_mem_cons.mpr ⟨lw_p5, List.forall_mem_cons.mpr ⟨lw_p6, List.forall_mem_cons.mpr ⟨lw_p7, List.forall_mem_cons.mpr ⟨lw_p8, List.forall_mem_cons.mpr ⟨lw_p9, List.forall_mem_cons.mpr ⟨lw_p10, List.forall_mem_cons.mpr ⟨lw_p11, List.forall_mem_cons.mpr ⟨lw_p12, List.forall_mem_cons.mpr ⟨lw_p13, List.forall_mem_cons.mpr ⟨lw_p14, List.forall_mem_cons.mpr ⟨lw_p15, fun _ h => absurd h List.not_mem_nil⟩⟩⟩⟩⟩⟩⟩⟩⟩⟩⟩⟩⟩⟩⟩⟩
theorem lw_p16 : lw_okq (⟨"HuesApart$Script", "readOrder", "()Z"⟩, 7) := ⟨⟨by decide +kernel, by decide +kernel⟩, List.mem_of_getElem? (i := 66) (by decide +kernel), List.mem_of_getElem? (i := 441) (by decide +kernel), List.mem_of_getElem? (i := 442) (by decide +kernel)⟩
theorem lw_p17 : lw_okq (⟨"HuesApart$Script", "readSixFigures", "()Z"⟩, 7) := ⟨⟨by decide +kernel, by decide +kernel⟩, List.mem_of_getElem? (i := 66) (by decide +kernel), List.mem_of_getElem? (i := 445) (by decide +kernel), List.mem_of_getElem? (i := 446) (by decide +kernel)⟩
theorem lw_p18 : lw_okq (⟨"HuesApart$Script", "readEnd", "()Z"⟩, 7) := ⟨⟨by decide +kernel, by decide +kernel⟩, List.mem_of_getElem? (i := 66) (by decide +kernel), List.mem_of_getElem? (i := 455) (by decide +kernel), List.mem_of_getElem? (i := 456) (by decide +kernel)⟩
theorem lw_p19 : lw_okq (⟨"HuesApart$Script", "readNumber", "([I)Z"⟩, 7) := ⟨⟨by decide +kernel, by decide +kernel⟩, List.mem_of_getElem? (i := 66) (by decide +kernel), List.mem_of_getElem? (i := 459) (by decide +kernel), List.mem_of_getElem? (i := 460) (by decide +kernel)⟩
theorem lw_p20 : lw_okq (⟨"HuesApart", "whyNoOrder", "(III)I"⟩, 6) := ⟨⟨by decide +kernel, by decide +kernel⟩, List.mem_of_getElem? (i := 10) (by decide +kernel), List.mem_of_getElem? (i := 463) (by decide +kernel), List.mem_of_getElem? (i := 464) (by decide +kernel)⟩
theorem lw_p21 : lw_okq (⟨"HuesApart", "obey", "(III)V"⟩, 6) := ⟨⟨by decide +kernel, by decide +kernel⟩, List.mem_of_getElem? (i := 10) (by decide +kernel), List.mem_of_getElem? (i := 476) (by decide +kernel), List.mem_of_getElem? (i := 477) (by decide +kernel)⟩
theorem lw_p22 : lw_okq (⟨"HuesApartModel", "no", "()I"⟩, 16) := ⟨⟨by decide +kernel, by decide +kernel⟩, List.mem_of_getElem? (i := 500) (by decide +kernel), List.mem_of_getElem? (i := 559) (by decide +kernel), List.mem_of_getElem? (i := 560) (by decide +kernel)⟩
theorem lw_p23 : lw_okq (⟨"HuesApartModel", "bad", "()I"⟩, 16) := ⟨⟨by decide +kernel, by decide +kernel⟩, List.mem_of_getElem? (i := 500) (by decide +kernel), List.mem_of_getElem? (i := 576) (by decide +kernel), List.mem_of_getElem? (i := 577) (by decide +kernel)⟩
theorem lw_p24 : lw_okq (⟨"HuesApartModel", "full", "()I"⟩, 16) := ⟨⟨by decide +kernel, by decide +kernel⟩, List.mem_of_getElem? (i := 500) (by decide +kernel), List.mem_of_getElem? (i := 580) (by decide +kernel), List.mem_of_getElem? (i := 581) (by decide +kernel)⟩
theorem lw_p25 : lw_okq (⟨"HuesApartModel", "remembers", "()V"⟩, 16) := ⟨⟨by decide +kernel, by decide +kernel⟩, List.mem_of_getElem? (i := 500) (by decide +kernel), List.mem_of_getElem? (i := 584) (by decide +kernel), List.mem_of_getElem? (i := 585) (by decide +kernel)⟩
theorem lw_p26 : lw_okq (⟨"HuesApartModel", "comes", "(III)I"⟩, 16) := ⟨⟨by decide +kernel, by decide +kernel⟩, List.mem_of_getElem? (i := 500) (by decide +kernel), List.mem_of_getElem? (i := 588) (by decide +kernel), List.mem_of_getElem? (i := 589) (by decide +kernel)⟩
theorem lw_p27 : lw_okq (⟨"HuesApartModel", "colourAt", "(I)I"⟩, 16) := ⟨⟨by decide +kernel, by decide +kernel⟩, List.mem_of_getElem? (i := 500) (by decide +kernel), List.mem_of_getElem? (i := 592) (by decide +kernel), List.mem_of_getElem? (i := 593) (by decide +kernel)⟩
theorem lw_p28 : lw_okq (⟨"HuesApartModel", "becomes", "(IIII)I"⟩, 16) := ⟨⟨by decide +kernel, by decide +kernel⟩, List.mem_of_getElem? (i := 500) (by decide +kernel), List.mem_of_getElem? (i := 596) (by decide +kernel), List.mem_of_getElem? (i := 597) (by decide +kernel)⟩
theorem lw_p29 : lw_okq (⟨"HuesApartModel", "isColour", "(I)Z"⟩, 16) := ⟨⟨by decide +kernel, by decide +kernel⟩, List.mem_of_getElem? (i := 500) (by decide +kernel), List.mem_of_getElem? (i := 604) (by decide +kernel), List.mem_of_getElem? (i := 605) (by decide +kernel)⟩
theorem lw_p30 : lw_okq (⟨"HuesApartModel", "exchanges", "(II)I"⟩, 16) := ⟨⟨by decide +kernel, by decide +kernel⟩, List.mem_of_getElem? (i := 500) (by decide +kernel), List.mem_of_getElem? (i := 622) (by decide +kernel), List.mem_of_getElem? (i := 623) (by decide +kernel)⟩
theorem lw_p31 : lw_okq (⟨"HuesApartModel", "fixesOne", "(II)I"⟩, 16) := ⟨⟨by decide +kernel, by decide +kernel⟩, List.mem_of_getElem? (i := 500) (by decide +kernel), List.mem_of_getElem? (i := 634) (by decide +kernel), List.mem_of_getElem? (i := 635) (by decide +kernel)⟩
def lw_privs_2 : List (MethodName × Nat) := [(⟨"HuesApart$Script", "readOrder", "()Z"⟩, 7), (⟨"HuesApart$Script", "readSixFigures", "()Z"⟩, 7), (⟨"HuesApart$Script", "readEnd", "()Z"⟩, 7), (⟨"HuesApart$Script", "readNumber", "([I)Z"⟩, 7), (⟨"HuesApart", "whyNoOrder", "(III)I"⟩, 6), (⟨"HuesApart", "obey", "(III)V"⟩, 6), (⟨"HuesApartModel", "no", "()I"⟩, 16), (⟨"HuesApartModel", "bad", "()I"⟩, 16), (⟨"HuesApartModel", "full", "()I"⟩, 16), (⟨"HuesApartModel", "remembers", "()V"⟩, 16), (⟨"HuesApartModel", "comes", "(III)I"⟩, 16), (⟨"HuesApartModel", "colourAt", "(I)I"⟩, 16), (⟨"HuesApartModel", "becomes", "(IIII)I"⟩, 16), (⟨"HuesApartModel", "isColour", "(I)Z"⟩, 16), (⟨"HuesApartModel", "exchanges", "(II)I"⟩, 16), (⟨"HuesApartModel", "fixesOne", "(II)I"⟩, 16)]
theorem lw_r2 : ∀ q ∈ lw_privs_2, lw_okq q := List.forall_mem_cons.mpr ⟨lw_p16, List.forall_mem_cons.mpr ⟨lw_p17, List.forall_mem_cons.mpr ⟨lw_p18, List.forall_mem_cons.mpr ⟨lw_p19, List.forall_mem_cons.mpr ⟨lw_p20, List.forall_mem_cons.mpr ⟨lw_p21, List.forall_mem_cons.mpr ⟨lw_p22, List.forall_mem_cons.mpr ⟨lw_p23, List.forall_mem_cons.mpr ⟨lw_p24, List.forall_mem_cons.mpr ⟨lw_p25, List.forall_mem_cons.mpr ⟨lw_p26, List.forall_mem_cons.mpr ⟨lw_p27, List.forall_mem_cons.mpr ⟨lw_p28, List.forall_mem_cons.mpr ⟨lw_p29, List.forall_mem_cons.mpr ⟨lw_p30, List.forall_mem_cons.mpr ⟨lw_p31, fun _ h => absurd h List.not_mem_nil⟩⟩⟩⟩⟩⟩⟩⟩⟩⟩⟩⟩⟩⟩⟩⟩
theorem lw_p32 : lw_okq (⟨"HuesApartModel", "ofColour", "(II)I"⟩, 16) := ⟨⟨by decide +kernel, by decide +kernel⟩, List.mem_of_getElem? (i := 500) (by decide +kernel), List.mem_of_getElem? (i := 645) (by decide +kernel), List.mem_of_getElem? (i := 646) (by decide +kernel)⟩
theorem lw_p33 : lw_okq (⟨"HuesApartModel", "isFitting", "(I)Z"⟩, 16) := ⟨⟨by decide +kernel, by decide +kernel⟩, List.mem_of_getElem? (i := 500) (by decide +kernel), List.mem_of_getElem? (i := 649) (by decide +kernel), List.mem_of_getElem? (i := 650) (by decide +kernel)⟩
theorem lw_p34 : lw_okq (⟨"HuesApartModel", "shineAt", "(I)F"⟩, 16) := ⟨⟨by decide +kernel, by decide +kernel⟩, List.mem_of_getElem? (i := 500) (by decide +kernel), List.mem_of_getElem? (i := 653) (by decide +kernel), List.mem_of_getElem? (i := 654) (by decide +kernel)⟩
theorem lw_p35 : lw_okq (⟨"HuesApartModel", "placeOf", "(I)I"⟩, 16) := ⟨⟨by decide +kernel, by decide +kernel⟩, List.mem_of_getElem? (i := 500) (by decide +kernel), List.mem_of_getElem? (i := 660) (by decide +kernel), List.mem_of_getElem? (i := 661) (by decide +kernel)⟩
theorem lw_p36 : lw_okq (⟨"HuesApartModel", "sight", "(III)F"⟩, 16) := ⟨⟨by decide +kernel, by decide +kernel⟩, List.mem_of_getElem? (i := 500) (by decide +kernel), List.mem_of_getElem? (i := 682) (by decide +kernel), List.mem_of_getElem? (i := 683) (by decide +kernel)⟩
theorem lw_p37 : lw_okq (⟨"HuesApartModel", "farFor", "(III)F"⟩, 16) := ⟨⟨by decide +kernel, by decide +kernel⟩, List.mem_of_getElem? (i := 500) (by decide +kernel), List.mem_of_getElem? (i := 691) (by decide +kernel), List.mem_of_getElem? (i := 692) (by decide +kernel)⟩
theorem lw_p38 : lw_okq (⟨"HuesApartModel", "apartOf", "(II)F"⟩, 16) := ⟨⟨by decide +kernel, by decide +kernel⟩, List.mem_of_getElem? (i := 500) (by decide +kernel), List.mem_of_getElem? (i := 699) (by decide +kernel), List.mem_of_getElem? (i := 700) (by decide +kernel)⟩
theorem lw_p39 : lw_okq (⟨"HuesApartModel", "canFill", "(I)Z"⟩, 16) := ⟨⟨by decide +kernel, by decide +kernel⟩, List.mem_of_getElem? (i := 500) (by decide +kernel), List.mem_of_getElem? (i := 707) (by decide +kernel), List.mem_of_getElem? (i := 708) (by decide +kernel)⟩
theorem lw_p40 : lw_okq (⟨"HuesApartModel", "fillsFor", "(I)I"⟩, 16) := ⟨⟨by decide +kernel, by decide +kernel⟩, List.mem_of_getElem? (i := 500) (by decide +kernel), List.mem_of_getElem? (i := 711) (by decide +kernel), List.mem_of_getElem? (i := 712) (by decide +kernel)⟩
theorem lw_p41 : lw_okq (⟨"HuesApartModel", "laysFar", "()V"⟩, 16) := ⟨⟨by decide +kernel, by decide +kernel⟩, List.mem_of_getElem? (i := 500) (by decide +kernel), List.mem_of_getElem? (i := 715) (by decide +kernel), List.mem_of_getElem? (i := 716) (by decide +kernel)⟩
theorem lw_p42 : lw_okq (⟨"HuesApartModel", "putsLast", "(I)V"⟩, 16) := ⟨⟨by decide +kernel, by decide +kernel⟩, List.mem_of_getElem? (i := 500) (by decide +kernel), List.mem_of_getElem? (i := 722) (by decide +kernel), List.mem_of_getElem? (i := 723) (by decide +kernel)⟩
theorem lw_p43 : lw_okq (⟨"HuesApartModel", "lightest", "()I"⟩, 16) := ⟨⟨by decide +kernel, by decide +kernel⟩, List.mem_of_getElem? (i := 500) (by decide +kernel), List.mem_of_getElem? (i := 726) (by decide +kernel), List.mem_of_getElem? (i := 727) (by decide +kernel)⟩
theorem lw_p44 : lw_okq (⟨"HuesApartModel", "farthest", "()I"⟩, 16) := ⟨⟨by decide +kernel, by decide +kernel⟩, List.mem_of_getElem? (i := 500) (by decide +kernel), List.mem_of_getElem? (i := 730) (by decide +kernel), List.mem_of_getElem? (i := 731) (by decide +kernel)⟩
theorem lw_p45 : lw_okq (⟨"HuesApartModel", "nearestIn", "(I)F"⟩, 16) := ⟨⟨by decide +kernel, by decide +kernel⟩, List.mem_of_getElem? (i := 500) (by decide +kernel), List.mem_of_getElem? (i := 734) (by decide +kernel), List.mem_of_getElem? (i := 735) (by decide +kernel)⟩
theorem lw_p46 : lw_okq (⟨"HuesApartModel", "swapsAll", "()I"⟩, 16) := ⟨⟨by decide +kernel, by decide +kernel⟩, List.mem_of_getElem? (i := 500) (by decide +kernel), List.mem_of_getElem? (i := 742) (by decide +kernel), List.mem_of_getElem? (i := 743) (by decide +kernel)⟩
theorem lw_p47 : lw_okq (⟨"HuesApartModel", "isSwapped", "()Z"⟩, 16) := ⟨⟨by decide +kernel, by decide +kernel⟩, List.mem_of_getElem? (i := 500) (by decide +kernel), List.mem_of_getElem? (i := 746) (by decide +kernel), List.mem_of_getElem? (i := 747) (by decide +kernel)⟩
def lw_privs_3 : List (MethodName × Nat) := [(⟨"HuesApartModel", "ofColour", "(II)I"⟩, 16), (⟨"HuesApartModel", "isFitting", "(I)Z"⟩, 16), (⟨"HuesApartModel", "shineAt", "(I)F"⟩, 16), (⟨"HuesApartModel", "placeOf", "(I)I"⟩, 16), (⟨"HuesApartModel", "sight", "(III)F"⟩, 16), (⟨"HuesApartModel", "farFor", "(III)F"⟩, 16), (⟨"HuesApartModel", "apartOf", "(II)F"⟩, 16), (⟨"HuesApartModel", "canFill", "(I)Z"⟩, 16), (⟨"HuesApartModel", "fillsFor", "(I)I"⟩, 16), (⟨"HuesApartModel", "laysFar", "()V"⟩, 16), (⟨"HuesApartModel", "putsLast", "(I)V"⟩, 16), (⟨"HuesApartModel", "lightest", "()I"⟩, 16), (⟨"HuesApartModel", "farthest", "()I"⟩, 16), (⟨"HuesApartModel", "nearestIn", "(I)F"⟩, 16), (⟨"HuesApartModel", "swapsAll", "()I"⟩, 16), (⟨"HuesApartModel", "isSwapped", "()Z"⟩, 16)]
theorem lw_r3 : ∀ q ∈ lw_privs_3, lw_okq q := List.forall_mem_cons.mpr ⟨lw_p32, List.forall_mem_cons.mpr ⟨lw_p33, List.forall_mem_cons.mpr ⟨lw_p34, List.forall_mem_cons.mpr ⟨lw_p35, List.forall_mem_cons.mpr ⟨lw_p36, List.forall_mem_cons.mpr ⟨lw_p37, List.forall_mem_cons.mpr ⟨lw_p38, List.forall_mem_cons.mpr ⟨lw_p39, List.forall_mem_cons.mpr ⟨lw_p40, List.forall_mem_cons.mpr ⟨lw_p41, List.forall_mem_cons.mpr ⟨lw_p42, List.forall_mem_cons.mpr ⟨lw_p43, List.forall_mem_cons.mpr ⟨lw_p44, List.forall_mem_cons.mpr ⟨lw_p45, List.forall_mem_cons.mpr ⟨lw_p46, List.forall_mem_cons.mpr ⟨lw_p47, fun _ h => absurd h List.not_mem_nil⟩⟩⟩⟩⟩⟩⟩⟩⟩⟩⟩⟩⟩⟩⟩⟩
theorem lw_p48 : lw_okq (⟨"HuesApartModel", "takesPalette", "()V"⟩, 16) := ⟨⟨by decide +kernel, by decide +kernel⟩, List.mem_of_getElem? (i := 500) (by decide +kernel), List.mem_of_getElem? (i := 750) (by decide +kernel), List.mem_of_getElem? (i := 751) (by decide +kernel)⟩
theorem lw_p49 : lw_okq (⟨"HuesApartModel", "leastOf", "(I)F"⟩, 16) := ⟨⟨by decide +kernel, by decide +kernel⟩, List.mem_of_getElem? (i := 500) (by decide +kernel), List.mem_of_getElem? (i := 754) (by decide +kernel), List.mem_of_getElem? (i := 755) (by decide +kernel)⟩
theorem lw_p50 : lw_okq (⟨"HuesApartModel", "leastNow", "()I"⟩, 16) := ⟨⟨by decide +kernel, by decide +kernel⟩, List.mem_of_getElem? (i := 500) (by decide +kernel), List.mem_of_getElem? (i := 766) (by decide +kernel), List.mem_of_getElem? (i := 767) (by decide +kernel)⟩
theorem lw_p51 : lw_okq (⟨"HuesApartModel", "nearestNow", "()I"⟩, 16) := ⟨⟨by decide +kernel, by decide +kernel⟩, List.mem_of_getElem? (i := 500) (by decide +kernel), List.mem_of_getElem? (i := 774) (by decide +kernel), List.mem_of_getElem? (i := 775) (by decide +kernel)⟩
theorem lw_p52 : lw_okq (⟨"HuesApartModel", "bestOf", "(I)I"⟩, 16) := ⟨⟨by decide +kernel, by decide +kernel⟩, List.mem_of_getElem? (i := 500) (by decide +kernel), List.mem_of_getElem? (i := 782) (by decide +kernel), List.mem_of_getElem? (i := 783) (by decide +kernel)⟩
theorem lw_p53 : lw_okq (⟨"HuesApartModel", "setOf", "(I)I"⟩, 16) := ⟨⟨by decide +kernel, by decide +kernel⟩, List.mem_of_getElem? (i := 500) (by decide +kernel), List.mem_of_getElem? (i := 786) (by decide +kernel), List.mem_of_getElem? (i := 787) (by decide +kernel)⟩
theorem lw_p54 : lw_okq (⟨"HuesApartModel", "isNext", "(I)Z"⟩, 16) := ⟨⟨by decide +kernel, by decide +kernel⟩, List.mem_of_getElem? (i := 500) (by decide +kernel), List.mem_of_getElem? (i := 790) (by decide +kernel), List.mem_of_getElem? (i := 791) (by decide +kernel)⟩
theorem lw_p55 : lw_okq (⟨"HuesApartModel", "countOf", "(I)I"⟩, 16) := ⟨⟨by decide +kernel, by decide +kernel⟩, List.mem_of_getElem? (i := 500) (by decide +kernel), List.mem_of_getElem? (i := 802) (by decide +kernel), List.mem_of_getElem? (i := 803) (by decide +kernel)⟩
theorem lw_p56 : lw_okq (⟨"HuesApartModel", "fittingMany", "()I"⟩, 16) := ⟨⟨by decide +kernel, by decide +kernel⟩, List.mem_of_getElem? (i := 500) (by decide +kernel), List.mem_of_getElem? (i := 806) (by decide +kernel), List.mem_of_getElem? (i := 807) (by decide +kernel)⟩
theorem lw_p57 : lw_okq (⟨"HuesApartModel", "countsSet", "()I"⟩, 16) := ⟨⟨by decide +kernel, by decide +kernel⟩, List.mem_of_getElem? (i := 500) (by decide +kernel), List.mem_of_getElem? (i := 810) (by decide +kernel), List.mem_of_getElem? (i := 811) (by decide +kernel)⟩
theorem lw_p58 : lw_okq (⟨"HuesApartModel", "isRead", "()Z"⟩, 16) := ⟨⟨by decide +kernel, by decide +kernel⟩, List.mem_of_getElem? (i := 500) (by decide +kernel), List.mem_of_getElem? (i := 826) (by decide +kernel), List.mem_of_getElem? (i := 827) (by decide +kernel)⟩
theorem lw_p59 : lw_okq (⟨"HuesApartModel", "blanks", "()V"⟩, 16) := ⟨⟨by decide +kernel, by decide +kernel⟩, List.mem_of_getElem? (i := 500) (by decide +kernel), List.mem_of_getElem? (i := 830) (by decide +kernel), List.mem_of_getElem? (i := 831) (by decide +kernel)⟩
theorem lw_p60 : lw_okq (⟨"HuesApartModel", "isAt", "(II)Z"⟩, 16) := ⟨⟨by decide +kernel, by decide +kernel⟩, List.mem_of_getElem? (i := 500) (by decide +kernel), List.mem_of_getElem? (i := 834) (by decide +kernel), List.mem_of_getElem? (i := 835) (by decide +kernel)⟩
theorem lw_p61 : lw_okq (⟨"HuesApartModel", "takesOrder", "()Z"⟩, 16) := ⟨⟨by decide +kernel, by decide +kernel⟩, List.mem_of_getElem? (i := 500) (by decide +kernel), List.mem_of_getElem? (i := 838) (by decide +kernel), List.mem_of_getElem? (i := 839) (by decide +kernel)⟩
theorem lw_p62 : lw_okq (⟨"HuesApartModel", "fails", "(I)Z"⟩, 16) := ⟨⟨by decide +kernel, by decide +kernel⟩, List.mem_of_getElem? (i := 500) (by decide +kernel), List.mem_of_getElem? (i := 842) (by decide +kernel), List.mem_of_getElem? (i := 843) (by decide +kernel)⟩
theorem lw_p63 : lw_okq (⟨"HuesApartModel", "takesNumbers", "(I)Z"⟩, 16) := ⟨⟨by decide +kernel, by decide +kernel⟩, List.mem_of_getElem? (i := 500) (by decide +kernel), List.mem_of_getElem? (i := 846) (by decide +kernel), List.mem_of_getElem? (i := 847) (by decide +kernel)⟩
def lw_privs_4 : List (MethodName × Nat) := [(⟨"HuesApartModel", "takesPalette", "()V"⟩, 16), (⟨"HuesApartModel", "leastOf", "(I)F"⟩, 16), (⟨"HuesApartModel", "leastNow", "()I"⟩, 16), (⟨"HuesApartModel", "nearestNow", "()I"⟩, 16), (⟨"HuesApartModel", "bestOf", "(I)I"⟩, 16), (⟨"HuesApartModel", "setOf", "(I)I"⟩, 16), (⟨"HuesApartModel", "isNext", "(I)Z"⟩, 16), (⟨"HuesApartModel", "countOf", "(I)I"⟩, 16), (⟨"HuesApartModel", "fittingMany", "()I"⟩, 16), (⟨"HuesApartModel", "countsSet", "()I"⟩, 16), (⟨"HuesApartModel", "isRead", "()Z"⟩, 16), (⟨"HuesApartModel", "blanks", "()V"⟩, 16), (⟨"HuesApartModel", "isAt", "(II)Z"⟩, 16), (⟨"HuesApartModel", "takesOrder", "()Z"⟩, 16), (⟨"HuesApartModel", "fails", "(I)Z"⟩, 16), (⟨"HuesApartModel", "takesNumbers", "(I)Z"⟩, 16)]
theorem lw_r4 : ∀ q ∈ lw_privs_4, lw_okq q := List.forall_mem_cons.mpr ⟨lw_p48, List.forall_mem_cons.mpr ⟨lw_p49, List.forall_mem_cons.mpr ⟨lw_p50, List.forall_mem_cons.mpr ⟨lw_p51, List.forall_mem_cons.mpr ⟨lw_p52, List.forall_mem_cons.mpr ⟨lw_p53, List.forall_mem_cons.mpr ⟨lw_p54, List.forall_mem_cons.mpr ⟨lw_p55, List.forall_mem_cons.mpr ⟨lw_p56, List.forall_mem_cons.mpr ⟨lw_p57, List.forall_mem_cons.mpr ⟨lw_p58, List.forall_mem_cons.mpr ⟨lw_p59, List.forall_mem_cons.mpr ⟨lw_p60, List.forall_mem_cons.mpr ⟨lw_p61, List.forall_mem_cons.mpr ⟨lw_p62, List.forall_mem_cons.mpr ⟨lw_p63, fun _ h => absurd h List.not_mem_nil⟩⟩⟩⟩⟩⟩⟩⟩⟩⟩⟩⟩⟩⟩⟩⟩
theorem lw_p64 : lw_okq (⟨"HuesApartModel", "takesSix", "(I)Z"⟩, 16) := ⟨⟨by decide +kernel, by decide +kernel⟩, List.mem_of_getElem? (i := 500) (by decide +kernel), List.mem_of_getElem? (i := 850) (by decide +kernel), List.mem_of_getElem? (i := 851) (by decide +kernel)⟩
theorem lw_p65 : lw_okq (⟨"HuesApartModel", "takesNumber", "(I)Z"⟩, 16) := ⟨⟨by decide +kernel, by decide +kernel⟩, List.mem_of_getElem? (i := 500) (by decide +kernel), List.mem_of_getElem? (i := 854) (by decide +kernel), List.mem_of_getElem? (i := 855) (by decide +kernel)⟩
theorem lw_p66 : lw_okq (⟨"HuesApartModel", "obeys", "(I)Z"⟩, 16) := ⟨⟨by decide +kernel, by decide +kernel⟩, List.mem_of_getElem? (i := 500) (by decide +kernel), List.mem_of_getElem? (i := 858) (by decide +kernel), List.mem_of_getElem? (i := 859) (by decide +kernel)⟩
theorem lw_p67 : lw_okq (⟨"HuesApartModel", "comesTold", "(I)Z"⟩, 16) := ⟨⟨by decide +kernel, by decide +kernel⟩, List.mem_of_getElem? (i := 500) (by decide +kernel), List.mem_of_getElem? (i := 862) (by decide +kernel), List.mem_of_getElem? (i := 863) (by decide +kernel)⟩
theorem lw_p68 : lw_okq (⟨"HuesApartModel", "limits", "(II)Z"⟩, 16) := ⟨⟨by decide +kernel, by decide +kernel⟩, List.mem_of_getElem? (i := 500) (by decide +kernel), List.mem_of_getElem? (i := 866) (by decide +kernel), List.mem_of_getElem? (i := 867) (by decide +kernel)⟩
theorem lw_p69 : lw_okq (⟨"HuesApartModel", "turns", "()V"⟩, 16) := ⟨⟨by decide +kernel, by decide +kernel⟩, List.mem_of_getElem? (i := 500) (by decide +kernel), List.mem_of_getElem? (i := 870) (by decide +kernel), List.mem_of_getElem? (i := 871) (by decide +kernel)⟩
theorem lw_p70 : lw_okq (⟨"HuesApartModel", "toldOf", "(I)I"⟩, 16) := ⟨⟨by decide +kernel, by decide +kernel⟩, List.mem_of_getElem? (i := 500) (by decide +kernel), List.mem_of_getElem? (i := 878) (by decide +kernel), List.mem_of_getElem? (i := 879) (by decide +kernel)⟩
theorem lw_p71 : lw_okq (⟨"HuesApartModel", "mix", "(J)V"⟩, 16) := ⟨⟨by decide +kernel, by decide +kernel⟩, List.mem_of_getElem? (i := 500) (by decide +kernel), List.mem_of_getElem? (i := 887) (by decide +kernel), List.mem_of_getElem? (i := 888) (by decide +kernel)⟩
def lw_privs_5 : List (MethodName × Nat) := [(⟨"HuesApartModel", "takesSix", "(I)Z"⟩, 16), (⟨"HuesApartModel", "takesNumber", "(I)Z"⟩, 16), (⟨"HuesApartModel", "obeys", "(I)Z"⟩, 16), (⟨"HuesApartModel", "comesTold", "(I)Z"⟩, 16), (⟨"HuesApartModel", "limits", "(II)Z"⟩, 16), (⟨"HuesApartModel", "turns", "()V"⟩, 16), (⟨"HuesApartModel", "toldOf", "(I)I"⟩, 16), (⟨"HuesApartModel", "mix", "(J)V"⟩, 16)]
theorem lw_r5 : ∀ q ∈ lw_privs_5, lw_okq q := List.forall_mem_cons.mpr ⟨lw_p64, List.forall_mem_cons.mpr ⟨lw_p65, List.forall_mem_cons.mpr ⟨lw_p66, List.forall_mem_cons.mpr ⟨lw_p67, List.forall_mem_cons.mpr ⟨lw_p68, List.forall_mem_cons.mpr ⟨lw_p69, List.forall_mem_cons.mpr ⟨lw_p70, List.forall_mem_cons.mpr ⟨lw_p71, fun _ h => absurd h List.not_mem_nil⟩⟩⟩⟩⟩⟩⟩⟩
def lw_privs : List (MethodName × Nat) := lw_privs_1 ++ (lw_privs_2 ++ (lw_privs_3 ++ (lw_privs_4 ++ (lw_privs_5))))
def lw_tbl : List Cond := k2_sels lw_privs ++ tables_1
theorem lw_privs_ok : ∀ q ∈ lw_privs, lw_okq q := by
  show ∀ q ∈ lw_privs_1 ++ (lw_privs_2 ++ (lw_privs_3 ++ (lw_privs_4 ++ (lw_privs_5)))), lw_okq q
  exact List.forall_mem_append.mpr ⟨lw_r1, List.forall_mem_append.mpr ⟨lw_r2, List.forall_mem_append.mpr ⟨lw_r3, List.forall_mem_append.mpr ⟨lw_r4, lw_r5⟩⟩⟩⟩
/-- the streams that the claim lets the run draw from -/
abbrev lw_cs : List Choice := [Jvm.Choice.named "NaN.bits"]
theorem lw_bits : nanBits ∈ lw_cs := by first | decide | exact List.mem_cons_self | simp [lw_cs, nanBits]
-- ===== end of PART A
end
section
def RX0 : String := "HuesApart$Chooser"
def TX0 : u_T := fun k => match k with
  | 0 => ("HuesApart$Chooser", "gaps", "[F", true)
  | _ => ("HuesApart$Chooser", "members", "[I", true)
def tyX0 : Nat → FieldType := fun k => match k with
  | 0 => .array .float
  | _ => .array .int
abbrev wsX00 : List Cond := u_ws RX0 TX0 2
theorem nmX0 : ∀ a, a < 2 → ∀ b, b < 2 → a ≠ b → (TX0 a).2.1 ≠ (TX0 b).2.1 := by decide +kernel
theorem tyX0_ok : ∀ k, k < 2 → parseFieldDescriptor (TX0 k).2.2.1 = some (tyX0 k) := by decide +kernel
abbrev cX0_init : ByteArray := prog_2_method_1_code
def yX0_init : MethodName := ⟨RX0, "<init>", "()V"⟩
abbrev cX0_measure : ByteArray := prog_2_method_2_code
def yX0_measure : MethodName := ⟨RX0, "measure", "(LHuesApart$Scene;)V"⟩
abbrev cX0_gap : ByteArray := prog_2_method_3_code
def yX0_gap : MethodName := ⟨RX0, "gap", "(II)F"⟩
abbrev cX0_leastOf : ByteArray := prog_2_method_4_code
def yX0_leastOf : MethodName := ⟨RX0, "leastOf", "([II)F"⟩
abbrev cX0_nearestPlaces : ByteArray := prog_2_method_5_code
def yX0_nearestPlaces : MethodName := ⟨RX0, "nearestPlaces", "(LHuesApart$Scene;)I"⟩
abbrev cX0_fill : ByteArray := prog_2_method_6_code
def yX0_fill : MethodName := ⟨RX0, "fill", "(LHuesApart$Scene;I)V"⟩
abbrev cX0_nextOne : ByteArray := prog_2_method_7_code
def yX0_nextOne : MethodName := ⟨RX0, "nextOne", "(LHuesApart$Scene;I)I"⟩
abbrev cX0_gapToRow : ByteArray := prog_2_method_8_code
def yX0_gapToRow : MethodName := ⟨RX0, "gapToRow", "(LHuesApart$Scene;I)F"⟩
abbrev cX0_swapAll : ByteArray := prog_2_method_9_code
def yX0_swapAll : MethodName := ⟨RX0, "swapAll", "(LHuesApart$Scene;)I"⟩
abbrev cX0_swapOne : ByteArray := prog_2_method_10_code
def yX0_swapOne : MethodName := ⟨RX0, "swapOne", "(LHuesApart$Scene;I)Z"⟩
abbrev cX0_bestSet : ByteArray := prog_2_method_11_code
def yX0_bestSet : MethodName := ⟨RX0, "bestSet", "(LHuesApart$Scene;I)I"⟩
abbrev cX0_listMembers : ByteArray := prog_2_method_12_code
def yX0_listMembers : MethodName := ⟨RX0, "listMembers", "(I)I"⟩
abbrev cX0_nextOfLikeSize : ByteArray := prog_2_method_13_code
def yX0_nextOfLikeSize : MethodName := ⟨RX0, "nextOfLikeSize", "(I)I"⟩
def RX1 : String := "HuesApart$Scene"
def TX1 : u_T := fun k => match k with
  | 0 => ("HuesApart$Scene", "colours", "I", false)
  | 1 => ("HuesApart$Scene", "rgb", "[I", true)
  | 2 => ("HuesApart$Scene", "groundRgb", "[I", true)
  | 3 => ("HuesApart$Scene", "eyes", "[I", true)
  | 4 => ("HuesApart$Scene", "limits", "[I", true)
  | 5 => ("HuesApart$Scene", "fixedBits", "I", false)
  | 6 => ("HuesApart$Scene", "row", "[I", true)
  | _ => ("HuesApart$Scene", "rowLength", "I", false)
def tyX1 : Nat → FieldType := fun k => match k with
  | 0 => .int
  | 1 => .array .int
  | 2 => .array .int
  | 3 => .array .int
  | 4 => .array .int
  | 5 => .int
  | 6 => .array .int
  | _ => .int
abbrev wsX10 : List Cond := u_ws RX1 TX1 8
theorem nmX1 : ∀ a, a < 8 → ∀ b, b < 8 → a ≠ b → (TX1 a).2.1 ≠ (TX1 b).2.1 := by decide +kernel
theorem tyX1_ok : ∀ k, k < 8 → parseFieldDescriptor (TX1 k).2.2.1 = some (tyX1 k) := by decide +kernel
abbrev cX1_init : ByteArray := prog_3_method_1_code
def yX1_init : MethodName := ⟨RX1, "<init>", "()V"⟩
abbrev cX1_become : ByteArray := prog_3_method_2_code
def yX1_become : MethodName := ⟨RX1, "become", "(LHuesApart$Scene;)V"⟩
abbrev cX1_addColour : ByteArray := prog_3_method_3_code
def yX1_addColour : MethodName := ⟨RX1, "addColour", "(III)I"⟩
abbrev cX1_setLimit : ByteArray := prog_3_method_4_code
def yX1_setLimit : MethodName := ⟨RX1, "setLimit", "(II)I"⟩
abbrev cX1_setFixed : ByteArray := prog_3_method_5_code
def yX1_setFixed : MethodName := ⟨RX1, "setFixed", "(II)I"⟩
abbrev cX1_isFixed : ByteArray := prog_3_method_6_code
def yX1_isFixed : MethodName := ⟨RX1, "isFixed", "(I)Z"⟩
abbrev cX1_putIntoRow : ByteArray := prog_3_method_7_code
def yX1_putIntoRow : MethodName := ⟨RX1, "putIntoRow", "(I)V"⟩
abbrev cX1_placeOf : ByteArray := prog_3_method_8_code
def yX1_placeOf : MethodName := ⟨RX1, "placeOf", "(I)I"⟩
abbrev cX1_rowBits : ByteArray := prog_3_method_9_code
def yX1_rowBits : MethodName := ⟨RX1, "rowBits", "()I"⟩
abbrev cX1_countingBits : ByteArray := prog_3_method_10_code
def yX1_countingBits : MethodName := ⟨RX1, "countingBits", "()I"⟩
abbrev cX1_fitBits : ByteArray := prog_3_method_11_code
def yX1_fitBits : MethodName := ⟨RX1, "fitBits", "()I"⟩
abbrev cX1_isFit : ByteArray := prog_3_method_12_code
def yX1_isFit : MethodName := ⟨RX1, "isFit", "(I)Z"⟩
abbrev cX1_lightOf : ByteArray := prog_3_method_13_code
def yX1_lightOf : MethodName := ⟨RX1, "lightOf", "(I)F"⟩
abbrev cX1_lightAt : ByteArray := prog_3_method_14_code
def yX1_lightAt : MethodName := ⟨RX1, "lightAt", "([II)F"⟩
abbrev cX1_seenBy : ByteArray := prog_3_method_15_code
def yX1_seenBy : MethodName := ⟨RX1, "seenBy", "(III)F"⟩
abbrev cX1_isSeenAsMinusZero : ByteArray := prog_3_method_16_code
def yX1_isSeenAsMinusZero : MethodName := ⟨RX1, "isSeenAsMinusZero", "(III)Z"⟩
abbrev cX1_distanceFor : ByteArray := prog_3_method_17_code
def yX1_distanceFor : MethodName := ⟨RX1, "distanceFor", "(III)F"⟩
abbrev cX1_apartOf : ByteArray := prog_3_method_18_code
def yX1_apartOf : MethodName := ⟨RX1, "apartOf", "(II)F"⟩
abbrev cX1_pairsBelow : ByteArray := prog_3_method_19_code
def yX1_pairsBelow : MethodName := ⟨RX1, "pairsBelow", "(II)I"⟩
def RX2 : String := "HuesApart$Script"
def TX2 : u_T := fun k => match k with
  | 0 => ("HuesApart$Script", "bytes", "[I", true)
  | 1 => ("HuesApart$Script", "length", "I", false)
  | 2 => ("HuesApart$Script", "at", "I", false)
  | 3 => ("HuesApart$Script", "orders", "I", false)
  | 4 => ("HuesApart$Script", "kinds", "[I", true)
  | 5 => ("HuesApart$Script", "firsts", "[I", true)
  | _ => ("HuesApart$Script", "seconds", "[I", true)
def tyX2 : Nat → FieldType := fun k => match k with
  | 0 => .array .int
  | 1 => .int
  | 2 => .int
  | 3 => .int
  | 4 => .array .int
  | 5 => .array .int
  | _ => .array .int
abbrev wsX20 : List Cond := u_ws RX2 TX2 7
theorem nmX2 : ∀ a, a < 7 → ∀ b, b < 7 → a ≠ b → (TX2 a).2.1 ≠ (TX2 b).2.1 := by decide +kernel
theorem tyX2_ok : ∀ k, k < 7 → parseFieldDescriptor (TX2 k).2.2.1 = some (tyX2 k) := by decide +kernel
abbrev cX2_init : ByteArray := prog_4_method_1_code
def yX2_init : MethodName := ⟨RX2, "<init>", "()V"⟩
abbrev cX2_append : ByteArray := prog_4_method_2_code
def yX2_append : MethodName := ⟨RX2, "append", "(I)I"⟩
abbrev cX2_read : ByteArray := prog_4_method_3_code
def yX2_read : MethodName := ⟨RX2, "read", "()I"⟩
abbrev cX2_readOrder : ByteArray := prog_4_method_4_code
def yX2_readOrder : MethodName := ⟨RX2, "readOrder", "()Z"⟩
abbrev cX2_readSixFigures : ByteArray := prog_4_method_5_code
def yX2_readSixFigures : MethodName := ⟨RX2, "readSixFigures", "()Z"⟩
abbrev cX2_readNumber : ByteArray := prog_4_method_6_code
def yX2_readNumber : MethodName := ⟨RX2, "readNumber", "([I)Z"⟩
abbrev cX2_readEnd : ByteArray := prog_4_method_7_code
def yX2_readEnd : MethodName := ⟨RX2, "readEnd", "()Z"⟩
abbrev cX2_skipBlanks : ByteArray := prog_4_method_8_code
def yX2_skipBlanks : MethodName := ⟨RX2, "skipBlanks", "()V"⟩
abbrev cX2_byteHere : ByteArray := prog_4_method_9_code
def yX2_byteHere : MethodName := ⟨RX2, "byteHere", "()I"⟩
abbrev cX2_isTenFigure : ByteArray := prog_4_method_10_code
def yX2_isTenFigure : MethodName := ⟨RX2, "isTenFigure", "(I)Z"⟩
abbrev cX2_figureOf : ByteArray := prog_4_method_11_code
def yX2_figureOf : MethodName := ⟨RX2, "figureOf", "(I)I"⟩
def RX3 : String := "HuesApart"
def TX3 : u_T := fun k => match k with
  | 0 => ("HuesApart", "scene", "LHuesApart$Scene;", true)
  | 1 => ("HuesApart", "kept", "[LHuesApart$Scene;", true)
  | 2 => ("HuesApart", "states", "I", false)
  | 3 => ("HuesApart", "refused", "[I", true)
  | 4 => ("HuesApart", "script", "LHuesApart$Script;", true)
  | _ => ("HuesApart", "chooser", "LHuesApart$Chooser;", true)
def tyX3 : Nat → FieldType := fun k => match k with
  | 0 => .object "HuesApart$Scene"
  | 1 => .array (.object "HuesApart$Scene")
  | 2 => .int
  | 3 => .array .int
  | 4 => .object "HuesApart$Script"
  | _ => .object "HuesApart$Chooser"
abbrev wsX30 : List Cond := u_ws RX3 TX3 6
theorem nmX3 : ∀ a, a < 6 → ∀ b, b < 6 → a ≠ b → (TX3 a).2.1 ≠ (TX3 b).2.1 := by decide +kernel
theorem tyX3_ok : ∀ k, k < 6 → parseFieldDescriptor (TX3 k).2.2.1 = some (tyX3 k) := by decide +kernel
abbrev cX3_init : ByteArray := prog_1_method_1_code
def yX3_init : MethodName := ⟨RX3, "<init>", "()V"⟩
abbrev cX3_colour : ByteArray := prog_1_method_2_code
def yX3_colour : MethodName := ⟨RX3, "colour", "(III)I"⟩
abbrev cX3_paints : ByteArray := prog_1_method_3_code
def yX3_paints : MethodName := ⟨RX3, "paints", "(IIII)I"⟩
abbrev cX3_ground : ByteArray := prog_1_method_4_code
def yX3_ground : MethodName := ⟨RX3, "ground", "(III)I"⟩
abbrev cX3_eye : ByteArray := prog_1_method_5_code
def yX3_eye : MethodName := ⟨RX3, "eye", "(III)I"⟩
abbrev cX3_sets : ByteArray := prog_1_method_6_code
def yX3_sets : MethodName := ⟨RX3, "sets", "(II)I"⟩
abbrev cX3_fixes : ByteArray := prog_1_method_7_code
def yX3_fixes : MethodName := ⟨RX3, "fixes", "(II)I"⟩
abbrev cX3_of : ByteArray := prog_1_method_8_code
def yX3_of : MethodName := ⟨RX3, "of", "(II)I"⟩
abbrev cX3_look : ByteArray := prog_1_method_9_code
def yX3_look : MethodName := ⟨RX3, "look", "(II)I"⟩
abbrev cX3_light : ByteArray := prog_1_method_10_code
def yX3_light : MethodName := ⟨RX3, "light", "(I)I"⟩
abbrev cX3_seen : ByteArray := prog_1_method_11_code
def yX3_seen : MethodName := ⟨RX3, "seen", "(III)I"⟩
abbrev cX3_distance : ByteArray := prog_1_method_12_code
def yX3_distance : MethodName := ⟨RX3, "distance", "(III)I"⟩
abbrev cX3_apart : ByteArray := prog_1_method_13_code
def yX3_apart : MethodName := ⟨RX3, "apart", "(II)I"⟩
abbrev cX3_fills : ByteArray := prog_1_method_14_code
def yX3_fills : MethodName := ⟨RX3, "fills", "(I)I"⟩
abbrev cX3_swaps : ByteArray := prog_1_method_15_code
def yX3_swaps : MethodName := ⟨RX3, "swaps", "()I"⟩
abbrev cX3_palette : ByteArray := prog_1_method_16_code
def yX3_palette : MethodName := ⟨RX3, "palette", "(I)I"⟩
abbrev cX3_least : ByteArray := prog_1_method_17_code
def yX3_least : MethodName := ⟨RX3, "least", "()I"⟩
abbrev cX3_nearest : ByteArray := prog_1_method_18_code
def yX3_nearest : MethodName := ⟨RX3, "nearest", "()I"⟩
abbrev cX3_best : ByteArray := prog_1_method_19_code
def yX3_best : MethodName := ⟨RX3, "best", "(I)I"⟩
abbrev cX3_mistaken : ByteArray := prog_1_method_20_code
def yX3_mistaken : MethodName := ⟨RX3, "mistaken", "(II)I"⟩
abbrev cX3_count : ByteArray := prog_1_method_21_code
def yX3_count : MethodName := ⟨RX3, "count", "(I)I"⟩
abbrev cX3_type : ByteArray := prog_1_method_22_code
def yX3_type : MethodName := ⟨RX3, "type", "(I)I"⟩
abbrev cX3_clear : ByteArray := prog_1_method_23_code
def yX3_clear : MethodName := ⟨RX3, "clear", "()I"⟩
abbrev cX3_does : ByteArray := prog_1_method_24_code
def yX3_does : MethodName := ⟨RX3, "does", "()I"⟩
abbrev cX3_back : ByteArray := prog_1_method_25_code
def yX3_back : MethodName := ⟨RX3, "back", "()I"⟩
abbrev cX3_told : ByteArray := prog_1_method_26_code
def yX3_told : MethodName := ⟨RX3, "told", "(I)I"⟩
abbrev cX3_digest : ByteArray := prog_1_method_27_code
def yX3_digest : MethodName := ⟨RX3, "digest", "()J"⟩
abbrev cX3_whyNoColour : ByteArray := prog_1_method_28_code
def yX3_whyNoColour : MethodName := ⟨RX3, "whyNoColour", "(III)I"⟩
abbrev cX3_whyNoLimit : ByteArray := prog_1_method_29_code
def yX3_whyNoLimit : MethodName := ⟨RX3, "whyNoLimit", "(II)I"⟩
abbrev cX3_whyNotFixed : ByteArray := prog_1_method_30_code
def yX3_whyNotFixed : MethodName := ⟨RX3, "whyNotFixed", "(II)I"⟩
abbrev cX3_whyNoFilling : ByteArray := prog_1_method_31_code
def yX3_whyNoFilling : MethodName := ⟨RX3, "whyNoFilling", "(I)I"⟩
abbrev cX3_refuse : ByteArray := prog_1_method_32_code
def yX3_refuse : MethodName := ⟨RX3, "refuse", "(I)I"⟩
abbrev cX3_isColour : ByteArray := prog_1_method_33_code
def yX3_isColour : MethodName := ⟨RX3, "isColour", "(I)Z"⟩
abbrev cX3_isEye : ByteArray := prog_1_method_34_code
def yX3_isEye : MethodName := ⟨RX3, "isEye", "(I)Z"⟩
abbrev cX3_isEyeNumber : ByteArray := prog_1_method_35_code
def yX3_isEyeNumber : MethodName := ⟨RX3, "isEyeNumber", "(II)Z"⟩
abbrev cX3_isRgb : ByteArray := prog_1_method_36_code
def yX3_isRgb : MethodName := ⟨RX3, "isRgb", "(III)Z"⟩
abbrev cX3_isWithin : ByteArray := prog_1_method_37_code
def yX3_isWithin : MethodName := ⟨RX3, "isWithin", "(III)Z"⟩
abbrev cX3_whyNoOrder : ByteArray := prog_1_method_38_code
def yX3_whyNoOrder : MethodName := ⟨RX3, "whyNoOrder", "(III)I"⟩
abbrev cX3_obey : ByteArray := prog_1_method_39_code
def yX3_obey : MethodName := ⟨RX3, "obey", "(III)V"⟩
abbrev cX3_redOf : ByteArray := prog_1_method_40_code
def yX3_redOf : MethodName := ⟨RX3, "redOf", "(I)I"⟩
abbrev cX3_greenOf : ByteArray := prog_1_method_41_code
def yX3_greenOf : MethodName := ⟨RX3, "greenOf", "(I)I"⟩
abbrev cX3_blueOf : ByteArray := prog_1_method_42_code
def yX3_blueOf : MethodName := ⟨RX3, "blueOf", "(I)I"⟩
abbrev cX3_leaveState : ByteArray := prog_1_method_43_code
def yX3_leaveState : MethodName := ⟨RX3, "leaveState", "()V"⟩
abbrev cX3_noteState : ByteArray := prog_1_method_44_code
def yX3_noteState : MethodName := ⟨RX3, "noteState", "()V"⟩
abbrev cX3_keepNoted : ByteArray := prog_1_method_45_code
def yX3_keepNoted : MethodName := ⟨RX3, "keepNoted", "()V"⟩
abbrev cX3_putRgb : ByteArray := prog_1_method_46_code
def yX3_putRgb : MethodName := ⟨RX3, "putRgb", "([IIIII)I"⟩
abbrev cX3_bitsOf : ByteArray := prog_1_method_47_code
def yX3_bitsOf : MethodName := ⟨RX3, "bitsOf", "(F)I"⟩
def RX4 : String := "HuesApartModel"
def TX4 : u_T := fun k => match k with
  | 0 => ("HuesApartModel", "now", "[I", true)
  | 1 => ("HuesApartModel", "aside", "[I", true)
  | 2 => ("HuesApartModel", "past", "[I", true)
  | 3 => ("HuesApartModel", "states", "I", false)
  | 4 => ("HuesApartModel", "refused", "[I", true)
  | 5 => ("HuesApartModel", "text", "[I", true)
  | 6 => ("HuesApartModel", "bytes", "I", false)
  | 7 => ("HuesApartModel", "far", "[F", true)
  | 8 => ("HuesApartModel", "fitting", "I", false)
  | 9 => ("HuesApartModel", "some", "[I", true)
  | 10 => ("HuesApartModel", "letters", "[I", true)
  | 11 => ("HuesApartModel", "numbers", "[I", true)
  | 12 => ("HuesApartModel", "orders", "I", false)
  | 13 => ("HuesApartModel", "spot", "I", false)
  | 14 => ("HuesApartModel", "wrongAt", "I", false)
  | _ => ("HuesApartModel", "hash", "J", false)
def tyX4 : Nat → FieldType := fun k => match k with
  | 0 => .array .int
  | 1 => .array .int
  | 2 => .array .int
  | 3 => .int
  | 4 => .array .int
  | 5 => .array .int
  | 6 => .int
  | 7 => .array .float
  | 8 => .int
  | 9 => .array .int
  | 10 => .array .int
  | 11 => .array .int
  | 12 => .int
  | 13 => .int
  | 14 => .int
  | _ => .long
abbrev wsX40 : List Cond := u_ws RX4 TX4 16
theorem nmX4 : ∀ a, a < 16 → ∀ b, b < 16 → a ≠ b → (TX4 a).2.1 ≠ (TX4 b).2.1 := by decide +kernel
theorem tyX4_ok : ∀ k, k < 16 → parseFieldDescriptor (TX4 k).2.2.1 = some (tyX4 k) := by decide +kernel
abbrev cX4_init : ByteArray := prog_6_method_1_code
def yX4_init : MethodName := ⟨RX4, "<init>", "()V"⟩
abbrev cX4_in : ByteArray := prog_6_method_3_code
def yX4_in : MethodName := ⟨RX4, "in", "(III)Z"⟩
abbrev cX4_has : ByteArray := prog_6_method_4_code
def yX4_has : MethodName := ⟨RX4, "has", "(II)Z"⟩
abbrev cX4_bitsIn : ByteArray := prog_6_method_5_code
def yX4_bitsIn : MethodName := ⟨RX4, "bitsIn", "(I)I"⟩
abbrev cX4_bitsOf : ByteArray := prog_6_method_6_code
def yX4_bitsOf : MethodName := ⟨RX4, "bitsOf", "(F)I"⟩
abbrev cX4_bad : ByteArray := prog_6_method_7_code
def yX4_bad : MethodName := ⟨RX4, "bad", "()I"⟩
abbrev cX4_no : ByteArray := prog_6_method_8_code
def yX4_no : MethodName := ⟨RX4, "no", "()I"⟩
abbrev cX4_full : ByteArray := prog_6_method_9_code
def yX4_full : MethodName := ⟨RX4, "full", "()I"⟩
abbrev cX4_remembers : ByteArray := prog_6_method_10_code
def yX4_remembers : MethodName := ⟨RX4, "remembers", "()V"⟩
abbrev cX4_back : ByteArray := prog_6_method_11_code
def yX4_back : MethodName := ⟨RX4, "back", "()I"⟩
abbrev cX4_isPart : ByteArray := prog_6_method_12_code
def yX4_isPart : MethodName := ⟨RX4, "isPart", "(I)Z"⟩
abbrev cX4_areParts : ByteArray := prog_6_method_13_code
def yX4_areParts : MethodName := ⟨RX4, "areParts", "(III)Z"⟩
abbrev cX4_isColour : ByteArray := prog_6_method_14_code
def yX4_isColour : MethodName := ⟨RX4, "isColour", "(I)Z"⟩
abbrev cX4_isEye : ByteArray := prog_6_method_15_code
def yX4_isEye : MethodName := ⟨RX4, "isEye", "(I)Z"⟩
abbrev cX4_becomes : ByteArray := prog_6_method_16_code
def yX4_becomes : MethodName := ⟨RX4, "becomes", "(IIII)I"⟩
abbrev cX4_colourAt : ByteArray := prog_6_method_17_code
def yX4_colourAt : MethodName := ⟨RX4, "colourAt", "(I)I"⟩
abbrev cX4_comes : ByteArray := prog_6_method_18_code
def yX4_comes : MethodName := ⟨RX4, "comes", "(III)I"⟩
abbrev cX4_colour : ByteArray := prog_6_method_19_code
def yX4_colour : MethodName := ⟨RX4, "colour", "(III)I"⟩
abbrev cX4_paints : ByteArray := prog_6_method_20_code
def yX4_paints : MethodName := ⟨RX4, "paints", "(IIII)I"⟩
abbrev cX4_ground : ByteArray := prog_6_method_21_code
def yX4_ground : MethodName := ⟨RX4, "ground", "(III)I"⟩
abbrev cX4_isOfEye : ByteArray := prog_6_method_22_code
def yX4_isOfEye : MethodName := ⟨RX4, "isOfEye", "(II)Z"⟩
abbrev cX4_exchanges : ByteArray := prog_6_method_23_code
def yX4_exchanges : MethodName := ⟨RX4, "exchanges", "(II)I"⟩
abbrev cX4_eye : ByteArray := prog_6_method_24_code
def yX4_eye : MethodName := ⟨RX4, "eye", "(III)I"⟩
abbrev cX4_sets : ByteArray := prog_6_method_25_code
def yX4_sets : MethodName := ⟨RX4, "sets", "(II)I"⟩
abbrev cX4_fixesOne : ByteArray := prog_6_method_26_code
def yX4_fixesOne : MethodName := ⟨RX4, "fixesOne", "(II)I"⟩
abbrev cX4_fixes : ByteArray := prog_6_method_27_code
def yX4_fixes : MethodName := ⟨RX4, "fixes", "(II)I"⟩
abbrev cX4_shineAt : ByteArray := prog_6_method_28_code
def yX4_shineAt : MethodName := ⟨RX4, "shineAt", "(I)F"⟩
abbrev cX4_isFitting : ByteArray := prog_6_method_29_code
def yX4_isFitting : MethodName := ⟨RX4, "isFitting", "(I)Z"⟩
abbrev cX4_placeOf : ByteArray := prog_6_method_30_code
def yX4_placeOf : MethodName := ⟨RX4, "placeOf", "(I)I"⟩
abbrev cX4_ofColour : ByteArray := prog_6_method_31_code
def yX4_ofColour : MethodName := ⟨RX4, "ofColour", "(II)I"⟩
abbrev cX4_of : ByteArray := prog_6_method_32_code
def yX4_of : MethodName := ⟨RX4, "of", "(II)I"⟩
abbrev cX4_look : ByteArray := prog_6_method_33_code
def yX4_look : MethodName := ⟨RX4, "look", "(II)I"⟩
abbrev cX4_light : ByteArray := prog_6_method_34_code
def yX4_light : MethodName := ⟨RX4, "light", "(I)I"⟩
abbrev cX4_sight : ByteArray := prog_6_method_35_code
def yX4_sight : MethodName := ⟨RX4, "sight", "(III)F"⟩
abbrev cX4_seen : ByteArray := prog_6_method_36_code
def yX4_seen : MethodName := ⟨RX4, "seen", "(III)I"⟩
abbrev cX4_farFor : ByteArray := prog_6_method_37_code
def yX4_farFor : MethodName := ⟨RX4, "farFor", "(III)F"⟩
abbrev cX4_distance : ByteArray := prog_6_method_38_code
def yX4_distance : MethodName := ⟨RX4, "distance", "(III)I"⟩
abbrev cX4_apartOf : ByteArray := prog_6_method_39_code
def yX4_apartOf : MethodName := ⟨RX4, "apartOf", "(II)F"⟩
abbrev cX4_apart : ByteArray := prog_6_method_40_code
def yX4_apart : MethodName := ⟨RX4, "apart", "(II)I"⟩
abbrev cX4_laysFar : ByteArray := prog_6_method_41_code
def yX4_laysFar : MethodName := ⟨RX4, "laysFar", "()V"⟩
abbrev cX4_leastOf : ByteArray := prog_6_method_42_code
def yX4_leastOf : MethodName := ⟨RX4, "leastOf", "(I)F"⟩
abbrev cX4_takesPalette : ByteArray := prog_6_method_43_code
def yX4_takesPalette : MethodName := ⟨RX4, "takesPalette", "()V"⟩
abbrev cX4_putsLast : ByteArray := prog_6_method_44_code
def yX4_putsLast : MethodName := ⟨RX4, "putsLast", "(I)V"⟩
abbrev cX4_lightest : ByteArray := prog_6_method_45_code
def yX4_lightest : MethodName := ⟨RX4, "lightest", "()I"⟩
abbrev cX4_nearestIn : ByteArray := prog_6_method_46_code
def yX4_nearestIn : MethodName := ⟨RX4, "nearestIn", "(I)F"⟩
abbrev cX4_farthest : ByteArray := prog_6_method_47_code
def yX4_farthest : MethodName := ⟨RX4, "farthest", "()I"⟩
abbrev cX4_fillsFor : ByteArray := prog_6_method_48_code
def yX4_fillsFor : MethodName := ⟨RX4, "fillsFor", "(I)I"⟩
abbrev cX4_canFill : ByteArray := prog_6_method_49_code
def yX4_canFill : MethodName := ⟨RX4, "canFill", "(I)Z"⟩
abbrev cX4_fills : ByteArray := prog_6_method_50_code
def yX4_fills : MethodName := ⟨RX4, "fills", "(I)I"⟩
abbrev cX4_isSwapped : ByteArray := prog_6_method_51_code
def yX4_isSwapped : MethodName := ⟨RX4, "isSwapped", "()Z"⟩
abbrev cX4_swapsAll : ByteArray := prog_6_method_52_code
def yX4_swapsAll : MethodName := ⟨RX4, "swapsAll", "()I"⟩
abbrev cX4_swaps : ByteArray := prog_6_method_53_code
def yX4_swaps : MethodName := ⟨RX4, "swaps", "()I"⟩
abbrev cX4_palette : ByteArray := prog_6_method_54_code
def yX4_palette : MethodName := ⟨RX4, "palette", "(I)I"⟩
abbrev cX4_leastNow : ByteArray := prog_6_method_55_code
def yX4_leastNow : MethodName := ⟨RX4, "leastNow", "()I"⟩
abbrev cX4_least : ByteArray := prog_6_method_56_code
def yX4_least : MethodName := ⟨RX4, "least", "()I"⟩
abbrev cX4_nearestNow : ByteArray := prog_6_method_57_code
def yX4_nearestNow : MethodName := ⟨RX4, "nearestNow", "()I"⟩
abbrev cX4_nearest : ByteArray := prog_6_method_58_code
def yX4_nearest : MethodName := ⟨RX4, "nearest", "()I"⟩
abbrev cX4_isNext : ByteArray := prog_6_method_59_code
def yX4_isNext : MethodName := ⟨RX4, "isNext", "(I)Z"⟩
abbrev cX4_setOf : ByteArray := prog_6_method_60_code
def yX4_setOf : MethodName := ⟨RX4, "setOf", "(I)I"⟩
abbrev cX4_bestOf : ByteArray := prog_6_method_61_code
def yX4_bestOf : MethodName := ⟨RX4, "bestOf", "(I)I"⟩
abbrev cX4_best : ByteArray := prog_6_method_62_code
def yX4_best : MethodName := ⟨RX4, "best", "(I)I"⟩
abbrev cX4_mistaken : ByteArray := prog_6_method_63_code
def yX4_mistaken : MethodName := ⟨RX4, "mistaken", "(II)I"⟩
abbrev cX4_countsSet : ByteArray := prog_6_method_64_code
def yX4_countsSet : MethodName := ⟨RX4, "countsSet", "()I"⟩
abbrev cX4_fittingMany : ByteArray := prog_6_method_65_code
def yX4_fittingMany : MethodName := ⟨RX4, "fittingMany", "()I"⟩
abbrev cX4_countOf : ByteArray := prog_6_method_66_code
def yX4_countOf : MethodName := ⟨RX4, "countOf", "(I)I"⟩
abbrev cX4_count : ByteArray := prog_6_method_67_code
def yX4_count : MethodName := ⟨RX4, "count", "(I)I"⟩
abbrev cX4_type : ByteArray := prog_6_method_68_code
def yX4_type : MethodName := ⟨RX4, "type", "(I)I"⟩
abbrev cX4_clear : ByteArray := prog_6_method_69_code
def yX4_clear : MethodName := ⟨RX4, "clear", "()I"⟩
abbrev cX4_isAt : ByteArray := prog_6_method_70_code
def yX4_isAt : MethodName := ⟨RX4, "isAt", "(II)Z"⟩
abbrev cX4_blanks : ByteArray := prog_6_method_71_code
def yX4_blanks : MethodName := ⟨RX4, "blanks", "()V"⟩
abbrev cX4_fails : ByteArray := prog_6_method_72_code
def yX4_fails : MethodName := ⟨RX4, "fails", "(I)Z"⟩
abbrev cX4_takesSix : ByteArray := prog_6_method_73_code
def yX4_takesSix : MethodName := ⟨RX4, "takesSix", "(I)Z"⟩
abbrev cX4_takesNumber : ByteArray := prog_6_method_74_code
def yX4_takesNumber : MethodName := ⟨RX4, "takesNumber", "(I)Z"⟩
abbrev cX4_takesNumbers : ByteArray := prog_6_method_75_code
def yX4_takesNumbers : MethodName := ⟨RX4, "takesNumbers", "(I)Z"⟩
abbrev cX4_takesOrder : ByteArray := prog_6_method_76_code
def yX4_takesOrder : MethodName := ⟨RX4, "takesOrder", "()Z"⟩
abbrev cX4_isRead : ByteArray := prog_6_method_77_code
def yX4_isRead : MethodName := ⟨RX4, "isRead", "()Z"⟩
abbrev cX4_comesTold : ByteArray := prog_6_method_78_code
def yX4_comesTold : MethodName := ⟨RX4, "comesTold", "(I)Z"⟩
abbrev cX4_limits : ByteArray := prog_6_method_79_code
def yX4_limits : MethodName := ⟨RX4, "limits", "(II)Z"⟩
abbrev cX4_obeys : ByteArray := prog_6_method_80_code
def yX4_obeys : MethodName := ⟨RX4, "obeys", "(I)Z"⟩
abbrev cX4_turns : ByteArray := prog_6_method_81_code
def yX4_turns : MethodName := ⟨RX4, "turns", "()V"⟩
abbrev cX4_does : ByteArray := prog_6_method_82_code
def yX4_does : MethodName := ⟨RX4, "does", "()I"⟩
abbrev cX4_toldOf : ByteArray := prog_6_method_83_code
def yX4_toldOf : MethodName := ⟨RX4, "toldOf", "(I)I"⟩
abbrev cX4_told : ByteArray := prog_6_method_84_code
def yX4_told : MethodName := ⟨RX4, "told", "(I)I"⟩
abbrev cX4_mix : ByteArray := prog_6_method_85_code
def yX4_mix : MethodName := ⟨RX4, "mix", "(J)V"⟩
abbrev cX4_digest : ByteArray := prog_6_method_86_code
def yX4_digest : MethodName := ⟨RX4, "digest", "()J"⟩
def RJ6 : String := "java/lang/Integer"
abbrev cJ6_bitCount_0f7a4 : ByteArray := prog_7_method_49_code
def yJ6_bitCount_0f7a4 : MethodName := ⟨RJ6, "bitCount", "(I)I"⟩
def RJ10 : String := "java/lang/System"
def RJ7 : String := "java/util/Arrays"
abbrev cJ7_fill_53178 : ByteArray := prog_9_method_103_code
def yJ7_fill_53178 : MethodName := ⟨RJ7, "fill", "([II)V"⟩
def RL : String := "HuesApartLaw"
abbrev cL_law : ByteArray := code
def yL_law : MethodName := ⟨RL, "law", "([I)Z"⟩
abbrev vwCl : List vw_C := [(RX0, TX0, 2), (RX1, TX1, 8), (RX2, TX2, 7), (RX3, TX3, 6), (RX4, TX4, 16)]
end
section
/-! A uniform world: the cells that the run has made, numbered 0, 1, .. in the order of their making; values whose references are such numbers (the law's own script is written retAddr 0) -/
abbrev xC : Type := vp_A ⊕ (Nat × List Value)
abbrev xH : Type := List xC
abbrev xL : Type := List (Option Value)
/-- a method: its name, code, size of its locals, what it returns; the script, where it has it -/
abbrev xM : Type := MethodName × ByteArray × Nat × Option FieldType × Option (Nat × (Nat → Int32))
/-- where a world lies: the classes' numbers and slots; the three array classes; the first cell; the script's cell -/
abbrev xG : Type := va_G × (ClassId × ClassId × ClassId) × Nat × Nat
def xv (G : xG) : Value → Value
  | .ref k => .ref (G.2.2.1 + k)
  | .retAddr _ => .ref G.2.2.2
  | v => v
def xe (G : xG) : xC → va_E
  | .inr (ci, fs) => .inr (ci, fs.map (xv G))
  | .inl (n, .inl f) => .inl (G.2.1.1, n, .inl f)
  | .inl (n, .inr (.inl f)) => .inl (G.2.1.1, n, .inr (.inl f))
  | .inl (n, .inr (.inr (.inl f))) => .inl (G.2.1.2.1, n, .inr (.inr (.inl f)))
  | .inl (n, .inr (.inr (.inr (.inl f)))) => .inl (G.2.1.2.1, n, .inr (.inr (.inr (.inl f))))
  | .inl (n, .inr (.inr (.inr (.inr f)))) => .inl (G.2.1.2.2, n, .inr (.inr (.inr (.inr (fun j => (f j).map (fun k => G.2.2.1 + k))))))
def xw (G : xG) (h : xH) : va_W := h.mapIdx (fun k c => (G.2.2.1 + k, xe G c))
abbrev xty (G : xG) : List (ClassId × FieldType) := [(G.2.1.1, .int), (G.2.1.2.1, .float), (G.2.1.2.2, .object RX1)]
abbrev xA (G : xG) : Nat → Prop := fun q => G.2.2.1 ≤ q
theorem xw_get {G : xG} {h : xH} {k : Nat} {c : xC} (hk : h[k]? = some c) : (xw G h)[k]? = some (G.2.2.1 + k, xe G c) := by
  unfold xw; rw [List.getElem?_mapIdx, hk]; rfl
theorem xw_getI {G : xG} {h : xH} {k : Nat} {q : Nat × va_E} (hk : (xw G h)[k]? = some q) : ∃ c, h[k]? = some c ∧ q = (G.2.2.1 + k, xe G c) := by
  unfold xw at hk; rw [List.getElem?_mapIdx] at hk
  cases hc : h[k]? with
  | none => rw [hc] at hk; cases hk
  | some c => rw [hc] at hk; exact ⟨c, rfl, (Option.some.inj hk).symm⟩
theorem xw_set {G : xG} {h : xH} {k : Nat} {c : xC} : (xw G h).set k (G.2.2.1 + k, xe G c) = xw G (h.set k c) := by
  apply List.ext_getElem?
  intro j
  unfold xw
  rw [List.getElem?_set, List.getElem?_mapIdx, List.getElem?_mapIdx, List.getElem?_set, List.length_mapIdx]
  by_cases e : k = j
  · subst e
    by_cases l : k < h.length
    · simp [l]
    · simp [l]
  · simp [e]
theorem xw_push {G : xG} {h : xH} {c : xC} : xw G h ++ [(G.2.2.1 + h.length, xe G c)] = xw G (h ++ [c]) := by
  unfold xw
  rw [List.mapIdx_append]
  simp
/-- the cells lie apart, all from the first on -/
theorem xw_D (G : xG) (h : xH) : va_D (xA G) (xw G h) := by
  refine ⟨fun i j p q hi hj e => ?_, fun k q hk => ?_⟩
  · obtain ⟨c, -, rfl⟩ := xw_getI hi
    obtain ⟨d, -, rfl⟩ := xw_getI hj
    have e : G.2.2.1 + i = G.2.2.1 + j := e
    omega
  · obtain ⟨c, -, rfl⟩ := xw_getI hk
    exact Nat.le_add_right _ _
/-- the heap holds the world -/
def xP (G : xG) (h : xH) (H : Heap) : Prop := va_P G.1 vwCl (xw G h) H
/-- the locals -/
def xls (G : xG) (ls : Array Slot) (n : Nat) (L : xL) : Prop := ls.size = n ∧ lv_wf ls ∧ ∀ (i : Nat) (v : Value), L[i]? = some (some v) → ls[i]? = some (.val (xv G v))
def xisN : Cond → Bool
  | .fieldLinkNest .. => true
  | .methodLinkNest .. => true
  | _ => false
def lw_good : List Cond := lw_tbl.filter goodWord
def lw_nest : List Cond := lw_tbl.filter xisN
theorem xNw_warm {w : Cond} (hw : xisN w = true) {s U : State} (hW : s.WarmedH U.vm) (h : va_Nw w s) : va_Nw w U := by
  cases w <;> first | (cases hw; done) | exact va_Nw.warmF hW h | exact va_Nw.warmM hW h
theorem xNw_same {w : Cond} (hw : xisN w = true) {s U : State} (hv : s.vm = U.vm) (h : va_Nw w s) : va_Nw w U := by
  cases w <;> first | (cases hw; done) | exact va_Nw.same rfl hv h
/-- what the tables say of a state -/
def xK (G : xG) (U : State) : Prop := va_K G.1 vwCl (xty G) U ∧ (∀ w ∈ lw_nest, va_Nw w U) ∧ va_AO RX1 U
theorem xK.warm {G : xG} {s U : State} (hW : s.WarmedH U.vm) (h : xK G s) : xK G U :=
  ⟨va_K.moved hW.alike h.1, fun w hw => xNw_warm (List.mem_filter.mp hw).2 hW (h.2.1 w hw), va_AO.moved hW.alike h.2.2⟩
theorem xK.same {G : xG} {s U : State} (hv : s.vm = U.vm) (h : xK G s) : xK G U :=
  ⟨va_K.moved (hv ▸ Vm.Alike.refl s.vm) h.1, fun w hw => xNw_same (List.mem_filter.mp hw).2 hv (h.2.1 w hw), va_AO.moved (hv ▸ Vm.Alike.refl s.vm) h.2.2⟩
/-- the script, where the frame has it -/
def xX (scr : Option (Nat × (Nat → Int32))) (G : xG) (s : State) : Prop := match scr with
  | none => True
  | some (n, f) => va_X G.2.2.2 n f s s.heap ∧ G.2.2.2 < s.heap.size ∧ G.2.2.2 < G.2.2.1
/-- a frame of the method M, with room for d calls below it -/
def xF (M : xM) (d : Nat) (p : Program) (R : Room) (s : State) (m : MethodId) (args : Array Value) (meth : Method) (c : Code) (G : xG) : Prop :=
  p.tables.exec = Jvm.exec ∧ c.code = M.2.1 ∧ c.maxLocals = M.2.2.1 ∧ s.vm.findClass M.1.cls = some m.cls ∧ (∀ w ∈ lw_good, w.before args s = true) ∧ xK G s ∧ G.2.2.1 ≤ s.heap.size ∧ meth.name = M.1.name ∧ meth.locks = false ∧ xX M.2.2.2.2 G s ∧ d ≤ R.frames ∧ 38 * d ≤ R.locals
/-- a value that the method may return -/
def xnar : Option FieldType → Option Value → Prop
  | none, none => True
  | some ty, some (.int v) => narrow ty (.int v) = .int v
  | some .long, some (.long _) => True
  | some .float, some (.float _) => True
  | _, _ => False
def xrins : Option Value → Instr
  | none => .return_
  | some (.int _) => .ireturn
  | some (.long _) => .lreturn
  | some (.float _) => .freturn
  | some _ => .areturn
/-- the count of cells and slots: so many are to come yet; the world ends where the heap ends -/
def xB (G : xG) (h : xH) (s : State) (R : Room) (mc ms cells slots C1 S1 : Nat) : Prop := cells + mc = C1 ∧ slots + ms ≤ S1 ∧ C1 ≤ R.cells ∧ S1 ≤ R.slots ∧ G.2.2.1 + h.length = s.heap.size + cells
theorem xP.size {p : Program} {l : Launch} {e : Env} {R : Room} {s : State} {m : MethodId} {args : Array Value} {below : List Frame} {meth : Method} {c : Code} {T : State} {H : Heap} {locs : List Loc} {cells slots : Nat} {G : xG} {h : xH} (P : xP G h H) (hb0 : G.2.2.1 ≤ s.heap.size) (hT : T.heap = H) (X : Stand p l e R s m args below meth c T locs cells slots) (hz : G.2.2.1 + h.length = s.heap.size + cells) : H.size = G.2.2.1 + h.length := by
  have h1 : (T.setVm s.vm).heap.size ≤ s.heap.size + cells := X.same.2.2.1
  have h2 : s.heap.size ≤ (T.setVm s.vm).heap.size := X.same.2.1
  have e1 : (T.setVm s.vm).heap = H := hT
  rw [e1] at h1 h2
  cases hl : h.length with
  | zero => omega
  | succ n =>
    have hn : n < h.length := by omega
    have h3 : _ < H.size := (P n _ (xw_get (List.getElem?_eq_getElem hn))).lt
    have h3 : G.2.2.1 + n < H.size := h3
    omega
/-- from this point of the method on: it returns, with Post; it makes mc cells of at most ms slots -/
def XW (M : xM) (d mc ms : Nat) (pc : Nat) (L : xL) (st : List Value) (h : xH) (Post : Option Value → xH → Prop) : Prop :=
  ∀ (p : Program) (l : Launch) (e : Env) (R : Room) (s : State) (m : MethodId) (args : Array Value) (below : List Frame) (meth : Method) (c : Code) (G : xG) (Q : State → Prop) (H : Heap) (locs : List Loc) (cells slots C1 S1 : Nat) (ls : Array Slot),
    xF M d p R s m args meth c G → xP G h H → va_S (xA G) s.heap H locs → xls G ls M.2.2.1 L → xB G h s R mc ms cells slots C1 S1 →
    (∀ (pc : Nat) (ls : Array Slot) (r : Option Value) (h' : xH) (H' : Heap) (locs' : List Loc), Post r h' → xnar M.2.2.2.1 r → decode M.2.1 pc = .ok (xrins r, 1) → xP G h' H' → va_S (xA G) s.heap H' locs' → G.2.2.1 + h'.length = s.heap.size + C1 → W p l e R s m args below meth c H' locs' C1 S1 Q (F0 m pc ls (r.toList.map (xv G)))) →
    W p l e R s m args below meth c H locs cells slots Q (F0 m pc ls (st.map (xv G)))
end
section
/-! The rows: an instruction each -/
section XRows
variable {M : xM} {d mc ms pc : Nat} {L : xL} {st : List Value} {h : xH} {Post : Option Value → xH → Prop}
theorem XW.row {pc' : Nat} {st' : List Value}
    (row : ∀ (p : Program) (l : Launch) (e : Env) (R : Room) (s : State) (m : MethodId) (args : Array Value) (below : List Frame) (meth : Method) (c : Code) (G : xG) (Q : State → Prop) (H : Heap) (locs : List Loc) (cells slots : Nat) (ls : Array Slot),
      xF M d p R s m args meth c G → xP G h H → va_S (xA G) s.heap H locs → xls G ls M.2.2.1 L → W p l e R s m args below meth c H locs cells slots Q (F0 m pc' ls (st'.map (xv G))) → W p l e R s m args below meth c H locs cells slots Q (F0 m pc ls (st.map (xv G))))
    (k : XW M d mc ms pc' L st' h Post) : XW M d mc ms pc L st h Post := by
  intro p l e R s m args below meth c G Q H locs cells slots C1 S1 ls F P S E b hr
  exact row p l e R s m args below meth c G Q H locs cells slots ls F P S E (k p l e R s m args below meth c G Q H locs cells slots C1 S1 ls F P S E b hr)
theorem XW.row2 {pc1 pc2 : Nat} {st1 st2 : List Value} {c1 c2 : Prop}
    (row : ∀ (p : Program) (l : Launch) (e : Env) (R : Room) (s : State) (m : MethodId) (args : Array Value) (below : List Frame) (meth : Method) (c : Code) (G : xG) (Q : State → Prop) (H : Heap) (locs : List Loc) (cells slots : Nat) (ls : Array Slot),
      xF M d p R s m args meth c G → (c1 → W p l e R s m args below meth c H locs cells slots Q (F0 m pc1 ls (st1.map (xv G)))) → (c2 → W p l e R s m args below meth c H locs cells slots Q (F0 m pc2 ls (st2.map (xv G)))) → W p l e R s m args below meth c H locs cells slots Q (F0 m pc ls (st.map (xv G))))
    (k1 : c1 → XW M d mc ms pc1 L st1 h Post) (k2 : c2 → XW M d mc ms pc2 L st2 h Post) : XW M d mc ms pc L st h Post := by
  intro p l e R s m args below meth c G Q H locs cells slots C1 S1 ls F P S E b hr
  exact row p l e R s m args below meth c G Q H locs cells slots ls F (fun q => k1 q p l e R s m args below meth c G Q H locs cells slots C1 S1 ls F P S E b hr) (fun q => k2 q p l e R s m args below meth c G Q H locs cells slots C1 S1 ls F P S E b hr)
theorem XW.post {Post' : Option Value → xH → Prop} (k : XW M d mc ms pc L st h Post') (hp : ∀ r h', Post' r h' → Post r h') : XW M d mc ms pc L st h Post := by
  intro p l e R s m args below meth c G Q H locs cells slots C1 S1 ls F P S E b hr
  exact k p l e R s m args below meth c G Q H locs cells slots C1 S1 ls F P S E b (fun pc ls r h' H' locs' hP => hr pc ls r h' H' locs' (hp r h' hP))
theorem XW.eqs {L' : xL} {st' : List Value} {h' : xH} (e1 : L = L') (e2 : st = st') (e3 : h = h') (k : XW M d mc ms pc L' st' h' Post) : XW M d mc ms pc L st h Post := by
  subst e1; subst e2; subst e3; exact k
/-- fewer locals are known -/
def xle : xL → xL → Bool
  | [], _ => true
  | _ :: _, [] => false
  | none :: a, _ :: b => xle a b
  | some v :: a, some w :: b => decide (v = w) && xle a b
  | some _ :: _, none :: _ => false
theorem XW.weakP {L' : xL} (hl : ∀ (i : Nat) (v : Value), L'[i]? = some (some v) → L[i]? = some (some v)) (k : XW M d mc ms pc L' st h Post) : XW M d mc ms pc L st h Post := by
  intro p l e R s m args below meth c G Q H locs cells slots C1 S1 ls F P S E b hr
  exact k p l e R s m args below meth c G Q H locs cells slots C1 S1 ls F P S ⟨E.1, E.2.1, fun i v q => E.2.2 i v (hl i v q)⟩ b hr
/-- fewer locals, as a list of which to keep -/
def xkeep : List Bool → xL → xL
  | _, [] => []
  | [], L => L
  | true :: b, o :: L => o :: xkeep b L
  | false :: b, _ :: L => none :: xkeep b L
theorem xkeep_le : ∀ (b : List Bool) (L : xL) (i : Nat) (v : Value), (xkeep b L)[i]? = some (some v) → L[i]? = some (some v)
  | [], [], i, v, h => by simp [xkeep] at h
  | _ :: _, [], i, v, h => by simp [xkeep] at h
  | [], _ :: _, i, v, h => h
  | true :: b, o :: L, 0, v, h => h
  | false :: b, o :: L, 0, v, h => by simp [xkeep] at h
  | true :: b, o :: L, i + 1, v, h => by
    simp only [xkeep, List.getElem?_cons_succ] at h ⊢
    exact xkeep_le b L i v h
  | false :: b, o :: L, i + 1, v, h => by
    simp only [xkeep, List.getElem?_cons_succ] at h ⊢
    exact xkeep_le b L i v h
theorem XW.weak {L' : xL} (b : List Bool) (e : xkeep b L = L') (k : XW M d mc ms pc L' st h Post) : XW M d mc ms pc L st h Post := by
  subst e; exact XW.weakP (xkeep_le b L) k
-- constants
theorem XW.iconst (pc' : Nat) {n : Int} {v : Int32} (hd : decode M.2.1 pc = .ok (.iconst n, 1)) (hv : Int32.ofInt n = v) (hp : pc + 1 = pc') (k : XW M d mc ms pc' L (.int v :: st) h Post) : XW M d mc ms pc L st h Post := by
  subst hp; exact XW.row (fun p l e R s m args below meth c G Q H locs cells slots ls F P S E k => lv_iconst F.1 F.2.1 hd hv k) k
theorem XW.bipush (pc' : Nat) {n : Int} {v : Int32} (hd : decode M.2.1 pc = .ok (.bipush n, 2)) (hv : (Int8.ofInt n).toInt32 = v) (hp : pc + 2 = pc') (k : XW M d mc ms pc' L (.int v :: st) h Post) : XW M d mc ms pc L st h Post := by
  subst hp; exact XW.row (fun p l e R s m args below meth c G Q H locs cells slots ls F P S E k => lv_bipush F.1 F.2.1 hd hv k) k
theorem XW.sipush (pc' : Nat) {n : Int} {v : Int32} (hd : decode M.2.1 pc = .ok (.sipush n, 3)) (hv : (Int16.ofInt n).toInt32 = v) (hp : pc + 3 = pc') (k : XW M d mc ms pc' L (.int v :: st) h Post) : XW M d mc ms pc L st h Post := by
  subst hp; exact XW.row (fun p l e R s m args below meth c G Q H locs cells slots ls F P S E k => lv_sipush F.1 F.2.1 hd hv k) k
theorem XW.ldci (pc' : Nat) {i : Nat} {v : Int32} (hw : Jvm.Cond.constant M.1.cls i v ∈ lw_good) (hd : decode M.2.1 pc = .ok (.ldc i, 2)) (hp : pc + 2 = pc') (k : XW M d mc ms pc' L (.int v :: st) h Post) : XW M d mc ms pc L st h Post := by
  subst hp; exact XW.row (fun p l e R s m args below meth c G Q H locs cells slots ls F P S E k => lv_ldc F.1 F.2.1 F.2.2.2.1 (F.2.2.2.2.1 _ hw) hd k) k
theorem XW.ldcwi (pc' : Nat) {i : Nat} {v : Int32} (hw : Jvm.Cond.constant M.1.cls i v ∈ lw_good) (hd : decode M.2.1 pc = .ok (.ldc_w i, 3)) (hp : pc + 3 = pc') (k : XW M d mc ms pc' L (.int v :: st) h Post) : XW M d mc ms pc L st h Post := by
  subst hp; exact XW.row (fun p l e R s m args below meth c G Q H locs cells slots ls F P S E k => lv_ldcw F.1 F.2.1 F.2.2.2.1 (F.2.2.2.2.1 _ hw) hd k) k
theorem XW.ldcf (pc' : Nat) {i : Nat} {v : UInt32} (hw : Jvm.Cond.constantFloat M.1.cls i v ∈ lw_good) (hd : decode M.2.1 pc = .ok (.ldc i, 2)) (hp : pc + 2 = pc') (k : XW M d mc ms pc' L (.float v :: st) h Post) : XW M d mc ms pc L st h Post := by
  subst hp; exact XW.row (fun p l e R s m args below meth c G Q H locs cells slots ls F P S E k => lv_ldcf F.1 F.2.1 F.2.2.2.1 (F.2.2.2.2.1 _ hw) hd k) k
theorem XW.ldc2 (pc' : Nat) {i : Nat} {v : Int64} (hw : Jvm.Cond.constantLong M.1.cls i v ∈ lw_good) (hd : decode M.2.1 pc = .ok (.ldc2_w i, 3)) (hp : pc + 3 = pc') (k : XW M d mc ms pc' L (.long v :: st) h Post) : XW M d mc ms pc L st h Post := by
  subst hp; exact XW.row (fun p l e R s m args below meth c G Q H locs cells slots ls F P S E k => lv_ldc2 F.1 F.2.1 F.2.2.2.1 (F.2.2.2.2.1 _ hw) hd k) k
theorem XW.fconst0 (pc' : Nat) (hd : decode M.2.1 pc = .ok (.fconst 0, 1)) (hp : pc + 1 = pc') (k : XW M d mc ms pc' L (.float FP.fconst0 :: st) h Post) : XW M d mc ms pc L st h Post := by
  subst hp; exact XW.row (fun p l e R s m args below meth c G Q H locs cells slots ls F P S E k => lv_fconst0 F.1 F.2.1 hd k) k
theorem XW.fconst1 (pc' : Nat) (hd : decode M.2.1 pc = .ok (.fconst 1, 1)) (hp : pc + 1 = pc') (k : XW M d mc ms pc' L (.float FP.fconst1 :: st) h Post) : XW M d mc ms pc L st h Post := by
  subst hp; exact XW.row (fun p l e R s m args below meth c G Q H locs cells slots ls F P S E k => lv_fconst1 F.1 F.2.1 hd k) k
theorem XW.fconst2 (pc' : Nat) (hd : decode M.2.1 pc = .ok (.fconst 2, 1)) (hp : pc + 1 = pc') (k : XW M d mc ms pc' L (.float FP.fconst2 :: st) h Post) : XW M d mc ms pc L st h Post := by
  subst hp; exact XW.row (fun p l e R s m args below meth c G Q H locs cells slots ls F P S E k => lv_fconst2 F.1 F.2.1 hd k) k
-- loads
theorem XW.iload_n (pc' : Nat) {n : Fin 4} {x : Int32} (hd : decode M.2.1 pc = .ok (.iload_n n, 1)) (hl : L[(n : Nat)]? = some (some (.int x))) (hp : pc + 1 = pc') (k : XW M d mc ms pc' L (.int x :: st) h Post) : XW M d mc ms pc L st h Post := by
  subst hp; exact XW.row (fun p l e R s m args below meth c G Q H locs cells slots ls F P S E k => lv_iload_n F.1 F.2.1 hd rfl (E.2.2 _ _ hl) k) k
theorem XW.iload (pc' : Nat) {n : Nat} {x : Int32} (hd : decode M.2.1 pc = .ok (.iload n, 2)) (hl : L[n]? = some (some (.int x))) (hp : pc + 2 = pc') (k : XW M d mc ms pc' L (.int x :: st) h Post) : XW M d mc ms pc L st h Post := by
  subst hp; exact XW.row (fun p l e R s m args below meth c G Q H locs cells slots ls F P S E k => lv_iload F.1 F.2.1 hd (E.2.2 _ _ hl) k) k
theorem XW.fload_n (pc' : Nat) {n : Fin 4} {x : UInt32} (hd : decode M.2.1 pc = .ok (.fload_n n, 1)) (hl : L[(n : Nat)]? = some (some (.float x))) (hp : pc + 1 = pc') (k : XW M d mc ms pc' L (.float x :: st) h Post) : XW M d mc ms pc L st h Post := by
  subst hp; exact XW.row (fun p l e R s m args below meth c G Q H locs cells slots ls F P S E k => lv_fload_n F.1 F.2.1 hd rfl (E.2.2 _ _ hl) k) k
theorem XW.fload (pc' : Nat) {n : Nat} {x : UInt32} (hd : decode M.2.1 pc = .ok (.fload n, 2)) (hl : L[n]? = some (some (.float x))) (hp : pc + 2 = pc') (k : XW M d mc ms pc' L (.float x :: st) h Post) : XW M d mc ms pc L st h Post := by
  subst hp; exact XW.row (fun p l e R s m args below meth c G Q H locs cells slots ls F P S E k => lv_fload F.1 F.2.1 hd (E.2.2 _ _ hl) k) k
theorem XW.lload_n (pc' : Nat) {n : Fin 4} {x : Int64} (hd : decode M.2.1 pc = .ok (.lload_n n, 1)) (hl : L[(n : Nat)]? = some (some (.long x))) (hp : pc + 1 = pc') (k : XW M d mc ms pc' L (.long x :: st) h Post) : XW M d mc ms pc L st h Post := by
  subst hp; exact XW.row (fun p l e R s m args below meth c G Q H locs cells slots ls F P S E k => lv_lload_n F.1 F.2.1 hd rfl (E.2.2 _ _ hl) k) k
theorem XW.aload_n (pc' : Nat) {n : Fin 4} {x : Nat} (hd : decode M.2.1 pc = .ok (.aload_n n, 1)) (hl : L[(n : Nat)]? = some (some (.ref x))) (hp : pc + 1 = pc') (k : XW M d mc ms pc' L (.ref x :: st) h Post) : XW M d mc ms pc L st h Post := by
  subst hp; exact XW.row (fun p l e R s m args below meth c G Q H locs cells slots ls F P S E k => lv_aload_n F.1 F.2.1 hd rfl (E.2.2 _ _ hl) k) k
theorem XW.aload_s (pc' : Nat) {n : Fin 4} {x : Nat} (hd : decode M.2.1 pc = .ok (.aload_n n, 1)) (hl : L[(n : Nat)]? = some (some (.retAddr x))) (hp : pc + 1 = pc') (k : XW M d mc ms pc' L (.retAddr x :: st) h Post) : XW M d mc ms pc L st h Post := by
  subst hp; exact XW.row (fun p l e R s m args below meth c G Q H locs cells slots ls F P S E k => lv_aload_n F.1 F.2.1 hd rfl (E.2.2 _ _ hl) k) k
theorem XW.aload (pc' : Nat) {n : Nat} {x : Nat} (hd : decode M.2.1 pc = .ok (.aload n, 2)) (hl : L[n]? = some (some (.ref x))) (hp : pc + 2 = pc') (k : XW M d mc ms pc' L (.ref x :: st) h Post) : XW M d mc ms pc L st h Post := by
  subst hp; exact XW.row (fun p l e R s m args below meth c G Q H locs cells slots ls F P S E k => lv_aload F.1 F.2.1 hd (E.2.2 _ _ hl) k) k
end XRows
end
section
/-! The rows, on: stores, arithmetic, branches -/
section XRows2
variable {M : xM} {d mc ms pc : Nat} {L : xL} {st : List Value} {h : xH} {Post : Option Value → xH → Prop}
def xen (G : xG) (L : xL) : List (Nat × Value) := L.zipIdx.filterMap (fun q => q.1.map (fun v => (q.2, xv G v)))
theorem mem_xen {G : xG} {L : xL} {i : Nat} {w : Value} : (i, w) ∈ xen G L ↔ ∃ v, L[i]? = some (some v) ∧ w = xv G v := by
  unfold xen
  rw [List.mem_filterMap]
  constructor
  · rintro ⟨⟨o, j⟩, hm, hq⟩
    have hm := List.mem_zipIdx_iff_getElem?.mp hm
    cases o with
    | none => cases hq
    | some v =>
      simp only [Option.map_some, Option.some.injEq, Prod.mk.injEq] at hq
      obtain ⟨rfl, rfl⟩ := hq
      exact ⟨v, hm, rfl⟩
  · rintro ⟨v, hv, rfl⟩
    exact ⟨(some v, i), List.mem_zipIdx_iff_getElem?.mpr hv, rfl⟩
theorem xls_has {G : xG} {ls : Array Slot} {n : Nat} {L : xL} (E : xls G ls n L) : lv_has ls n (xen G L) := by
  refine ⟨E.1, E.2.1, fun q hq => ?_⟩
  obtain ⟨i, w⟩ := q
  obtain ⟨v, hv, rfl⟩ := mem_xen.mp hq
  exact E.2.2 i v hv
/-- no long or double stands ahead of this place -/
def xno2 (L : xL) (i : Nat) : Bool := match i with
  | 0 => true
  | j + 1 => match L[j]? with
    | some (some v) => v.category == 1
    | _ => true
theorem xv_cat (G : xG) (v : Value) : (xv G v).category = v.category := by cases v <;> rfl
theorem xls_set {G : xG} {ls' : Array Slot} {n i : Nat} {L : xL} {v : Value} (h2 : xno2 L i = true) (E : lv_has ls' n ((i, xv G v) :: (xen G L).filter (fun q => !(q.1 == i) && !(q.1 + 1 == i && q.2.category == 2)))) : xls G ls' n (L.set i (some v)) := by
  refine ⟨E.1, E.2.1, fun j w hw => ?_⟩
  rw [List.getElem?_set] at hw
  by_cases e : i = j
  · subst e
    rw [if_pos rfl] at hw
    by_cases l : i < L.length
    · rw [if_pos l] at hw
      cases hw
      exact E.2.2 (i, xv G v) List.mem_cons_self
    · rw [if_neg l] at hw
      cases hw
  · rw [if_neg e] at hw
    refine E.2.2 (j, xv G w) (List.mem_cons_of_mem _ (List.mem_filter.mpr ⟨mem_xen.mpr ⟨w, hw, rfl⟩, ?_⟩))
    have e1 : (j == i) = false := by simp; exact fun q => e q.symm
    simp only [e1, xv_cat]
    by_cases e2 : j + 1 = i
    · subst e2
      simp only [xno2, hw] at h2
      have h3 : w.category = 1 := by simpa using h2
      simp [h3]
    · simp [e2]
/-- a long takes two places -/
theorem xls_set2 {G : xG} {ls' : Array Slot} {n i : Nat} {L : xL} {v : Value} (h2 : xno2 L i = true) (E : lv_has ls' n ((i, xv G v) :: (xen G L).filter (fun q => !(q.1 == i) && (!(q.1 == i + 1) && !(q.1 + 1 == i && q.2.category == 2))))) : xls G ls' n ((L.set i (some v)).set (i + 1) none) := by
  refine ⟨E.1, E.2.1, fun j w hw => ?_⟩
  rw [List.getElem?_set, List.getElem?_set] at hw
  by_cases f : i + 1 = j
  · rw [if_pos f] at hw
    split at hw <;> cases hw
  · rw [if_neg f] at hw
    by_cases e : i = j
    · subst e
      rw [if_pos rfl] at hw
      by_cases l : i < L.length
      · rw [if_pos l] at hw
        cases hw
        exact E.2.2 (i, xv G v) List.mem_cons_self
      · rw [if_neg l] at hw
        cases hw
    · rw [if_neg e] at hw
      refine E.2.2 (j, xv G w) (List.mem_cons_of_mem _ (List.mem_filter.mpr ⟨mem_xen.mpr ⟨w, hw, rfl⟩, ?_⟩))
      have e1 : (j == i) = false := by simp; exact fun q => e q.symm
      have e3 : (j == i + 1) = false := by simp; exact fun q => f q.symm
      simp only [e1, e3, xv_cat]
      by_cases e2 : j + 1 = i
      · subst e2
        simp only [xno2, hw] at h2
        have h3 : w.category = 1 := by simpa using h2
        simp [h3]
      · simp [e2]
theorem XW.rowL {pc' : Nat} {st' : List Value} {L' : xL}
    (row : ∀ (p : Program) (l : Launch) (e : Env) (R : Room) (s : State) (m : MethodId) (args : Array Value) (below : List Frame) (meth : Method) (c : Code) (G : xG) (Q : State → Prop) (H : Heap) (locs : List Loc) (cells slots : Nat) (ls : Array Slot),
      xF M d p R s m args meth c G → xls G ls M.2.2.1 L → (∀ ls' : Array Slot, xls G ls' M.2.2.1 L' → W p l e R s m args below meth c H locs cells slots Q (F0 m pc' ls' (st'.map (xv G)))) → W p l e R s m args below meth c H locs cells slots Q (F0 m pc ls (st.map (xv G))))
    (k : XW M d mc ms pc' L' st' h Post) : XW M d mc ms pc L st h Post := by
  intro p l e R s m args below meth c G Q H locs cells slots C1 S1 ls F P S E b hr
  exact row p l e R s m args below meth c G Q H locs cells slots ls F E (fun ls' E' => k p l e R s m args below meth c G Q H locs cells slots C1 S1 ls' F P S E' b hr)

theorem XW.istore_n (pc' : Nat) {n : Fin 4} {x : Int32} {L' : xL} (hd : decode M.2.1 pc = .ok (.istore_n n, 1)) (hn : (n : Nat) < M.2.2.1) (h2 : xno2 L (n : Nat) = true) (hl : L.set (n : Nat) (some (.int x)) = L') (hp : pc + 1 = pc') (k : XW M d mc ms pc' L' st h Post) : XW M d mc ms pc L (.int x :: st) h Post := by
  subst hp; subst hl; exact XW.rowL (fun p l e R s m args below meth c G Q H locs cells slots ls F E k => lv_istore_n F.1 F.2.1 hd rfl (xls_has E) hn rfl (fun ls' E' => k ls' (xls_set (v := .int x) h2 E'))) k
theorem XW.istore (pc' : Nat) {n : Nat} {x : Int32} {L' : xL} (hd : decode M.2.1 pc = .ok (.istore n, 2)) (hn : n < M.2.2.1) (h2 : xno2 L n = true) (hl : L.set n (some (.int x)) = L') (hp : pc + 2 = pc') (k : XW M d mc ms pc' L' st h Post) : XW M d mc ms pc L (.int x :: st) h Post := by
  subst hp; subst hl; exact XW.rowL (fun p l e R s m args below meth c G Q H locs cells slots ls F E k => lv_istore F.1 F.2.1 hd (xls_has E) hn rfl (fun ls' E' => k ls' (xls_set (v := .int x) h2 E'))) k
theorem XW.fstore_n (pc' : Nat) {n : Fin 4} {x : UInt32} {L' : xL} (hd : decode M.2.1 pc = .ok (.fstore_n n, 1)) (hn : (n : Nat) < M.2.2.1) (h2 : xno2 L (n : Nat) = true) (hl : L.set (n : Nat) (some (.float x)) = L') (hp : pc + 1 = pc') (k : XW M d mc ms pc' L' st h Post) : XW M d mc ms pc L (.float x :: st) h Post := by
  subst hp; subst hl; exact XW.rowL (fun p l e R s m args below meth c G Q H locs cells slots ls F E k => lv_fstore_n F.1 F.2.1 hd rfl (xls_has E) hn rfl (fun ls' E' => k ls' (xls_set (v := .float x) h2 E'))) k
theorem XW.fstore (pc' : Nat) {n : Nat} {x : UInt32} {L' : xL} (hd : decode M.2.1 pc = .ok (.fstore n, 2)) (hn : n < M.2.2.1) (h2 : xno2 L n = true) (hl : L.set n (some (.float x)) = L') (hp : pc + 2 = pc') (k : XW M d mc ms pc' L' st h Post) : XW M d mc ms pc L (.float x :: st) h Post := by
  subst hp; subst hl; exact XW.rowL (fun p l e R s m args below meth c G Q H locs cells slots ls F E k => lv_fstore F.1 F.2.1 hd (xls_has E) hn rfl (fun ls' E' => k ls' (xls_set (v := .float x) h2 E'))) k
theorem XW.astore_n (pc' : Nat) {n : Fin 4} {x : Nat} {L' : xL} (hd : decode M.2.1 pc = .ok (.astore_n n, 1)) (hn : (n : Nat) < M.2.2.1) (h2 : xno2 L (n : Nat) = true) (hl : L.set (n : Nat) (some (.ref x)) = L') (hp : pc + 1 = pc') (k : XW M d mc ms pc' L' st h Post) : XW M d mc ms pc L (.ref x :: st) h Post := by
  subst hp; subst hl; exact XW.rowL (fun p l e R s m args below meth c G Q H locs cells slots ls F E k => lv_astore_n F.1 F.2.1 hd rfl (xls_has E) hn rfl (fun ls' E' => k ls' (xls_set (v := .ref x) h2 E'))) k
theorem XW.lstore_n (pc' : Nat) {n : Fin 4} {x : Int64} {L' : xL} (hd : decode M.2.1 pc = .ok (.lstore_n n, 1)) (hn : (n : Nat) + 1 < M.2.2.1) (h2 : xno2 L (n : Nat) = true) (hl : (L.set (n : Nat) (some (.long x))).set ((n : Nat) + 1) none = L') (hp : pc + 1 = pc') (k : XW M d mc ms pc' L' st h Post) : XW M d mc ms pc L (.long x :: st) h Post := by
  subst hp; subst hl; exact XW.rowL (fun p l e R s m args below meth c G Q H locs cells slots ls F E k => lv_lstore_n F.1 F.2.1 hd rfl (xls_has E) hn rfl (fun ls' E' => k ls' (xls_set2 (v := .long x) h2 E'))) k
theorem XW.iinc (pc' : Nat) {n : Nat} {z : Int} {x y : Int32} {L' : xL} (hd : decode M.2.1 pc = .ok (.iinc n z, 3)) (hx : L[n]? = some (some (.int x))) (hv : x + Int32.ofInt z = y) (hn : n < M.2.2.1) (h2 : xno2 L n = true) (hl : L.set n (some (.int y)) = L') (hp : pc + 3 = pc') (k : XW M d mc ms pc' L' st h Post) : XW M d mc ms pc L st h Post := by
  subst hp; subst hl; subst hv
  refine XW.rowL (fun p l e R s m args below meth c G Q H locs cells slots ls F E k => ?_) k
  obtain ⟨k0, hk0⟩ := List.getElem?_of_mem (mem_xen.mpr ⟨_, hx, rfl⟩ : (n, xv G (.int x)) ∈ xen G L)
  exact lv_iinc F.1 F.2.1 hd (xls_has E) hk0 rfl hn rfl (fun ls' E' => k ls' (xls_set (v := .int (x + Int32.ofInt z)) h2 E'))
theorem XW.iadd (pc' : Nat) {x y : Int32} (hd : decode M.2.1 pc = .ok (.iadd, 1)) (hp : pc + 1 = pc') (k : XW M d mc ms pc' L (.int (x + y) :: st) h Post) : XW M d mc ms pc L (.int y :: .int x :: st) h Post := by
  subst hp; exact XW.row (fun p l e R s m args below meth c G Q H locs cells slots ls F P S E k => lv_iadd F.1 F.2.1 hd k) k
theorem XW.isub (pc' : Nat) {x y : Int32} (hd : decode M.2.1 pc = .ok (.isub, 1)) (hp : pc + 1 = pc') (k : XW M d mc ms pc' L (.int (x - y) :: st) h Post) : XW M d mc ms pc L (.int y :: .int x :: st) h Post := by
  subst hp; exact XW.row (fun p l e R s m args below meth c G Q H locs cells slots ls F P S E k => lv_isub F.1 F.2.1 hd k) k
theorem XW.imul (pc' : Nat) {x y : Int32} (hd : decode M.2.1 pc = .ok (.imul, 1)) (hp : pc + 1 = pc') (k : XW M d mc ms pc' L (.int (x * y) :: st) h Post) : XW M d mc ms pc L (.int y :: .int x :: st) h Post := by
  subst hp; exact XW.row (fun p l e R s m args below meth c G Q H locs cells slots ls F P S E k => lv_imul F.1 F.2.1 hd k) k
theorem XW.iand (pc' : Nat) {x y : Int32} (hd : decode M.2.1 pc = .ok (.iand, 1)) (hp : pc + 1 = pc') (k : XW M d mc ms pc' L (.int (x &&& y) :: st) h Post) : XW M d mc ms pc L (.int y :: .int x :: st) h Post := by
  subst hp; exact XW.row (fun p l e R s m args below meth c G Q H locs cells slots ls F P S E k => lv_iand F.1 F.2.1 hd k) k
theorem XW.ior (pc' : Nat) {x y : Int32} (hd : decode M.2.1 pc = .ok (.ior, 1)) (hp : pc + 1 = pc') (k : XW M d mc ms pc' L (.int (x ||| y) :: st) h Post) : XW M d mc ms pc L (.int y :: .int x :: st) h Post := by
  subst hp; exact XW.row (fun p l e R s m args below meth c G Q H locs cells slots ls F P S E k => lv_ior F.1 F.2.1 hd k) k
theorem XW.ixor (pc' : Nat) {x y : Int32} (hd : decode M.2.1 pc = .ok (.ixor, 1)) (hp : pc + 1 = pc') (k : XW M d mc ms pc' L (.int (x ^^^ y) :: st) h Post) : XW M d mc ms pc L (.int y :: .int x :: st) h Post := by
  subst hp; exact XW.row (fun p l e R s m args below meth c G Q H locs cells slots ls F P S E k => lv_ixor F.1 F.2.1 hd k) k
theorem XW.ishl (pc' : Nat) {x y : Int32} (hd : decode M.2.1 pc = .ok (.ishl, 1)) (hp : pc + 1 = pc') (k : XW M d mc ms pc' L (.int (x <<< (y &&& 31)) :: st) h Post) : XW M d mc ms pc L (.int y :: .int x :: st) h Post := by
  subst hp; exact XW.row (fun p l e R s m args below meth c G Q H locs cells slots ls F P S E k => lv_ishl F.1 F.2.1 hd k) k
theorem XW.ishr (pc' : Nat) {x y : Int32} (hd : decode M.2.1 pc = .ok (.ishr, 1)) (hp : pc + 1 = pc') (k : XW M d mc ms pc' L (.int (x >>> (y &&& 31)) :: st) h Post) : XW M d mc ms pc L (.int y :: .int x :: st) h Post := by
  subst hp; exact XW.row (fun p l e R s m args below meth c G Q H locs cells slots ls F P S E k => lv_ishr F.1 F.2.1 hd k) k
theorem XW.iushr (pc' : Nat) {x y : Int32} (hd : decode M.2.1 pc = .ok (.iushr, 1)) (hp : pc + 1 = pc') (k : XW M d mc ms pc' L (.int (x.toUInt32 >>> (y.toUInt32 &&& Int32.toUInt32 31)).toInt32 :: st) h Post) : XW M d mc ms pc L (.int y :: .int x :: st) h Post := by
  subst hp; exact XW.row (fun p l e R s m args below meth c G Q H locs cells slots ls F P S E k => lv_iushr F.1 F.2.1 hd rfl k) k
theorem XW.ineg (pc' : Nat) {x : Int32} (hd : decode M.2.1 pc = .ok (.ineg, 1)) (hp : pc + 1 = pc') (k : XW M d mc ms pc' L (.int (-x) :: st) h Post) : XW M d mc ms pc L (.int x :: st) h Post := by
  subst hp; exact XW.row (fun p l e R s m args below meth c G Q H locs cells slots ls F P S E k => lv_ineg F.1 F.2.1 hd k) k
theorem XW.i2l (pc' : Nat) {x : Int32} (hd : decode M.2.1 pc = .ok (.i2l, 1)) (hp : pc + 1 = pc') (k : XW M d mc ms pc' L (.long x.toInt64 :: st) h Post) : XW M d mc ms pc L (.int x :: st) h Post := by
  subst hp; exact XW.row (fun p l e R s m args below meth c G Q H locs cells slots ls F P S E k => lv_i2l F.1 F.2.1 hd rfl k) k
theorem XW.ladd (pc' : Nat) {x y : Int64} (hd : decode M.2.1 pc = .ok (.ladd, 1)) (hp : pc + 1 = pc') (k : XW M d mc ms pc' L (.long (x + y) :: st) h Post) : XW M d mc ms pc L (.long y :: .long x :: st) h Post := by
  subst hp; exact XW.row (fun p l e R s m args below meth c G Q H locs cells slots ls F P S E k => lv_ladd F.1 F.2.1 hd k) k
theorem XW.lmul (pc' : Nat) {x y : Int64} (hd : decode M.2.1 pc = .ok (.lmul, 1)) (hp : pc + 1 = pc') (k : XW M d mc ms pc' L (.long (x * y) :: st) h Post) : XW M d mc ms pc L (.long y :: .long x :: st) h Post := by
  subst hp; exact XW.row (fun p l e R s m args below meth c G Q H locs cells slots ls F P S E k => lv_lmul F.1 F.2.1 hd k) k
theorem XW.lcmp (pc' : Nat) {x y : Int64} (hd : decode M.2.1 pc = .ok (.lcmp, 1)) (hp : pc + 1 = pc') (k : XW M d mc ms pc' L (.int (lg_cmp x y) :: st) h Post) : XW M d mc ms pc L (.long y :: .long x :: st) h Post := by
  subst hp; exact XW.row (fun p l e R s m args below meth c G Q H locs cells slots ls F P S E k => W.lcmp F.1 F.2.1 hd k) k
theorem XW.fadd (pc' : Nat) {x y : UInt32} (hd : decode M.2.1 pc = .ok (.fadd, 1)) (hn : vf_n32 (FP.fadd x y)) (hp : pc + 1 = pc') (k : XW M d mc ms pc' L (.float (FP.fadd x y) :: st) h Post) : XW M d mc ms pc L (.float y :: .float x :: st) h Post := by
  subst hp; exact XW.row (fun p l e R s m args below meth c G Q H locs cells slots ls F P S E k => lv_fadd F.1 F.2.1 hd hn k) k
theorem XW.fsub (pc' : Nat) {x y : UInt32} (hd : decode M.2.1 pc = .ok (.fsub, 1)) (hn : vf_n32 (FP.fsub x y)) (hp : pc + 1 = pc') (k : XW M d mc ms pc' L (.float (FP.fsub x y) :: st) h Post) : XW M d mc ms pc L (.float y :: .float x :: st) h Post := by
  subst hp; exact XW.row (fun p l e R s m args below meth c G Q H locs cells slots ls F P S E k => lv_fsub F.1 F.2.1 hd hn k) k
theorem XW.fmul (pc' : Nat) {x y : UInt32} (hd : decode M.2.1 pc = .ok (.fmul, 1)) (hn : vf_n32 (FP.fmul x y)) (hp : pc + 1 = pc') (k : XW M d mc ms pc' L (.float (FP.fmul x y) :: st) h Post) : XW M d mc ms pc L (.float y :: .float x :: st) h Post := by
  subst hp; exact XW.row (fun p l e R s m args below meth c G Q H locs cells slots ls F P S E k => lv_fmul F.1 F.2.1 hd hn k) k
theorem XW.fdiv (pc' : Nat) {x y : UInt32} (hd : decode M.2.1 pc = .ok (.fdiv, 1)) (hn : vf_n32 (FP.fdiv x y)) (hp : pc + 1 = pc') (k : XW M d mc ms pc' L (.float (FP.fdiv x y) :: st) h Post) : XW M d mc ms pc L (.float y :: .float x :: st) h Post := by
  subst hp; exact XW.row (fun p l e R s m args below meth c G Q H locs cells slots ls F P S E k => lv_fdiv F.1 F.2.1 hd hn k) k
theorem XW.fneg (pc' : Nat) {x : UInt32} (hd : decode M.2.1 pc = .ok (.fneg, 1)) (hp : pc + 1 = pc') (k : XW M d mc ms pc' L (.float (FP.fneg x) :: st) h Post) : XW M d mc ms pc L (.float x :: st) h Post := by
  subst hp; exact XW.row (fun p l e R s m args below meth c G Q H locs cells slots ls F P S E k => lv_fneg F.1 F.2.1 hd k) k
theorem XW.fcmp (pc' : Nat) {x y : UInt32} {op : CmpOp} (hd : decode M.2.1 pc = .ok (.fcmp op, 1)) (hp : pc + 1 = pc') (k : XW M d mc ms pc' L (.int (Op.cmpValue (FP.fcmp x y) op) :: st) h Post) : XW M d mc ms pc L (.float y :: .float x :: st) h Post := by
  subst hp; exact XW.row (fun p l e R s m args below meth c G Q H locs cells slots ls F P S E k => lv_fcmp F.1 F.2.1 hd k) k
theorem XW.i2f (pc' : Nat) {x : Int32} (hd : decode M.2.1 pc = .ok (.i2f, 1)) (hp : pc + 1 = pc') (k : XW M d mc ms pc' L (.float (FP.i2f x) :: st) h Post) : XW M d mc ms pc L (.int x :: st) h Post := by
  subst hp; exact XW.row (fun p l e R s m args below meth c G Q H locs cells slots ls F P S E k => lv_i2f F.1 F.2.1 hd k) k
theorem XW.f2i (pc' : Nat) {x : UInt32} (hd : decode M.2.1 pc = .ok (.f2i, 1)) (hp : pc + 1 = pc') (k : XW M d mc ms pc' L (.int (FP.f2i x) :: st) h Post) : XW M d mc ms pc L (.float x :: st) h Post := by
  subst hp; exact XW.row (fun p l e R s m args below meth c G Q H locs cells slots ls F P S E k => lv_f2i F.1 F.2.1 hd k) k
theorem XW.dup (pc' : Nat) {v : Value} (hd : decode M.2.1 pc = .ok (.dup, 1)) (hv : v.category = 1) (hp : pc + 1 = pc') (k : XW M d mc ms pc' L (v :: v :: st) h Post) : XW M d mc ms pc L (v :: st) h Post := by
  subst hp; exact XW.row (fun p l e R s m args below meth c G Q H locs cells slots ls F P S E k => lv_dup F.1 F.2.1 hd ((xv_cat G v).trans hv) k) k
theorem XW.pop (pc' : Nat) {v : Value} (hd : decode M.2.1 pc = .ok (.pop, 1)) (hv : v.category = 1) (hp : pc + 1 = pc') (k : XW M d mc ms pc' L st h Post) : XW M d mc ms pc L (v :: st) h Post := by
  subst hp; exact XW.row (fun p l e R s m args below meth c G Q H locs cells slots ls F P S E k => lv_pop F.1 F.2.1 hd ((xv_cat G v).trans hv) k) k
theorem XW.dup2 (pc' : Nat) {v w : Value} (hd : decode M.2.1 pc = .ok (.dup2, 1)) (hv : v.category = 1) (hw : w.category = 1) (hp : pc + 1 = pc') (k : XW M d mc ms pc' L (v :: w :: v :: w :: st) h Post) : XW M d mc ms pc L (v :: w :: st) h Post := by
  subst hp; exact XW.row (fun p l e R s m args below meth c G Q H locs cells slots ls F P S E k => lv_dup2_11 F.1 F.2.1 hd ((xv_cat G v).trans hv) ((xv_cat G w).trans hw) k) k
theorem XW.if_eq (t f : Nat) {x : Int32} {off : Int} (hd : decode M.2.1 pc = .ok (.ifCond .eq off, 3)) (ht : (pc : Int) + off = (t : Int)) (hp : pc + 3 = f) (kt : x = 0 → XW M d mc ms t L st h Post) (kf : ¬ x = 0 → XW M d mc ms f L st h Post) : XW M d mc ms pc L (.int x :: st) h Post := by
  subst hp; exact XW.row2 (fun p l e R s m args below meth c G Q H locs cells slots ls F k1 k2 => lv_if_eq F.1 F.2.1 hd ht k1 k2) kt kf
theorem XW.icmp_eq (t f : Nat) {x y : Int32} {off : Int} (hd : decode M.2.1 pc = .ok (.if_icmp .eq off, 3)) (ht : (pc : Int) + off = (t : Int)) (hp : pc + 3 = f) (kt : x = y → XW M d mc ms t L st h Post) (kf : ¬ x = y → XW M d mc ms f L st h Post) : XW M d mc ms pc L (.int y :: .int x :: st) h Post := by
  subst hp; exact XW.row2 (fun p l e R s m args below meth c G Q H locs cells slots ls F k1 k2 => lv_icmp_eq F.1 F.2.1 hd ht k1 k2) kt kf
theorem XW.if_ne (t f : Nat) {x : Int32} {off : Int} (hd : decode M.2.1 pc = .ok (.ifCond .ne off, 3)) (ht : (pc : Int) + off = (t : Int)) (hp : pc + 3 = f) (kt : ¬ x = 0 → XW M d mc ms t L st h Post) (kf : x = 0 → XW M d mc ms f L st h Post) : XW M d mc ms pc L (.int x :: st) h Post := by
  subst hp; exact XW.row2 (fun p l e R s m args below meth c G Q H locs cells slots ls F k1 k2 => lv_if_ne F.1 F.2.1 hd ht k1 k2) kt kf
theorem XW.icmp_ne (t f : Nat) {x y : Int32} {off : Int} (hd : decode M.2.1 pc = .ok (.if_icmp .ne off, 3)) (ht : (pc : Int) + off = (t : Int)) (hp : pc + 3 = f) (kt : ¬ x = y → XW M d mc ms t L st h Post) (kf : x = y → XW M d mc ms f L st h Post) : XW M d mc ms pc L (.int y :: .int x :: st) h Post := by
  subst hp; exact XW.row2 (fun p l e R s m args below meth c G Q H locs cells slots ls F k1 k2 => lv_icmp_ne F.1 F.2.1 hd ht k1 k2) kt kf
theorem XW.if_lt (t f : Nat) {x : Int32} {off : Int} (hd : decode M.2.1 pc = .ok (.ifCond .lt off, 3)) (ht : (pc : Int) + off = (t : Int)) (hp : pc + 3 = f) (kt : x < 0 → XW M d mc ms t L st h Post) (kf : ¬ x < 0 → XW M d mc ms f L st h Post) : XW M d mc ms pc L (.int x :: st) h Post := by
  subst hp; exact XW.row2 (fun p l e R s m args below meth c G Q H locs cells slots ls F k1 k2 => lv_if_lt F.1 F.2.1 hd ht k1 k2) kt kf
theorem XW.icmp_lt (t f : Nat) {x y : Int32} {off : Int} (hd : decode M.2.1 pc = .ok (.if_icmp .lt off, 3)) (ht : (pc : Int) + off = (t : Int)) (hp : pc + 3 = f) (kt : x < y → XW M d mc ms t L st h Post) (kf : ¬ x < y → XW M d mc ms f L st h Post) : XW M d mc ms pc L (.int y :: .int x :: st) h Post := by
  subst hp; exact XW.row2 (fun p l e R s m args below meth c G Q H locs cells slots ls F k1 k2 => lv_icmp_lt F.1 F.2.1 hd ht k1 k2) kt kf
theorem XW.if_ge (t f : Nat) {x : Int32} {off : Int} (hd : decode M.2.1 pc = .ok (.ifCond .ge off, 3)) (ht : (pc : Int) + off = (t : Int)) (hp : pc + 3 = f) (kt : 0 ≤ x → XW M d mc ms t L st h Post) (kf : ¬ 0 ≤ x → XW M d mc ms f L st h Post) : XW M d mc ms pc L (.int x :: st) h Post := by
  subst hp; exact XW.row2 (fun p l e R s m args below meth c G Q H locs cells slots ls F k1 k2 => lv_if_ge F.1 F.2.1 hd ht k1 k2) kt kf
theorem XW.icmp_ge (t f : Nat) {x y : Int32} {off : Int} (hd : decode M.2.1 pc = .ok (.if_icmp .ge off, 3)) (ht : (pc : Int) + off = (t : Int)) (hp : pc + 3 = f) (kt : y ≤ x → XW M d mc ms t L st h Post) (kf : ¬ y ≤ x → XW M d mc ms f L st h Post) : XW M d mc ms pc L (.int y :: .int x :: st) h Post := by
  subst hp; exact XW.row2 (fun p l e R s m args below meth c G Q H locs cells slots ls F k1 k2 => lv_icmp_ge F.1 F.2.1 hd ht k1 k2) kt kf
theorem XW.if_gt (t f : Nat) {x : Int32} {off : Int} (hd : decode M.2.1 pc = .ok (.ifCond .gt off, 3)) (ht : (pc : Int) + off = (t : Int)) (hp : pc + 3 = f) (kt : 0 < x → XW M d mc ms t L st h Post) (kf : ¬ 0 < x → XW M d mc ms f L st h Post) : XW M d mc ms pc L (.int x :: st) h Post := by
  subst hp; exact XW.row2 (fun p l e R s m args below meth c G Q H locs cells slots ls F k1 k2 => lv_if_gt F.1 F.2.1 hd ht k1 k2) kt kf
theorem XW.icmp_gt (t f : Nat) {x y : Int32} {off : Int} (hd : decode M.2.1 pc = .ok (.if_icmp .gt off, 3)) (ht : (pc : Int) + off = (t : Int)) (hp : pc + 3 = f) (kt : y < x → XW M d mc ms t L st h Post) (kf : ¬ y < x → XW M d mc ms f L st h Post) : XW M d mc ms pc L (.int y :: .int x :: st) h Post := by
  subst hp; exact XW.row2 (fun p l e R s m args below meth c G Q H locs cells slots ls F k1 k2 => lv_icmp_gt F.1 F.2.1 hd ht k1 k2) kt kf
theorem XW.if_le (t f : Nat) {x : Int32} {off : Int} (hd : decode M.2.1 pc = .ok (.ifCond .le off, 3)) (ht : (pc : Int) + off = (t : Int)) (hp : pc + 3 = f) (kt : x ≤ 0 → XW M d mc ms t L st h Post) (kf : ¬ x ≤ 0 → XW M d mc ms f L st h Post) : XW M d mc ms pc L (.int x :: st) h Post := by
  subst hp; exact XW.row2 (fun p l e R s m args below meth c G Q H locs cells slots ls F k1 k2 => lv_if_le F.1 F.2.1 hd ht k1 k2) kt kf
theorem XW.icmp_le (t f : Nat) {x y : Int32} {off : Int} (hd : decode M.2.1 pc = .ok (.if_icmp .le off, 3)) (ht : (pc : Int) + off = (t : Int)) (hp : pc + 3 = f) (kt : x ≤ y → XW M d mc ms t L st h Post) (kf : ¬ x ≤ y → XW M d mc ms f L st h Post) : XW M d mc ms pc L (.int y :: .int x :: st) h Post := by
  subst hp; exact XW.row2 (fun p l e R s m args below meth c G Q H locs cells slots ls F k1 k2 => lv_icmp_le F.1 F.2.1 hd ht k1 k2) kt kf
theorem XW.goto (t : Nat) {off : Int} (hd : decode M.2.1 pc = .ok (.goto off, 3)) (ht : (pc : Int) + off = (t : Int)) (k : XW M d mc ms t L st h Post) : XW M d mc ms pc L st h Post := XW.row (fun p l e R s m args below meth c G Q H locs cells slots ls F P S E k => lv_goto F.1 F.2.1 hd ht k) k
theorem XW.tableIn (t : Nat) {df lo hi : Int} {offs : Array Int} {len : Nat} {x : Int32} {off : Int} (hd : decode M.2.1 pc = .ok (.tableswitch df lo hi offs, len)) (h1 : ¬ x.toInt < lo) (h2 : ¬ hi < x.toInt) (ho : offs[(x.toInt - lo).toNat]? = some off) (ht : (pc : Int) + off = (t : Int)) (k : XW M d mc ms t L st h Post) : XW M d mc ms pc L (.int x :: st) h Post := XW.row (fun p l e R s m args below meth c G Q H locs cells slots ls F P S E k => lv_tableIn F.1 F.2.1 hd h1 h2 ho ht k) k
theorem XW.tableOut (t : Nat) {df lo hi : Int} {offs : Array Int} {len : Nat} {x : Int32} (hd : decode M.2.1 pc = .ok (.tableswitch df lo hi offs, len)) (h1 : x.toInt < lo ∨ hi < x.toInt) (ht : (pc : Int) + df = (t : Int)) (k : XW M d mc ms t L st h Post) : XW M d mc ms pc L (.int x :: st) h Post := XW.row (fun p l e R s m args below meth c G Q H locs cells slots ls F P S E k => lv_tableOut F.1 F.2.1 hd h1 ht k) k
theorem XW.lookup (t : Nat) {df : Int} {ps : Array (Int × Int)} {len : Nat} {x : Int32} {off : Int} (hd : decode M.2.1 pc = .ok (.lookupswitch df ps, len)) (hq : (ps.toList.zip (ps.toList.drop 1)).all (fun (a, next) => a.1 < next.1) = true) (ho : Op.lookupswitch.offset ps.toList df x.toInt = off) (ht : (pc : Int) + off = (t : Int)) (k : XW M d mc ms t L st h Post) : XW M d mc ms pc L (.int x :: st) h Post := XW.row (fun p l e R s m args below meth c G Q H locs cells slots ls F P S E k => lv_lookup F.1 F.2.1 hd hq ho ht k) k
end XRows2
end
section
/-! The rows, on: fields, arrays, making -/
section XRows3
variable {M : xM} {d mc ms pc : Nat} {L : xL} {st : List Value} {h : xH} {Post : Option Value → xH → Prop}
/-- a field's link: in the class itself, or of a nest mate -/
def xFd (own : String) (idx ci j : Nat) : Prop := ∃ (C : String) (T : u_T) (N : Nat), vwCl[ci]? = some (C, T, N) ∧ (∀ w ∈ u_ws C T N, w ∈ lw_good) ∧ j < N ∧ (Cond.fieldLink own idx (T j).1 (T j).2.1 (T j).2.2.1 ∈ lw_good ∨ Cond.fieldLinkNest own idx (T j).1 (T j).2.1 (T j).2.2.1 RX3 ∈ lw_nest)
theorem XW.getf (pc' : Nat) {idx ci j o : Nat} {fs : List Value} {v : Value} (hw : xFd M.1.cls idx ci j) (hd : decode M.2.1 pc = .ok (.getfield idx, 3)) (hh : h[o]? = some (.inr (ci, fs))) (hv : fs[j]? = some v) (hp : pc + 3 = pc') (k : XW M d mc ms pc' L (v :: st) h Post) : XW M d mc ms pc L (.ref o :: st) h Post := by
  subst hp
  obtain ⟨C, T, N, hc, hin, hj, hl⟩ := hw
  refine XW.row (fun p l e R s m args below meth c G Q H locs cells slots ls F P S E k => ?_) k
  have hv' : (fs.map (xv G))[j]? = some (xv G v) := by rw [List.getElem?_map, hv]; rfl
  rcases hl with hl | hl
  · exact va_get F.1 F.2.1 F.2.2.2.2.1 hin F.2.2.2.1 F.2.2.2.2.2.1.1 P o (xw_get hh) hc j hj (F.2.2.2.2.1 _ hl) (fun _ h9 => h9) hv' hd k
  · exact va_getN F.1 F.2.1 F.2.2.2.2.1 hin F.2.2.2.1 F.2.2.2.2.2.1.1 P o (xw_get hh) hc j hj ((F.2.2.2.2.2.1.2.1 _ hl).use rfl) (fun _ h9 => h9) hv' hd k
theorem XW.rowH {pc' : Nat} {st' : List Value} {h' : xH} (hl : h'.length = h.length)
    (row : ∀ (p : Program) (l : Launch) (e : Env) (R : Room) (s : State) (m : MethodId) (args : Array Value) (below : List Frame) (meth : Method) (c : Code) (G : xG) (Q : State → Prop) (H : Heap) (locs : List Loc) (cells slots : Nat) (ls : Array Slot),
      xF M d p R s m args meth c G → xP G h H → va_S (xA G) s.heap H locs → xls G ls M.2.2.1 L → (∀ (H1 : Heap) (locs1 : List Loc), xP G h' H1 → va_S (xA G) s.heap H1 locs1 → W p l e R s m args below meth c H1 locs1 cells slots Q (F0 m pc' ls (st'.map (xv G)))) → W p l e R s m args below meth c H locs cells slots Q (F0 m pc ls (st.map (xv G))))
    (k : XW M d mc ms pc' L st' h' Post) : XW M d mc ms pc L st h Post := by
  intro p l e R s m args below meth c G Q H locs cells slots C1 S1 ls F P S E b hr
  exact row p l e R s m args below meth c G Q H locs cells slots ls F P S E (fun H1 locs1 P1 S1' => k p l e R s m args below meth c G Q H1 locs1 cells slots C1 S1 ls F P1 S1' E ⟨b.1, b.2.1, b.2.2.1, b.2.2.2.1, by rw [hl]; exact b.2.2.2.2⟩ hr)
theorem xe_set (G : xG) (ci j : Nat) (fs : List Value) (v : Value) : xe G (.inr (ci, fs.set j v)) = .inr (ci, (fs.map (xv G)).set j (xv G v)) := by
  show Sum.inr (ci, (fs.set j v).map (xv G)) = _
  rw [List.map_set]
/-- a value that a field of this type takes -/
def xfit (ty : FieldType) (v : Value) : Prop := ∀ G : xG, narrow ty (xv G v) = xv G v ∧ fits ty (xv G v) = true
theorem xfit_i (x : Int32) : xfit .int (.int x) := fun _ => ⟨rfl, rfl⟩
theorem xfit_l (x : Int64) : xfit .long (.long x) := fun _ => ⟨rfl, rfl⟩
theorem xfit_a (t : FieldType) (x : Nat) : xfit (.array t) (.ref x) := fun _ => ⟨rfl, rfl⟩
theorem xfit_o (t : String) (x : Nat) : xfit (.object t) (.ref x) := fun _ => ⟨rfl, rfl⟩
/-- a field that may be written: not final, or final and its class's own, in a constructor -/
def xFp (own name : String) (idx ci j : Nat) (ty : FieldType) : Prop := ∃ (C : String) (T : u_T) (N : Nat) (ty0 : Nat → FieldType), vwCl[ci]? = some (C, T, N) ∧ (∀ w ∈ u_ws C T N, w ∈ lw_good) ∧ j < N ∧ (∀ k, k < N → parseFieldDescriptor (T k).2.2.1 = some (ty0 k)) ∧ (∀ a, a < N → ∀ b, b < N → a ≠ b → (T a).2.1 ≠ (T b).2.1) ∧ parseFieldDescriptor (T j).2.2.1 = some ty ∧
  (((T j).2.2.2 = false ∧ Cond.fieldLink own idx (T j).1 (T j).2.1 (T j).2.2.1 ∈ lw_good) ∨ ((T j).2.2.2 = false ∧ Cond.fieldLinkNest own idx (T j).1 (T j).2.1 (T j).2.2.1 RX3 ∈ lw_nest) ∨ ((T j).2.2.2 = true ∧ (T j).1 = own ∧ name = "<init>" ∧ Cond.fieldLink own idx (T j).1 (T j).2.1 (T j).2.2.1 ∈ lw_good))
theorem XW.putf (pc' : Nat) {idx ci j o : Nat} {fs : List Value} {v : Value} {ty : FieldType} {h' : xH} (hw : xFp M.1.cls M.1.name idx ci j ty) (hd : decode M.2.1 pc = .ok (.putfield idx, 3)) (hh : h[o]? = some (.inr (ci, fs))) (hj : j < fs.length) (hf : xfit ty v) (he : h.set o (.inr (ci, fs.set j v)) = h') (hp : pc + 3 = pc') (k : XW M d mc ms pc' L st h' Post) : XW M d mc ms pc L (v :: .ref o :: st) h Post := by
  subst hp; subst he
  obtain ⟨C, T, N, ty0, hc, hin, hjN, hty, hnm, hpd, hl⟩ := hw
  refine XW.rowH (by rw [List.length_set]) (fun p l e R s m args below meth c G Q H locs cells slots ls F P S E k => ?_) k
  have hl0 : j < (fs.map (xv G)).length := by rw [List.length_map]; exact hj
  have fin : ∀ (H1 : Heap) (locs1 : List Loc), va_P G.1 vwCl ((xw G h).set o (G.2.2.1 + o, .inr (ci, (fs.map (xv G)).set j (xv G v)))) H1 → va_D (xA G) ((xw G h).set o (G.2.2.1 + o, .inr (ci, (fs.map (xv G)).set j (xv G v)))) → va_S (xA G) s.heap H1 locs1 → W p l e R s m args below meth c H1 locs1 cells slots Q (F0 m (pc + 3) ls (st.map (xv G))) := by
    intro H1 locs1 hP _ hS
    rw [← xe_set, xw_set] at hP
    exact k H1 locs1 hP hS
  rcases hl with ⟨hfn, hl⟩ | ⟨hfn, hl⟩ | ⟨hfn, hdc, hin2, hl⟩
  · exact va_put F.1 F.2.1 F.2.2.2.2.1 hin ty0 hty hnm F.2.2.2.1 F.2.2.2.2.2.1.1 P (xw_D G h) S o (xw_get hh) hc j hjN (F.2.2.2.2.1 _ hl) (fun _ h9 => h9) hfn hpd (hf G).1 (hf G).2 hl0 hd fin
  · exact va_putN F.1 F.2.1 F.2.2.2.2.1 hin ty0 hty hnm F.2.2.2.1 F.2.2.2.2.2.1.1 P (xw_D G h) S o (xw_get hh) hc j hjN ((F.2.2.2.2.2.1.2.1 _ hl).use rfl) (fun _ h9 => h9) hfn hpd (hf G).1 (hf G).2 hl0 hd fin
  · exact va_putF F.1 F.2.1 F.2.2.2.2.1 hin ty0 hty hnm F.2.2.2.1 F.2.2.2.2.2.1.1 P (xw_D G h) S o (xw_get hh) hc j hjN (F.2.2.2.2.1 _ hl) (fun _ h9 => h9) hfn (F.2.2.2.2.2.2.2.1.trans hin2) hdc hpd (hf G).1 (hf G).2 hl0 hd fin
-- arrays
theorem xP_set {G : xG} {h : xH} {H1 : Heap} {o : Nat} {c : xC} (hP : va_P G.1 vwCl ((xw G h).set o (G.2.2.1 + o, xe G c)) H1) : xP G (h.set o c) H1 := by
  rw [xw_set] at hP; exact hP
theorem XW.iald (pc' : Nat) {o n : Nat} {f : Nat → Int32} {i : Int32} (j : Nat) (hd : decode M.2.1 pc = .ok (.iaload, 1)) (hh : h[o]? = some (.inl (n, .inl f))) (hi : i = nI j) (hj : j < n) (hn : n < 2 ^ 31) (hp : pc + 1 = pc') (k : XW M d mc ms pc' L (.int (f j) :: st) h Post) : XW M d mc ms pc L (.int i :: .ref o :: st) h Post := by
  subst hp; subst hi
  have hc : (nI j).toNatClampNeg = j := nI_clamp (by omega)
  refine XW.row (fun p l e R s m args below meth c G Q H locs cells slots ls F P S E k => ?_) k
  refine va_iald (i := nI j) F.1 F.2.1 F.2.2.2.2.2.1.1 P o 0 (xw_get hh) rfl (vp_in_nI hj hn) hd ?_
  rw [hc]; exact k
theorem XW.sald (pc' : Nat) {x n : Nat} {f : Nat → Int32} {i : Int32} (j : Nat) (hm : M.2.2.2.2 = some (n, f)) (hd : decode M.2.1 pc = .ok (.iaload, 1)) (hi : i = nI j) (hj : j < n) (hn : n < 2 ^ 31) (hp : pc + 1 = pc') (k : XW M d mc ms pc' L (.int (f j) :: st) h Post) : XW M d mc ms pc L (.int i :: .retAddr x :: st) h Post := by
  subst hp; subst hi
  have hc : (nI j).toNatClampNeg = j := nI_clamp (by omega)
  refine XW.row (fun p l e R s m args below meth c G Q H locs cells slots ls F P S E k => ?_) k
  have hX := F.2.2.2.2.2.2.2.2.2.1
  unfold xX at hX
  rw [hm] at hX
  refine va_sld (i := nI j) F.1 F.2.1 hX.1 hX.2.1 (Nat.not_le.mpr hX.2.2) S (vp_in_nI hj hn) hd ?_
  rw [hc]; exact k
theorem XW.slen (pc' : Nat) {x n : Nat} {f : Nat → Int32} (hm : M.2.2.2.2 = some (n, f)) (hd : decode M.2.1 pc = .ok (.arraylength, 1)) (hp : pc + 1 = pc') (k : XW M d mc ms pc' L (.int (nI n) :: st) h Post) : XW M d mc ms pc L (.retAddr x :: st) h Post := by
  subst hp
  refine XW.row (fun p l e R s m args below meth c G Q H locs cells slots ls F P S E k => ?_) k
  have hX := F.2.2.2.2.2.2.2.2.2.1
  unfold xX at hX
  rw [hm] at hX
  exact va_slen F.1 F.2.1 hX.1 hX.2.1 (Nat.not_le.mpr hX.2.2) S hd k
theorem XW.fald (pc' : Nat) {o n : Nat} {f : Nat → UInt32} {i : Int32} (j : Nat) (hd : decode M.2.1 pc = .ok (.faload, 1)) (hh : h[o]? = some (.inl (n, .inr (.inr (.inl f))))) (hi : i = nI j) (hj : j < n) (hn : n < 2 ^ 31) (hp : pc + 1 = pc') (k : XW M d mc ms pc' L (.float (f j) :: st) h Post) : XW M d mc ms pc L (.int i :: .ref o :: st) h Post := by
  subst hp; subst hi
  have hc : (nI j).toNatClampNeg = j := nI_clamp (by omega)
  refine XW.row (fun p l e R s m args below meth c G Q H locs cells slots ls F P S E k => ?_) k
  refine va_fald (i := nI j) F.1 F.2.1 F.2.2.2.2.2.1.1 P o 1 (xw_get hh) rfl (vp_in_nI hj hn) hd ?_
  rw [hc]; exact k
theorem XW.aald (pc' : Nat) {o n q : Nat} {f : Nat → Option Nat} {i : Int32} (j : Nat) (hd : decode M.2.1 pc = .ok (.aaload, 1)) (hh : h[o]? = some (.inl (n, .inr (.inr (.inr (.inr f)))))) (hi : i = nI j) (hj : j < n) (hn : n < 2 ^ 31) (hq : f j = some q) (hp : pc + 1 = pc') (k : XW M d mc ms pc' L (.ref q :: st) h Post) : XW M d mc ms pc L (.int i :: .ref o :: st) h Post := by
  subst hp; subst hi
  have hc : (nI j).toNatClampNeg = j := nI_clamp (by omega)
  refine XW.row (fun p l e R s m args below meth c G Q H locs cells slots ls F P S E k => ?_) k
  refine va_aldq (i := nI j) F.1 F.2.1 F.2.2.2.2.2.1.1 P o 2 (xw_get hh) rfl (vp_in_nI hj hn) hd ?_
  rw [hc]
  simp only [hq, Option.map_some]
  exact k
theorem XW.alen (pc' : Nat) {o : Nat} {a : vp_A} {v : Int32} (hd : decode M.2.1 pc = .ok (.arraylength, 1)) (hh : h[o]? = some (.inl a)) (hv : Int32.ofNat a.1 = v) (hp : pc + 1 = pc') (k : XW M d mc ms pc' L (.int v :: st) h Post) : XW M d mc ms pc L (.ref o :: st) h Post := by
  subst hp; subst hv
  refine XW.row (fun p l e R s m args below meth c G Q H locs cells slots ls F P S E k => ?_) k
  obtain ⟨n, f | f | f | f | f⟩ := a
  · exact va_alen F.1 F.2.1 F.2.2.2.2.2.1.1 P o 0 (xw_get hh) rfl rfl hd k
  · exact va_alen F.1 F.2.1 F.2.2.2.2.2.1.1 P o 0 (xw_get hh) rfl rfl hd k
  · exact va_alen F.1 F.2.1 F.2.2.2.2.2.1.1 P o 1 (xw_get hh) rfl rfl hd k
  · exact va_alen F.1 F.2.1 F.2.2.2.2.2.1.1 P o 1 (xw_get hh) rfl rfl hd k
  · exact va_alen F.1 F.2.1 F.2.2.2.2.2.1.1 P o 2 (xw_get hh) rfl rfl hd k
theorem XW.iast (pc' : Nat) {o n : Nat} {f : Nat → Int32} {i x : Int32} {h' : xH} (j : Nat) (hd : decode M.2.1 pc = .ok (.iastore, 1)) (hh : h[o]? = some (.inl (n, .inl f))) (hi : i = nI j) (hj : j < n) (hn : n < 2 ^ 31) (he : h.set o (.inl (n, .inl (upd f j x))) = h') (hp : pc + 1 = pc') (k : XW M d mc ms pc' L st h' Post) : XW M d mc ms pc L (.int x :: .int i :: .ref o :: st) h Post := by
  subst hp; subst hi; subst he
  have hc : (nI j).toNatClampNeg = j := nI_clamp (by omega)
  refine XW.rowH (by rw [List.length_set]) (fun p l e R s m args below meth c G Q H locs cells slots ls F P S E k => ?_) k
  refine va_iast (i := nI j) F.1 F.2.1 F.2.2.2.2.2.1.1 P (xw_D G h) S o 0 (xw_get hh) rfl (vp_in_nI hj hn) hd (fun H1 locs1 hP _ hS => ?_)
  rw [hc] at hP
  exact k H1 locs1 (xP_set (c := .inl (n, .inl (upd f j x))) hP) hS
theorem XW.fast (pc' : Nat) {o n : Nat} {f : Nat → UInt32} {i : Int32} {x : UInt32} {h' : xH} (j : Nat) (hd : decode M.2.1 pc = .ok (.fastore, 1)) (hh : h[o]? = some (.inl (n, .inr (.inr (.inl f))))) (hi : i = nI j) (hj : j < n) (hn : n < 2 ^ 31) (he : h.set o (.inl (n, .inr (.inr (.inl (vf_upd f j x))))) = h') (hp : pc + 1 = pc') (k : XW M d mc ms pc' L st h' Post) : XW M d mc ms pc L (.float x :: .int i :: .ref o :: st) h Post := by
  subst hp; subst hi; subst he
  have hc : (nI j).toNatClampNeg = j := nI_clamp (by omega)
  refine XW.rowH (by rw [List.length_set]) (fun p l e R s m args below meth c G Q H locs cells slots ls F P S E k => ?_) k
  refine va_fast (i := nI j) F.1 F.2.1 F.2.2.2.2.2.1.1 P (xw_D G h) S o 1 (xw_get hh) rfl (vp_in_nI hj hn) hd (fun H1 locs1 hP _ hS => ?_)
  rw [hc] at hP
  exact k H1 locs1 (xP_set (c := .inl (n, .inr (.inr (.inl (vf_upd f j x))))) hP) hS
theorem XW.aast (pc' : Nat) {o n q : Nat} {f : Nat → Option Nat} {i : Int32} {fs : List Value} {h' : xH} (j : Nat) (hd : decode M.2.1 pc = .ok (.aastore, 1)) (hh : h[o]? = some (.inl (n, .inr (.inr (.inr (.inr f)))))) (hq : h[q]? = some (.inr (1, fs))) (hi : i = nI j) (hj : j < n) (hn : n < 2 ^ 31) (he : h.set o (.inl (n, .inr (.inr (.inr (.inr (va_up f j (some q))))))) = h') (hp : pc + 1 = pc') (k : XW M d mc ms pc' L st h' Post) : XW M d mc ms pc L (.ref q :: .int i :: .ref o :: st) h Post := by
  subst hp; subst hi; subst he
  have hc : (nI j).toNatClampNeg = j := nI_clamp (by omega)
  refine XW.rowH (by rw [List.length_set]) (fun p l e R s m args below meth c G Q H locs cells slots ls F P S E k => ?_) k
  refine va_astq (i := nI j) F.1 F.2.1 F.2.2.2.2.2.1.1 P (xw_D G h) S o 2 q 1 (r := (RX1, TX1, 8)) (xw_get hh) rfl (xw_get hq) rfl (vp_in_nI hj hn) hd (fun H1 locs1 hP _ hS => ?_)
  rw [hc] at hP
  have e1 : (va_up (fun j => (f j).map (fun k => G.2.2.1 + k)) j (some (G.2.2.1 + q))) = (fun i => (va_up f j (some q) i).map (fun k => G.2.2.1 + k)) := by
    funext i
    unfold va_up
    by_cases e : i = j
    · simp [e]
    · simp [e]
  rw [e1] at hP
  exact k H1 locs1 (xP_set (c := .inl (n, .inr (.inr (.inr (.inr (va_up f j (some q))))))) hP) hS
end XRows3
end
section
/-! The rows, on: making cells, returning, calling -/
section XRows4
variable {M : xM} {d mc ms pc : Nat} {L : xL} {st : List Value} {h : xH} {Post : Option Value → xH → Prop}
theorem xP.push {G : xG} {h : xH} {H H1 : Heap} {c : xC} (P : xP G h H) (hz : H.size = G.2.2.1 + h.length) (o1 : ∀ q, q < H.size → H1[q]? = H[q]?) (hc : va_at G.1 vwCl (G.2.2.1 + h.length, xe G c) H1) : xP G (h ++ [c]) H1 := by
  unfold xP
  rw [← xw_push]
  refine (P.kept (fun k x hx => o1 x.1 ((P k x hx).lt))).app (fun k x hx => ?_)
  have hl : k < 1 := (List.getElem?_eq_some_iff.mp hx).1
  rw [show k = 0 by omega] at hx
  cases hx
  exact hc
theorem xS.push {G : xG} {H0 H H1 : Heap} {locs : List Loc} (S : va_S (xA G) H0 H locs) (z1 : H1.size = H.size + 1) (o1 : ∀ q, q < H.size → H1[q]? = H[q]?) : va_S (xA G) H0 H1 locs :=
  ⟨Nat.le_trans S.1 (by omega), fun x h1 h2 => (o1 x (Nat.lt_of_lt_of_le h1 S.1)).trans (S.2.1 x h1 h2), S.2.2⟩
/-- what 'new' needs -/
def xNc (own : String) (idx ci N : Nat) (fs : List Value) : Prop := ∃ (C : String) (T : u_T) (ty0 : Nat → FieldType), vwCl[ci]? = some (C, T, N) ∧ (∀ w ∈ u_ws C T N, w ∈ lw_good) ∧ (∀ k, k < N → parseFieldDescriptor (T k).2.2.1 = some (ty0 k)) ∧ Cond.classLink own idx C ∈ lw_good ∧ Cond.instantiable C N ∈ lw_good ∧ Cond.initialized C ∈ lw_good ∧ ∀ (G : xG) (j : Nat), j < N → defaultValue (ty0 j) = vp_V (fs.map (xv G)) j
theorem XW.newc (pc' : Nat) {idx ci N mc' ms' : Nat} {fs : List Value} {h' : xH} (hw : xNc M.1.cls idx ci N fs) (hd : decode M.2.1 pc = .ok (.new idx, 3)) (hmc : mc' + 1 = mc) (hms : ms' + N = ms) (he : h ++ [.inr (ci, fs)] = h') (hp : pc + 3 = pc') (k : XW M d mc' ms' pc' L (.ref h.length :: st) h' Post) : XW M d mc ms pc L st h Post := by
  subst hp; subst he; subst hmc; subst hms
  obtain ⟨C, T, ty0, hc, hin, hty, w1, w2, w3, hfs⟩ := hw
  intro p l e R s m args below meth c G Q H locs cells slots C1 S1 ls F P S E b hr T0 hT X
  obtain ⟨b1, b2, b3, b4, b5⟩ := b
  have hz := P.size F.2.2.2.2.2.2.1 hT X b5
  have hKn := F.2.2.2.2.2.1.1.1 ci _ hc
  suffices key : W p l e R s m args below meth c H locs cells slots Q (F0 m pc ls (st.map (xv G))) from key T0 hT X
  refine W.newcK F.1 F.2.1 F.2.2.2.1 (F.2.2.2.2.1 _ w1) (F.2.2.2.2.1 _ w2) (F.2.2.2.2.1 _ w3) rfl hd (by omega) (by omega) hKn.2.1 hz (fun H1 kC hkC e1 z1 o1 => ?_)
  rw [← hz] at o1 z1
  refine k p l e R s m args below meth c G Q H1 locs (cells + 1) (slots + N) C1 S1 ls F (P.push hz o1 ⟨_, hc, (u_born ty0 F.2.2.2.2.1 hin hKn hkC e1 hty).to (hfs G)⟩) (xS.push S z1 o1) E ⟨by omega, by omega, b3, b4, ?_⟩ hr
  rw [List.length_append, List.length_singleton]; omega
theorem XW.newI (pc' : Nat) {n : Int32} {N mc' ms' : Nat} {h' : xH} (hw : Cond.arrayClass .int ∈ lw_good) (hd : decode M.2.1 pc = .ok (.newarray .int, 2)) (hn : n = nI N) (hN : N < 100000) (hmc : mc' + 1 = mc) (hms : ms' + N = ms) (he : h ++ [.inl (N, .inl (fun _ => 0))] = h') (hp : pc + 2 = pc') (k : XW M d mc' ms' pc' L (.ref h.length :: st) h' Post) : XW M d mc ms pc L (.int n :: st) h Post := by
  subst hp; subst he; subst hmc; subst hms; subst hn
  intro p l e R s m args below meth c G Q H locs cells slots C1 S1 ls F P S E b hr T0 hT X
  obtain ⟨b1, b2, b3, b4, b5⟩ := b
  have hz := P.size F.2.2.2.2.2.2.1 hT X b5
  suffices key : W p l e R s m args below meth c H locs cells slots Q (F0 m pc ls (.int (nI N) :: st.map (xv G))) from key T0 hT X
  refine va_newaK (atype := .int) F.1 F.2.1 (F.2.2.2.2.1 _ hw) rfl hd rfl (nI_pos (by omega)) (nI_clamp (by omega)) (by show N * 4 ≤ _; omega) (by omega) (by omega) hz (fun H1 cA e1 z1 o1 hAr hNm => ?_)
  have hcl : s.vm.findClass ("[" ++ (FieldType.int).toString) = some G.2.1.1 := (F.2.2.2.2.2.1.1.2 0 _ rfl).2
  have hcA : cA = G.2.1.1 := Option.some.inj (hNm.symm.trans hcl)
  subst hcA
  rw [← hz] at o1 z1
  refine k p l e R s m args below meth c G Q H1 locs (cells + 1) (slots + N) C1 S1 ls F (P.push hz o1 e1) (xS.push S z1 o1) E ⟨by omega, by omega, b3, b4, ?_⟩ hr
  rw [List.length_append, List.length_singleton]; omega
theorem XW.newF (pc' : Nat) {n : Int32} {N mc' ms' : Nat} {h' : xH} (hw : Cond.arrayClass .float ∈ lw_good) (hd : decode M.2.1 pc = .ok (.newarray .float, 2)) (hn : n = nI N) (hN : N < 100000) (hmc : mc' + 1 = mc) (hms : ms' + N = ms) (he : h ++ [.inl (N, .inr (.inr (.inl (fun _ => 0))))] = h') (hp : pc + 2 = pc') (k : XW M d mc' ms' pc' L (.ref h.length :: st) h' Post) : XW M d mc ms pc L (.int n :: st) h Post := by
  subst hp; subst he; subst hmc; subst hms; subst hn
  intro p l e R s m args below meth c G Q H locs cells slots C1 S1 ls F P S E b hr T0 hT X
  obtain ⟨b1, b2, b3, b4, b5⟩ := b
  have hz := P.size F.2.2.2.2.2.2.1 hT X b5
  suffices key : W p l e R s m args below meth c H locs cells slots Q (F0 m pc ls (.int (nI N) :: st.map (xv G))) from key T0 hT X
  refine va_newaK (atype := .float) F.1 F.2.1 (F.2.2.2.2.1 _ hw) rfl hd rfl (nI_pos (by omega)) (nI_clamp (by omega)) (by show N * 4 ≤ _; omega) (by omega) (by omega) hz (fun H1 cA e1 z1 o1 hAr hNm => ?_)
  have hcl : s.vm.findClass ("[" ++ (FieldType.float).toString) = some G.2.1.2.1 := (F.2.2.2.2.2.1.1.2 1 _ rfl).2
  have hcA : cA = G.2.1.2.1 := Option.some.inj (hNm.symm.trans hcl)
  subst hcA
  rw [← hz] at o1 z1
  refine k p l e R s m args below meth c G Q H1 locs (cells + 1) (slots + N) C1 S1 ls F (P.push hz o1 e1) (xS.push S z1 o1) E ⟨by omega, by omega, b3, b4, ?_⟩ hr
  rw [List.length_append, List.length_singleton]; omega
theorem XW.newA (pc' : Nat) {idx : Nat} {n : Int32} {N mc' ms' : Nat} {h' : xH} (hw : Cond.classLink M.1.cls idx RX1 ∈ lw_good) (hd : decode M.2.1 pc = .ok (.anewarray idx, 3)) (hn : n = nI N) (hN : N < 100000) (hmc : mc' + 1 = mc) (hms : ms' + N = ms) (he : h ++ [.inl (N, .inr (.inr (.inr (.inr (fun _ => none)))))] = h') (hp : pc + 3 = pc') (k : XW M d mc' ms' pc' L (.ref h.length :: st) h' Post) : XW M d mc ms pc L (.int n :: st) h Post := by
  subst hp; subst he; subst hmc; subst hms; subst hn
  intro p l e R s m args below meth c G Q H locs cells slots C1 S1 ls F P S E b hr T0 hT X
  obtain ⟨b1, b2, b3, b4, b5⟩ := b
  have hz := P.size F.2.2.2.2.2.2.1 hT X b5
  have hc0 : (nI N).toNatClampNeg = N := nI_clamp (by omega)
  suffices key : W p l e R s m args below meth c H locs cells slots Q (F0 m pc ls (.int (nI N) :: st.map (xv G))) from key T0 hT X
  refine W.anew F.1 F.2.1 F.2.2.2.1 (F.2.2.2.2.1 _ hw) (va_AO.use F.2.2.2.2.2.1.2.2) rfl hd rfl (nI_pos (by omega)) (by rw [hc0]; omega) (by omega) (by rw [hc0]; omega) (fun cA kA comp f1 f2 f3 f4 => ?_)
  have hcl : s.vm.findClass ("[" ++ (FieldType.object RX1).toString) = some G.2.1.2.2 := by
    obtain ⟨kA', comp', g1, g2, g3, g4⟩ := (F.2.2.2.2.2.1.1.2 2 _ rfl).2
    exact g4
  have hcA : cA = G.2.1.2.2 := Option.some.inj (f1.symm.trans hcl)
  subst hcA
  rw [hc0]
  generalize hH1 : H.push ({ cls := G.2.1.2.2, slots := Array.replicate N .null, vm := .none } : Cell) = H1
  have z1 : H1.size = H.size + 1 := by rw [← hH1, Array.size_push]
  have e1 : H1[H.size]? = some (arrV G.2.1.2.2 N (fun _ => .null)) := by rw [← hH1, Array.getElem?_push_size, ← arrV_new]
  have o1 : ∀ q : Nat, q < H.size → H1[q]? = H[q]? := fun q hq => by rw [← hH1, Array.getElem?_push, if_neg (Nat.ne_of_lt hq)]
  rw [hz] at e1
  have := k p l e R s m args below meth c G Q H1 locs (cells + 1) (slots + N) C1 S1 ls F (P.push hz o1 e1) (xS.push S z1 o1) E ⟨by omega, by omega, b3, b4, by rw [List.length_append, List.length_singleton]; omega⟩ hr
  rw [hz]
  exact this
-- returns
theorem XW.iret {v : Int32} (hd : decode M.2.1 pc = .ok (.ireturn, 1)) (hn : xnar M.2.2.2.1 (some (.int v))) (hp : Post (some (.int v)) h) : XW M d 0 ms pc L [.int v] h Post := by
  intro p l e R s m args below meth c G Q H locs cells slots C1 S1 ls F P S E b hr
  obtain ⟨b1, b2, b3, b4, b5⟩ := b
  have b1 : cells = C1 := b1
  subst b1
  exact W.widen (Nat.le_refl _) (by omega) (hr pc ls (some (.int v)) h H locs hp hn hd P S b5)
theorem XW.lret {v : Int64} (hd : decode M.2.1 pc = .ok (.lreturn, 1)) (hn : xnar M.2.2.2.1 (some (.long v))) (hp : Post (some (.long v)) h) : XW M d 0 ms pc L [.long v] h Post := by
  intro p l e R s m args below meth c G Q H locs cells slots C1 S1 ls F P S E b hr
  obtain ⟨b1, b2, b3, b4, b5⟩ := b
  have b1 : cells = C1 := b1
  subst b1
  exact W.widen (Nat.le_refl _) (by omega) (hr pc ls (some (.long v)) h H locs hp hn hd P S b5)
theorem XW.fret {v : UInt32} (hd : decode M.2.1 pc = .ok (.freturn, 1)) (hn : xnar M.2.2.2.1 (some (.float v))) (hp : Post (some (.float v)) h) : XW M d 0 ms pc L [.float v] h Post := by
  intro p l e R s m args below meth c G Q H locs cells slots C1 S1 ls F P S E b hr
  obtain ⟨b1, b2, b3, b4, b5⟩ := b
  have b1 : cells = C1 := b1
  subst b1
  exact W.widen (Nat.le_refl _) (by omega) (hr pc ls (some (.float v)) h H locs hp hn hd P S b5)
theorem XW.vret (hd : decode M.2.1 pc = .ok (.return_, 1)) (hn : xnar M.2.2.2.1 none) (hp : Post none h) : XW M d 0 ms pc L [] h Post := by
  intro p l e R s m args below meth c G Q H locs cells slots C1 S1 ls F P S E b hr
  obtain ⟨b1, b2, b3, b4, b5⟩ := b
  have b1 : cells = C1 := b1
  subst b1
  exact W.widen (Nat.le_refl _) (by omega) (hr pc ls none h H locs hp hn hd P S b5)
end XRows4
end
section
/-! Calling: a contract is XW from the method's first instruction -/
section XCalls
variable {M : xM} {d mc ms pc : Nat} {L : xL} {st : List Value} {h : xH} {Post : Option Value → xH → Prop}
def xsl (vs : List Value) : xL := vs.flatMap (fun v => if v.category = 2 then [some v, none] else [some v])
def xin (vs : List Value) (n : Nat) : xL := xsl vs ++ List.replicate (n - (xsl vs).length) none
/-- the method's contract: with these values and this world it returns, with Post -/
abbrev XC (M : xM) (d mc ms : Nat) (vs : List Value) (h : xH) (Post : Option Value → xH → Prop) : Prop := XW M d mc ms 0 (xin vs M.2.2.1) [] h Post
theorem xsl_args (G : xG) : ∀ (vs : List Value) (i k : Nat) (v : Value), (xsl vs)[i]? = some (some v) → (k + i, xv G v) ∈ lv_args k (vs.map (xv G))
  | [], i, k, v, h => by simp [xsl] at h
  | w :: vs, i, k, v, h => by
    have ih := xsl_args G vs
    by_cases hc : w.category = 2
    · have e : xsl (w :: vs) = some w :: none :: xsl vs := by simp [xsl, hc]
      rw [e] at h
      show (k + i, xv G v) ∈ (k, xv G w) :: lv_args (if (xv G w).category = 2 then k + 2 else k + 1) (vs.map (xv G))
      rw [xv_cat, if_pos hc]
      match i, h with
      | 0, h => cases h; exact List.mem_cons_self
      | 1, h => simp at h
      | i + 2, h =>
        have h : (xsl vs)[i]? = some (some v) := by simpa using h
        have := ih i (k + 2) v h
        rw [show k + 2 + i = k + (i + 2) by omega] at this
        exact List.mem_cons_of_mem _ this
    · have e : xsl (w :: vs) = some w :: xsl vs := by simp [xsl, hc]
      rw [e] at h
      show (k + i, xv G v) ∈ (k, xv G w) :: lv_args (if (xv G w).category = 2 then k + 2 else k + 1) (vs.map (xv G))
      rw [xv_cat, if_neg hc]
      match i, h with
      | 0, h => cases h; exact List.mem_cons_self
      | i + 1, h =>
        have h : (xsl vs)[i]? = some (some v) := by simpa using h
        have := ih i (k + 1) v h
        rw [show k + 1 + i = k + (i + 1) by omega] at this
        exact List.mem_cons_of_mem _ this
theorem xsl_len (G : xG) : ∀ vs : List Value, (lg_sl (vs.map (xv G))).length = (xsl vs).length
  | [] => rfl
  | w :: vs => by
    have ih := xsl_len G vs
    simp only [lg_sl, xsl, List.map_cons, List.flatMap_cons, List.length_append, xv_cat] at ih ⊢
    rw [ih]
    by_cases hc : w.category = 2 <;> simp [hc]
theorem xin_entry {G : xG} {vs : List Value} {n : Nat} (hn : (xsl vs).length ≤ n) : xls G ((lg_sl (vs.map (xv G)) ++ List.replicate (n - (lg_sl (vs.map (xv G))).length) Slot.unset).toArray) n (xin vs n) := by
  have hl := lv_entry (vs.map (xv G)) (n := n) (by rw [xsl_len]; exact hn)
  refine ⟨hl.1, hl.2.1, fun i v hv => ?_⟩
  refine hl.2.2 (i, xv G v) ?_
  unfold xin at hv
  by_cases hi : i < (xsl vs).length
  · rw [List.getElem?_append_left hi] at hv
    have := xsl_args G vs i 0 v hv
    rw [Nat.zero_add] at this
    exact this
  · rw [List.getElem?_append_right (by omega), List.getElem?_replicate] at hv
    split at hv <;> cases hv
def xws (M : xM) : List Cond := Cond.code M.1 M.2.1 M.2.2.1 M.2.2.2.1 :: lw_good
def xrm (d mc ms : Nat) : Room := { frames := d, cells := mc, slots := ms, locals := 38 * d }
def xPc (G : xG) (vs : List Value) (h : xH) : Array Value → State → Prop := fun a U => a = (vs.map (xv G)).toArray ∧ xP G h U.heap ∧ U.heap.size = G.2.2.1 + h.length ∧ xK G U
def xQc (G : xG) (h : xH) (mc : Nat) (Post : Option Value → xH → Prop) : Array Value → State → Outcome → State → Prop := fun _ st0 oc t => ∃ (r : Option Value) (h' : xH), oc = .returned (r.map (xv G)) ∧ Post r h' ∧ xP G h' t.heap ∧ h'.length = h.length + mc ∧ va_F (xA G) st0 t
theorem XC.met (l : Launch) (G : xG) {vs : List Value} (hM : M.2.2.2.2 = none) (hpl : plainName M.1.cls = true) (hn : (xsl vs).length ≤ M.2.2.1) (k : XC M d mc ms vs h Post) : Met l M.1 (xws M) (xrm d mc ms) (xPc G vs h) (xQc G h mc Post) mc ms (xA G) := by
  refine Met.ofW (cc := M.2.1) (maxL := M.2.2.1) (ret := M.2.2.2.1) hpl rfl ?_
  intro p e s m args below meth c s₁ B hml hv
  obtain ⟨rfl, hP, hz, hK⟩ := hv
  have hts := atoms_spec (ws := xws M) B.pre
  have hown : s.vm.findClass M.1.cls = some m.cls := findClass_of_methodNamed B.named
  have hname := (name_of_methodNamed B.named B.method).1
  have hr := B.returns
  have hx := B.exec
  have hb := B.bytes
  have hlocks := B.notSynchronized
  rw [lg_entry_eq]
  refine k p l e (xrm d mc ms) s m _ below meth c G _ s.heap [] 0 0 mc ms _ ⟨hx, hb, hml, hown, fun w hw => hts w (List.mem_cons_of_mem _ hw), hK, by omega, hname, hlocks, by rw [hM]; trivial, Nat.le_refl _, Nat.le_refl _⟩ hP va_S.rf (xin_entry hn) ⟨Nat.zero_add _, by omega, Nat.le_refl _, Nat.le_refl _, by omega⟩ (fun pc ls r h' H' locs' hPost hnar hdec hP' hS' hz' => ?_)
  have hlen : h'.length = h.length + mc := by omega
  have fin : ∀ t : State, t.heap = H' → s.WarmedH t.vm → xQc G h mc Post ((vs.map (xv G)).toArray) s (.returned (r.map (xv G))) t := fun t ht _ => ⟨r, h', rfl, hPost, by rw [ht]; exact hP', hlen, hS'.F ht⟩
  generalize hret : M.2.2.2.1 = ret at hnar hr
  match ret, r, hnar with
  | none, none, _ => exact W.vret hx hb hr fin hS'.2.2 hdec
  | some ty, some (.int v), hn => exact W.zret (ty := ty) hx hb hr hn fin hS'.2.2 hdec
  | some .long, some (.long v), _ => exact W.lret hx hb hr fin hS'.2.2 hdec
  | some .float, some (.float v), _ => exact W.fret hx hb hr fin hS'.2.2 hdec
/-- a method that can be called -/
def xMd (M' : xM) (n : Nat) : Prop := M'.2.2.2.2 = none ∧ plainName M'.1.cls = true ∧ M'.2.2.1 ≤ 19 ∧ Cond.code M'.1 M'.2.1 M'.2.2.1 M'.2.2.2.1 ∈ lw_good ∧ Cond.initialized M'.1.cls ∈ lw_good ∧ (M'.1.cls ≠ "java/lang/invoke/MethodHandle" ∧ M'.1.cls ≠ "java/lang/invoke/VarHandle" ∧ (parseMethodDescriptor M'.1.desc).map (fun d => d.parameters.length) = some n)
theorem lw_goodIn {ws : List Cond} (hw : ∀ w ∈ ws, w ∈ lw_good) : GoodIn lw_good ws := fun w h => ⟨hw w h, good_of_word (List.mem_filter.mp (hw w h)).2⟩
theorem xws_in {M' : xM} {n : Nat} (hm : xMd M' n) : ∀ w ∈ xws M', w ∈ lw_good := fun w hw => (List.mem_cons.mp hw).elim (fun e => by rw [e]; exact hm.2.2.2.1) id
theorem xPc_blind {G : xG} {vs : List Value} {h : xH} : FrameBlind (xPc G vs h) := fun a U g mk q => ⟨q.1, q.2.1, q.2.2.1, xK.same (rfl : U.vm = (U.calling g mk a).vm) q.2.2.2⟩
/-- behind a call -/
theorem xgo {M : xM} {p : Program} {l : Launch} {e : Env} {R : Room} {s : State} {m : MethodId} {args : Array Value} {below : List Frame} {meth : Method} {c : Code} {G : xG} {Q : State → Prop} {H : Heap} {locs : List Loc} {cells slots C1 S1 mc' ms' mcr msr : Nat} {ls : Array Slot} {T0 : State} {st0 : List Value} {rest : List Value} {a : Array Value} {Post' : Option Value → xH → Prop}
    (hr0 : va_Run p l e R s m args below meth c H locs cells slots mc' ms' (F0 m pc ls st0) (rest.map (xv G)) (xQc G h mc' Post' a) (xA G)) (S : va_S (xA G) s.heap H locs) (hT : T0.heap = H) (X : Stand p l e R s m args below meth c T0 locs cells slots)
    (F : xF M d p R s m args meth c G) (E : xls G ls M.2.2.1 L) (b1 : cells + (mc' + mcr) = C1) (b2 : slots + (ms' + msr) ≤ S1) (b3 : C1 ≤ R.cells) (b4 : S1 ≤ R.slots) (b5 : G.2.2.1 + h.length = s.heap.size + cells)
    (hr : ∀ (pc : Nat) (ls : Array Slot) (r : Option Value) (h' : xH) (H' : Heap) (locs' : List Loc), Post r h' → xnar M.2.2.2.1 r → decode M.2.1 pc = .ok (xrins r, 1) → xP G h' H' → va_S (xA G) s.heap H' locs' → G.2.2.1 + h'.length = s.heap.size + C1 → W p l e R s m args below meth c H' locs' C1 S1 Q (F0 m pc ls (r.toList.map (xv G))))
    (k : ∀ (r : Option Value) (h1 : xH), Post' r h1 → XW M d mcr msr (pc + 3) L (r.toList ++ rest) h1 Post) : ∃ t, Steps p.tables e below (T0.setTop (F0 m pc ls st0)) t ∧ Q t := by
  obtain ⟨v, st₀, t, T', Lc, h0, X', hLc, e1, e2, ⟨r, h1, hv, hPost, hP1, hl1, hF⟩, go⟩ := hr0 T0 hT X
  have hv : v = r.map (xv G) := by injection hv
  subst hv
  obtain ⟨hz, hk⟩ := hF
  rw [h0] at hz hk
  have S' : va_S (xA G) s.heap T'.heap (locs ++ Lc) := ⟨Nat.le_trans S.1 (by rw [e1]; exact hz), fun q h1 h2 => by rw [e1, hk q (Nat.lt_of_lt_of_le h1 S.1) h2]; exact S.2.1 q h1 h2, fun q hq => by
      rcases List.mem_append.mp hq with h | h
      · exact S.2.2 q h
      · exact hLc q h⟩
  obtain ⟨t2, a1, b1'⟩ := k r h1 hPost p l e R s m args below meth c G Q T'.heap (locs ++ Lc) (cells + mc') (slots + ms') C1 S1 ls F (by rw [e1]; exact hP1) S' E ⟨by omega, by omega, b3, b4, by omega⟩ hr T' rfl X'
  refine ⟨t2, go t2 ?_, b1'⟩
  cases r with
  | none => exact a1
  | some w => exact a1
/-- a virtual call of a method of the receiver's own class -/
def xMv (own : String) (idx ci n : Nat) (M' : xM) : Prop := xMd M' n ∧ Cond.methodLink own idx M'.1 ∈ lw_good ∧ Cond.instanceMethod M'.1 ∈ lw_good ∧ Cond.selects M'.1.cls M'.1 M'.1 ∈ lw_good ∧ ∃ q : vw_C, vwCl[ci]? = some q ∧ q.1 = M'.1.cls
theorem XW.callV (pc' : Nat) {M' : xM} {d' mc' ms' mcr msr idx ci o : Nat} {fs vs rest : List Value} {st0 : List Value} {Post' : Option Value → xH → Prop} (hw : xMv M.1.cls idx ci vs.length M') (hd : decode M.2.1 pc = .ok (.invokevirtual idx, 3)) (hst : st0 = vs.reverse ++ .ref o :: rest) (ho : h[o]? = some (.inr (ci, fs))) (hdd : d' + 1 ≤ d) (hre : (rest.map (fun v => v.category)).sum ≤ 8) (hmc : mc' + mcr = mc) (hms : ms' + msr = ms) (hnn : (xsl (.ref o :: vs)).length ≤ M'.2.2.1) (hp : pc + 3 = pc') (hc : XC M' d' mc' ms' (.ref o :: vs) h Post') (k : ∀ (r : Option Value) (h1 : xH), Post' r h1 → XW M d mcr msr pc' L (r.toList ++ rest) h1 Post) : XW M d mc ms pc L st0 h Post := by
  subst hp; subst hmc; subst hms; subst hst
  obtain ⟨hmd, w1, w2, w3, q, hq1, hq2⟩ := hw
  intro p l e R s m args below meth c G Q H locs cells slots C1 S1 ls F P S E b hr T0 hT X
  obtain ⟨b1, b2, b3, b4, b5⟩ := b
  have hz := P.size F.2.2.2.2.2.2.1 hT X b5
  have hfr : d ≤ R.frames := F.2.2.2.2.2.2.2.2.2.2.1
  have hlo : 38 * d ≤ R.locals := F.2.2.2.2.2.2.2.2.2.2.2
  have h19 := hmd.2.2.1
  have cw : CallW R s args M.1.cls M'.1.cls idx M'.1 M'.2.1 M'.2.2.1 M'.2.2.2.1 (xws M') (xrm d' mc' ms') mc' ms' vs.length := by
    refine cwV vs.length F.2.2.2.2.1 (lw_goodIn (fun w hw => ?_)) rfl rfl rfl ⟨rfl, hmd.2.2.2.2.2⟩ ⟨by show d' + 1 ≤ _; omega, by show 8 + (M'.2.2.1 + 11) + 38 * d' ≤ _; omega⟩
    rcases List.mem_append.mp hw with hw | hw
    · simp only [List.mem_cons, List.not_mem_nil, or_false] at hw
      rcases hw with rfl | rfl | rfl | rfl
      · exact w1
      · exact w2
      · exact w3
      · exact hmd.2.2.2.2.1
    · exact xws_in hmd w hw
  have hcat : ((rest.map (xv G)).map (fun v => v.category)).sum ≤ 8 := by
    rw [List.map_map]
    have : ((fun v : Value => v.category) ∘ xv G) = (fun v => v.category) := funext (fun v => xv_cat G v)
    rw [this]; exact hre
  have hpre : PreV s H M'.1.cls (G.2.2.1 + o) (xPc G (.ref o :: vs) h) (vs.map (xv G)) := ⟨xPc_blind, by
      have := va_recv F.2.2.2.2.2.1.1 P hq1 (xw_get ho)
      rw [hq2] at this
      exact this, fun U hU hW => ⟨rfl, by rw [hU]; exact P, by rw [hU]; exact hz, F.2.2.2.2.2.1.warm hW⟩⟩
  have run := va_runV (l := l) (e := e) (below := below) (meth := meth) (H := H) (locs := locs) (cells := cells) (slots := slots) (rest := rest.map (xv G)) (g := F0 m pc ls ((vs.reverse ++ .ref o :: rest).map (xv G))) (As := vs.map (xv G)) (b := G.2.2.1 + o) ⟨F.1, F.2.1, F.2.2.1, F.2.2.2.1, F.2.2.2.2.1⟩ (XC.met l G hmd.1 hmd.2.1 hnn hc) cw hpre rfl (List.length_map _) E.1 (by show (vs.reverse ++ .ref o :: rest).map (xv G) = _; rw [List.map_append, List.map_reverse]; rfl) (lv_room hcat) hd ⟨by omega, by omega⟩
  exact xgo run S hT X F E b1 b2 b3 b4 b5 hr k
/-- a static call, or one of a nest mate's static method -/
def xMs (own : String) (idx n : Nat) (M' : xM) : Prop := xMd M' n ∧ Cond.static M'.1 ∈ lw_good ∧ (Cond.methodLink own idx M'.1 ∈ lw_good ∨ Cond.methodLinkNest own idx M'.1 RX3 ∈ lw_nest)
theorem XW.callS (pc' : Nat) {M' : xM} {d' mc' ms' mcr msr idx : Nat} {vs rest : List Value} {st0 : List Value} {Post' : Option Value → xH → Prop} (hw : xMs M.1.cls idx vs.length M') (hd : decode M.2.1 pc = .ok (.invokestatic idx, 3)) (hst : st0 = vs.reverse ++ rest) (hdd : d' + 1 ≤ d) (hre : (rest.map (fun v => v.category)).sum ≤ 8) (hmc : mc' + mcr = mc) (hms : ms' + msr = ms) (hnn : (xsl vs).length ≤ M'.2.2.1) (hp : pc + 3 = pc') (hc : XC M' d' mc' ms' vs h Post') (k : ∀ (r : Option Value) (h1 : xH), Post' r h1 → XW M d mcr msr pc' L (r.toList ++ rest) h1 Post) : XW M d mc ms pc L st0 h Post := by
  subst hp; subst hmc; subst hms; subst hst
  obtain ⟨hmd, w1, w2⟩ := hw
  intro p l e R s m args below meth c G Q H locs cells slots C1 S1 ls F P S E b hr T0 hT X
  obtain ⟨b1, b2, b3, b4, b5⟩ := b
  have hz := P.size F.2.2.2.2.2.2.1 hT X b5
  have hfr : d ≤ R.frames := F.2.2.2.2.2.2.2.2.2.2.1
  have hlo : 38 * d ≤ R.locals := F.2.2.2.2.2.2.2.2.2.2.2
  have h19 := hmd.2.2.1
  have hcat : ((rest.map (xv G)).map (fun v => v.category)).sum ≤ 8 := by
    rw [List.map_map]
    have : ((fun v : Value => v.category) ∘ xv G) = (fun v => v.category) := funext (fun v => xv_cat G v)
    rw [this]; exact hre
  have hpre : PreS s H (xPc G vs h) (vs.map (xv G)) := ⟨xPc_blind, fun U hU hW => ⟨rfl, by rw [hU]; exact P, by rw [hU]; exact hz, F.2.2.2.2.2.1.warm hW⟩⟩
  have hstk : (vs.reverse ++ rest).map (xv G) = (vs.map (xv G)).reverse ++ rest.map (xv G) := by rw [List.map_append, List.map_reverse]
  rcases w2 with w2 | w2
  · have cw : CallB R s args M.1.cls idx M'.1 M'.2.1 M'.2.2.1 M'.2.2.2.1 (xws M') (xrm d' mc' ms') mc' ms' vs.length ∧ (Cond.static M'.1).before args s = true := by
      refine va_cwS vs.length F.2.2.2.2.1 (lw_goodIn (fun w hw => ?_)) rfl rfl rfl hmd.2.2.2.2.2 ⟨by show d' + 1 ≤ _; omega, by show 8 + (M'.2.2.1 + 11) + 38 * d' ≤ _; omega⟩
      rcases List.mem_append.mp hw with hw | hw
      · simp only [List.mem_cons, List.not_mem_nil, or_false] at hw
        rcases hw with rfl | rfl | rfl
        · exact w2
        · exact w1
        · exact hmd.2.2.2.2.1
      · exact xws_in hmd w hw
    have run := va_runS (l := l) (e := e) (below := below) (meth := meth) (H := H) (locs := locs) (cells := cells) (slots := slots) (rest := rest.map (xv G)) (g := F0 m pc ls ((vs.reverse ++ rest).map (xv G))) (As := vs.map (xv G)) ⟨F.1, F.2.1, F.2.2.1, F.2.2.2.1, F.2.2.2.2.1⟩ (XC.met l G hmd.1 hmd.2.1 hnn hc) cw hpre rfl (List.length_map _) E.1 hstk (lv_room hcat) hd ⟨by omega, by omega⟩
    exact xgo run S hT X F E b1 b2 b3 b4 b5 hr k
  · have cw : va_CN R s args M.1.cls idx M'.1 RX3 M'.2.1 M'.2.2.1 M'.2.2.2.1 (xws M') (xrm d' mc' ms') mc' ms' vs.length := va_cnB vs.length F.2.2.2.2.1 (lw_goodIn (xws_in hmd)) rfl rfl rfl (F.2.2.2.2.2.1.2.1 _ w2) (F.2.2.2.2.1 _ hmd.2.2.2.2.1) hmd.2.2.2.2.2 ⟨by show d' + 1 ≤ _; omega, by show 8 + (M'.2.2.1 + 11) + 38 * d' ≤ _; omega⟩
    have run := va_runSN (l := l) (e := e) (below := below) (meth := meth) (H := H) (locs := locs) (cells := cells) (slots := slots) (rest := rest.map (xv G)) (g := F0 m pc ls ((vs.reverse ++ rest).map (xv G))) (As := vs.map (xv G)) ⟨F.1, F.2.1, F.2.2.1, F.2.2.2.1, F.2.2.2.2.1⟩ (XC.met l G hmd.1 hmd.2.1 hnn hc) ⟨cw, F.2.2.2.2.1 _ w1, trivial⟩ hpre rfl (List.length_map _) E.1 hstk (lv_room hcat) hd ⟨by omega, by omega⟩
    exact xgo run S hT X F E b1 b2 b3 b4 b5 hr k
/-- a constructor's call -/
def xMi (own : String) (idx n : Nat) (M' : xM) : Prop := xMd M' n ∧ Cond.methodLink own idx M'.1 ∈ lw_good ∧ Cond.instanceMethod M'.1 ∈ lw_good ∧ M'.1.name = "<init>" ∧ M'.2.2.2.1 = none
theorem XW.callI (pc' : Nat) {M' : xM} {d' mc' ms' mcr msr idx o : Nat} {vs rest : List Value} {st0 : List Value} {Post' : Option Value → xH → Prop} (hw : xMi M.1.cls idx vs.length M') (hd : decode M.2.1 pc = .ok (.invokespecial idx, 3)) (hst : st0 = vs.reverse ++ .ref o :: rest) (hdd : d' + 1 ≤ d) (hre : (rest.map (fun v => v.category)).sum ≤ 8) (hmc : mc' + mcr = mc) (hms : ms' + msr = ms) (hnn : (xsl (.ref o :: vs)).length ≤ M'.2.2.1) (hp : pc + 3 = pc') (hc : XC M' d' mc' ms' (.ref o :: vs) h Post') (k : ∀ (r : Option Value) (h1 : xH), Post' r h1 → XW M d mcr msr pc' L (r.toList ++ rest) h1 Post) : XW M d mc ms pc L st0 h Post := by
  subst hp; subst hmc; subst hms; subst hst
  obtain ⟨hmd, w1, w2, w3, w4⟩ := hw
  intro p l e R s m args below meth c G Q H locs cells slots C1 S1 ls F P S E b hr T0 hT X
  obtain ⟨b1, b2, b3, b4, b5⟩ := b
  have hz := P.size F.2.2.2.2.2.2.1 hT X b5
  have hfr : d ≤ R.frames := F.2.2.2.2.2.2.2.2.2.2.1
  have hlo : 38 * d ≤ R.locals := F.2.2.2.2.2.2.2.2.2.2.2
  have h19 := hmd.2.2.1
  have hcat : ((rest.map (xv G)).map (fun v => v.category)).sum ≤ 8 := by
    rw [List.map_map]
    have : ((fun v : Value => v.category) ∘ xv G) = (fun v => v.category) := funext (fun v => xv_cat G v)
    rw [this]; exact hre
  have hpre : PreS s H (xPc G (.ref o :: vs) h) (.ref (G.2.2.1 + o) :: vs.map (xv G)) := ⟨xPc_blind, fun U hU hW => ⟨rfl, by rw [hU]; exact P, by rw [hU]; exact hz, F.2.2.2.2.2.1.warm hW⟩⟩
  have hwe : xws M' = Cond.code M'.1 M'.2.1 M'.2.2.1 none :: lw_good := by unfold xws; rw [w4]
  have cw := cwI (R := R) (bytes := M'.2.1) (maxL := M'.2.2.1) (rm := xrm d' mc' ms') vs.length F.2.2.2.2.1 (lw_goodIn (xws_in hmd)) hwe rfl rfl (F.2.2.2.2.1 _ hmd.2.2.2.2.1) (F.2.2.2.2.1 _ w1) (F.2.2.2.2.1 _ w2) w3 hmd.2.2.2.2.2 ⟨by show d' + 1 ≤ _; omega, by show 8 + (M'.2.2.1 + 11) + 38 * d' ≤ _; omega⟩
  have run := va_runI (l := l) (e := e) (below := below) (meth := meth) (H := H) (locs := locs) (cells := cells) (slots := slots) (rest := rest.map (xv G)) (g := F0 m pc ls ((vs.reverse ++ .ref o :: rest).map (xv G))) (As := vs.map (xv G)) (b := G.2.2.1 + o) ⟨F.1, F.2.1, F.2.2.1, F.2.2.2.1, F.2.2.2.2.1⟩ (XC.met l G hmd.1 hmd.2.1 hnn hc) cw hpre rfl (List.length_map _) E.1 (by show (vs.reverse ++ .ref o :: rest).map (xv G) = _; rw [List.map_append, List.map_reverse]; rfl) (lv_room hcat) hd ⟨by omega, by omega⟩
  exact xgo run S hT X F E b1 b2 b3 b4 b5 hr k
/-- Object's own constructor -/
theorem XW.objInit (pc' : Nat) {idx o : Nat} (w1 : Cond.methodLink M.1.cls idx Lib.objectInit ∈ lw_good) (w2 : Cond.instanceMethod Lib.objectInit ∈ lw_good) (w3 : Cond.code Lib.objectInit ⟨#[0xb1]⟩ 1 none ∈ lw_good) (hd : decode M.2.1 pc = .ok (.invokespecial idx, 3)) (hdd : 1 ≤ d) (hp : pc + 3 = pc') (k : XW M d mc ms pc' L [] h Post) : XW M d mc ms pc L [.ref o] h Post := by
  subst hp
  refine XW.row (fun p l e R s m args below meth c G Q H locs cells slots ls F P S E k => ?_) k
  have hfr : d ≤ R.frames := F.2.2.2.2.2.2.2.2.2.2.1
  have hlo : 38 * d ≤ R.locals := F.2.2.2.2.2.2.2.2.2.2.2
  exact W.objInit (rest := []) F.1 F.2.1 F.2.2.2.1 (F.2.2.2.2.1 _ w1) (F.2.2.2.2.1 _ w2) (F.2.2.2.2.1 _ w3) rfl (E.1.trans F.2.2.1.symm) rfl hd (by omega) (by show 2 * 0 + 0 + 12 ≤ _; omega) k
/-- System.arraycopy of whole rows of ints, from their beginning -/
theorem XW.copy (pc' : Nat) {idx a0 a n0 n1 : Nat} {z1 z2 z3 : Int32} {f g : Nat → Int32} {h' : xH} (n : Nat) (w1 : Cond.methodLink M.1.cls idx arraycopyName ∈ lw_good) (w2 : Cond.native arraycopyName ∈ lw_good) (w3 : Cond.static arraycopyName ∈ lw_good) (w4 : Cond.initialized "java/lang/System" ∈ lw_good) (hd : decode M.2.1 pc = .ok (.invokestatic idx, 3)) (h0 : h[a0]? = some (.inl (n0, .inl f))) (h1 : h[a]? = some (.inl (n1, .inl g))) (e1 : z1 = 0) (e2 : z2 = 0) (e3 : z3 = nI n) (hn0 : n ≤ n0) (hn1 : n ≤ n1) (hn : n < 2 ^ 31) (hdd : 1 ≤ d) (he : h.set a (.inl (n1, .inl (va_cpy f g 0 0 n))) = h') (hp : pc + 3 = pc') (k : XW M d mc ms pc' L [] h' Post) : XW M d mc ms pc L [.int z3, .int z2, .ref a, .int z1, .ref a0] h Post := by
  subst hp; subst e1; subst e2; subst e3; subst he
  have hc : (nI n).toNatClampNeg = n := nI_clamp hn
  have hc0 : (0 : Int32).toNatClampNeg = 0 := rfl
  refine XW.rowH (by rw [List.length_set]) (fun p l e R s m args below meth c G Q H locs cells slots ls F P S E k => ?_) k
  have hfr : d ≤ R.frames := F.2.2.2.2.2.2.2.2.2.2.1
  have hlo : 38 * d ≤ R.locals := F.2.2.2.2.2.2.2.2.2.2.2
  have hnf : nativeFrameWords "java/lang/System" "arraycopy" 5 = 7 := by decide +kernel
  refine va_copyi (rest := []) F.1 F.2.1 (F.2.2.1.trans E.1.symm) F.2.2.2.1 (F.2.2.2.2.1 _ w1) (F.2.2.2.2.1 _ w2) (F.2.2.2.2.1 _ w3) (F.2.2.2.2.1 _ w4) F.2.2.2.2.2.1.1 P (xw_D G h) S a0 a 0 0 (ty := .int) (xw_get h0) (xw_get h1) rfl rfl rfl (sp := 0) (dp := 0) (n := nI n) (by decide) (by decide) (nI_pos hn) (by rw [hc, hc0]; omega) (by rw [hc, hc0]; omega) (fun _ _ => rfl) (by omega) (by rw [hnf]; show 0 + (7 + 11) ≤ _; omega) hd (fun H1 locs1 hP _ hS => ?_)
  rw [hc, hc0] at hP
  exact k H1 locs1 (xP_set (c := .inl (n1, .inl (va_cpy f g 0 0 n))) hP) hS
end XCalls
end
section
/-! Links: what each reference of a constant pool names; the methods as records-/
theorem lw_at {w : Cond} (i : Nat) (h : lw_tbl[i]? = some w) (hg : goodWord w = true) : w ∈ lw_good := List.mem_filter.mpr ⟨List.mem_of_getElem? h, hg⟩
theorem lw_atN {w : Cond} (i : Nat) (h : lw_tbl[i]? = some w) (hg : xisN w = true) : w ∈ lw_nest := List.mem_filter.mpr ⟨List.mem_of_getElem? h, hg⟩
theorem inX0 : ∀ w ∈ wsX00, w ∈ lw_good := by
  intro w hw
  obtain ⟨k, hk, rfl⟩ := List.mem_map.mp hw
  have hk := List.mem_range.mp hk
  match k, hk with
  | 0, _ => exact lw_at 178 (by decide +kernel) rfl
  | 1, _ => exact lw_at 180 (by decide +kernel) rfl
  | n + 2, h => omega
theorem inX1 : ∀ w ∈ wsX10, w ∈ lw_good := by
  intro w hw
  obtain ⟨k, hk, rfl⟩ := List.mem_map.mp hw
  have hk := List.mem_range.mp hk
  match k, hk with
  | 0, _ => exact lw_at 118 (by decide +kernel) rfl
  | 1, _ => exact lw_at 120 (by decide +kernel) rfl
  | 2, _ => exact lw_at 122 (by decide +kernel) rfl
  | 3, _ => exact lw_at 124 (by decide +kernel) rfl
  | 4, _ => exact lw_at 126 (by decide +kernel) rfl
  | 5, _ => exact lw_at 128 (by decide +kernel) rfl
  | 6, _ => exact lw_at 130 (by decide +kernel) rfl
  | 7, _ => exact lw_at 132 (by decide +kernel) rfl
  | n + 8, h => omega
theorem inX2 : ∀ w ∈ wsX20, w ∈ lw_good := by
  intro w hw
  obtain ⟨k, hk, rfl⟩ := List.mem_map.mp hw
  have hk := List.mem_range.mp hk
  match k, hk with
  | 0, _ => exact lw_at 155 (by decide +kernel) rfl
  | 1, _ => exact lw_at 157 (by decide +kernel) rfl
  | 2, _ => exact lw_at 159 (by decide +kernel) rfl
  | 3, _ => exact lw_at 161 (by decide +kernel) rfl
  | 4, _ => exact lw_at 163 (by decide +kernel) rfl
  | 5, _ => exact lw_at 165 (by decide +kernel) rfl
  | 6, _ => exact lw_at 167 (by decide +kernel) rfl
  | n + 7, h => omega
theorem inX3 : ∀ w ∈ wsX30, w ∈ lw_good := by
  intro w hw
  obtain ⟨k, hk, rfl⟩ := List.mem_map.mp hw
  have hk := List.mem_range.mp hk
  match k, hk with
  | 0, _ => exact lw_at 190 (by decide +kernel) rfl
  | 1, _ => exact lw_at 192 (by decide +kernel) rfl
  | 2, _ => exact lw_at 194 (by decide +kernel) rfl
  | 3, _ => exact lw_at 196 (by decide +kernel) rfl
  | 4, _ => exact lw_at 198 (by decide +kernel) rfl
  | 5, _ => exact lw_at 200 (by decide +kernel) rfl
  | n + 6, h => omega
theorem inX4 : ∀ w ∈ wsX40, w ∈ lw_good := by
  intro w hw
  obtain ⟨k, hk, rfl⟩ := List.mem_map.mp hw
  have hk := List.mem_range.mp hk
  match k, hk with
  | 0, _ => exact lw_at 593 (by decide +kernel) rfl
  | 1, _ => exact lw_at 595 (by decide +kernel) rfl
  | 2, _ => exact lw_at 597 (by decide +kernel) rfl
  | 3, _ => exact lw_at 599 (by decide +kernel) rfl
  | 4, _ => exact lw_at 601 (by decide +kernel) rfl
  | 5, _ => exact lw_at 603 (by decide +kernel) rfl
  | 6, _ => exact lw_at 605 (by decide +kernel) rfl
  | 7, _ => exact lw_at 607 (by decide +kernel) rfl
  | 8, _ => exact lw_at 609 (by decide +kernel) rfl
  | 9, _ => exact lw_at 611 (by decide +kernel) rfl
  | 10, _ => exact lw_at 613 (by decide +kernel) rfl
  | 11, _ => exact lw_at 615 (by decide +kernel) rfl
  | 12, _ => exact lw_at 617 (by decide +kernel) rfl
  | 13, _ => exact lw_at 619 (by decide +kernel) rfl
  | 14, _ => exact lw_at 621 (by decide +kernel) rfl
  | 15, _ => exact lw_at 623 (by decide +kernel) rfl
  | n + 16, h => omega
theorem l5_7 : Cond.classLink RL 7 RX3 ∈ lw_good := lw_at 81 (by decide +kernel) rfl
theorem n5_7 : xNc RL 7 3 6 [.null, .null, .int 0, .null, .null, .null] := by
  refine ⟨RX3, TX3, tyX3, rfl, inX3, tyX3_ok, l5_7, lw_at 82 (by decide +kernel) rfl, lw_at 73 (by decide +kernel) rfl, fun G j hj => ?_⟩
  match j, hj with
  | 0, _ => rfl
  | 1, _ => rfl
  | 2, _ => rfl
  | 3, _ => rfl
  | 4, _ => rfl
  | 5, _ => rfl
  | n + 6, h => omega
theorem l3_7 : Cond.classLink RX3 7 RX1 ∈ lw_good := lw_at 89 (by decide +kernel) rfl
theorem n3_7 : xNc RX3 7 1 8 [.int 0, .null, .null, .null, .null, .int 0, .null, .int 0] := by
  refine ⟨RX1, TX1, tyX1, rfl, inX1, tyX1_ok, l3_7, lw_at 90 (by decide +kernel) rfl, lw_at 74 (by decide +kernel) rfl, fun G j hj => ?_⟩
  match j, hj with
  | 0, _ => rfl
  | 1, _ => rfl
  | 2, _ => rfl
  | 3, _ => rfl
  | 4, _ => rfl
  | 5, _ => rfl
  | 6, _ => rfl
  | 7, _ => rfl
  | n + 8, h => omega
theorem f1_9 : xFd RX1 9 1 0 := ⟨RX1, TX1, 8, rfl, inX1, by decide, Or.inl (lw_at 98 (by decide +kernel) rfl)⟩
theorem p1_9 (n : String) : xFp RX1 n 9 1 0 (.int) := ⟨RX1, TX1, 8, tyX1, rfl, inX1, by decide, tyX1_ok, nmX1, by decide +kernel, Or.inl ⟨rfl, lw_at 98 (by decide +kernel) rfl⟩⟩
theorem f0_19 : xFd RX0 19 1 0 := ⟨RX1, TX1, 8, rfl, inX1, by decide, Or.inr (lw_atN 99 (by decide +kernel) rfl)⟩
theorem p0_19 (n : String) : xFp RX0 n 19 1 0 (.int) := ⟨RX1, TX1, 8, tyX1, rfl, inX1, by decide, tyX1_ok, nmX1, by decide +kernel, Or.inr (Or.inl ⟨rfl, lw_atN 99 (by decide +kernel) rfl⟩)⟩
theorem f3_167 : xFd RX3 167 1 0 := ⟨RX1, TX1, 8, rfl, inX1, by decide, Or.inr (lw_atN 100 (by decide +kernel) rfl)⟩
theorem p3_167 (n : String) : xFp RX3 n 167 1 0 (.int) := ⟨RX1, TX1, 8, tyX1, rfl, inX1, by decide, tyX1_ok, nmX1, by decide +kernel, Or.inr (Or.inl ⟨rfl, lw_atN 100 (by decide +kernel) rfl⟩)⟩
theorem f1_15 : xFd RX1 15 1 1 := ⟨RX1, TX1, 8, rfl, inX1, by decide, Or.inl (lw_at 101 (by decide +kernel) rfl)⟩
theorem p1_15 : xFp RX1 "<init>" 15 1 1 (.array .int) := ⟨RX1, TX1, 8, tyX1, rfl, inX1, by decide, tyX1_ok, nmX1, by decide +kernel, Or.inr (Or.inr ⟨rfl, rfl, rfl, lw_at 101 (by decide +kernel) rfl⟩)⟩
theorem f3_64 : xFd RX3 64 1 1 := ⟨RX1, TX1, 8, rfl, inX1, by decide, Or.inr (lw_atN 102 (by decide +kernel) rfl)⟩
theorem f1_19 : xFd RX1 19 1 2 := ⟨RX1, TX1, 8, rfl, inX1, by decide, Or.inl (lw_at 103 (by decide +kernel) rfl)⟩
theorem p1_19 : xFp RX1 "<init>" 19 1 2 (.array .int) := ⟨RX1, TX1, 8, tyX1, rfl, inX1, by decide, tyX1_ok, nmX1, by decide +kernel, Or.inr (Or.inr ⟨rfl, rfl, rfl, lw_at 103 (by decide +kernel) rfl⟩)⟩
theorem f3_71 : xFd RX3 71 1 2 := ⟨RX1, TX1, 8, rfl, inX1, by decide, Or.inr (lw_atN 104 (by decide +kernel) rfl)⟩
theorem f1_28 : xFd RX1 28 1 3 := ⟨RX1, TX1, 8, rfl, inX1, by decide, Or.inl (lw_at 105 (by decide +kernel) rfl)⟩
theorem p1_28 : xFp RX1 "<init>" 28 1 3 (.array .int) := ⟨RX1, TX1, 8, tyX1, rfl, inX1, by decide, tyX1_ok, nmX1, by decide +kernel, Or.inr (Or.inr ⟨rfl, rfl, rfl, lw_at 105 (by decide +kernel) rfl⟩)⟩
theorem f3_81 : xFd RX3 81 1 3 := ⟨RX1, TX1, 8, rfl, inX1, by decide, Or.inr (lw_atN 106 (by decide +kernel) rfl)⟩
theorem f1_31 : xFd RX1 31 1 4 := ⟨RX1, TX1, 8, rfl, inX1, by decide, Or.inl (lw_at 107 (by decide +kernel) rfl)⟩
theorem p1_31 : xFp RX1 "<init>" 31 1 4 (.array .int) := ⟨RX1, TX1, 8, tyX1, rfl, inX1, by decide, tyX1_ok, nmX1, by decide +kernel, Or.inr (Or.inr ⟨rfl, rfl, rfl, lw_at 107 (by decide +kernel) rfl⟩)⟩
theorem f3_222 : xFd RX3 222 1 4 := ⟨RX1, TX1, 8, rfl, inX1, by decide, Or.inr (lw_atN 108 (by decide +kernel) rfl)⟩
theorem f1_34 : xFd RX1 34 1 5 := ⟨RX1, TX1, 8, rfl, inX1, by decide, Or.inl (lw_at 109 (by decide +kernel) rfl)⟩
theorem p1_34 (n : String) : xFp RX1 n 34 1 5 (.int) := ⟨RX1, TX1, 8, tyX1, rfl, inX1, by decide, tyX1_ok, nmX1, by decide +kernel, Or.inl ⟨rfl, lw_at 109 (by decide +kernel) rfl⟩⟩
theorem f0_77 : xFd RX0 77 1 5 := ⟨RX1, TX1, 8, rfl, inX1, by decide, Or.inr (lw_atN 110 (by decide +kernel) rfl)⟩
theorem p0_77 (n : String) : xFp RX0 n 77 1 5 (.int) := ⟨RX1, TX1, 8, tyX1, rfl, inX1, by decide, tyX1_ok, nmX1, by decide +kernel, Or.inr (Or.inl ⟨rfl, lw_atN 110 (by decide +kernel) rfl⟩)⟩
theorem f3_179 : xFd RX3 179 1 5 := ⟨RX1, TX1, 8, rfl, inX1, by decide, Or.inr (lw_atN 111 (by decide +kernel) rfl)⟩
theorem p3_179 (n : String) : xFp RX3 n 179 1 5 (.int) := ⟨RX1, TX1, 8, tyX1, rfl, inX1, by decide, tyX1_ok, nmX1, by decide +kernel, Or.inr (Or.inl ⟨rfl, lw_atN 111 (by decide +kernel) rfl⟩)⟩
theorem f1_37 : xFd RX1 37 1 6 := ⟨RX1, TX1, 8, rfl, inX1, by decide, Or.inl (lw_at 112 (by decide +kernel) rfl)⟩
theorem p1_37 : xFp RX1 "<init>" 37 1 6 (.array .int) := ⟨RX1, TX1, 8, tyX1, rfl, inX1, by decide, tyX1_ok, nmX1, by decide +kernel, Or.inr (Or.inr ⟨rfl, rfl, rfl, lw_at 112 (by decide +kernel) rfl⟩)⟩
theorem f0_35 : xFd RX0 35 1 6 := ⟨RX1, TX1, 8, rfl, inX1, by decide, Or.inr (lw_atN 113 (by decide +kernel) rfl)⟩
theorem f3_146 : xFd RX3 146 1 6 := ⟨RX1, TX1, 8, rfl, inX1, by decide, Or.inr (lw_atN 114 (by decide +kernel) rfl)⟩
theorem f1_40 : xFd RX1 40 1 7 := ⟨RX1, TX1, 8, rfl, inX1, by decide, Or.inl (lw_at 115 (by decide +kernel) rfl)⟩
theorem p1_40 (n : String) : xFp RX1 n 40 1 7 (.int) := ⟨RX1, TX1, 8, tyX1, rfl, inX1, by decide, tyX1_ok, nmX1, by decide +kernel, Or.inl ⟨rfl, lw_at 115 (by decide +kernel) rfl⟩⟩
theorem f0_32 : xFd RX0 32 1 7 := ⟨RX1, TX1, 8, rfl, inX1, by decide, Or.inr (lw_atN 116 (by decide +kernel) rfl)⟩
theorem p0_32 (n : String) : xFp RX0 n 32 1 7 (.int) := ⟨RX1, TX1, 8, tyX1, rfl, inX1, by decide, tyX1_ok, nmX1, by decide +kernel, Or.inr (Or.inl ⟨rfl, lw_atN 116 (by decide +kernel) rfl⟩)⟩
theorem f3_139 : xFd RX3 139 1 7 := ⟨RX1, TX1, 8, rfl, inX1, by decide, Or.inr (lw_atN 117 (by decide +kernel) rfl)⟩
theorem p3_139 (n : String) : xFp RX3 n 139 1 7 (.int) := ⟨RX1, TX1, 8, tyX1, rfl, inX1, by decide, tyX1_ok, nmX1, by decide +kernel, Or.inr (Or.inl ⟨rfl, lw_atN 117 (by decide +kernel) rfl⟩)⟩
theorem wA_int : Cond.arrayClass .int ∈ lw_good := lw_at 135 (by decide +kernel) rfl
theorem l3_28 : Cond.classLink RX3 28 RX2 ∈ lw_good := lw_at 137 (by decide +kernel) rfl
theorem n3_28 : xNc RX3 28 2 7 [.null, .int 0, .int 0, .int 0, .null, .null, .null] := by
  refine ⟨RX2, TX2, tyX2, rfl, inX2, tyX2_ok, l3_28, lw_at 138 (by decide +kernel) rfl, lw_at 76 (by decide +kernel) rfl, fun G j hj => ?_⟩
  match j, hj with
  | 0, _ => rfl
  | 1, _ => rfl
  | 2, _ => rfl
  | 3, _ => rfl
  | 4, _ => rfl
  | 5, _ => rfl
  | 6, _ => rfl
  | n + 7, h => omega
theorem f2_9 : xFd RX2 9 2 0 := ⟨RX2, TX2, 7, rfl, inX2, by decide, Or.inl (lw_at 143 (by decide +kernel) rfl)⟩
theorem p2_9 : xFp RX2 "<init>" 9 2 0 (.array .int) := ⟨RX2, TX2, 7, tyX2, rfl, inX2, by decide, tyX2_ok, nmX2, by decide +kernel, Or.inr (Or.inr ⟨rfl, rfl, rfl, lw_at 143 (by decide +kernel) rfl⟩)⟩
theorem f2_15 : xFd RX2 15 2 1 := ⟨RX2, TX2, 7, rfl, inX2, by decide, Or.inl (lw_at 144 (by decide +kernel) rfl)⟩
theorem p2_15 (n : String) : xFp RX2 n 15 2 1 (.int) := ⟨RX2, TX2, 7, tyX2, rfl, inX2, by decide, tyX2_ok, nmX2, by decide +kernel, Or.inl ⟨rfl, lw_at 144 (by decide +kernel) rfl⟩⟩
theorem f3_185 : xFd RX3 185 2 1 := ⟨RX2, TX2, 7, rfl, inX2, by decide, Or.inr (lw_atN 145 (by decide +kernel) rfl)⟩
theorem p3_185 (n : String) : xFp RX3 n 185 2 1 (.int) := ⟨RX2, TX2, 7, tyX2, rfl, inX2, by decide, tyX2_ok, nmX2, by decide +kernel, Or.inr (Or.inl ⟨rfl, lw_atN 145 (by decide +kernel) rfl⟩)⟩
theorem f2_19 : xFd RX2 19 2 2 := ⟨RX2, TX2, 7, rfl, inX2, by decide, Or.inl (lw_at 146 (by decide +kernel) rfl)⟩
theorem p2_19 (n : String) : xFp RX2 n 19 2 2 (.int) := ⟨RX2, TX2, 7, tyX2, rfl, inX2, by decide, tyX2_ok, nmX2, by decide +kernel, Or.inl ⟨rfl, lw_at 146 (by decide +kernel) rfl⟩⟩
theorem f2_22 : xFd RX2 22 2 3 := ⟨RX2, TX2, 7, rfl, inX2, by decide, Or.inl (lw_at 147 (by decide +kernel) rfl)⟩
theorem p2_22 (n : String) : xFp RX2 n 22 2 3 (.int) := ⟨RX2, TX2, 7, tyX2, rfl, inX2, by decide, tyX2_ok, nmX2, by decide +kernel, Or.inl ⟨rfl, lw_at 147 (by decide +kernel) rfl⟩⟩
theorem f3_197 : xFd RX3 197 2 3 := ⟨RX2, TX2, 7, rfl, inX2, by decide, Or.inr (lw_atN 148 (by decide +kernel) rfl)⟩
theorem p3_197 (n : String) : xFp RX3 n 197 2 3 (.int) := ⟨RX2, TX2, 7, tyX2, rfl, inX2, by decide, tyX2_ok, nmX2, by decide +kernel, Or.inr (Or.inl ⟨rfl, lw_atN 148 (by decide +kernel) rfl⟩)⟩
theorem f2_25 : xFd RX2 25 2 4 := ⟨RX2, TX2, 7, rfl, inX2, by decide, Or.inl (lw_at 149 (by decide +kernel) rfl)⟩
theorem p2_25 : xFp RX2 "<init>" 25 2 4 (.array .int) := ⟨RX2, TX2, 7, tyX2, rfl, inX2, by decide, tyX2_ok, nmX2, by decide +kernel, Or.inr (Or.inr ⟨rfl, rfl, rfl, lw_at 149 (by decide +kernel) rfl⟩)⟩
theorem f3_200 : xFd RX3 200 2 4 := ⟨RX2, TX2, 7, rfl, inX2, by decide, Or.inr (lw_atN 150 (by decide +kernel) rfl)⟩
theorem f2_28 : xFd RX2 28 2 5 := ⟨RX2, TX2, 7, rfl, inX2, by decide, Or.inl (lw_at 151 (by decide +kernel) rfl)⟩
theorem p2_28 : xFp RX2 "<init>" 28 2 5 (.array .int) := ⟨RX2, TX2, 7, tyX2, rfl, inX2, by decide, tyX2_ok, nmX2, by decide +kernel, Or.inr (Or.inr ⟨rfl, rfl, rfl, lw_at 151 (by decide +kernel) rfl⟩)⟩
theorem f3_203 : xFd RX3 203 2 5 := ⟨RX2, TX2, 7, rfl, inX2, by decide, Or.inr (lw_atN 152 (by decide +kernel) rfl)⟩
theorem f2_31 : xFd RX2 31 2 6 := ⟨RX2, TX2, 7, rfl, inX2, by decide, Or.inl (lw_at 153 (by decide +kernel) rfl)⟩
theorem p2_31 : xFp RX2 "<init>" 31 2 6 (.array .int) := ⟨RX2, TX2, 7, tyX2, rfl, inX2, by decide, tyX2_ok, nmX2, by decide +kernel, Or.inr (Or.inr ⟨rfl, rfl, rfl, lw_at 153 (by decide +kernel) rfl⟩)⟩
theorem f3_206 : xFd RX3 206 2 6 := ⟨RX2, TX2, 7, rfl, inX2, by decide, Or.inr (lw_atN 154 (by decide +kernel) rfl)⟩
theorem l3_35 : Cond.classLink RX3 35 RX0 ∈ lw_good := lw_at 170 (by decide +kernel) rfl
theorem n3_35 : xNc RX3 35 0 2 [.null, .null] := by
  refine ⟨RX0, TX0, tyX0, rfl, inX0, tyX0_ok, l3_35, lw_at 171 (by decide +kernel) rfl, lw_at 77 (by decide +kernel) rfl, fun G j hj => ?_⟩
  match j, hj with
  | 0, _ => rfl
  | 1, _ => rfl
  | n + 2, h => omega
theorem f0_9 : xFd RX0 9 0 0 := ⟨RX0, TX0, 2, rfl, inX0, by decide, Or.inl (lw_at 176 (by decide +kernel) rfl)⟩
theorem p0_9 : xFp RX0 "<init>" 9 0 0 (.array .float) := ⟨RX0, TX0, 2, tyX0, rfl, inX0, by decide, tyX0_ok, nmX0, by decide +kernel, Or.inr (Or.inr ⟨rfl, rfl, rfl, lw_at 176 (by decide +kernel) rfl⟩)⟩
theorem f0_15 : xFd RX0 15 0 1 := ⟨RX0, TX0, 2, rfl, inX0, by decide, Or.inl (lw_at 177 (by decide +kernel) rfl)⟩
theorem p0_15 : xFp RX0 "<init>" 15 0 1 (.array .int) := ⟨RX0, TX0, 2, tyX0, rfl, inX0, by decide, tyX0_ok, nmX0, by decide +kernel, Or.inr (Or.inr ⟨rfl, rfl, rfl, lw_at 177 (by decide +kernel) rfl⟩)⟩
theorem wA_float : Cond.arrayClass .float ∈ lw_good := lw_at 183 (by decide +kernel) rfl
theorem f3_10 : xFd RX3 10 3 0 := ⟨RX3, TX3, 6, rfl, inX3, by decide, Or.inl (lw_at 184 (by decide +kernel) rfl)⟩
theorem p3_10 : xFp RX3 "<init>" 10 3 0 (.object "HuesApart$Scene") := ⟨RX3, TX3, 6, tyX3, rfl, inX3, by decide, tyX3_ok, nmX3, by decide +kernel, Or.inr (Or.inr ⟨rfl, rfl, rfl, lw_at 184 (by decide +kernel) rfl⟩)⟩
theorem f3_16 : xFd RX3 16 3 1 := ⟨RX3, TX3, 6, rfl, inX3, by decide, Or.inl (lw_at 185 (by decide +kernel) rfl)⟩
theorem p3_16 : xFp RX3 "<init>" 16 3 1 (.array (.object "HuesApart$Scene")) := ⟨RX3, TX3, 6, tyX3, rfl, inX3, by decide, tyX3_ok, nmX3, by decide +kernel, Or.inr (Or.inr ⟨rfl, rfl, rfl, lw_at 185 (by decide +kernel) rfl⟩)⟩
theorem f3_20 : xFd RX3 20 3 2 := ⟨RX3, TX3, 6, rfl, inX3, by decide, Or.inl (lw_at 186 (by decide +kernel) rfl)⟩
theorem p3_20 (n : String) : xFp RX3 n 20 3 2 (.int) := ⟨RX3, TX3, 6, tyX3, rfl, inX3, by decide, tyX3_ok, nmX3, by decide +kernel, Or.inl ⟨rfl, lw_at 186 (by decide +kernel) rfl⟩⟩
theorem f3_24 : xFd RX3 24 3 3 := ⟨RX3, TX3, 6, rfl, inX3, by decide, Or.inl (lw_at 187 (by decide +kernel) rfl)⟩
theorem p3_24 : xFp RX3 "<init>" 24 3 3 (.array .int) := ⟨RX3, TX3, 6, tyX3, rfl, inX3, by decide, tyX3_ok, nmX3, by decide +kernel, Or.inr (Or.inr ⟨rfl, rfl, rfl, lw_at 187 (by decide +kernel) rfl⟩)⟩
theorem f3_31 : xFd RX3 31 3 4 := ⟨RX3, TX3, 6, rfl, inX3, by decide, Or.inl (lw_at 188 (by decide +kernel) rfl)⟩
theorem p3_31 : xFp RX3 "<init>" 31 3 4 (.object "HuesApart$Script") := ⟨RX3, TX3, 6, tyX3, rfl, inX3, by decide, tyX3_ok, nmX3, by decide +kernel, Or.inr (Or.inr ⟨rfl, rfl, rfl, lw_at 188 (by decide +kernel) rfl⟩)⟩
theorem f3_38 : xFd RX3 38 3 5 := ⟨RX3, TX3, 6, rfl, inX3, by decide, Or.inl (lw_at 189 (by decide +kernel) rfl)⟩
theorem p3_38 : xFp RX3 "<init>" 38 3 5 (.object "HuesApart$Chooser") := ⟨RX3, TX3, 6, tyX3, rfl, inX3, by decide, tyX3_ok, nmX3, by decide +kernel, Or.inr (Or.inr ⟨rfl, rfl, rfl, lw_at 189 (by decide +kernel) rfl⟩)⟩
theorem k6_265 : Jvm.Cond.constant RJ6 265 1431655765 ∈ lw_good := lw_at 297 (by decide +kernel) rfl
theorem k6_266 : Jvm.Cond.constant RJ6 266 858993459 ∈ lw_good := lw_at 298 (by decide +kernel) rfl
theorem k6_267 : Jvm.Cond.constant RJ6 267 252645135 ∈ lw_good := lw_at 299 (by decide +kernel) rfl
theorem k1_71 : Jvm.Cond.constantFloat RX1 71 1050220167 ∈ lw_good := lw_at 319 (by decide +kernel) rfl
theorem k1_72 : Jvm.Cond.constantFloat RX1 72 1058424226 ∈ lw_good := lw_at 320 (by decide +kernel) rfl
theorem k1_73 : Jvm.Cond.constantFloat RX1 73 1038710997 ∈ lw_good := lw_at 321 (by decide +kernel) rfl
theorem k3_256 : Jvm.Cond.constantFloat RX3 256 1056964608 ∈ lw_good := lw_at 338 (by decide +kernel) rfl
theorem k3_257 : Jvm.Cond.constantFloat RX3 257 1258291200 ∈ lw_good := lw_at 339 (by decide +kernel) rfl
theorem k3_120 : Jvm.Cond.constant RX3 120 (-2147483648) ∈ lw_good := lw_at 340 (by decide +kernel) rfl
theorem k1_74 : Jvm.Cond.constantFloat RX1 74 1120403456 ∈ lw_good := lw_at 353 (by decide +kernel) rfl
theorem k3_225 : Jvm.Cond.constantLong RX3 225 2619 ∈ lw_good := lw_at 563 (by decide +kernel) rfl
theorem k3_227 : Jvm.Cond.constantLong RX3 227 31 ∈ lw_good := lw_at 564 (by decide +kernel) rfl
theorem l5_10 : Cond.classLink RL 10 RX4 ∈ lw_good := lw_at 571 (by decide +kernel) rfl
theorem n5_10 : xNc RL 10 4 16 [.null, .null, .null, .int 0, .null, .null, .int 0, .null, .int 0, .null, .null, .null, .int 0, .int 0, .int 0, .long 0] := by
  refine ⟨RX4, TX4, tyX4, rfl, inX4, tyX4_ok, l5_10, lw_at 572 (by decide +kernel) rfl, lw_at 78 (by decide +kernel) rfl, fun G j hj => ?_⟩
  match j, hj with
  | 0, _ => rfl
  | 1, _ => rfl
  | 2, _ => rfl
  | 3, _ => rfl
  | 4, _ => rfl
  | 5, _ => rfl
  | 6, _ => rfl
  | 7, _ => rfl
  | 8, _ => rfl
  | 9, _ => rfl
  | 10, _ => rfl
  | 11, _ => rfl
  | 12, _ => rfl
  | 13, _ => rfl
  | 14, _ => rfl
  | 15, _ => rfl
  | n + 16, h => omega
theorem f4_7 : xFd RX4 7 4 0 := ⟨RX4, TX4, 16, rfl, inX4, by decide, Or.inl (lw_at 577 (by decide +kernel) rfl)⟩
theorem p4_7 : xFp RX4 "<init>" 7 4 0 (.array .int) := ⟨RX4, TX4, 16, tyX4, rfl, inX4, by decide, tyX4_ok, nmX4, by decide +kernel, Or.inr (Or.inr ⟨rfl, rfl, rfl, lw_at 577 (by decide +kernel) rfl⟩)⟩
theorem f4_13 : xFd RX4 13 4 1 := ⟨RX4, TX4, 16, rfl, inX4, by decide, Or.inl (lw_at 578 (by decide +kernel) rfl)⟩
theorem p4_13 : xFp RX4 "<init>" 13 4 1 (.array .int) := ⟨RX4, TX4, 16, tyX4, rfl, inX4, by decide, tyX4_ok, nmX4, by decide +kernel, Or.inr (Or.inr ⟨rfl, rfl, rfl, lw_at 578 (by decide +kernel) rfl⟩)⟩
theorem f4_16 : xFd RX4 16 4 2 := ⟨RX4, TX4, 16, rfl, inX4, by decide, Or.inl (lw_at 579 (by decide +kernel) rfl)⟩
theorem p4_16 : xFp RX4 "<init>" 16 4 2 (.array .int) := ⟨RX4, TX4, 16, tyX4, rfl, inX4, by decide, tyX4_ok, nmX4, by decide +kernel, Or.inr (Or.inr ⟨rfl, rfl, rfl, lw_at 579 (by decide +kernel) rfl⟩)⟩
theorem f4_41 : xFd RX4 41 4 3 := ⟨RX4, TX4, 16, rfl, inX4, by decide, Or.inl (lw_at 580 (by decide +kernel) rfl)⟩
theorem p4_41 (n : String) : xFp RX4 n 41 4 3 (.int) := ⟨RX4, TX4, 16, tyX4, rfl, inX4, by decide, tyX4_ok, nmX4, by decide +kernel, Or.inl ⟨rfl, lw_at 580 (by decide +kernel) rfl⟩⟩
theorem f4_19 : xFd RX4 19 4 4 := ⟨RX4, TX4, 16, rfl, inX4, by decide, Or.inl (lw_at 581 (by decide +kernel) rfl)⟩
theorem p4_19 : xFp RX4 "<init>" 19 4 4 (.array .int) := ⟨RX4, TX4, 16, tyX4, rfl, inX4, by decide, tyX4_ok, nmX4, by decide +kernel, Or.inr (Or.inr ⟨rfl, rfl, rfl, lw_at 581 (by decide +kernel) rfl⟩)⟩
theorem f4_22 : xFd RX4 22 4 5 := ⟨RX4, TX4, 16, rfl, inX4, by decide, Or.inl (lw_at 582 (by decide +kernel) rfl)⟩
theorem p4_22 : xFp RX4 "<init>" 22 4 5 (.array .int) := ⟨RX4, TX4, 16, tyX4, rfl, inX4, by decide, tyX4_ok, nmX4, by decide +kernel, Or.inr (Or.inr ⟨rfl, rfl, rfl, lw_at 582 (by decide +kernel) rfl⟩)⟩
theorem f4_198 : xFd RX4 198 4 6 := ⟨RX4, TX4, 16, rfl, inX4, by decide, Or.inl (lw_at 583 (by decide +kernel) rfl)⟩
theorem p4_198 (n : String) : xFp RX4 n 198 4 6 (.int) := ⟨RX4, TX4, 16, tyX4, rfl, inX4, by decide, tyX4_ok, nmX4, by decide +kernel, Or.inl ⟨rfl, lw_at 583 (by decide +kernel) rfl⟩⟩
theorem f4_25 : xFd RX4 25 4 7 := ⟨RX4, TX4, 16, rfl, inX4, by decide, Or.inl (lw_at 584 (by decide +kernel) rfl)⟩
theorem p4_25 : xFp RX4 "<init>" 25 4 7 (.array .float) := ⟨RX4, TX4, 16, tyX4, rfl, inX4, by decide, tyX4_ok, nmX4, by decide +kernel, Or.inr (Or.inr ⟨rfl, rfl, rfl, lw_at 584 (by decide +kernel) rfl⟩)⟩
theorem f4_133 : xFd RX4 133 4 8 := ⟨RX4, TX4, 16, rfl, inX4, by decide, Or.inl (lw_at 585 (by decide +kernel) rfl)⟩
theorem p4_133 (n : String) : xFp RX4 n 133 4 8 (.int) := ⟨RX4, TX4, 16, tyX4, rfl, inX4, by decide, tyX4_ok, nmX4, by decide +kernel, Or.inl ⟨rfl, lw_at 585 (by decide +kernel) rfl⟩⟩
theorem f4_29 : xFd RX4 29 4 9 := ⟨RX4, TX4, 16, rfl, inX4, by decide, Or.inl (lw_at 586 (by decide +kernel) rfl)⟩
theorem p4_29 : xFp RX4 "<init>" 29 4 9 (.array .int) := ⟨RX4, TX4, 16, tyX4, rfl, inX4, by decide, tyX4_ok, nmX4, by decide +kernel, Or.inr (Or.inr ⟨rfl, rfl, rfl, lw_at 586 (by decide +kernel) rfl⟩)⟩
theorem f4_32 : xFd RX4 32 4 10 := ⟨RX4, TX4, 16, rfl, inX4, by decide, Or.inl (lw_at 587 (by decide +kernel) rfl)⟩
theorem p4_32 : xFp RX4 "<init>" 32 4 10 (.array .int) := ⟨RX4, TX4, 16, tyX4, rfl, inX4, by decide, tyX4_ok, nmX4, by decide +kernel, Or.inr (Or.inr ⟨rfl, rfl, rfl, lw_at 587 (by decide +kernel) rfl⟩)⟩
theorem f4_35 : xFd RX4 35 4 11 := ⟨RX4, TX4, 16, rfl, inX4, by decide, Or.inl (lw_at 588 (by decide +kernel) rfl)⟩
theorem p4_35 : xFp RX4 "<init>" 35 4 11 (.array .int) := ⟨RX4, TX4, 16, tyX4, rfl, inX4, by decide, tyX4_ok, nmX4, by decide +kernel, Or.inr (Or.inr ⟨rfl, rfl, rfl, lw_at 588 (by decide +kernel) rfl⟩)⟩
theorem f4_216 : xFd RX4 216 4 12 := ⟨RX4, TX4, 16, rfl, inX4, by decide, Or.inl (lw_at 589 (by decide +kernel) rfl)⟩
theorem p4_216 (n : String) : xFp RX4 n 216 4 12 (.int) := ⟨RX4, TX4, 16, tyX4, rfl, inX4, by decide, tyX4_ok, nmX4, by decide +kernel, Or.inl ⟨rfl, lw_at 589 (by decide +kernel) rfl⟩⟩
theorem f4_201 : xFd RX4 201 4 13 := ⟨RX4, TX4, 16, rfl, inX4, by decide, Or.inl (lw_at 590 (by decide +kernel) rfl)⟩
theorem p4_201 (n : String) : xFp RX4 n 201 4 13 (.int) := ⟨RX4, TX4, 16, tyX4, rfl, inX4, by decide, tyX4_ok, nmX4, by decide +kernel, Or.inl ⟨rfl, lw_at 590 (by decide +kernel) rfl⟩⟩
theorem f4_207 : xFd RX4 207 4 14 := ⟨RX4, TX4, 16, rfl, inX4, by decide, Or.inl (lw_at 591 (by decide +kernel) rfl)⟩
theorem p4_207 (n : String) : xFp RX4 n 207 4 14 (.int) := ⟨RX4, TX4, 16, tyX4, rfl, inX4, by decide, tyX4_ok, nmX4, by decide +kernel, Or.inl ⟨rfl, lw_at 591 (by decide +kernel) rfl⟩⟩
theorem f4_251 : xFd RX4 251 4 15 := ⟨RX4, TX4, 16, rfl, inX4, by decide, Or.inl (lw_at 592 (by decide +kernel) rfl)⟩
theorem p4_251 (n : String) : xFp RX4 n 251 4 15 (.long) := ⟨RX4, TX4, 16, tyX4, rfl, inX4, by decide, tyX4_ok, nmX4, by decide +kernel, Or.inl ⟨rfl, lw_at 592 (by decide +kernel) rfl⟩⟩
theorem k4_101 : Jvm.Cond.constantFloat RX4 101 1050220167 ∈ lw_good := lw_at 728 (by decide +kernel) rfl
theorem k4_102 : Jvm.Cond.constantFloat RX4 102 1058424226 ∈ lw_good := lw_at 729 (by decide +kernel) rfl
theorem k4_103 : Jvm.Cond.constantFloat RX4 103 1038710997 ∈ lw_good := lw_at 730 (by decide +kernel) rfl
theorem k4_38 : Jvm.Cond.constant RX4 38 (-2147483648) ∈ lw_good := lw_at 746 (by decide +kernel) rfl
theorem k4_39 : Jvm.Cond.constantFloat RX4 39 1056964608 ∈ lw_good := lw_at 747 (by decide +kernel) rfl
theorem k4_40 : Jvm.Cond.constantFloat RX4 40 1258291200 ∈ lw_good := lw_at 748 (by decide +kernel) rfl
theorem k4_121 : Jvm.Cond.constantFloat RX4 121 1120403456 ∈ lw_good := lw_at 757 (by decide +kernel) rfl
theorem k4_255 : Jvm.Cond.constantLong RX4 255 2619 ∈ lw_good := lw_at 957 (by decide +kernel) rfl
theorem k4_249 : Jvm.Cond.constantLong RX4 249 31 ∈ lw_good := lw_at 962 (by decide +kernel) rfl
theorem wO_i : Cond.instanceMethod Lib.objectInit ∈ lw_good := lw_at 87 (by decide +kernel) rfl
theorem wO_c : Cond.code Lib.objectInit ⟨#[0xb1]⟩ 1 none ∈ lw_good := lw_at 88 (by decide +kernel) rfl
theorem wC_n : Cond.native arraycopyName ∈ lw_good := lw_at 235 (by decide +kernel) rfl
theorem wC_s : Cond.static arraycopyName ∈ lw_good := lw_at 234 (by decide +kernel) rfl
theorem wC_i : Cond.initialized "java/lang/System" ∈ lw_good := lw_at 79 (by decide +kernel) rfl
abbrev mX0_init : xM := (yX0_init, cX0_init, 1, none, none)
theorem mdX0_init : xMd mX0_init 0 := ⟨rfl, by decide, by decide, lw_at 174 (by decide +kernel) rfl, lw_at 77 (by decide +kernel) rfl, by decide +kernel⟩
abbrev mX0_measure : xM := (yX0_measure, cX0_measure, 5, none, none)
theorem mdX0_measure : xMd mX0_measure 1 := ⟨rfl, by decide, by decide, lw_at 388 (by decide +kernel) rfl, lw_at 77 (by decide +kernel) rfl, by decide +kernel⟩
abbrev mX0_gap : xM := (yX0_gap, cX0_gap, 3, (some .float), none)
theorem mdX0_gap : xMd mX0_gap 2 := ⟨rfl, by decide, by decide, lw_at 416 (by decide +kernel) rfl, lw_at 77 (by decide +kernel) rfl, by decide +kernel⟩
abbrev mX0_leastOf : xM := (yX0_leastOf, cX0_leastOf, 7, (some .float), none)
theorem mdX0_leastOf : xMd mX0_leastOf 2 := ⟨rfl, by decide, by decide, lw_at 432 (by decide +kernel) rfl, lw_at 77 (by decide +kernel) rfl, by decide +kernel⟩
abbrev mX0_nearestPlaces : xM := (yX0_nearestPlaces, cX0_nearestPlaces, 7, (some .int), none)
theorem mdX0_nearestPlaces : xMd mX0_nearestPlaces 1 := ⟨rfl, by decide, by decide, lw_at 450 (by decide +kernel) rfl, lw_at 77 (by decide +kernel) rfl, by decide +kernel⟩
abbrev mX0_fill : xM := (yX0_fill, cX0_fill, 6, none, none)
theorem mdX0_fill : xMd mX0_fill 2 := ⟨rfl, by decide, by decide, lw_at 384 (by decide +kernel) rfl, lw_at 77 (by decide +kernel) rfl, by decide +kernel⟩
abbrev mX0_nextOne : xM := (yX0_nextOne, cX0_nextOne, 7, (some .int), none)
theorem mdX0_nextOne : xMd mX0_nextOne 2 := ⟨rfl, by decide, by decide, lw_at 407 (by decide +kernel) rfl, lw_at 77 (by decide +kernel) rfl, by decide +kernel⟩
abbrev mX0_gapToRow : xM := (yX0_gapToRow, cX0_gapToRow, 6, (some .float), none)
theorem mdX0_gapToRow : xMd mX0_gapToRow 2 := ⟨rfl, by decide, by decide, lw_at 412 (by decide +kernel) rfl, lw_at 77 (by decide +kernel) rfl, by decide +kernel⟩
abbrev mX0_swapAll : xM := (yX0_swapAll, cX0_swapAll, 4, (some .int), none)
theorem mdX0_swapAll : xMd mX0_swapAll 1 := ⟨rfl, by decide, by decide, lw_at 424 (by decide +kernel) rfl, lw_at 77 (by decide +kernel) rfl, by decide +kernel⟩
abbrev mX0_swapOne : xM := (yX0_swapOne, cX0_swapOne, 7, (some .boolean), none)
theorem mdX0_swapOne : xMd mX0_swapOne 2 := ⟨rfl, by decide, by decide, lw_at 428 (by decide +kernel) rfl, lw_at 77 (by decide +kernel) rfl, by decide +kernel⟩
abbrev mX0_bestSet : xM := (yX0_bestSet, cX0_bestSet, 9, (some .int), none)
theorem mdX0_bestSet : xMd mX0_bestSet 2 := ⟨rfl, by decide, by decide, lw_at 458 (by decide +kernel) rfl, lw_at 77 (by decide +kernel) rfl, by decide +kernel⟩
abbrev mX0_listMembers : xM := (yX0_listMembers, cX0_listMembers, 4, (some .int), none)
theorem mdX0_listMembers : xMd mX0_listMembers 1 := ⟨rfl, by decide, by decide, lw_at 462 (by decide +kernel) rfl, lw_at 77 (by decide +kernel) rfl, by decide +kernel⟩
abbrev mX0_nextOfLikeSize : xM := (yX0_nextOfLikeSize, cX0_nextOfLikeSize, 4, (some .int), none)
theorem mdX0_nextOfLikeSize : xMd mX0_nextOfLikeSize 1 := ⟨rfl, by decide, by decide, lw_at 465 (by decide +kernel) rfl, lw_at 77 (by decide +kernel) rfl, by decide +kernel⟩
abbrev mX1_init : xM := (yX1_init, cX1_init, 3, none, none)
theorem mdX1_init : xMd mX1_init 0 := ⟨rfl, by decide, by decide, lw_at 93 (by decide +kernel) rfl, lw_at 74 (by decide +kernel) rfl, by decide +kernel⟩
abbrev mX1_become : xM := (yX1_become, cX1_become, 2, none, none)
theorem mdX1_become : xMd mX1_become 1 := ⟨rfl, by decide, by decide, lw_at 232 (by decide +kernel) rfl, lw_at 74 (by decide +kernel) rfl, by decide +kernel⟩
abbrev mX1_addColour : xM := (yX1_addColour, cX1_addColour, 5, (some .int), none)
theorem mdX1_addColour : xMd mX1_addColour 3 := ⟨rfl, by decide, by decide, lw_at 243 (by decide +kernel) rfl, lw_at 74 (by decide +kernel) rfl, by decide +kernel⟩
abbrev mX1_setLimit : xM := (yX1_setLimit, cX1_setLimit, 4, (some .int), none)
theorem mdX1_setLimit : xMd mX1_setLimit 2 := ⟨rfl, by decide, by decide, lw_at 281 (by decide +kernel) rfl, lw_at 74 (by decide +kernel) rfl, by decide +kernel⟩
abbrev mX1_setFixed : xM := (yX1_setFixed, cX1_setFixed, 3, (some .int), none)
theorem mdX1_setFixed : xMd mX1_setFixed 2 := ⟨rfl, by decide, by decide, lw_at 293 (by decide +kernel) rfl, lw_at 74 (by decide +kernel) rfl, by decide +kernel⟩
abbrev mX1_isFixed : xM := (yX1_isFixed, cX1_isFixed, 2, (some .boolean), none)
theorem mdX1_isFixed : xMd mX1_isFixed 1 := ⟨rfl, by decide, by decide, lw_at 307 (by decide +kernel) rfl, lw_at 74 (by decide +kernel) rfl, by decide +kernel⟩
abbrev mX1_putIntoRow : xM := (yX1_putIntoRow, cX1_putIntoRow, 2, none, none)
theorem mdX1_putIntoRow : xMd mX1_putIntoRow 1 := ⟨rfl, by decide, by decide, lw_at 394 (by decide +kernel) rfl, lw_at 74 (by decide +kernel) rfl, by decide +kernel⟩
abbrev mX1_placeOf : xM := (yX1_placeOf, cX1_placeOf, 3, (some .int), none)
theorem mdX1_placeOf : xMd mX1_placeOf 1 := ⟨rfl, by decide, by decide, lw_at 325 (by decide +kernel) rfl, lw_at 74 (by decide +kernel) rfl, by decide +kernel⟩
abbrev mX1_rowBits : xM := (yX1_rowBits, cX1_rowBits, 3, (some .int), none)
theorem mdX1_rowBits : xMd mX1_rowBits 0 := ⟨rfl, by decide, by decide, lw_at 403 (by decide +kernel) rfl, lw_at 74 (by decide +kernel) rfl, by decide +kernel⟩
abbrev mX1_countingBits : xM := (yX1_countingBits, cX1_countingBits, 3, (some .int), none)
theorem mdX1_countingBits : xMd mX1_countingBits 0 := ⟨rfl, by decide, by decide, lw_at 483 (by decide +kernel) rfl, lw_at 74 (by decide +kernel) rfl, by decide +kernel⟩
abbrev mX1_fitBits : xM := (yX1_fitBits, cX1_fitBits, 3, (some .int), none)
theorem mdX1_fitBits : xMd mX1_fitBits 0 := ⟨rfl, by decide, by decide, lw_at 398 (by decide +kernel) rfl, lw_at 74 (by decide +kernel) rfl, by decide +kernel⟩
abbrev mX1_isFit : xM := (yX1_isFit, cX1_isFit, 5, (some .boolean), none)
theorem mdX1_isFit : xMd mX1_isFit 1 := ⟨rfl, by decide, by decide, lw_at 311 (by decide +kernel) rfl, lw_at 74 (by decide +kernel) rfl, by decide +kernel⟩
abbrev mX1_lightOf : xM := (yX1_lightOf, cX1_lightOf, 2, (some .float), none)
theorem mdX1_lightOf : xMd mX1_lightOf 1 := ⟨rfl, by decide, by decide, lw_at 315 (by decide +kernel) rfl, lw_at 74 (by decide +kernel) rfl, by decide +kernel⟩
abbrev mX1_lightAt : xM := (yX1_lightAt, cX1_lightAt, 2, (some .float), none)
theorem mdX1_lightAt : xMd mX1_lightAt 2 := ⟨rfl, by decide, by decide, lw_at 318 (by decide +kernel) rfl, lw_at 74 (by decide +kernel) rfl, by decide +kernel⟩
abbrev mX1_seenBy : xM := (yX1_seenBy, cX1_seenBy, 8, (some .float), none)
theorem mdX1_seenBy : xMd mX1_seenBy 3 := ⟨rfl, by decide, by decide, lw_at 352 (by decide +kernel) rfl, lw_at 74 (by decide +kernel) rfl, by decide +kernel⟩
abbrev mX1_isSeenAsMinusZero : xM := (yX1_isSeenAsMinusZero, cX1_isSeenAsMinusZero, 6, (some .boolean), none)
theorem mdX1_isSeenAsMinusZero : xMd mX1_isSeenAsMinusZero 3 := ⟨rfl, by decide, by decide, lw_at 348 (by decide +kernel) rfl, lw_at 74 (by decide +kernel) rfl, by decide +kernel⟩
abbrev mX1_distanceFor : xM := (yX1_distanceFor, cX1_distanceFor, 8, (some .float), none)
theorem mdX1_distanceFor : xMd mX1_distanceFor 3 := ⟨rfl, by decide, by decide, lw_at 361 (by decide +kernel) rfl, lw_at 74 (by decide +kernel) rfl, by decide +kernel⟩
abbrev mX1_apartOf : xM := (yX1_apartOf, cX1_apartOf, 7, (some .float), none)
theorem mdX1_apartOf : xMd mX1_apartOf 2 := ⟨rfl, by decide, by decide, lw_at 370 (by decide +kernel) rfl, lw_at 74 (by decide +kernel) rfl, by decide +kernel⟩
abbrev mX1_pairsBelow : xM := (yX1_pairsBelow, cX1_pairsBelow, 6, (some .int), none)
theorem mdX1_pairsBelow : xMd mX1_pairsBelow 2 := ⟨rfl, by decide, by decide, lw_at 474 (by decide +kernel) rfl, lw_at 74 (by decide +kernel) rfl, by decide +kernel⟩
abbrev mX2_init : xM := (yX2_init, cX2_init, 1, none, none)
theorem mdX2_init : xMd mX2_init 0 := ⟨rfl, by decide, by decide, lw_at 141 (by decide +kernel) rfl, lw_at 76 (by decide +kernel) rfl, by decide +kernel⟩
abbrev mX2_append : xM := (yX2_append, cX2_append, 2, (some .int), none)
theorem mdX2_append : xMd mX2_append 1 := ⟨rfl, by decide, by decide, lw_at 491 (by decide +kernel) rfl, lw_at 76 (by decide +kernel) rfl, by decide +kernel⟩
abbrev mX2_read : xM := (yX2_read, cX2_read, 1, (some .int), none)
theorem mdX2_read : xMd mX2_read 0 := ⟨rfl, by decide, by decide, lw_at 503 (by decide +kernel) rfl, lw_at 76 (by decide +kernel) rfl, by decide +kernel⟩
abbrev mX2_readOrder : xM := (yX2_readOrder, cX2_readOrder, 2, (some .boolean), none)
theorem mdX2_readOrder : xMd mX2_readOrder 0 := ⟨rfl, by decide, by decide, lw_at 515 (by decide +kernel) rfl, lw_at 76 (by decide +kernel) rfl, by decide +kernel⟩
abbrev mX2_readSixFigures : xM := (yX2_readSixFigures, cX2_readSixFigures, 4, (some .boolean), none)
theorem mdX2_readSixFigures : xMd mX2_readSixFigures 0 := ⟨rfl, by decide, by decide, lw_at 519 (by decide +kernel) rfl, lw_at 76 (by decide +kernel) rfl, by decide +kernel⟩
abbrev mX2_readNumber : xM := (yX2_readNumber, cX2_readNumber, 4, (some .boolean), none)
theorem mdX2_readNumber : xMd mX2_readNumber 1 := ⟨rfl, by decide, by decide, lw_at 533 (by decide +kernel) rfl, lw_at 76 (by decide +kernel) rfl, by decide +kernel⟩
abbrev mX2_readEnd : xM := (yX2_readEnd, cX2_readEnd, 1, (some .boolean), none)
theorem mdX2_readEnd : xMd mX2_readEnd 0 := ⟨rfl, by decide, by decide, lw_at 529 (by decide +kernel) rfl, lw_at 76 (by decide +kernel) rfl, by decide +kernel⟩
abbrev mX2_skipBlanks : xM := (yX2_skipBlanks, cX2_skipBlanks, 1, none, none)
theorem mdX2_skipBlanks : xMd mX2_skipBlanks 0 := ⟨rfl, by decide, by decide, lw_at 507 (by decide +kernel) rfl, lw_at 76 (by decide +kernel) rfl, by decide +kernel⟩
abbrev mX2_byteHere : xM := (yX2_byteHere, cX2_byteHere, 1, (some .int), none)
theorem mdX2_byteHere : xMd mX2_byteHere 0 := ⟨rfl, by decide, by decide, lw_at 511 (by decide +kernel) rfl, lw_at 76 (by decide +kernel) rfl, by decide +kernel⟩
abbrev mX2_isTenFigure : xM := (yX2_isTenFigure, cX2_isTenFigure, 1, (some .boolean), none)
theorem mdX2_isTenFigure : xMd mX2_isTenFigure 1 := ⟨rfl, by decide, by decide, lw_at 525 (by decide +kernel) rfl, lw_at 76 (by decide +kernel) rfl, by decide +kernel⟩
abbrev mX2_figureOf : xM := (yX2_figureOf, cX2_figureOf, 1, (some .int), none)
theorem mdX2_figureOf : xMd mX2_figureOf 1 := ⟨rfl, by decide, by decide, lw_at 522 (by decide +kernel) rfl, lw_at 76 (by decide +kernel) rfl, by decide +kernel⟩
abbrev mX3_init : xM := (yX3_init, cX3_init, 2, none, none)
theorem mdX3_init : xMd mX3_init 0 := ⟨rfl, by decide, by decide, lw_at 85 (by decide +kernel) rfl, lw_at 73 (by decide +kernel) rfl, by decide +kernel⟩
abbrev mX3_colour : xM := (yX3_colour, cX3_colour, 5, (some .int), none)
theorem mdX3_colour : xMd mX3_colour 3 := ⟨rfl, by decide, by decide, lw_at 206 (by decide +kernel) rfl, lw_at 73 (by decide +kernel) rfl, by decide +kernel⟩
abbrev mX3_paints : xM := (yX3_paints, cX3_paints, 5, (some .int), none)
theorem mdX3_paints : xMd mX3_paints 4 := ⟨rfl, by decide, by decide, lw_at 250 (by decide +kernel) rfl, lw_at 73 (by decide +kernel) rfl, by decide +kernel⟩
abbrev mX3_ground : xM := (yX3_ground, cX3_ground, 4, (some .int), none)
theorem mdX3_ground : xMd mX3_ground 3 := ⟨rfl, by decide, by decide, lw_at 259 (by decide +kernel) rfl, lw_at 73 (by decide +kernel) rfl, by decide +kernel⟩
abbrev mX3_eye : xM := (yX3_eye, cX3_eye, 6, (some .int), none)
theorem mdX3_eye : xMd mX3_eye 3 := ⟨rfl, by decide, by decide, lw_at 263 (by decide +kernel) rfl, lw_at 73 (by decide +kernel) rfl, by decide +kernel⟩
abbrev mX3_sets : xM := (yX3_sets, cX3_sets, 4, (some .int), none)
theorem mdX3_sets : xMd mX3_sets 2 := ⟨rfl, by decide, by decide, lw_at 273 (by decide +kernel) rfl, lw_at 73 (by decide +kernel) rfl, by decide +kernel⟩
abbrev mX3_fixes : xM := (yX3_fixes, cX3_fixes, 4, (some .int), none)
theorem mdX3_fixes : xMd mX3_fixes 2 := ⟨rfl, by decide, by decide, lw_at 285 (by decide +kernel) rfl, lw_at 73 (by decide +kernel) rfl, by decide +kernel⟩
abbrev mX3_of : xM := (yX3_of, cX3_of, 3, (some .int), none)
theorem mdX3_of : xMd mX3_of 2 := ⟨rfl, by decide, by decide, lw_at 303 (by decide +kernel) rfl, lw_at 73 (by decide +kernel) rfl, by decide +kernel⟩
abbrev mX3_look : xM := (yX3_look, cX3_look, 3, (some .int), none)
theorem mdX3_look : xMd mX3_look 2 := ⟨rfl, by decide, by decide, lw_at 329 (by decide +kernel) rfl, lw_at 73 (by decide +kernel) rfl, by decide +kernel⟩
abbrev mX3_light : xM := (yX3_light, cX3_light, 2, (some .int), none)
theorem mdX3_light : xMd mX3_light 1 := ⟨rfl, by decide, by decide, lw_at 333 (by decide +kernel) rfl, lw_at 73 (by decide +kernel) rfl, by decide +kernel⟩
abbrev mX3_seen : xM := (yX3_seen, cX3_seen, 4, (some .int), none)
theorem mdX3_seen : xMd mX3_seen 3 := ⟨rfl, by decide, by decide, lw_at 344 (by decide +kernel) rfl, lw_at 73 (by decide +kernel) rfl, by decide +kernel⟩
abbrev mX3_distance : xM := (yX3_distance, cX3_distance, 4, (some .int), none)
theorem mdX3_distance : xMd mX3_distance 3 := ⟨rfl, by decide, by decide, lw_at 357 (by decide +kernel) rfl, lw_at 73 (by decide +kernel) rfl, by decide +kernel⟩
abbrev mX3_apart : xM := (yX3_apart, cX3_apart, 3, (some .int), none)
theorem mdX3_apart : xMd mX3_apart 2 := ⟨rfl, by decide, by decide, lw_at 366 (by decide +kernel) rfl, lw_at 73 (by decide +kernel) rfl, by decide +kernel⟩
abbrev mX3_fills : xM := (yX3_fills, cX3_fills, 3, (some .int), none)
theorem mdX3_fills : xMd mX3_fills 1 := ⟨rfl, by decide, by decide, lw_at 375 (by decide +kernel) rfl, lw_at 73 (by decide +kernel) rfl, by decide +kernel⟩
abbrev mX3_swaps : xM := (yX3_swaps, cX3_swaps, 1, (some .int), none)
theorem mdX3_swaps : xMd mX3_swaps 0 := ⟨rfl, by decide, by decide, lw_at 420 (by decide +kernel) rfl, lw_at 73 (by decide +kernel) rfl, by decide +kernel⟩
abbrev mX3_palette : xM := (yX3_palette, cX3_palette, 2, (some .int), none)
theorem mdX3_palette : xMd mX3_palette 1 := ⟨rfl, by decide, by decide, lw_at 436 (by decide +kernel) rfl, lw_at 73 (by decide +kernel) rfl, by decide +kernel⟩
abbrev mX3_least : xM := (yX3_least, cX3_least, 1, (some .int), none)
theorem mdX3_least : xMd mX3_least 0 := ⟨rfl, by decide, by decide, lw_at 440 (by decide +kernel) rfl, lw_at 73 (by decide +kernel) rfl, by decide +kernel⟩
abbrev mX3_nearest : xM := (yX3_nearest, cX3_nearest, 1, (some .int), none)
theorem mdX3_nearest : xMd mX3_nearest 0 := ⟨rfl, by decide, by decide, lw_at 446 (by decide +kernel) rfl, lw_at 73 (by decide +kernel) rfl, by decide +kernel⟩
abbrev mX3_best : xM := (yX3_best, cX3_best, 2, (some .int), none)
theorem mdX3_best : xMd mX3_best 1 := ⟨rfl, by decide, by decide, lw_at 454 (by decide +kernel) rfl, lw_at 73 (by decide +kernel) rfl, by decide +kernel⟩
abbrev mX3_mistaken : xM := (yX3_mistaken, cX3_mistaken, 3, (some .int), none)
theorem mdX3_mistaken : xMd mX3_mistaken 2 := ⟨rfl, by decide, by decide, lw_at 470 (by decide +kernel) rfl, lw_at 73 (by decide +kernel) rfl, by decide +kernel⟩
abbrev mX3_count : xM := (yX3_count, cX3_count, 2, (some .int), none)
theorem mdX3_count : xMd mX3_count 1 := ⟨rfl, by decide, by decide, lw_at 478 (by decide +kernel) rfl, lw_at 73 (by decide +kernel) rfl, by decide +kernel⟩
abbrev mX3_type : xM := (yX3_type, cX3_type, 2, (some .int), none)
theorem mdX3_type : xMd mX3_type 1 := ⟨rfl, by decide, by decide, lw_at 487 (by decide +kernel) rfl, lw_at 73 (by decide +kernel) rfl, by decide +kernel⟩
abbrev mX3_clear : xM := (yX3_clear, cX3_clear, 2, (some .int), none)
theorem mdX3_clear : xMd mX3_clear 0 := ⟨rfl, by decide, by decide, lw_at 495 (by decide +kernel) rfl, lw_at 73 (by decide +kernel) rfl, by decide +kernel⟩
abbrev mX3_does : xM := (yX3_does, cX3_does, 6, (some .int), none)
theorem mdX3_does : xMd mX3_does 0 := ⟨rfl, by decide, by decide, lw_at 499 (by decide +kernel) rfl, lw_at 73 (by decide +kernel) rfl, by decide +kernel⟩
abbrev mX3_back : xM := (yX3_back, cX3_back, 1, (some .int), none)
theorem mdX3_back : xMd mX3_back 0 := ⟨rfl, by decide, by decide, lw_at 554 (by decide +kernel) rfl, lw_at 73 (by decide +kernel) rfl, by decide +kernel⟩
abbrev mX3_told : xM := (yX3_told, cX3_told, 2, (some .int), none)
theorem mdX3_told : xMd mX3_told 1 := ⟨rfl, by decide, by decide, lw_at 558 (by decide +kernel) rfl, lw_at 73 (by decide +kernel) rfl, by decide +kernel⟩
abbrev mX3_digest : xM := (yX3_digest, cX3_digest, 5, (some .long), none)
theorem mdX3_digest : xMd mX3_digest 0 := ⟨rfl, by decide, by decide, lw_at 562 (by decide +kernel) rfl, lw_at 73 (by decide +kernel) rfl, by decide +kernel⟩
abbrev mX3_whyNoColour : xM := (yX3_whyNoColour, cX3_whyNoColour, 4, (some .int), none)
theorem mdX3_whyNoColour : xMd mX3_whyNoColour 3 := ⟨rfl, by decide, by decide, lw_at 210 (by decide +kernel) rfl, lw_at 73 (by decide +kernel) rfl, by decide +kernel⟩
abbrev mX3_whyNoLimit : xM := (yX3_whyNoLimit, cX3_whyNoLimit, 3, (some .int), none)
theorem mdX3_whyNoLimit : xMd mX3_whyNoLimit 2 := ⟨rfl, by decide, by decide, lw_at 277 (by decide +kernel) rfl, lw_at 73 (by decide +kernel) rfl, by decide +kernel⟩
abbrev mX3_whyNotFixed : xM := (yX3_whyNotFixed, cX3_whyNotFixed, 3, (some .int), none)
theorem mdX3_whyNotFixed : xMd mX3_whyNotFixed 2 := ⟨rfl, by decide, by decide, lw_at 289 (by decide +kernel) rfl, lw_at 73 (by decide +kernel) rfl, by decide +kernel⟩
abbrev mX3_whyNoFilling : xM := (yX3_whyNoFilling, cX3_whyNoFilling, 2, (some .int), none)
theorem mdX3_whyNoFilling : xMd mX3_whyNoFilling 1 := ⟨rfl, by decide, by decide, lw_at 379 (by decide +kernel) rfl, lw_at 73 (by decide +kernel) rfl, by decide +kernel⟩
abbrev mX3_refuse : xM := (yX3_refuse, cX3_refuse, 3, (some .int), none)
theorem mdX3_refuse : xMd mX3_refuse 1 := ⟨rfl, by decide, by decide, lw_at 220 (by decide +kernel) rfl, lw_at 73 (by decide +kernel) rfl, by decide +kernel⟩
abbrev mX3_isColour : xM := (yX3_isColour, cX3_isColour, 2, (some .boolean), none)
theorem mdX3_isColour : xMd mX3_isColour 1 := ⟨rfl, by decide, by decide, lw_at 254 (by decide +kernel) rfl, lw_at 73 (by decide +kernel) rfl, by decide +kernel⟩
abbrev mX3_isEye : xM := (yX3_isEye, cX3_isEye, 1, (some .boolean), none)
theorem mdX3_isEye : xMd mX3_isEye 1 := ⟨rfl, by decide, by decide, lw_at 266 (by decide +kernel) rfl, lw_at 73 (by decide +kernel) rfl, by decide +kernel⟩
abbrev mX3_isEyeNumber : xM := (yX3_isEyeNumber, cX3_isEyeNumber, 2, (some .boolean), none)
theorem mdX3_isEyeNumber : xMd mX3_isEyeNumber 2 := ⟨rfl, by decide, by decide, lw_at 269 (by decide +kernel) rfl, lw_at 73 (by decide +kernel) rfl, by decide +kernel⟩
abbrev mX3_isRgb : xM := (yX3_isRgb, cX3_isRgb, 3, (some .boolean), none)
theorem mdX3_isRgb : xMd mX3_isRgb 3 := ⟨rfl, by decide, by decide, lw_at 213 (by decide +kernel) rfl, lw_at 73 (by decide +kernel) rfl, by decide +kernel⟩
abbrev mX3_isWithin : xM := (yX3_isWithin, cX3_isWithin, 3, (some .boolean), none)
theorem mdX3_isWithin : xMd mX3_isWithin 3 := ⟨rfl, by decide, by decide, lw_at 216 (by decide +kernel) rfl, lw_at 73 (by decide +kernel) rfl, by decide +kernel⟩
abbrev mX3_whyNoOrder : xM := (yX3_whyNoOrder, cX3_whyNoOrder, 4, (some .int), none)
theorem mdX3_whyNoOrder : xMd mX3_whyNoOrder 3 := ⟨rfl, by decide, by decide, lw_at 537 (by decide +kernel) rfl, lw_at 73 (by decide +kernel) rfl, by decide +kernel⟩
abbrev mX3_obey : xM := (yX3_obey, cX3_obey, 4, none, none)
theorem mdX3_obey : xMd mX3_obey 3 := ⟨rfl, by decide, by decide, lw_at 550 (by decide +kernel) rfl, lw_at 73 (by decide +kernel) rfl, by decide +kernel⟩
abbrev mX3_redOf : xM := (yX3_redOf, cX3_redOf, 1, (some .int), none)
theorem mdX3_redOf : xMd mX3_redOf 1 := ⟨rfl, by decide, by decide, lw_at 540 (by decide +kernel) rfl, lw_at 73 (by decide +kernel) rfl, by decide +kernel⟩
abbrev mX3_greenOf : xM := (yX3_greenOf, cX3_greenOf, 1, (some .int), none)
theorem mdX3_greenOf : xMd mX3_greenOf 1 := ⟨rfl, by decide, by decide, lw_at 543 (by decide +kernel) rfl, lw_at 73 (by decide +kernel) rfl, by decide +kernel⟩
abbrev mX3_blueOf : xM := (yX3_blueOf, cX3_blueOf, 1, (some .int), none)
theorem mdX3_blueOf : xMd mX3_blueOf 1 := ⟨rfl, by decide, by decide, lw_at 546 (by decide +kernel) rfl, lw_at 73 (by decide +kernel) rfl, by decide +kernel⟩
abbrev mX3_leaveState : xM := (yX3_leaveState, cX3_leaveState, 1, none, none)
theorem mdX3_leaveState : xMd mX3_leaveState 0 := ⟨rfl, by decide, by decide, lw_at 224 (by decide +kernel) rfl, lw_at 73 (by decide +kernel) rfl, by decide +kernel⟩
abbrev mX3_noteState : xM := (yX3_noteState, cX3_noteState, 1, none, none)
theorem mdX3_noteState : xMd mX3_noteState 0 := ⟨rfl, by decide, by decide, lw_at 228 (by decide +kernel) rfl, lw_at 73 (by decide +kernel) rfl, by decide +kernel⟩
abbrev mX3_keepNoted : xM := (yX3_keepNoted, cX3_keepNoted, 3, none, none)
theorem mdX3_keepNoted : xMd mX3_keepNoted 0 := ⟨rfl, by decide, by decide, lw_at 239 (by decide +kernel) rfl, lw_at 73 (by decide +kernel) rfl, by decide +kernel⟩
abbrev mX3_putRgb : xM := (yX3_putRgb, cX3_putRgb, 6, (some .int), none)
theorem mdX3_putRgb : xMd mX3_putRgb 5 := ⟨rfl, by decide, by decide, lw_at 246 (by decide +kernel) rfl, lw_at 73 (by decide +kernel) rfl, by decide +kernel⟩
abbrev mX3_bitsOf : xM := (yX3_bitsOf, cX3_bitsOf, 4, (some .int), none)
theorem mdX3_bitsOf : xMd mX3_bitsOf 1 := ⟨rfl, by decide, by decide, lw_at 337 (by decide +kernel) rfl, lw_at 73 (by decide +kernel) rfl, by decide +kernel⟩
abbrev mX4_init : xM := (yX4_init, cX4_init, 3, none, none)
theorem mdX4_init : xMd mX4_init 0 := ⟨rfl, by decide, by decide, lw_at 575 (by decide +kernel) rfl, lw_at 78 (by decide +kernel) rfl, by decide +kernel⟩
abbrev mX4_in : xM := (yX4_in, cX4_in, 3, (some .boolean), none)
theorem mdX4_in : xMd mX4_in 3 := ⟨rfl, by decide, by decide, lw_at 646 (by decide +kernel) rfl, lw_at 78 (by decide +kernel) rfl, by decide +kernel⟩
abbrev mX4_has : xM := (yX4_has, cX4_has, 2, (some .boolean), none)
theorem mdX4_has : xMd mX4_has 2 := ⟨rfl, by decide, by decide, lw_at 792 (by decide +kernel) rfl, lw_at 78 (by decide +kernel) rfl, by decide +kernel⟩
abbrev mX4_bitsIn : xM := (yX4_bitsIn, cX4_bitsIn, 3, (some .int), none)
theorem mdX4_bitsIn : xMd mX4_bitsIn 1 := ⟨rfl, by decide, by decide, lw_at 711 (by decide +kernel) rfl, lw_at 78 (by decide +kernel) rfl, by decide +kernel⟩
abbrev mX4_bitsOf : xM := (yX4_bitsOf, cX4_bitsOf, 4, (some .int), none)
theorem mdX4_bitsOf : xMd mX4_bitsOf 1 := ⟨rfl, by decide, by decide, lw_at 745 (by decide +kernel) rfl, lw_at 78 (by decide +kernel) rfl, by decide +kernel⟩
abbrev mX4_bad : xM := (yX4_bad, cX4_bad, 1, (some .int), none)
theorem mdX4_bad : xMd mX4_bad 0 := ⟨rfl, by decide, by decide, lw_at 650 (by decide +kernel) rfl, lw_at 78 (by decide +kernel) rfl, by decide +kernel⟩
abbrev mX4_no : xM := (yX4_no, cX4_no, 1, (some .int), none)
theorem mdX4_no : xMd mX4_no 0 := ⟨rfl, by decide, by decide, lw_at 633 (by decide +kernel) rfl, lw_at 78 (by decide +kernel) rfl, by decide +kernel⟩
abbrev mX4_full : xM := (yX4_full, cX4_full, 1, (some .int), none)
theorem mdX4_full : xMd mX4_full 0 := ⟨rfl, by decide, by decide, lw_at 654 (by decide +kernel) rfl, lw_at 78 (by decide +kernel) rfl, by decide +kernel⟩
abbrev mX4_remembers : xM := (yX4_remembers, cX4_remembers, 2, none, none)
theorem mdX4_remembers : xMd mX4_remembers 0 := ⟨rfl, by decide, by decide, lw_at 658 (by decide +kernel) rfl, lw_at 78 (by decide +kernel) rfl, by decide +kernel⟩
abbrev mX4_back : xM := (yX4_back, cX4_back, 2, (some .int), none)
theorem mdX4_back : xMd mX4_back 0 := ⟨rfl, by decide, by decide, lw_at 629 (by decide +kernel) rfl, lw_at 78 (by decide +kernel) rfl, by decide +kernel⟩
abbrev mX4_isPart : xM := (yX4_isPart, cX4_isPart, 1, (some .boolean), none)
theorem mdX4_isPart : xMd mX4_isPart 1 := ⟨rfl, by decide, by decide, lw_at 643 (by decide +kernel) rfl, lw_at 78 (by decide +kernel) rfl, by decide +kernel⟩
abbrev mX4_areParts : xM := (yX4_areParts, cX4_areParts, 3, (some .boolean), none)
theorem mdX4_areParts : xMd mX4_areParts 3 := ⟨rfl, by decide, by decide, lw_at 640 (by decide +kernel) rfl, lw_at 78 (by decide +kernel) rfl, by decide +kernel⟩
abbrev mX4_isColour : xM := (yX4_isColour, cX4_isColour, 2, (some .boolean), none)
theorem mdX4_isColour : xMd mX4_isColour 1 := ⟨rfl, by decide, by decide, lw_at 678 (by decide +kernel) rfl, lw_at 78 (by decide +kernel) rfl, by decide +kernel⟩
abbrev mX4_isEye : xM := (yX4_isEye, cX4_isEye, 1, (some .boolean), none)
theorem mdX4_isEye : xMd mX4_isEye 1 := ⟨rfl, by decide, by decide, lw_at 689 (by decide +kernel) rfl, lw_at 78 (by decide +kernel) rfl, by decide +kernel⟩
abbrev mX4_becomes : xM := (yX4_becomes, cX4_becomes, 6, (some .int), none)
theorem mdX4_becomes : xMd mX4_becomes 4 := ⟨rfl, by decide, by decide, lw_at 670 (by decide +kernel) rfl, lw_at 78 (by decide +kernel) rfl, by decide +kernel⟩
abbrev mX4_colourAt : xM := (yX4_colourAt, cX4_colourAt, 2, (some .int), none)
theorem mdX4_colourAt : xMd mX4_colourAt 1 := ⟨rfl, by decide, by decide, lw_at 666 (by decide +kernel) rfl, lw_at 78 (by decide +kernel) rfl, by decide +kernel⟩
abbrev mX4_comes : xM := (yX4_comes, cX4_comes, 5, (some .int), none)
theorem mdX4_comes : xMd mX4_comes 3 := ⟨rfl, by decide, by decide, lw_at 662 (by decide +kernel) rfl, lw_at 78 (by decide +kernel) rfl, by decide +kernel⟩
abbrev mX4_colour : xM := (yX4_colour, cX4_colour, 4, (some .int), none)
theorem mdX4_colour : xMd mX4_colour 3 := ⟨rfl, by decide, by decide, lw_at 637 (by decide +kernel) rfl, lw_at 78 (by decide +kernel) rfl, by decide +kernel⟩
abbrev mX4_paints : xM := (yX4_paints, cX4_paints, 5, (some .int), none)
theorem mdX4_paints : xMd mX4_paints 4 := ⟨rfl, by decide, by decide, lw_at 674 (by decide +kernel) rfl, lw_at 78 (by decide +kernel) rfl, by decide +kernel⟩
abbrev mX4_ground : xM := (yX4_ground, cX4_ground, 4, (some .int), none)
theorem mdX4_ground : xMd mX4_ground 3 := ⟨rfl, by decide, by decide, lw_at 682 (by decide +kernel) rfl, lw_at 78 (by decide +kernel) rfl, by decide +kernel⟩
abbrev mX4_isOfEye : xM := (yX4_isOfEye, cX4_isOfEye, 2, (some .boolean), none)
theorem mdX4_isOfEye : xMd mX4_isOfEye 2 := ⟨rfl, by decide, by decide, lw_at 692 (by decide +kernel) rfl, lw_at 78 (by decide +kernel) rfl, by decide +kernel⟩
abbrev mX4_exchanges : xM := (yX4_exchanges, cX4_exchanges, 4, (some .int), none)
theorem mdX4_exchanges : xMd mX4_exchanges 2 := ⟨rfl, by decide, by decide, lw_at 696 (by decide +kernel) rfl, lw_at 78 (by decide +kernel) rfl, by decide +kernel⟩
abbrev mX4_eye : xM := (yX4_eye, cX4_eye, 4, (some .int), none)
theorem mdX4_eye : xMd mX4_eye 3 := ⟨rfl, by decide, by decide, lw_at 686 (by decide +kernel) rfl, lw_at 78 (by decide +kernel) rfl, by decide +kernel⟩
abbrev mX4_sets : xM := (yX4_sets, cX4_sets, 3, (some .int), none)
theorem mdX4_sets : xMd mX4_sets 2 := ⟨rfl, by decide, by decide, lw_at 700 (by decide +kernel) rfl, lw_at 78 (by decide +kernel) rfl, by decide +kernel⟩
abbrev mX4_fixesOne : xM := (yX4_fixesOne, cX4_fixesOne, 3, (some .int), none)
theorem mdX4_fixesOne : xMd mX4_fixesOne 2 := ⟨rfl, by decide, by decide, lw_at 708 (by decide +kernel) rfl, lw_at 78 (by decide +kernel) rfl, by decide +kernel⟩
abbrev mX4_fixes : xM := (yX4_fixes, cX4_fixes, 3, (some .int), none)
theorem mdX4_fixes : xMd mX4_fixes 2 := ⟨rfl, by decide, by decide, lw_at 704 (by decide +kernel) rfl, lw_at 78 (by decide +kernel) rfl, by decide +kernel⟩
abbrev mX4_shineAt : xM := (yX4_shineAt, cX4_shineAt, 2, (some .float), none)
theorem mdX4_shineAt : xMd mX4_shineAt 1 := ⟨rfl, by decide, by decide, lw_at 727 (by decide +kernel) rfl, lw_at 78 (by decide +kernel) rfl, by decide +kernel⟩
abbrev mX4_isFitting : xM := (yX4_isFitting, cX4_isFitting, 4, (some .boolean), none)
theorem mdX4_isFitting : xMd mX4_isFitting 1 := ⟨rfl, by decide, by decide, lw_at 723 (by decide +kernel) rfl, lw_at 78 (by decide +kernel) rfl, by decide +kernel⟩
abbrev mX4_placeOf : xM := (yX4_placeOf, cX4_placeOf, 4, (some .int), none)
theorem mdX4_placeOf : xMd mX4_placeOf 1 := ⟨rfl, by decide, by decide, lw_at 734 (by decide +kernel) rfl, lw_at 78 (by decide +kernel) rfl, by decide +kernel⟩
abbrev mX4_ofColour : xM := (yX4_ofColour, cX4_ofColour, 3, (some .int), none)
theorem mdX4_ofColour : xMd mX4_ofColour 2 := ⟨rfl, by decide, by decide, lw_at 719 (by decide +kernel) rfl, lw_at 78 (by decide +kernel) rfl, by decide +kernel⟩
abbrev mX4_of : xM := (yX4_of, cX4_of, 3, (some .int), none)
theorem mdX4_of : xMd mX4_of 2 := ⟨rfl, by decide, by decide, lw_at 715 (by decide +kernel) rfl, lw_at 78 (by decide +kernel) rfl, by decide +kernel⟩
abbrev mX4_look : xM := (yX4_look, cX4_look, 3, (some .int), none)
theorem mdX4_look : xMd mX4_look 2 := ⟨rfl, by decide, by decide, lw_at 738 (by decide +kernel) rfl, lw_at 78 (by decide +kernel) rfl, by decide +kernel⟩
abbrev mX4_light : xM := (yX4_light, cX4_light, 2, (some .int), none)
theorem mdX4_light : xMd mX4_light 1 := ⟨rfl, by decide, by decide, lw_at 742 (by decide +kernel) rfl, lw_at 78 (by decide +kernel) rfl, by decide +kernel⟩
abbrev mX4_sight : xM := (yX4_sight, cX4_sight, 9, (some .float), none)
theorem mdX4_sight : xMd mX4_sight 3 := ⟨rfl, by decide, by decide, lw_at 756 (by decide +kernel) rfl, lw_at 78 (by decide +kernel) rfl, by decide +kernel⟩
abbrev mX4_seen : xM := (yX4_seen, cX4_seen, 4, (some .int), none)
theorem mdX4_seen : xMd mX4_seen 3 := ⟨rfl, by decide, by decide, lw_at 752 (by decide +kernel) rfl, lw_at 78 (by decide +kernel) rfl, by decide +kernel⟩
abbrev mX4_farFor : xM := (yX4_farFor, cX4_farFor, 8, (some .float), none)
theorem mdX4_farFor : xMd mX4_farFor 3 := ⟨rfl, by decide, by decide, lw_at 765 (by decide +kernel) rfl, lw_at 78 (by decide +kernel) rfl, by decide +kernel⟩
abbrev mX4_distance : xM := (yX4_distance, cX4_distance, 4, (some .int), none)
theorem mdX4_distance : xMd mX4_distance 3 := ⟨rfl, by decide, by decide, lw_at 761 (by decide +kernel) rfl, lw_at 78 (by decide +kernel) rfl, by decide +kernel⟩
abbrev mX4_apartOf : xM := (yX4_apartOf, cX4_apartOf, 7, (some .float), none)
theorem mdX4_apartOf : xMd mX4_apartOf 2 := ⟨rfl, by decide, by decide, lw_at 773 (by decide +kernel) rfl, lw_at 78 (by decide +kernel) rfl, by decide +kernel⟩
abbrev mX4_apart : xM := (yX4_apart, cX4_apart, 3, (some .int), none)
theorem mdX4_apart : xMd mX4_apart 2 := ⟨rfl, by decide, by decide, lw_at 769 (by decide +kernel) rfl, lw_at 78 (by decide +kernel) rfl, by decide +kernel⟩
abbrev mX4_laysFar : xM := (yX4_laysFar, cX4_laysFar, 3, none, none)
theorem mdX4_laysFar : xMd mX4_laysFar 0 := ⟨rfl, by decide, by decide, lw_at 789 (by decide +kernel) rfl, lw_at 78 (by decide +kernel) rfl, by decide +kernel⟩
abbrev mX4_leastOf : xM := (yX4_leastOf, cX4_leastOf, 7, (some .float), none)
theorem mdX4_leastOf : xMd mX4_leastOf 1 := ⟨rfl, by decide, by decide, lw_at 828 (by decide +kernel) rfl, lw_at 78 (by decide +kernel) rfl, by decide +kernel⟩
abbrev mX4_takesPalette : xM := (yX4_takesPalette, cX4_takesPalette, 2, none, none)
theorem mdX4_takesPalette : xMd mX4_takesPalette 0 := ⟨rfl, by decide, by decide, lw_at 824 (by decide +kernel) rfl, lw_at 78 (by decide +kernel) rfl, by decide +kernel⟩
abbrev mX4_putsLast : xM := (yX4_putsLast, cX4_putsLast, 2, none, none)
theorem mdX4_putsLast : xMd mX4_putsLast 1 := ⟨rfl, by decide, by decide, lw_at 796 (by decide +kernel) rfl, lw_at 78 (by decide +kernel) rfl, by decide +kernel⟩
abbrev mX4_lightest : xM := (yX4_lightest, cX4_lightest, 4, (some .int), none)
theorem mdX4_lightest : xMd mX4_lightest 0 := ⟨rfl, by decide, by decide, lw_at 800 (by decide +kernel) rfl, lw_at 78 (by decide +kernel) rfl, by decide +kernel⟩
abbrev mX4_nearestIn : xM := (yX4_nearestIn, cX4_nearestIn, 5, (some .float), none)
theorem mdX4_nearestIn : xMd mX4_nearestIn 1 := ⟨rfl, by decide, by decide, lw_at 808 (by decide +kernel) rfl, lw_at 78 (by decide +kernel) rfl, by decide +kernel⟩
abbrev mX4_farthest : xM := (yX4_farthest, cX4_farthest, 5, (some .int), none)
theorem mdX4_farthest : xMd mX4_farthest 0 := ⟨rfl, by decide, by decide, lw_at 804 (by decide +kernel) rfl, lw_at 78 (by decide +kernel) rfl, by decide +kernel⟩
abbrev mX4_fillsFor : xM := (yX4_fillsFor, cX4_fillsFor, 4, (some .int), none)
theorem mdX4_fillsFor : xMd mX4_fillsFor 1 := ⟨rfl, by decide, by decide, lw_at 785 (by decide +kernel) rfl, lw_at 78 (by decide +kernel) rfl, by decide +kernel⟩
abbrev mX4_canFill : xM := (yX4_canFill, cX4_canFill, 2, (some .boolean), none)
theorem mdX4_canFill : xMd mX4_canFill 1 := ⟨rfl, by decide, by decide, lw_at 781 (by decide +kernel) rfl, lw_at 78 (by decide +kernel) rfl, by decide +kernel⟩
abbrev mX4_fills : xM := (yX4_fills, cX4_fills, 2, (some .int), none)
theorem mdX4_fills : xMd mX4_fills 1 := ⟨rfl, by decide, by decide, lw_at 777 (by decide +kernel) rfl, lw_at 78 (by decide +kernel) rfl, by decide +kernel⟩
abbrev mX4_isSwapped : xM := (yX4_isSwapped, cX4_isSwapped, 6, (some .boolean), none)
theorem mdX4_isSwapped : xMd mX4_isSwapped 0 := ⟨rfl, by decide, by decide, lw_at 820 (by decide +kernel) rfl, lw_at 78 (by decide +kernel) rfl, by decide +kernel⟩
abbrev mX4_swapsAll : xM := (yX4_swapsAll, cX4_swapsAll, 2, (some .int), none)
theorem mdX4_swapsAll : xMd mX4_swapsAll 0 := ⟨rfl, by decide, by decide, lw_at 816 (by decide +kernel) rfl, lw_at 78 (by decide +kernel) rfl, by decide +kernel⟩
abbrev mX4_swaps : xM := (yX4_swaps, cX4_swaps, 1, (some .int), none)
theorem mdX4_swaps : xMd mX4_swaps 0 := ⟨rfl, by decide, by decide, lw_at 812 (by decide +kernel) rfl, lw_at 78 (by decide +kernel) rfl, by decide +kernel⟩
abbrev mX4_palette : xM := (yX4_palette, cX4_palette, 2, (some .int), none)
theorem mdX4_palette : xMd mX4_palette 1 := ⟨rfl, by decide, by decide, lw_at 832 (by decide +kernel) rfl, lw_at 78 (by decide +kernel) rfl, by decide +kernel⟩
abbrev mX4_leastNow : xM := (yX4_leastNow, cX4_leastNow, 1, (some .int), none)
theorem mdX4_leastNow : xMd mX4_leastNow 0 := ⟨rfl, by decide, by decide, lw_at 840 (by decide +kernel) rfl, lw_at 78 (by decide +kernel) rfl, by decide +kernel⟩
abbrev mX4_least : xM := (yX4_least, cX4_least, 1, (some .int), none)
theorem mdX4_least : xMd mX4_least 0 := ⟨rfl, by decide, by decide, lw_at 836 (by decide +kernel) rfl, lw_at 78 (by decide +kernel) rfl, by decide +kernel⟩
abbrev mX4_nearestNow : xM := (yX4_nearestNow, cX4_nearestNow, 6, (some .int), none)
theorem mdX4_nearestNow : xMd mX4_nearestNow 0 := ⟨rfl, by decide, by decide, lw_at 848 (by decide +kernel) rfl, lw_at 78 (by decide +kernel) rfl, by decide +kernel⟩
abbrev mX4_nearest : xM := (yX4_nearest, cX4_nearest, 1, (some .int), none)
theorem mdX4_nearest : xMd mX4_nearest 0 := ⟨rfl, by decide, by decide, lw_at 844 (by decide +kernel) rfl, lw_at 78 (by decide +kernel) rfl, by decide +kernel⟩
abbrev mX4_isNext : xM := (yX4_isNext, cX4_isNext, 4, (some .boolean), none)
theorem mdX4_isNext : xMd mX4_isNext 1 := ⟨rfl, by decide, by decide, lw_at 864 (by decide +kernel) rfl, lw_at 78 (by decide +kernel) rfl, by decide +kernel⟩
abbrev mX4_setOf : xM := (yX4_setOf, cX4_setOf, 4, (some .int), none)
theorem mdX4_setOf : xMd mX4_setOf 1 := ⟨rfl, by decide, by decide, lw_at 860 (by decide +kernel) rfl, lw_at 78 (by decide +kernel) rfl, by decide +kernel⟩
abbrev mX4_bestOf : xM := (yX4_bestOf, cX4_bestOf, 8, (some .int), none)
theorem mdX4_bestOf : xMd mX4_bestOf 1 := ⟨rfl, by decide, by decide, lw_at 856 (by decide +kernel) rfl, lw_at 78 (by decide +kernel) rfl, by decide +kernel⟩
abbrev mX4_best : xM := (yX4_best, cX4_best, 2, (some .int), none)
theorem mdX4_best : xMd mX4_best 1 := ⟨rfl, by decide, by decide, lw_at 852 (by decide +kernel) rfl, lw_at 78 (by decide +kernel) rfl, by decide +kernel⟩
abbrev mX4_mistaken : xM := (yX4_mistaken, cX4_mistaken, 6, (some .int), none)
theorem mdX4_mistaken : xMd mX4_mistaken 2 := ⟨rfl, by decide, by decide, lw_at 868 (by decide +kernel) rfl, lw_at 78 (by decide +kernel) rfl, by decide +kernel⟩
abbrev mX4_countsSet : xM := (yX4_countsSet, cX4_countsSet, 3, (some .int), none)
theorem mdX4_countsSet : xMd mX4_countsSet 0 := ⟨rfl, by decide, by decide, lw_at 884 (by decide +kernel) rfl, lw_at 78 (by decide +kernel) rfl, by decide +kernel⟩
abbrev mX4_fittingMany : xM := (yX4_fittingMany, cX4_fittingMany, 3, (some .int), none)
theorem mdX4_fittingMany : xMd mX4_fittingMany 0 := ⟨rfl, by decide, by decide, lw_at 880 (by decide +kernel) rfl, lw_at 78 (by decide +kernel) rfl, by decide +kernel⟩
abbrev mX4_countOf : xM := (yX4_countOf, cX4_countOf, 2, (some .int), none)
theorem mdX4_countOf : xMd mX4_countOf 1 := ⟨rfl, by decide, by decide, lw_at 876 (by decide +kernel) rfl, lw_at 78 (by decide +kernel) rfl, by decide +kernel⟩
abbrev mX4_count : xM := (yX4_count, cX4_count, 2, (some .int), none)
theorem mdX4_count : xMd mX4_count 1 := ⟨rfl, by decide, by decide, lw_at 872 (by decide +kernel) rfl, lw_at 78 (by decide +kernel) rfl, by decide +kernel⟩
abbrev mX4_type : xM := (yX4_type, cX4_type, 2, (some .int), none)
theorem mdX4_type : xMd mX4_type 1 := ⟨rfl, by decide, by decide, lw_at 888 (by decide +kernel) rfl, lw_at 78 (by decide +kernel) rfl, by decide +kernel⟩
abbrev mX4_clear : xM := (yX4_clear, cX4_clear, 2, (some .int), none)
theorem mdX4_clear : xMd mX4_clear 0 := ⟨rfl, by decide, by decide, lw_at 892 (by decide +kernel) rfl, lw_at 78 (by decide +kernel) rfl, by decide +kernel⟩
abbrev mX4_isAt : xM := (yX4_isAt, cX4_isAt, 3, (some .boolean), none)
theorem mdX4_isAt : xMd mX4_isAt 2 := ⟨rfl, by decide, by decide, lw_at 908 (by decide +kernel) rfl, lw_at 78 (by decide +kernel) rfl, by decide +kernel⟩
abbrev mX4_blanks : xM := (yX4_blanks, cX4_blanks, 1, none, none)
theorem mdX4_blanks : xMd mX4_blanks 0 := ⟨rfl, by decide, by decide, lw_at 904 (by decide +kernel) rfl, lw_at 78 (by decide +kernel) rfl, by decide +kernel⟩
abbrev mX4_fails : xM := (yX4_fails, cX4_fails, 2, (some .boolean), none)
theorem mdX4_fails : xMd mX4_fails 1 := ⟨rfl, by decide, by decide, lw_at 916 (by decide +kernel) rfl, lw_at 78 (by decide +kernel) rfl, by decide +kernel⟩
abbrev mX4_takesSix : xM := (yX4_takesSix, cX4_takesSix, 5, (some .boolean), none)
theorem mdX4_takesSix : xMd mX4_takesSix 1 := ⟨rfl, by decide, by decide, lw_at 924 (by decide +kernel) rfl, lw_at 78 (by decide +kernel) rfl, by decide +kernel⟩
abbrev mX4_takesNumber : xM := (yX4_takesNumber, cX4_takesNumber, 4, (some .boolean), none)
theorem mdX4_takesNumber : xMd mX4_takesNumber 1 := ⟨rfl, by decide, by decide, lw_at 928 (by decide +kernel) rfl, lw_at 78 (by decide +kernel) rfl, by decide +kernel⟩
abbrev mX4_takesNumbers : xM := (yX4_takesNumbers, cX4_takesNumbers, 3, (some .boolean), none)
theorem mdX4_takesNumbers : xMd mX4_takesNumbers 1 := ⟨rfl, by decide, by decide, lw_at 920 (by decide +kernel) rfl, lw_at 78 (by decide +kernel) rfl, by decide +kernel⟩
abbrev mX4_takesOrder : xM := (yX4_takesOrder, cX4_takesOrder, 2, (some .boolean), none)
theorem mdX4_takesOrder : xMd mX4_takesOrder 0 := ⟨rfl, by decide, by decide, lw_at 912 (by decide +kernel) rfl, lw_at 78 (by decide +kernel) rfl, by decide +kernel⟩
abbrev mX4_isRead : xM := (yX4_isRead, cX4_isRead, 1, (some .boolean), none)
theorem mdX4_isRead : xMd mX4_isRead 0 := ⟨rfl, by decide, by decide, lw_at 900 (by decide +kernel) rfl, lw_at 78 (by decide +kernel) rfl, by decide +kernel⟩
abbrev mX4_comesTold : xM := (yX4_comesTold, cX4_comesTold, 2, (some .boolean), none)
theorem mdX4_comesTold : xMd mX4_comesTold 1 := ⟨rfl, by decide, by decide, lw_at 936 (by decide +kernel) rfl, lw_at 78 (by decide +kernel) rfl, by decide +kernel⟩
abbrev mX4_limits : xM := (yX4_limits, cX4_limits, 3, (some .boolean), none)
theorem mdX4_limits : xMd mX4_limits 2 := ⟨rfl, by decide, by decide, lw_at 940 (by decide +kernel) rfl, lw_at 78 (by decide +kernel) rfl, by decide +kernel⟩
abbrev mX4_obeys : xM := (yX4_obeys, cX4_obeys, 3, (some .boolean), none)
theorem mdX4_obeys : xMd mX4_obeys 1 := ⟨rfl, by decide, by decide, lw_at 932 (by decide +kernel) rfl, lw_at 78 (by decide +kernel) rfl, by decide +kernel⟩
abbrev mX4_turns : xM := (yX4_turns, cX4_turns, 3, none, none)
theorem mdX4_turns : xMd mX4_turns 0 := ⟨rfl, by decide, by decide, lw_at 944 (by decide +kernel) rfl, lw_at 78 (by decide +kernel) rfl, by decide +kernel⟩
abbrev mX4_does : xM := (yX4_does, cX4_does, 2, (some .int), none)
theorem mdX4_does : xMd mX4_does 0 := ⟨rfl, by decide, by decide, lw_at 896 (by decide +kernel) rfl, lw_at 78 (by decide +kernel) rfl, by decide +kernel⟩
abbrev mX4_toldOf : xM := (yX4_toldOf, cX4_toldOf, 2, (some .int), none)
theorem mdX4_toldOf : xMd mX4_toldOf 1 := ⟨rfl, by decide, by decide, lw_at 952 (by decide +kernel) rfl, lw_at 78 (by decide +kernel) rfl, by decide +kernel⟩
abbrev mX4_told : xM := (yX4_told, cX4_told, 2, (some .int), none)
theorem mdX4_told : xMd mX4_told 1 := ⟨rfl, by decide, by decide, lw_at 948 (by decide +kernel) rfl, lw_at 78 (by decide +kernel) rfl, by decide +kernel⟩
abbrev mX4_mix : xM := (yX4_mix, cX4_mix, 3, none, none)
theorem mdX4_mix : xMd mX4_mix 1 := ⟨rfl, by decide, by decide, lw_at 961 (by decide +kernel) rfl, lw_at 78 (by decide +kernel) rfl, by decide +kernel⟩
abbrev mX4_digest : xM := (yX4_digest, cX4_digest, 3, (some .long), none)
theorem mdX4_digest : xMd mX4_digest 0 := ⟨rfl, by decide, by decide, lw_at 956 (by decide +kernel) rfl, lw_at 78 (by decide +kernel) rfl, by decide +kernel⟩
abbrev mL_law (n : Nat) (f : Nat → Int32) : xM := (yL_law, cL_law, 4, some .boolean, some (n, f))
abbrev mJ6_bitCount_0f7a4 : xM := (yJ6_bitCount_0f7a4, cJ6_bitCount_0f7a4, 1, (some .int), none)
theorem mdJ6_bitCount_0f7a4 : xMd mJ6_bitCount_0f7a4 1 := ⟨rfl, by decide, by decide, lw_at 296 (by decide +kernel) rfl, lw_at 80 (by decide +kernel) rfl, by decide +kernel⟩
abbrev mJ7_fill_53178 : xM := (yJ7_fill_53178, cJ7_fill_53178, 4, none, none)
theorem mdJ7_fill_53178 : xMd mJ7_fill_53178 2 := ⟨rfl, by decide, by decide, lw_at 97 (by decide +kernel) rfl, lw_at 75 (by decide +kernel) rfl, by decide +kernel⟩
theorem c5_9 : xMi RL 9 0 mX3_init := ⟨mdX3_init, lw_at 83 (by decide +kernel) rfl, lw_at 84 (by decide +kernel) rfl, rfl, rfl⟩
theorem c3_1 : Cond.methodLink RX3 1 Lib.objectInit ∈ lw_good := lw_at 86 (by decide +kernel) rfl
theorem c3_9 : xMi RX3 9 0 mX1_init := ⟨mdX1_init, lw_at 91 (by decide +kernel) rfl, lw_at 92 (by decide +kernel) rfl, rfl, rfl⟩
theorem c1_3 : Cond.methodLink RX1 3 Lib.objectInit ∈ lw_good := lw_at 94 (by decide +kernel) rfl
theorem c1_22 : xMs RX1 22 2 mJ7_fill_53178 := ⟨mdJ7_fill_53178, lw_at 96 (by decide +kernel) rfl, Or.inl (lw_at 95 (by decide +kernel) rfl)⟩
theorem c3_30 : xMi RX3 30 0 mX2_init := ⟨mdX2_init, lw_at 139 (by decide +kernel) rfl, lw_at 140 (by decide +kernel) rfl, rfl, rfl⟩
theorem c2_3 : Cond.methodLink RX2 3 Lib.objectInit ∈ lw_good := lw_at 142 (by decide +kernel) rfl
theorem c3_37 : xMi RX3 37 0 mX0_init := ⟨mdX0_init, lw_at 172 (by decide +kernel) rfl, lw_at 173 (by decide +kernel) rfl, rfl, rfl⟩
theorem c0_3 : Cond.methodLink RX0 3 Lib.objectInit ∈ lw_good := lw_at 175 (by decide +kernel) rfl
theorem c5_13 : xMv RL 13 3 3 mX3_colour := ⟨mdX3_colour, lw_at 203 (by decide +kernel) rfl, lw_at 204 (by decide +kernel) rfl, lw_at 205 (by decide +kernel) rfl, _, rfl, rfl⟩
theorem c3_42 : xMv RX3 42 3 3 mX3_whyNoColour := ⟨mdX3_whyNoColour, lw_at 207 (by decide +kernel) rfl, lw_at 209 (by decide +kernel) rfl, lw_at 0 (by decide +kernel) rfl, _, rfl, rfl⟩
theorem c3_60 : xMs RX3 60 3 mX3_isRgb := ⟨mdX3_isRgb, lw_at 212 (by decide +kernel) rfl, Or.inl (lw_at 211 (by decide +kernel) rfl)⟩
theorem c3_97 : xMs RX3 97 3 mX3_isWithin := ⟨mdX3_isWithin, lw_at 215 (by decide +kernel) rfl, Or.inl (lw_at 214 (by decide +kernel) rfl)⟩
theorem c3_46 : xMv RX3 46 3 1 mX3_refuse := ⟨mdX3_refuse, lw_at 217 (by decide +kernel) rfl, lw_at 219 (by decide +kernel) rfl, lw_at 1 (by decide +kernel) rfl, _, rfl, rfl⟩
theorem c3_50 : xMv RX3 50 3 0 mX3_leaveState := ⟨mdX3_leaveState, lw_at 221 (by decide +kernel) rfl, lw_at 223 (by decide +kernel) rfl, lw_at 2 (by decide +kernel) rfl, _, rfl, rfl⟩
theorem c3_194 : xMv RX3 194 3 0 mX3_noteState := ⟨mdX3_noteState, lw_at 225 (by decide +kernel) rfl, lw_at 227 (by decide +kernel) rfl, lw_at 3 (by decide +kernel) rfl, _, rfl, rfl⟩
theorem c3_212 : xMv RX3 212 1 1 mX1_become := ⟨mdX1_become, lw_at 229 (by decide +kernel) rfl, lw_at 230 (by decide +kernel) rfl, lw_at 231 (by decide +kernel) rfl, _, rfl, rfl⟩
theorem c1_43 : Cond.methodLink RX1 43 arraycopyName ∈ lw_good := lw_at 233 (by decide +kernel) rfl
theorem c3_219 : xMv RX3 219 3 0 mX3_keepNoted := ⟨mdX3_keepNoted, lw_at 236 (by decide +kernel) rfl, lw_at 238 (by decide +kernel) rfl, lw_at 4 (by decide +kernel) rfl, _, rfl, rfl⟩
theorem c3_53 : xMv RX3 53 1 3 mX1_addColour := ⟨mdX1_addColour, lw_at 240 (by decide +kernel) rfl, lw_at 241 (by decide +kernel) rfl, lw_at 242 (by decide +kernel) rfl, _, rfl, rfl⟩
theorem c1_49 : xMs RX1 49 5 mX3_putRgb := ⟨mdX3_putRgb, lw_at 245 (by decide +kernel) rfl, Or.inr (lw_atN 244 (by decide +kernel) rfl)⟩
theorem c5_18 : xMv RL 18 3 4 mX3_paints := ⟨mdX3_paints, lw_at 247 (by decide +kernel) rfl, lw_at 248 (by decide +kernel) rfl, lw_at 249 (by decide +kernel) rfl, _, rfl, rfl⟩
theorem c3_56 : xMv RX3 56 3 1 mX3_isColour := ⟨mdX3_isColour, lw_at 251 (by decide +kernel) rfl, lw_at 253 (by decide +kernel) rfl, lw_at 5 (by decide +kernel) rfl, _, rfl, rfl⟩
theorem c3_67 : xMs RX3 67 5 mX3_putRgb := ⟨mdX3_putRgb, lw_at 245 (by decide +kernel) rfl, Or.inl (lw_at 255 (by decide +kernel) rfl)⟩
theorem c5_23 : xMv RL 23 3 3 mX3_ground := ⟨mdX3_ground, lw_at 256 (by decide +kernel) rfl, lw_at 257 (by decide +kernel) rfl, lw_at 258 (by decide +kernel) rfl, _, rfl, rfl⟩
theorem c5_27 : xMv RL 27 3 3 mX3_eye := ⟨mdX3_eye, lw_at 260 (by decide +kernel) rfl, lw_at 261 (by decide +kernel) rfl, lw_at 262 (by decide +kernel) rfl, _, rfl, rfl⟩
theorem c3_74 : xMs RX3 74 1 mX3_isEye := ⟨mdX3_isEye, lw_at 265 (by decide +kernel) rfl, Or.inl (lw_at 264 (by decide +kernel) rfl)⟩
theorem c3_77 : xMs RX3 77 2 mX3_isEyeNumber := ⟨mdX3_isEyeNumber, lw_at 268 (by decide +kernel) rfl, Or.inl (lw_at 267 (by decide +kernel) rfl)⟩
theorem c5_31 : xMv RL 31 3 2 mX3_sets := ⟨mdX3_sets, lw_at 270 (by decide +kernel) rfl, lw_at 271 (by decide +kernel) rfl, lw_at 272 (by decide +kernel) rfl, _, rfl, rfl⟩
theorem c3_84 : xMv RX3 84 3 2 mX3_whyNoLimit := ⟨mdX3_whyNoLimit, lw_at 274 (by decide +kernel) rfl, lw_at 276 (by decide +kernel) rfl, lw_at 6 (by decide +kernel) rfl, _, rfl, rfl⟩
theorem c3_88 : xMv RX3 88 1 2 mX1_setLimit := ⟨mdX1_setLimit, lw_at 278 (by decide +kernel) rfl, lw_at 279 (by decide +kernel) rfl, lw_at 280 (by decide +kernel) rfl, _, rfl, rfl⟩
theorem c5_36 : xMv RL 36 3 2 mX3_fixes := ⟨mdX3_fixes, lw_at 282 (by decide +kernel) rfl, lw_at 283 (by decide +kernel) rfl, lw_at 284 (by decide +kernel) rfl, _, rfl, rfl⟩
theorem c3_91 : xMv RX3 91 3 2 mX3_whyNotFixed := ⟨mdX3_whyNotFixed, lw_at 286 (by decide +kernel) rfl, lw_at 288 (by decide +kernel) rfl, lw_at 7 (by decide +kernel) rfl, _, rfl, rfl⟩
theorem c3_94 : xMv RX3 94 1 2 mX1_setFixed := ⟨mdX1_setFixed, lw_at 290 (by decide +kernel) rfl, lw_at 291 (by decide +kernel) rfl, lw_at 292 (by decide +kernel) rfl, _, rfl, rfl⟩
theorem c1_53 : xMs RX1 53 1 mJ6_bitCount_0f7a4 := ⟨mdJ6_bitCount_0f7a4, lw_at 295 (by decide +kernel) rfl, Or.inl (lw_at 294 (by decide +kernel) rfl)⟩
theorem c5_40 : xMv RL 40 3 2 mX3_of := ⟨mdX3_of, lw_at 300 (by decide +kernel) rfl, lw_at 301 (by decide +kernel) rfl, lw_at 302 (by decide +kernel) rfl, _, rfl, rfl⟩
theorem c3_100 : xMv RX3 100 1 1 mX1_isFixed := ⟨mdX1_isFixed, lw_at 304 (by decide +kernel) rfl, lw_at 305 (by decide +kernel) rfl, lw_at 306 (by decide +kernel) rfl, _, rfl, rfl⟩
theorem c3_103 : xMv RX3 103 1 1 mX1_isFit := ⟨mdX1_isFit, lw_at 308 (by decide +kernel) rfl, lw_at 309 (by decide +kernel) rfl, lw_at 310 (by decide +kernel) rfl, _, rfl, rfl⟩
theorem c1_63 : xMv RX1 63 1 1 mX1_lightOf := ⟨mdX1_lightOf, lw_at 312 (by decide +kernel) rfl, lw_at 313 (by decide +kernel) rfl, lw_at 314 (by decide +kernel) rfl, _, rfl, rfl⟩
theorem c1_67 : xMs RX1 67 2 mX1_lightAt := ⟨mdX1_lightAt, lw_at 317 (by decide +kernel) rfl, Or.inl (lw_at 316 (by decide +kernel) rfl)⟩
theorem c3_106 : xMv RX3 106 1 1 mX1_placeOf := ⟨mdX1_placeOf, lw_at 322 (by decide +kernel) rfl, lw_at 323 (by decide +kernel) rfl, lw_at 324 (by decide +kernel) rfl, _, rfl, rfl⟩
theorem c5_44 : xMv RL 44 3 2 mX3_look := ⟨mdX3_look, lw_at 326 (by decide +kernel) rfl, lw_at 327 (by decide +kernel) rfl, lw_at 328 (by decide +kernel) rfl, _, rfl, rfl⟩
theorem c5_48 : xMv RL 48 3 1 mX3_light := ⟨mdX3_light, lw_at 330 (by decide +kernel) rfl, lw_at 331 (by decide +kernel) rfl, lw_at 332 (by decide +kernel) rfl, _, rfl, rfl⟩
theorem c3_109 : xMv RX3 109 1 1 mX1_lightOf := ⟨mdX1_lightOf, lw_at 334 (by decide +kernel) rfl, lw_at 313 (by decide +kernel) rfl, lw_at 314 (by decide +kernel) rfl, _, rfl, rfl⟩
theorem c3_113 : xMs RX3 113 1 mX3_bitsOf := ⟨mdX3_bitsOf, lw_at 336 (by decide +kernel) rfl, Or.inl (lw_at 335 (by decide +kernel) rfl)⟩
theorem c5_53 : xMv RL 53 3 3 mX3_seen := ⟨mdX3_seen, lw_at 341 (by decide +kernel) rfl, lw_at 342 (by decide +kernel) rfl, lw_at 343 (by decide +kernel) rfl, _, rfl, rfl⟩
theorem c3_117 : xMv RX3 117 1 3 mX1_isSeenAsMinusZero := ⟨mdX1_isSeenAsMinusZero, lw_at 345 (by decide +kernel) rfl, lw_at 346 (by decide +kernel) rfl, lw_at 347 (by decide +kernel) rfl, _, rfl, rfl⟩
theorem c3_121 : xMv RX3 121 1 3 mX1_seenBy := ⟨mdX1_seenBy, lw_at 349 (by decide +kernel) rfl, lw_at 350 (by decide +kernel) rfl, lw_at 351 (by decide +kernel) rfl, _, rfl, rfl⟩
theorem c5_57 : xMv RL 57 3 3 mX3_distance := ⟨mdX3_distance, lw_at 354 (by decide +kernel) rfl, lw_at 355 (by decide +kernel) rfl, lw_at 356 (by decide +kernel) rfl, _, rfl, rfl⟩
theorem c3_125 : xMv RX3 125 1 3 mX1_distanceFor := ⟨mdX1_distanceFor, lw_at 358 (by decide +kernel) rfl, lw_at 359 (by decide +kernel) rfl, lw_at 360 (by decide +kernel) rfl, _, rfl, rfl⟩
theorem c1_75 : xMv RX1 75 1 3 mX1_seenBy := ⟨mdX1_seenBy, lw_at 362 (by decide +kernel) rfl, lw_at 350 (by decide +kernel) rfl, lw_at 351 (by decide +kernel) rfl, _, rfl, rfl⟩
theorem c5_61 : xMv RL 61 3 2 mX3_apart := ⟨mdX3_apart, lw_at 363 (by decide +kernel) rfl, lw_at 364 (by decide +kernel) rfl, lw_at 365 (by decide +kernel) rfl, _, rfl, rfl⟩
theorem c3_128 : xMv RX3 128 1 2 mX1_apartOf := ⟨mdX1_apartOf, lw_at 367 (by decide +kernel) rfl, lw_at 368 (by decide +kernel) rfl, lw_at 369 (by decide +kernel) rfl, _, rfl, rfl⟩
theorem c1_79 : xMv RX1 79 1 3 mX1_distanceFor := ⟨mdX1_distanceFor, lw_at 371 (by decide +kernel) rfl, lw_at 359 (by decide +kernel) rfl, lw_at 360 (by decide +kernel) rfl, _, rfl, rfl⟩
theorem c5_65 : xMv RL 65 3 1 mX3_fills := ⟨mdX3_fills, lw_at 372 (by decide +kernel) rfl, lw_at 373 (by decide +kernel) rfl, lw_at 374 (by decide +kernel) rfl, _, rfl, rfl⟩
theorem c3_132 : xMv RX3 132 3 1 mX3_whyNoFilling := ⟨mdX3_whyNoFilling, lw_at 376 (by decide +kernel) rfl, lw_at 378 (by decide +kernel) rfl, lw_at 8 (by decide +kernel) rfl, _, rfl, rfl⟩
theorem c3_174 : xMs RX3 174 1 mJ6_bitCount_0f7a4 := ⟨mdJ6_bitCount_0f7a4, lw_at 295 (by decide +kernel) rfl, Or.inl (lw_at 380 (by decide +kernel) rfl)⟩
theorem c3_135 : xMv RX3 135 0 2 mX0_fill := ⟨mdX0_fill, lw_at 381 (by decide +kernel) rfl, lw_at 382 (by decide +kernel) rfl, lw_at 383 (by decide +kernel) rfl, _, rfl, rfl⟩
theorem c0_38 : xMv RX0 38 0 1 mX0_measure := ⟨mdX0_measure, lw_at 385 (by decide +kernel) rfl, lw_at 386 (by decide +kernel) rfl, lw_at 387 (by decide +kernel) rfl, _, rfl, rfl⟩
theorem c0_25 : xMv RX0 25 1 2 mX1_apartOf := ⟨mdX1_apartOf, lw_at 389 (by decide +kernel) rfl, lw_at 368 (by decide +kernel) rfl, lw_at 369 (by decide +kernel) rfl, _, rfl, rfl⟩
theorem c0_42 : xMv RX0 42 1 1 mX1_isFixed := ⟨mdX1_isFixed, lw_at 390 (by decide +kernel) rfl, lw_at 305 (by decide +kernel) rfl, lw_at 306 (by decide +kernel) rfl, _, rfl, rfl⟩
theorem c0_46 : xMv RX0 46 1 1 mX1_putIntoRow := ⟨mdX1_putIntoRow, lw_at 391 (by decide +kernel) rfl, lw_at 392 (by decide +kernel) rfl, lw_at 393 (by decide +kernel) rfl, _, rfl, rfl⟩
theorem c0_50 : xMv RX0 50 1 0 mX1_fitBits := ⟨mdX1_fitBits, lw_at 395 (by decide +kernel) rfl, lw_at 396 (by decide +kernel) rfl, lw_at 397 (by decide +kernel) rfl, _, rfl, rfl⟩
theorem c1_59 : xMv RX1 59 1 1 mX1_isFit := ⟨mdX1_isFit, lw_at 399 (by decide +kernel) rfl, lw_at 309 (by decide +kernel) rfl, lw_at 310 (by decide +kernel) rfl, _, rfl, rfl⟩
theorem c0_54 : xMv RX0 54 1 0 mX1_rowBits := ⟨mdX1_rowBits, lw_at 400 (by decide +kernel) rfl, lw_at 401 (by decide +kernel) rfl, lw_at 402 (by decide +kernel) rfl, _, rfl, rfl⟩
theorem c0_57 : xMv RX0 57 0 2 mX0_nextOne := ⟨mdX0_nextOne, lw_at 404 (by decide +kernel) rfl, lw_at 406 (by decide +kernel) rfl, lw_at 9 (by decide +kernel) rfl, _, rfl, rfl⟩
theorem c0_61 : xMv RX0 61 1 1 mX1_lightOf := ⟨mdX1_lightOf, lw_at 408 (by decide +kernel) rfl, lw_at 313 (by decide +kernel) rfl, lw_at 314 (by decide +kernel) rfl, _, rfl, rfl⟩
theorem c0_65 : xMv RX0 65 0 2 mX0_gapToRow := ⟨mdX0_gapToRow, lw_at 409 (by decide +kernel) rfl, lw_at 411 (by decide +kernel) rfl, lw_at 10 (by decide +kernel) rfl, _, rfl, rfl⟩
theorem c0_29 : xMv RX0 29 0 2 mX0_gap := ⟨mdX0_gap, lw_at 413 (by decide +kernel) rfl, lw_at 415 (by decide +kernel) rfl, lw_at 11 (by decide +kernel) rfl, _, rfl, rfl⟩
theorem c5_69 : xMv RL 69 3 0 mX3_swaps := ⟨mdX3_swaps, lw_at 417 (by decide +kernel) rfl, lw_at 418 (by decide +kernel) rfl, lw_at 419 (by decide +kernel) rfl, _, rfl, rfl⟩
theorem c3_142 : xMv RX3 142 0 1 mX0_swapAll := ⟨mdX0_swapAll, lw_at 421 (by decide +kernel) rfl, lw_at 422 (by decide +kernel) rfl, lw_at 423 (by decide +kernel) rfl, _, rfl, rfl⟩
theorem c0_69 : xMv RX0 69 0 2 mX0_swapOne := ⟨mdX0_swapOne, lw_at 425 (by decide +kernel) rfl, lw_at 427 (by decide +kernel) rfl, lw_at 12 (by decide +kernel) rfl, _, rfl, rfl⟩
theorem c0_73 : xMv RX0 73 0 2 mX0_leastOf := ⟨mdX0_leastOf, lw_at 429 (by decide +kernel) rfl, lw_at 430 (by decide +kernel) rfl, lw_at 431 (by decide +kernel) rfl, _, rfl, rfl⟩
theorem c5_74 : xMv RL 74 3 1 mX3_palette := ⟨mdX3_palette, lw_at 433 (by decide +kernel) rfl, lw_at 434 (by decide +kernel) rfl, lw_at 435 (by decide +kernel) rfl, _, rfl, rfl⟩
theorem c5_78 : xMv RL 78 3 0 mX3_least := ⟨mdX3_least, lw_at 437 (by decide +kernel) rfl, lw_at 438 (by decide +kernel) rfl, lw_at 439 (by decide +kernel) rfl, _, rfl, rfl⟩
theorem c3_149 : xMv RX3 149 0 1 mX0_measure := ⟨mdX0_measure, lw_at 441 (by decide +kernel) rfl, lw_at 386 (by decide +kernel) rfl, lw_at 387 (by decide +kernel) rfl, _, rfl, rfl⟩
theorem c3_153 : xMv RX3 153 0 2 mX0_leastOf := ⟨mdX0_leastOf, lw_at 442 (by decide +kernel) rfl, lw_at 430 (by decide +kernel) rfl, lw_at 431 (by decide +kernel) rfl, _, rfl, rfl⟩
theorem c5_82 : xMv RL 82 3 0 mX3_nearest := ⟨mdX3_nearest, lw_at 443 (by decide +kernel) rfl, lw_at 444 (by decide +kernel) rfl, lw_at 445 (by decide +kernel) rfl, _, rfl, rfl⟩
theorem c3_157 : xMv RX3 157 0 1 mX0_nearestPlaces := ⟨mdX0_nearestPlaces, lw_at 447 (by decide +kernel) rfl, lw_at 448 (by decide +kernel) rfl, lw_at 449 (by decide +kernel) rfl, _, rfl, rfl⟩
theorem c5_86 : xMv RL 86 3 1 mX3_best := ⟨mdX3_best, lw_at 451 (by decide +kernel) rfl, lw_at 452 (by decide +kernel) rfl, lw_at 453 (by decide +kernel) rfl, _, rfl, rfl⟩
theorem c3_160 : xMv RX3 160 0 2 mX0_bestSet := ⟨mdX0_bestSet, lw_at 455 (by decide +kernel) rfl, lw_at 456 (by decide +kernel) rfl, lw_at 457 (by decide +kernel) rfl, _, rfl, rfl⟩
theorem c0_80 : xMv RX0 80 0 1 mX0_listMembers := ⟨mdX0_listMembers, lw_at 459 (by decide +kernel) rfl, lw_at 461 (by decide +kernel) rfl, lw_at 13 (by decide +kernel) rfl, _, rfl, rfl⟩
theorem c0_84 : xMs RX0 84 1 mX0_nextOfLikeSize := ⟨mdX0_nextOfLikeSize, lw_at 464 (by decide +kernel) rfl, Or.inl (lw_at 463 (by decide +kernel) rfl)⟩
theorem c0_87 : xMs RX0 87 1 mJ6_bitCount_0f7a4 := ⟨mdJ6_bitCount_0f7a4, lw_at 295 (by decide +kernel) rfl, Or.inl (lw_at 466 (by decide +kernel) rfl)⟩
theorem c5_90 : xMv RL 90 3 2 mX3_mistaken := ⟨mdX3_mistaken, lw_at 467 (by decide +kernel) rfl, lw_at 468 (by decide +kernel) rfl, lw_at 469 (by decide +kernel) rfl, _, rfl, rfl⟩
theorem c3_164 : xMv RX3 164 1 2 mX1_pairsBelow := ⟨mdX1_pairsBelow, lw_at 471 (by decide +kernel) rfl, lw_at 472 (by decide +kernel) rfl, lw_at 473 (by decide +kernel) rfl, _, rfl, rfl⟩
theorem c5_94 : xMv RL 94 3 1 mX3_count := ⟨mdX3_count, lw_at 475 (by decide +kernel) rfl, lw_at 476 (by decide +kernel) rfl, lw_at 477 (by decide +kernel) rfl, _, rfl, rfl⟩
theorem c3_170 : xMv RX3 170 1 0 mX1_fitBits := ⟨mdX1_fitBits, lw_at 479 (by decide +kernel) rfl, lw_at 396 (by decide +kernel) rfl, lw_at 397 (by decide +kernel) rfl, _, rfl, rfl⟩
theorem c3_182 : xMv RX3 182 1 0 mX1_countingBits := ⟨mdX1_countingBits, lw_at 480 (by decide +kernel) rfl, lw_at 481 (by decide +kernel) rfl, lw_at 482 (by decide +kernel) rfl, _, rfl, rfl⟩
theorem c5_98 : xMv RL 98 3 1 mX3_type := ⟨mdX3_type, lw_at 484 (by decide +kernel) rfl, lw_at 485 (by decide +kernel) rfl, lw_at 486 (by decide +kernel) rfl, _, rfl, rfl⟩
theorem c3_188 : xMv RX3 188 2 1 mX2_append := ⟨mdX2_append, lw_at 488 (by decide +kernel) rfl, lw_at 489 (by decide +kernel) rfl, lw_at 490 (by decide +kernel) rfl, _, rfl, rfl⟩
theorem c5_102 : xMv RL 102 3 0 mX3_clear := ⟨mdX3_clear, lw_at 492 (by decide +kernel) rfl, lw_at 493 (by decide +kernel) rfl, lw_at 494 (by decide +kernel) rfl, _, rfl, rfl⟩
theorem c5_106 : xMv RL 106 3 0 mX3_does := ⟨mdX3_does, lw_at 496 (by decide +kernel) rfl, lw_at 497 (by decide +kernel) rfl, lw_at 498 (by decide +kernel) rfl, _, rfl, rfl⟩
theorem c3_191 : xMv RX3 191 2 0 mX2_read := ⟨mdX2_read, lw_at 500 (by decide +kernel) rfl, lw_at 501 (by decide +kernel) rfl, lw_at 502 (by decide +kernel) rfl, _, rfl, rfl⟩
theorem c2_34 : xMv RX2 34 2 0 mX2_skipBlanks := ⟨mdX2_skipBlanks, lw_at 504 (by decide +kernel) rfl, lw_at 506 (by decide +kernel) rfl, lw_at 14 (by decide +kernel) rfl, _, rfl, rfl⟩
theorem c2_41 : xMv RX2 41 2 0 mX2_byteHere := ⟨mdX2_byteHere, lw_at 508 (by decide +kernel) rfl, lw_at 510 (by decide +kernel) rfl, lw_at 15 (by decide +kernel) rfl, _, rfl, rfl⟩
theorem c2_37 : xMv RX2 37 2 0 mX2_readOrder := ⟨mdX2_readOrder, lw_at 512 (by decide +kernel) rfl, lw_at 514 (by decide +kernel) rfl, lw_at 16 (by decide +kernel) rfl, _, rfl, rfl⟩
theorem c2_45 : xMv RX2 45 2 0 mX2_readSixFigures := ⟨mdX2_readSixFigures, lw_at 516 (by decide +kernel) rfl, lw_at 518 (by decide +kernel) rfl, lw_at 17 (by decide +kernel) rfl, _, rfl, rfl⟩
theorem c2_55 : xMs RX2 55 1 mX2_figureOf := ⟨mdX2_figureOf, lw_at 521 (by decide +kernel) rfl, Or.inl (lw_at 520 (by decide +kernel) rfl)⟩
theorem c2_59 : xMs RX2 59 1 mX2_isTenFigure := ⟨mdX2_isTenFigure, lw_at 524 (by decide +kernel) rfl, Or.inl (lw_at 523 (by decide +kernel) rfl)⟩
theorem c2_48 : xMv RX2 48 2 0 mX2_readEnd := ⟨mdX2_readEnd, lw_at 526 (by decide +kernel) rfl, lw_at 528 (by decide +kernel) rfl, lw_at 18 (by decide +kernel) rfl, _, rfl, rfl⟩
theorem c2_51 : xMv RX2 51 2 1 mX2_readNumber := ⟨mdX2_readNumber, lw_at 530 (by decide +kernel) rfl, lw_at 532 (by decide +kernel) rfl, lw_at 19 (by decide +kernel) rfl, _, rfl, rfl⟩
theorem c3_209 : xMv RX3 209 3 3 mX3_whyNoOrder := ⟨mdX3_whyNoOrder, lw_at 534 (by decide +kernel) rfl, lw_at 536 (by decide +kernel) rfl, lw_at 20 (by decide +kernel) rfl, _, rfl, rfl⟩
theorem c3_247 : xMs RX3 247 1 mX3_redOf := ⟨mdX3_redOf, lw_at 539 (by decide +kernel) rfl, Or.inl (lw_at 538 (by decide +kernel) rfl)⟩
theorem c3_250 : xMs RX3 250 1 mX3_greenOf := ⟨mdX3_greenOf, lw_at 542 (by decide +kernel) rfl, Or.inl (lw_at 541 (by decide +kernel) rfl)⟩
theorem c3_253 : xMs RX3 253 1 mX3_blueOf := ⟨mdX3_blueOf, lw_at 545 (by decide +kernel) rfl, Or.inl (lw_at 544 (by decide +kernel) rfl)⟩
theorem c3_215 : xMv RX3 215 3 3 mX3_obey := ⟨mdX3_obey, lw_at 547 (by decide +kernel) rfl, lw_at 549 (by decide +kernel) rfl, lw_at 21 (by decide +kernel) rfl, _, rfl, rfl⟩
theorem c5_110 : xMv RL 110 3 0 mX3_back := ⟨mdX3_back, lw_at 551 (by decide +kernel) rfl, lw_at 552 (by decide +kernel) rfl, lw_at 553 (by decide +kernel) rfl, _, rfl, rfl⟩
theorem c5_114 : xMv RL 114 3 1 mX3_told := ⟨mdX3_told, lw_at 555 (by decide +kernel) rfl, lw_at 556 (by decide +kernel) rfl, lw_at 557 (by decide +kernel) rfl, _, rfl, rfl⟩
theorem c5_118 : xMv RL 118 3 0 mX3_digest := ⟨mdX3_digest, lw_at 559 (by decide +kernel) rfl, lw_at 560 (by decide +kernel) rfl, lw_at 561 (by decide +kernel) rfl, _, rfl, rfl⟩
theorem c3_229 : xMv RX3 229 3 1 mX3_told := ⟨mdX3_told, lw_at 565 (by decide +kernel) rfl, lw_at 556 (by decide +kernel) rfl, lw_at 557 (by decide +kernel) rfl, _, rfl, rfl⟩
theorem c3_232 : xMv RX3 232 3 1 mX3_count := ⟨mdX3_count, lw_at 566 (by decide +kernel) rfl, lw_at 476 (by decide +kernel) rfl, lw_at 477 (by decide +kernel) rfl, _, rfl, rfl⟩
theorem c3_235 : xMv RX3 235 3 2 mX3_of := ⟨mdX3_of, lw_at 567 (by decide +kernel) rfl, lw_at 301 (by decide +kernel) rfl, lw_at 302 (by decide +kernel) rfl, _, rfl, rfl⟩
theorem c3_238 : xMv RX3 238 3 1 mX3_light := ⟨mdX3_light, lw_at 568 (by decide +kernel) rfl, lw_at 331 (by decide +kernel) rfl, lw_at 332 (by decide +kernel) rfl, _, rfl, rfl⟩
theorem c3_241 : xMv RX3 241 3 0 mX3_least := ⟨mdX3_least, lw_at 569 (by decide +kernel) rfl, lw_at 438 (by decide +kernel) rfl, lw_at 439 (by decide +kernel) rfl, _, rfl, rfl⟩
theorem c3_244 : xMv RX3 244 3 0 mX3_nearest := ⟨mdX3_nearest, lw_at 570 (by decide +kernel) rfl, lw_at 444 (by decide +kernel) rfl, lw_at 445 (by decide +kernel) rfl, _, rfl, rfl⟩
theorem c5_12 : xMi RL 12 0 mX4_init := ⟨mdX4_init, lw_at 573 (by decide +kernel) rfl, lw_at 574 (by decide +kernel) rfl, rfl, rfl⟩
theorem c4_1 : Cond.methodLink RX4 1 Lib.objectInit ∈ lw_good := lw_at 576 (by decide +kernel) rfl
theorem c5_113 : xMv RL 113 4 0 mX4_back := ⟨mdX4_back, lw_at 626 (by decide +kernel) rfl, lw_at 627 (by decide +kernel) rfl, lw_at 628 (by decide +kernel) rfl, _, rfl, rfl⟩
theorem c4_45 : xMv RX4 45 4 0 mX4_no := ⟨mdX4_no, lw_at 630 (by decide +kernel) rfl, lw_at 632 (by decide +kernel) rfl, lw_at 22 (by decide +kernel) rfl, _, rfl, rfl⟩
theorem c5_17 : xMv RL 17 4 3 mX4_colour := ⟨mdX4_colour, lw_at 634 (by decide +kernel) rfl, lw_at 635 (by decide +kernel) rfl, lw_at 636 (by decide +kernel) rfl, _, rfl, rfl⟩
theorem c4_65 : xMs RX4 65 3 mX4_areParts := ⟨mdX4_areParts, lw_at 639 (by decide +kernel) rfl, Or.inl (lw_at 638 (by decide +kernel) rfl)⟩
theorem c4_53 : xMs RX4 53 1 mX4_isPart := ⟨mdX4_isPart, lw_at 642 (by decide +kernel) rfl, Or.inl (lw_at 641 (by decide +kernel) rfl)⟩
theorem c4_49 : xMs RX4 49 3 mX4_in := ⟨mdX4_in, lw_at 645 (by decide +kernel) rfl, Or.inl (lw_at 644 (by decide +kernel) rfl)⟩
theorem c4_68 : xMv RX4 68 4 0 mX4_bad := ⟨mdX4_bad, lw_at 647 (by decide +kernel) rfl, lw_at 649 (by decide +kernel) rfl, lw_at 23 (by decide +kernel) rfl, _, rfl, rfl⟩
theorem c4_71 : xMv RX4 71 4 0 mX4_full := ⟨mdX4_full, lw_at 651 (by decide +kernel) rfl, lw_at 653 (by decide +kernel) rfl, lw_at 24 (by decide +kernel) rfl, _, rfl, rfl⟩
theorem c4_74 : xMv RX4 74 4 0 mX4_remembers := ⟨mdX4_remembers, lw_at 655 (by decide +kernel) rfl, lw_at 657 (by decide +kernel) rfl, lw_at 25 (by decide +kernel) rfl, _, rfl, rfl⟩
theorem c4_77 : xMv RX4 77 4 3 mX4_comes := ⟨mdX4_comes, lw_at 659 (by decide +kernel) rfl, lw_at 661 (by decide +kernel) rfl, lw_at 26 (by decide +kernel) rfl, _, rfl, rfl⟩
theorem c4_57 : xMv RX4 57 4 1 mX4_colourAt := ⟨mdX4_colourAt, lw_at 663 (by decide +kernel) rfl, lw_at 665 (by decide +kernel) rfl, lw_at 27 (by decide +kernel) rfl, _, rfl, rfl⟩
theorem c4_61 : xMv RX4 61 4 4 mX4_becomes := ⟨mdX4_becomes, lw_at 667 (by decide +kernel) rfl, lw_at 669 (by decide +kernel) rfl, lw_at 28 (by decide +kernel) rfl, _, rfl, rfl⟩
theorem c5_22 : xMv RL 22 4 4 mX4_paints := ⟨mdX4_paints, lw_at 671 (by decide +kernel) rfl, lw_at 672 (by decide +kernel) rfl, lw_at 673 (by decide +kernel) rfl, _, rfl, rfl⟩
theorem c4_81 : xMv RX4 81 4 1 mX4_isColour := ⟨mdX4_isColour, lw_at 675 (by decide +kernel) rfl, lw_at 677 (by decide +kernel) rfl, lw_at 29 (by decide +kernel) rfl, _, rfl, rfl⟩
theorem c5_26 : xMv RL 26 4 3 mX4_ground := ⟨mdX4_ground, lw_at 679 (by decide +kernel) rfl, lw_at 680 (by decide +kernel) rfl, lw_at 681 (by decide +kernel) rfl, _, rfl, rfl⟩
theorem c5_30 : xMv RL 30 4 3 mX4_eye := ⟨mdX4_eye, lw_at 683 (by decide +kernel) rfl, lw_at 684 (by decide +kernel) rfl, lw_at 685 (by decide +kernel) rfl, _, rfl, rfl⟩
theorem c4_84 : xMs RX4 84 1 mX4_isEye := ⟨mdX4_isEye, lw_at 688 (by decide +kernel) rfl, Or.inl (lw_at 687 (by decide +kernel) rfl)⟩
theorem c4_87 : xMs RX4 87 2 mX4_isOfEye := ⟨mdX4_isOfEye, lw_at 691 (by decide +kernel) rfl, Or.inl (lw_at 690 (by decide +kernel) rfl)⟩
theorem c4_91 : xMv RX4 91 4 2 mX4_exchanges := ⟨mdX4_exchanges, lw_at 693 (by decide +kernel) rfl, lw_at 695 (by decide +kernel) rfl, lw_at 30 (by decide +kernel) rfl, _, rfl, rfl⟩
theorem c5_35 : xMv RL 35 4 2 mX4_sets := ⟨mdX4_sets, lw_at 697 (by decide +kernel) rfl, lw_at 698 (by decide +kernel) rfl, lw_at 699 (by decide +kernel) rfl, _, rfl, rfl⟩
theorem c5_39 : xMv RL 39 4 2 mX4_fixes := ⟨mdX4_fixes, lw_at 701 (by decide +kernel) rfl, lw_at 702 (by decide +kernel) rfl, lw_at 703 (by decide +kernel) rfl, _, rfl, rfl⟩
theorem c4_98 : xMv RX4 98 4 2 mX4_fixesOne := ⟨mdX4_fixesOne, lw_at 705 (by decide +kernel) rfl, lw_at 707 (by decide +kernel) rfl, lw_at 31 (by decide +kernel) rfl, _, rfl, rfl⟩
theorem c4_95 : xMs RX4 95 1 mX4_bitsIn := ⟨mdX4_bitsIn, lw_at 710 (by decide +kernel) rfl, Or.inl (lw_at 709 (by decide +kernel) rfl)⟩
theorem c5_43 : xMv RL 43 4 2 mX4_of := ⟨mdX4_of, lw_at 712 (by decide +kernel) rfl, lw_at 713 (by decide +kernel) rfl, lw_at 714 (by decide +kernel) rfl, _, rfl, rfl⟩
theorem c4_114 : xMv RX4 114 4 2 mX4_ofColour := ⟨mdX4_ofColour, lw_at 716 (by decide +kernel) rfl, lw_at 718 (by decide +kernel) rfl, lw_at 32 (by decide +kernel) rfl, _, rfl, rfl⟩
theorem c4_108 : xMv RX4 108 4 1 mX4_isFitting := ⟨mdX4_isFitting, lw_at 720 (by decide +kernel) rfl, lw_at 722 (by decide +kernel) rfl, lw_at 33 (by decide +kernel) rfl, _, rfl, rfl⟩
theorem c4_104 : xMv RX4 104 4 1 mX4_shineAt := ⟨mdX4_shineAt, lw_at 724 (by decide +kernel) rfl, lw_at 726 (by decide +kernel) rfl, lw_at 34 (by decide +kernel) rfl, _, rfl, rfl⟩
theorem c4_111 : xMv RX4 111 4 1 mX4_placeOf := ⟨mdX4_placeOf, lw_at 731 (by decide +kernel) rfl, lw_at 733 (by decide +kernel) rfl, lw_at 35 (by decide +kernel) rfl, _, rfl, rfl⟩
theorem c5_47 : xMv RL 47 4 2 mX4_look := ⟨mdX4_look, lw_at 735 (by decide +kernel) rfl, lw_at 736 (by decide +kernel) rfl, lw_at 737 (by decide +kernel) rfl, _, rfl, rfl⟩
theorem c5_52 : xMv RL 52 4 1 mX4_light := ⟨mdX4_light, lw_at 739 (by decide +kernel) rfl, lw_at 740 (by decide +kernel) rfl, lw_at 741 (by decide +kernel) rfl, _, rfl, rfl⟩
theorem c4_117 : xMs RX4 117 1 mX4_bitsOf := ⟨mdX4_bitsOf, lw_at 744 (by decide +kernel) rfl, Or.inl (lw_at 743 (by decide +kernel) rfl)⟩
theorem c5_56 : xMv RL 56 4 3 mX4_seen := ⟨mdX4_seen, lw_at 749 (by decide +kernel) rfl, lw_at 750 (by decide +kernel) rfl, lw_at 751 (by decide +kernel) rfl, _, rfl, rfl⟩
theorem c4_122 : xMv RX4 122 4 3 mX4_sight := ⟨mdX4_sight, lw_at 753 (by decide +kernel) rfl, lw_at 755 (by decide +kernel) rfl, lw_at 36 (by decide +kernel) rfl, _, rfl, rfl⟩
theorem c5_60 : xMv RL 60 4 3 mX4_distance := ⟨mdX4_distance, lw_at 758 (by decide +kernel) rfl, lw_at 759 (by decide +kernel) rfl, lw_at 760 (by decide +kernel) rfl, _, rfl, rfl⟩
theorem c4_126 : xMv RX4 126 4 3 mX4_farFor := ⟨mdX4_farFor, lw_at 762 (by decide +kernel) rfl, lw_at 764 (by decide +kernel) rfl, lw_at 37 (by decide +kernel) rfl, _, rfl, rfl⟩
theorem c5_64 : xMv RL 64 4 2 mX4_apart := ⟨mdX4_apart, lw_at 766 (by decide +kernel) rfl, lw_at 767 (by decide +kernel) rfl, lw_at 768 (by decide +kernel) rfl, _, rfl, rfl⟩
theorem c4_129 : xMv RX4 129 4 2 mX4_apartOf := ⟨mdX4_apartOf, lw_at 770 (by decide +kernel) rfl, lw_at 772 (by decide +kernel) rfl, lw_at 38 (by decide +kernel) rfl, _, rfl, rfl⟩
theorem c5_68 : xMv RL 68 4 1 mX4_fills := ⟨mdX4_fills, lw_at 774 (by decide +kernel) rfl, lw_at 775 (by decide +kernel) rfl, lw_at 776 (by decide +kernel) rfl, _, rfl, rfl⟩
theorem c4_155 : xMv RX4 155 4 1 mX4_canFill := ⟨mdX4_canFill, lw_at 778 (by decide +kernel) rfl, lw_at 780 (by decide +kernel) rfl, lw_at 39 (by decide +kernel) rfl, _, rfl, rfl⟩
theorem c4_158 : xMv RX4 158 4 1 mX4_fillsFor := ⟨mdX4_fillsFor, lw_at 782 (by decide +kernel) rfl, lw_at 784 (by decide +kernel) rfl, lw_at 40 (by decide +kernel) rfl, _, rfl, rfl⟩
theorem c4_142 : xMv RX4 142 4 0 mX4_laysFar := ⟨mdX4_laysFar, lw_at 786 (by decide +kernel) rfl, lw_at 788 (by decide +kernel) rfl, lw_at 41 (by decide +kernel) rfl, _, rfl, rfl⟩
theorem c4_136 : xMs RX4 136 2 mX4_has := ⟨mdX4_has, lw_at 791 (by decide +kernel) rfl, Or.inl (lw_at 790 (by decide +kernel) rfl)⟩
theorem c4_145 : xMv RX4 145 4 1 mX4_putsLast := ⟨mdX4_putsLast, lw_at 793 (by decide +kernel) rfl, lw_at 795 (by decide +kernel) rfl, lw_at 42 (by decide +kernel) rfl, _, rfl, rfl⟩
theorem c4_149 : xMv RX4 149 4 0 mX4_lightest := ⟨mdX4_lightest, lw_at 797 (by decide +kernel) rfl, lw_at 799 (by decide +kernel) rfl, lw_at 43 (by decide +kernel) rfl, _, rfl, rfl⟩
theorem c4_152 : xMv RX4 152 4 0 mX4_farthest := ⟨mdX4_farthest, lw_at 801 (by decide +kernel) rfl, lw_at 803 (by decide +kernel) rfl, lw_at 44 (by decide +kernel) rfl, _, rfl, rfl⟩
theorem c4_139 : xMv RX4 139 4 1 mX4_nearestIn := ⟨mdX4_nearestIn, lw_at 805 (by decide +kernel) rfl, lw_at 807 (by decide +kernel) rfl, lw_at 45 (by decide +kernel) rfl, _, rfl, rfl⟩
theorem c5_73 : xMv RL 73 4 0 mX4_swaps := ⟨mdX4_swaps, lw_at 809 (by decide +kernel) rfl, lw_at 810 (by decide +kernel) rfl, lw_at 811 (by decide +kernel) rfl, _, rfl, rfl⟩
theorem c4_171 : xMv RX4 171 4 0 mX4_swapsAll := ⟨mdX4_swapsAll, lw_at 813 (by decide +kernel) rfl, lw_at 815 (by decide +kernel) rfl, lw_at 46 (by decide +kernel) rfl, _, rfl, rfl⟩
theorem c4_167 : xMv RX4 167 4 0 mX4_isSwapped := ⟨mdX4_isSwapped, lw_at 817 (by decide +kernel) rfl, lw_at 819 (by decide +kernel) rfl, lw_at 47 (by decide +kernel) rfl, _, rfl, rfl⟩
theorem c4_161 : xMv RX4 161 4 0 mX4_takesPalette := ⟨mdX4_takesPalette, lw_at 821 (by decide +kernel) rfl, lw_at 823 (by decide +kernel) rfl, lw_at 48 (by decide +kernel) rfl, _, rfl, rfl⟩
theorem c4_164 : xMv RX4 164 4 1 mX4_leastOf := ⟨mdX4_leastOf, lw_at 825 (by decide +kernel) rfl, lw_at 827 (by decide +kernel) rfl, lw_at 49 (by decide +kernel) rfl, _, rfl, rfl⟩
theorem c5_77 : xMv RL 77 4 1 mX4_palette := ⟨mdX4_palette, lw_at 829 (by decide +kernel) rfl, lw_at 830 (by decide +kernel) rfl, lw_at 831 (by decide +kernel) rfl, _, rfl, rfl⟩
theorem c5_81 : xMv RL 81 4 0 mX4_least := ⟨mdX4_least, lw_at 833 (by decide +kernel) rfl, lw_at 834 (by decide +kernel) rfl, lw_at 835 (by decide +kernel) rfl, _, rfl, rfl⟩
theorem c4_174 : xMv RX4 174 4 0 mX4_leastNow := ⟨mdX4_leastNow, lw_at 837 (by decide +kernel) rfl, lw_at 839 (by decide +kernel) rfl, lw_at 50 (by decide +kernel) rfl, _, rfl, rfl⟩
theorem c5_85 : xMv RL 85 4 0 mX4_nearest := ⟨mdX4_nearest, lw_at 841 (by decide +kernel) rfl, lw_at 842 (by decide +kernel) rfl, lw_at 843 (by decide +kernel) rfl, _, rfl, rfl⟩
theorem c4_177 : xMv RX4 177 4 0 mX4_nearestNow := ⟨mdX4_nearestNow, lw_at 845 (by decide +kernel) rfl, lw_at 847 (by decide +kernel) rfl, lw_at 51 (by decide +kernel) rfl, _, rfl, rfl⟩
theorem c5_89 : xMv RL 89 4 1 mX4_best := ⟨mdX4_best, lw_at 849 (by decide +kernel) rfl, lw_at 850 (by decide +kernel) rfl, lw_at 851 (by decide +kernel) rfl, _, rfl, rfl⟩
theorem c4_186 : xMv RX4 186 4 1 mX4_bestOf := ⟨mdX4_bestOf, lw_at 853 (by decide +kernel) rfl, lw_at 855 (by decide +kernel) rfl, lw_at 52 (by decide +kernel) rfl, _, rfl, rfl⟩
theorem c4_180 : xMv RX4 180 4 1 mX4_setOf := ⟨mdX4_setOf, lw_at 857 (by decide +kernel) rfl, lw_at 859 (by decide +kernel) rfl, lw_at 53 (by decide +kernel) rfl, _, rfl, rfl⟩
theorem c4_183 : xMv RX4 183 4 1 mX4_isNext := ⟨mdX4_isNext, lw_at 861 (by decide +kernel) rfl, lw_at 863 (by decide +kernel) rfl, lw_at 54 (by decide +kernel) rfl, _, rfl, rfl⟩
theorem c5_93 : xMv RL 93 4 2 mX4_mistaken := ⟨mdX4_mistaken, lw_at 865 (by decide +kernel) rfl, lw_at 866 (by decide +kernel) rfl, lw_at 867 (by decide +kernel) rfl, _, rfl, rfl⟩
theorem c5_97 : xMv RL 97 4 1 mX4_count := ⟨mdX4_count, lw_at 869 (by decide +kernel) rfl, lw_at 870 (by decide +kernel) rfl, lw_at 871 (by decide +kernel) rfl, _, rfl, rfl⟩
theorem c4_195 : xMv RX4 195 4 1 mX4_countOf := ⟨mdX4_countOf, lw_at 873 (by decide +kernel) rfl, lw_at 875 (by decide +kernel) rfl, lw_at 55 (by decide +kernel) rfl, _, rfl, rfl⟩
theorem c4_189 : xMv RX4 189 4 0 mX4_fittingMany := ⟨mdX4_fittingMany, lw_at 877 (by decide +kernel) rfl, lw_at 879 (by decide +kernel) rfl, lw_at 56 (by decide +kernel) rfl, _, rfl, rfl⟩
theorem c4_192 : xMv RX4 192 4 0 mX4_countsSet := ⟨mdX4_countsSet, lw_at 881 (by decide +kernel) rfl, lw_at 883 (by decide +kernel) rfl, lw_at 57 (by decide +kernel) rfl, _, rfl, rfl⟩
theorem c5_101 : xMv RL 101 4 1 mX4_type := ⟨mdX4_type, lw_at 885 (by decide +kernel) rfl, lw_at 886 (by decide +kernel) rfl, lw_at 887 (by decide +kernel) rfl, _, rfl, rfl⟩
theorem c5_105 : xMv RL 105 4 0 mX4_clear := ⟨mdX4_clear, lw_at 889 (by decide +kernel) rfl, lw_at 890 (by decide +kernel) rfl, lw_at 891 (by decide +kernel) rfl, _, rfl, rfl⟩
theorem c5_109 : xMv RL 109 4 0 mX4_does := ⟨mdX4_does, lw_at 893 (by decide +kernel) rfl, lw_at 894 (by decide +kernel) rfl, lw_at 895 (by decide +kernel) rfl, _, rfl, rfl⟩
theorem c4_237 : xMv RX4 237 4 0 mX4_isRead := ⟨mdX4_isRead, lw_at 897 (by decide +kernel) rfl, lw_at 899 (by decide +kernel) rfl, lw_at 58 (by decide +kernel) rfl, _, rfl, rfl⟩
theorem c4_210 : xMv RX4 210 4 0 mX4_blanks := ⟨mdX4_blanks, lw_at 901 (by decide +kernel) rfl, lw_at 903 (by decide +kernel) rfl, lw_at 59 (by decide +kernel) rfl, _, rfl, rfl⟩
theorem c4_204 : xMv RX4 204 4 2 mX4_isAt := ⟨mdX4_isAt, lw_at 905 (by decide +kernel) rfl, lw_at 907 (by decide +kernel) rfl, lw_at 60 (by decide +kernel) rfl, _, rfl, rfl⟩
theorem c4_228 : xMv RX4 228 4 0 mX4_takesOrder := ⟨mdX4_takesOrder, lw_at 909 (by decide +kernel) rfl, lw_at 911 (by decide +kernel) rfl, lw_at 61 (by decide +kernel) rfl, _, rfl, rfl⟩
theorem c4_213 : xMv RX4 213 4 1 mX4_fails := ⟨mdX4_fails, lw_at 913 (by decide +kernel) rfl, lw_at 915 (by decide +kernel) rfl, lw_at 62 (by decide +kernel) rfl, _, rfl, rfl⟩
theorem c4_225 : xMv RX4 225 4 1 mX4_takesNumbers := ⟨mdX4_takesNumbers, lw_at 917 (by decide +kernel) rfl, lw_at 919 (by decide +kernel) rfl, lw_at 63 (by decide +kernel) rfl, _, rfl, rfl⟩
theorem c4_219 : xMv RX4 219 4 1 mX4_takesSix := ⟨mdX4_takesSix, lw_at 921 (by decide +kernel) rfl, lw_at 923 (by decide +kernel) rfl, lw_at 64 (by decide +kernel) rfl, _, rfl, rfl⟩
theorem c4_222 : xMv RX4 222 4 1 mX4_takesNumber := ⟨mdX4_takesNumber, lw_at 925 (by decide +kernel) rfl, lw_at 927 (by decide +kernel) rfl, lw_at 65 (by decide +kernel) rfl, _, rfl, rfl⟩
theorem c4_240 : xMv RX4 240 4 1 mX4_obeys := ⟨mdX4_obeys, lw_at 929 (by decide +kernel) rfl, lw_at 931 (by decide +kernel) rfl, lw_at 66 (by decide +kernel) rfl, _, rfl, rfl⟩
theorem c4_231 : xMv RX4 231 4 1 mX4_comesTold := ⟨mdX4_comesTold, lw_at 933 (by decide +kernel) rfl, lw_at 935 (by decide +kernel) rfl, lw_at 67 (by decide +kernel) rfl, _, rfl, rfl⟩
theorem c4_234 : xMv RX4 234 4 2 mX4_limits := ⟨mdX4_limits, lw_at 937 (by decide +kernel) rfl, lw_at 939 (by decide +kernel) rfl, lw_at 68 (by decide +kernel) rfl, _, rfl, rfl⟩
theorem c4_243 : xMv RX4 243 4 0 mX4_turns := ⟨mdX4_turns, lw_at 941 (by decide +kernel) rfl, lw_at 943 (by decide +kernel) rfl, lw_at 69 (by decide +kernel) rfl, _, rfl, rfl⟩
theorem c5_117 : xMv RL 117 4 1 mX4_told := ⟨mdX4_told, lw_at 945 (by decide +kernel) rfl, lw_at 946 (by decide +kernel) rfl, lw_at 947 (by decide +kernel) rfl, _, rfl, rfl⟩
theorem c4_246 : xMv RX4 246 4 1 mX4_toldOf := ⟨mdX4_toldOf, lw_at 949 (by decide +kernel) rfl, lw_at 951 (by decide +kernel) rfl, lw_at 70 (by decide +kernel) rfl, _, rfl, rfl⟩
theorem c5_122 : xMv RL 122 4 0 mX4_digest := ⟨mdX4_digest, lw_at 953 (by decide +kernel) rfl, lw_at 954 (by decide +kernel) rfl, lw_at 955 (by decide +kernel) rfl, _, rfl, rfl⟩
theorem c4_257 : xMv RX4 257 4 1 mX4_mix := ⟨mdX4_mix, lw_at 958 (by decide +kernel) rfl, lw_at 960 (by decide +kernel) rfl, lw_at 71 (by decide +kernel) rfl, _, rfl, rfl⟩
end
section
theorem dX0_init_0 : decode cX0_init 0 = .ok (.aload_n 0, 1) := by decide +kernel
theorem dX0_init_1 : decode cX0_init 1 = .ok (.invokespecial 3, 3) := by decide +kernel
theorem dX0_init_4 : decode cX0_init 4 = .ok (.aload_n 0, 1) := by decide +kernel
theorem dX0_init_5 : decode cX0_init 5 = .ok (.sipush 400, 3) := by decide +kernel
theorem dX0_init_8 : decode cX0_init 8 = .ok (.newarray .float, 2) := by decide +kernel
theorem dX0_init_10 : decode cX0_init 10 = .ok (.putfield 9, 3) := by decide +kernel
theorem dX0_init_13 : decode cX0_init 13 = .ok (.aload_n 0, 1) := by decide +kernel
theorem dX0_init_14 : decode cX0_init 14 = .ok (.iconst 4, 1) := by decide +kernel
theorem dX0_init_15 : decode cX0_init 15 = .ok (.newarray .int, 2) := by decide +kernel
theorem dX0_init_17 : decode cX0_init 17 = .ok (.putfield 15, 3) := by decide +kernel
theorem dX0_init_20 : decode cX0_init 20 = .ok (.return_, 1) := by decide +kernel
theorem dX0_measure_0 : decode cX0_measure 0 = .ok (.iconst 0, 1) := by decide +kernel
theorem dX0_measure_1 : decode cX0_measure 1 = .ok (.istore_n 2, 1) := by decide +kernel
theorem dX0_measure_2 : decode cX0_measure 2 = .ok (.iload_n 2, 1) := by decide +kernel
theorem dX0_measure_3 : decode cX0_measure 3 = .ok (.aload_n 1, 1) := by decide +kernel
theorem dX0_measure_4 : decode cX0_measure 4 = .ok (.getfield 19, 3) := by decide +kernel
theorem dX0_measure_7 : decode cX0_measure 7 = .ok (.if_icmp .ge 56, 3) := by decide +kernel
theorem dX0_measure_10 : decode cX0_measure 10 = .ok (.iconst 0, 1) := by decide +kernel
theorem dX0_measure_11 : decode cX0_measure 11 = .ok (.istore_n 3, 1) := by decide +kernel
theorem dX0_measure_12 : decode cX0_measure 12 = .ok (.iload_n 3, 1) := by decide +kernel
theorem dX0_measure_13 : decode cX0_measure 13 = .ok (.iload_n 2, 1) := by decide +kernel
theorem dX0_measure_14 : decode cX0_measure 14 = .ok (.if_icmp .ge 43, 3) := by decide +kernel
theorem dX0_measure_17 : decode cX0_measure 17 = .ok (.aload_n 1, 1) := by decide +kernel
theorem dX0_measure_18 : decode cX0_measure 18 = .ok (.iload_n 2, 1) := by decide +kernel
theorem dX0_measure_19 : decode cX0_measure 19 = .ok (.iload_n 3, 1) := by decide +kernel
theorem dX0_measure_20 : decode cX0_measure 20 = .ok (.invokevirtual 25, 3) := by decide +kernel
theorem dX0_measure_23 : decode cX0_measure 23 = .ok (.fstore 4, 2) := by decide +kernel
theorem dX0_measure_25 : decode cX0_measure 25 = .ok (.aload_n 0, 1) := by decide +kernel
theorem dX0_measure_26 : decode cX0_measure 26 = .ok (.getfield 9, 3) := by decide +kernel
theorem dX0_measure_29 : decode cX0_measure 29 = .ok (.bipush 20, 2) := by decide +kernel
theorem dX0_measure_31 : decode cX0_measure 31 = .ok (.iload_n 2, 1) := by decide +kernel
theorem dX0_measure_32 : decode cX0_measure 32 = .ok (.imul, 1) := by decide +kernel
theorem dX0_measure_33 : decode cX0_measure 33 = .ok (.iload_n 3, 1) := by decide +kernel
theorem dX0_measure_34 : decode cX0_measure 34 = .ok (.iadd, 1) := by decide +kernel
theorem dX0_measure_35 : decode cX0_measure 35 = .ok (.fload 4, 2) := by decide +kernel
theorem dX0_measure_37 : decode cX0_measure 37 = .ok (.fastore, 1) := by decide +kernel
theorem dX0_measure_38 : decode cX0_measure 38 = .ok (.aload_n 0, 1) := by decide +kernel
theorem dX0_measure_39 : decode cX0_measure 39 = .ok (.getfield 9, 3) := by decide +kernel
theorem dX0_measure_42 : decode cX0_measure 42 = .ok (.bipush 20, 2) := by decide +kernel
theorem dX0_measure_44 : decode cX0_measure 44 = .ok (.iload_n 3, 1) := by decide +kernel
theorem dX0_measure_45 : decode cX0_measure 45 = .ok (.imul, 1) := by decide +kernel
theorem dX0_measure_46 : decode cX0_measure 46 = .ok (.iload_n 2, 1) := by decide +kernel
theorem dX0_measure_47 : decode cX0_measure 47 = .ok (.iadd, 1) := by decide +kernel
theorem dX0_measure_48 : decode cX0_measure 48 = .ok (.fload 4, 2) := by decide +kernel
theorem dX0_measure_50 : decode cX0_measure 50 = .ok (.fastore, 1) := by decide +kernel
theorem dX0_measure_51 : decode cX0_measure 51 = .ok (.iinc 3 1, 3) := by decide +kernel
theorem dX0_measure_54 : decode cX0_measure 54 = .ok (.goto (-42), 3) := by decide +kernel
theorem dX0_measure_57 : decode cX0_measure 57 = .ok (.iinc 2 1, 3) := by decide +kernel
theorem dX0_measure_60 : decode cX0_measure 60 = .ok (.goto (-58), 3) := by decide +kernel
theorem dX0_measure_63 : decode cX0_measure 63 = .ok (.return_, 1) := by decide +kernel
theorem dX0_gap_0 : decode cX0_gap 0 = .ok (.aload_n 0, 1) := by decide +kernel
theorem dX0_gap_1 : decode cX0_gap 1 = .ok (.getfield 9, 3) := by decide +kernel
theorem dX0_gap_4 : decode cX0_gap 4 = .ok (.bipush 20, 2) := by decide +kernel
theorem dX0_gap_6 : decode cX0_gap 6 = .ok (.iload_n 1, 1) := by decide +kernel
theorem dX0_gap_7 : decode cX0_gap 7 = .ok (.imul, 1) := by decide +kernel
theorem dX0_gap_8 : decode cX0_gap 8 = .ok (.iload_n 2, 1) := by decide +kernel
theorem dX0_gap_9 : decode cX0_gap 9 = .ok (.iadd, 1) := by decide +kernel
theorem dX0_gap_10 : decode cX0_gap 10 = .ok (.faload, 1) := by decide +kernel
theorem dX0_gap_11 : decode cX0_gap 11 = .ok (.freturn, 1) := by decide +kernel
theorem dX0_leastOf_0 : decode cX0_leastOf 0 = .ok (.iload_n 2, 1) := by decide +kernel
theorem dX0_leastOf_1 : decode cX0_leastOf 1 = .ok (.iconst 2, 1) := by decide +kernel
theorem dX0_leastOf_2 : decode cX0_leastOf 2 = .ok (.if_icmp .ge 5, 3) := by decide +kernel
theorem dX0_leastOf_5 : decode cX0_leastOf 5 = .ok (.fconst 0, 1) := by decide +kernel
theorem dX0_leastOf_6 : decode cX0_leastOf 6 = .ok (.freturn, 1) := by decide +kernel
theorem dX0_leastOf_7 : decode cX0_leastOf 7 = .ok (.aload_n 0, 1) := by decide +kernel
theorem dX0_leastOf_8 : decode cX0_leastOf 8 = .ok (.aload_n 1, 1) := by decide +kernel
theorem dX0_leastOf_9 : decode cX0_leastOf 9 = .ok (.iconst 0, 1) := by decide +kernel
theorem dX0_leastOf_10 : decode cX0_leastOf 10 = .ok (.iaload, 1) := by decide +kernel
theorem dX0_leastOf_11 : decode cX0_leastOf 11 = .ok (.aload_n 1, 1) := by decide +kernel
theorem dX0_leastOf_12 : decode cX0_leastOf 12 = .ok (.iconst 1, 1) := by decide +kernel
theorem dX0_leastOf_13 : decode cX0_leastOf 13 = .ok (.iaload, 1) := by decide +kernel
theorem dX0_leastOf_14 : decode cX0_leastOf 14 = .ok (.invokevirtual 29, 3) := by decide +kernel
theorem dX0_leastOf_17 : decode cX0_leastOf 17 = .ok (.fstore_n 3, 1) := by decide +kernel
theorem dX0_leastOf_18 : decode cX0_leastOf 18 = .ok (.iconst 0, 1) := by decide +kernel
theorem dX0_leastOf_19 : decode cX0_leastOf 19 = .ok (.istore 4, 2) := by decide +kernel
theorem dX0_leastOf_21 : decode cX0_leastOf 21 = .ok (.iload 4, 2) := by decide +kernel
theorem dX0_leastOf_23 : decode cX0_leastOf 23 = .ok (.iload_n 2, 1) := by decide +kernel
theorem dX0_leastOf_24 : decode cX0_leastOf 24 = .ok (.if_icmp .ge 55, 3) := by decide +kernel
theorem dX0_leastOf_27 : decode cX0_leastOf 27 = .ok (.iload 4, 2) := by decide +kernel
theorem dX0_leastOf_29 : decode cX0_leastOf 29 = .ok (.iconst 1, 1) := by decide +kernel
theorem dX0_leastOf_30 : decode cX0_leastOf 30 = .ok (.iadd, 1) := by decide +kernel
theorem dX0_leastOf_31 : decode cX0_leastOf 31 = .ok (.istore 5, 2) := by decide +kernel
theorem dX0_leastOf_33 : decode cX0_leastOf 33 = .ok (.iload 5, 2) := by decide +kernel
theorem dX0_leastOf_35 : decode cX0_leastOf 35 = .ok (.iload_n 2, 1) := by decide +kernel
theorem dX0_leastOf_36 : decode cX0_leastOf 36 = .ok (.if_icmp .ge 37, 3) := by decide +kernel
theorem dX0_leastOf_39 : decode cX0_leastOf 39 = .ok (.aload_n 0, 1) := by decide +kernel
theorem dX0_leastOf_40 : decode cX0_leastOf 40 = .ok (.aload_n 1, 1) := by decide +kernel
theorem dX0_leastOf_41 : decode cX0_leastOf 41 = .ok (.iload 4, 2) := by decide +kernel
theorem dX0_leastOf_43 : decode cX0_leastOf 43 = .ok (.iaload, 1) := by decide +kernel
theorem dX0_leastOf_44 : decode cX0_leastOf 44 = .ok (.aload_n 1, 1) := by decide +kernel
theorem dX0_leastOf_45 : decode cX0_leastOf 45 = .ok (.iload 5, 2) := by decide +kernel
theorem dX0_leastOf_47 : decode cX0_leastOf 47 = .ok (.iaload, 1) := by decide +kernel
theorem dX0_leastOf_48 : decode cX0_leastOf 48 = .ok (.invokevirtual 29, 3) := by decide +kernel
theorem dX0_leastOf_51 : decode cX0_leastOf 51 = .ok (.fstore 6, 2) := by decide +kernel
theorem dX0_leastOf_53 : decode cX0_leastOf 53 = .ok (.fload 6, 2) := by decide +kernel
theorem dX0_leastOf_55 : decode cX0_leastOf 55 = .ok (.fload_n 3, 1) := by decide +kernel
theorem dX0_leastOf_56 : decode cX0_leastOf 56 = .ok (.fcmp .g, 1) := by decide +kernel
theorem dX0_leastOf_57 : decode cX0_leastOf 57 = .ok (.ifCond .ge 8, 3) := by decide +kernel
theorem dX0_leastOf_60 : decode cX0_leastOf 60 = .ok (.fload 6, 2) := by decide +kernel
theorem dX0_leastOf_62 : decode cX0_leastOf 62 = .ok (.goto 4, 3) := by decide +kernel
theorem dX0_leastOf_65 : decode cX0_leastOf 65 = .ok (.fload_n 3, 1) := by decide +kernel
theorem dX0_leastOf_66 : decode cX0_leastOf 66 = .ok (.fstore_n 3, 1) := by decide +kernel
theorem dX0_leastOf_67 : decode cX0_leastOf 67 = .ok (.iinc 5 1, 3) := by decide +kernel
theorem dX0_leastOf_70 : decode cX0_leastOf 70 = .ok (.goto (-37), 3) := by decide +kernel
theorem dX0_leastOf_73 : decode cX0_leastOf 73 = .ok (.iinc 4 1, 3) := by decide +kernel
theorem dX0_leastOf_76 : decode cX0_leastOf 76 = .ok (.goto (-55), 3) := by decide +kernel
theorem dX0_leastOf_79 : decode cX0_leastOf 79 = .ok (.fload_n 3, 1) := by decide +kernel
theorem dX0_leastOf_80 : decode cX0_leastOf 80 = .ok (.freturn, 1) := by decide +kernel
theorem dX0_nearestPlaces_0 : decode cX0_nearestPlaces 0 = .ok (.iconst (-1), 1) := by decide +kernel
theorem dX0_nearestPlaces_1 : decode cX0_nearestPlaces 1 = .ok (.istore_n 2, 1) := by decide +kernel
theorem dX0_nearestPlaces_2 : decode cX0_nearestPlaces 2 = .ok (.fconst 0, 1) := by decide +kernel
theorem dX0_nearestPlaces_3 : decode cX0_nearestPlaces 3 = .ok (.fstore_n 3, 1) := by decide +kernel
theorem dX0_nearestPlaces_4 : decode cX0_nearestPlaces 4 = .ok (.iconst 0, 1) := by decide +kernel
theorem dX0_nearestPlaces_5 : decode cX0_nearestPlaces 5 = .ok (.istore 4, 2) := by decide +kernel
theorem dX0_nearestPlaces_7 : decode cX0_nearestPlaces 7 = .ok (.iload 4, 2) := by decide +kernel
theorem dX0_nearestPlaces_9 : decode cX0_nearestPlaces 9 = .ok (.aload_n 1, 1) := by decide +kernel
theorem dX0_nearestPlaces_10 : decode cX0_nearestPlaces 10 = .ok (.getfield 32, 3) := by decide +kernel
theorem dX0_nearestPlaces_13 : decode cX0_nearestPlaces 13 = .ok (.if_icmp .ge 74, 3) := by decide +kernel
theorem dX0_nearestPlaces_16 : decode cX0_nearestPlaces 16 = .ok (.iload 4, 2) := by decide +kernel
theorem dX0_nearestPlaces_18 : decode cX0_nearestPlaces 18 = .ok (.iconst 1, 1) := by decide +kernel
theorem dX0_nearestPlaces_19 : decode cX0_nearestPlaces 19 = .ok (.iadd, 1) := by decide +kernel
theorem dX0_nearestPlaces_20 : decode cX0_nearestPlaces 20 = .ok (.istore 5, 2) := by decide +kernel
theorem dX0_nearestPlaces_22 : decode cX0_nearestPlaces 22 = .ok (.iload 5, 2) := by decide +kernel
theorem dX0_nearestPlaces_24 : decode cX0_nearestPlaces 24 = .ok (.aload_n 1, 1) := by decide +kernel
theorem dX0_nearestPlaces_25 : decode cX0_nearestPlaces 25 = .ok (.getfield 32, 3) := by decide +kernel
theorem dX0_nearestPlaces_28 : decode cX0_nearestPlaces 28 = .ok (.if_icmp .ge 53, 3) := by decide +kernel
theorem dX0_nearestPlaces_31 : decode cX0_nearestPlaces 31 = .ok (.aload_n 0, 1) := by decide +kernel
theorem dX0_nearestPlaces_32 : decode cX0_nearestPlaces 32 = .ok (.aload_n 1, 1) := by decide +kernel
theorem dX0_nearestPlaces_33 : decode cX0_nearestPlaces 33 = .ok (.getfield 35, 3) := by decide +kernel
theorem dX0_nearestPlaces_36 : decode cX0_nearestPlaces 36 = .ok (.iload 4, 2) := by decide +kernel
theorem dX0_nearestPlaces_38 : decode cX0_nearestPlaces 38 = .ok (.iaload, 1) := by decide +kernel
theorem dX0_nearestPlaces_39 : decode cX0_nearestPlaces 39 = .ok (.aload_n 1, 1) := by decide +kernel
theorem dX0_nearestPlaces_40 : decode cX0_nearestPlaces 40 = .ok (.getfield 35, 3) := by decide +kernel
theorem dX0_nearestPlaces_43 : decode cX0_nearestPlaces 43 = .ok (.iload 5, 2) := by decide +kernel
theorem dX0_nearestPlaces_45 : decode cX0_nearestPlaces 45 = .ok (.iaload, 1) := by decide +kernel
theorem dX0_nearestPlaces_46 : decode cX0_nearestPlaces 46 = .ok (.invokevirtual 29, 3) := by decide +kernel
theorem dX0_nearestPlaces_49 : decode cX0_nearestPlaces 49 = .ok (.fstore 6, 2) := by decide +kernel
theorem dX0_nearestPlaces_51 : decode cX0_nearestPlaces 51 = .ok (.iload_n 2, 1) := by decide +kernel
theorem dX0_nearestPlaces_52 : decode cX0_nearestPlaces 52 = .ok (.iconst (-1), 1) := by decide +kernel
theorem dX0_nearestPlaces_53 : decode cX0_nearestPlaces 53 = .ok (.if_icmp .eq 10, 3) := by decide +kernel
theorem dX0_nearestPlaces_56 : decode cX0_nearestPlaces 56 = .ok (.fload 6, 2) := by decide +kernel
theorem dX0_nearestPlaces_58 : decode cX0_nearestPlaces 58 = .ok (.fload_n 3, 1) := by decide +kernel
theorem dX0_nearestPlaces_59 : decode cX0_nearestPlaces 59 = .ok (.fcmp .g, 1) := by decide +kernel
theorem dX0_nearestPlaces_60 : decode cX0_nearestPlaces 60 = .ok (.ifCond .ge 15, 3) := by decide +kernel
theorem dX0_nearestPlaces_63 : decode cX0_nearestPlaces 63 = .ok (.bipush 10, 2) := by decide +kernel
theorem dX0_nearestPlaces_65 : decode cX0_nearestPlaces 65 = .ok (.iload 4, 2) := by decide +kernel
theorem dX0_nearestPlaces_67 : decode cX0_nearestPlaces 67 = .ok (.imul, 1) := by decide +kernel
theorem dX0_nearestPlaces_68 : decode cX0_nearestPlaces 68 = .ok (.iload 5, 2) := by decide +kernel
theorem dX0_nearestPlaces_70 : decode cX0_nearestPlaces 70 = .ok (.iadd, 1) := by decide +kernel
theorem dX0_nearestPlaces_71 : decode cX0_nearestPlaces 71 = .ok (.istore_n 2, 1) := by decide +kernel
theorem dX0_nearestPlaces_72 : decode cX0_nearestPlaces 72 = .ok (.fload 6, 2) := by decide +kernel
theorem dX0_nearestPlaces_74 : decode cX0_nearestPlaces 74 = .ok (.fstore_n 3, 1) := by decide +kernel
theorem dX0_nearestPlaces_75 : decode cX0_nearestPlaces 75 = .ok (.iinc 5 1, 3) := by decide +kernel
theorem dX0_nearestPlaces_78 : decode cX0_nearestPlaces 78 = .ok (.goto (-56), 3) := by decide +kernel
theorem dX0_nearestPlaces_81 : decode cX0_nearestPlaces 81 = .ok (.iinc 4 1, 3) := by decide +kernel
theorem dX0_nearestPlaces_84 : decode cX0_nearestPlaces 84 = .ok (.goto (-77), 3) := by decide +kernel
theorem dX0_nearestPlaces_87 : decode cX0_nearestPlaces 87 = .ok (.iload_n 2, 1) := by decide +kernel
theorem dX0_nearestPlaces_88 : decode cX0_nearestPlaces 88 = .ok (.ireturn, 1) := by decide +kernel
theorem dX0_fill_0 : decode cX0_fill 0 = .ok (.aload_n 0, 1) := by decide +kernel
theorem dX0_fill_1 : decode cX0_fill 1 = .ok (.aload_n 1, 1) := by decide +kernel
theorem dX0_fill_2 : decode cX0_fill 2 = .ok (.invokevirtual 38, 3) := by decide +kernel
theorem dX0_fill_5 : decode cX0_fill 5 = .ok (.aload_n 1, 1) := by decide +kernel
theorem dX0_fill_6 : decode cX0_fill 6 = .ok (.iconst 0, 1) := by decide +kernel
theorem dX0_fill_7 : decode cX0_fill 7 = .ok (.putfield 32, 3) := by decide +kernel
theorem dX0_fill_10 : decode cX0_fill 10 = .ok (.iconst 0, 1) := by decide +kernel
theorem dX0_fill_11 : decode cX0_fill 11 = .ok (.istore_n 3, 1) := by decide +kernel
theorem dX0_fill_12 : decode cX0_fill 12 = .ok (.iload_n 3, 1) := by decide +kernel
theorem dX0_fill_13 : decode cX0_fill 13 = .ok (.aload_n 1, 1) := by decide +kernel
theorem dX0_fill_14 : decode cX0_fill 14 = .ok (.getfield 19, 3) := by decide +kernel
theorem dX0_fill_17 : decode cX0_fill 17 = .ok (.if_icmp .ge 22, 3) := by decide +kernel
theorem dX0_fill_20 : decode cX0_fill 20 = .ok (.aload_n 1, 1) := by decide +kernel
theorem dX0_fill_21 : decode cX0_fill 21 = .ok (.iload_n 3, 1) := by decide +kernel
theorem dX0_fill_22 : decode cX0_fill 22 = .ok (.invokevirtual 42, 3) := by decide +kernel
theorem dX0_fill_25 : decode cX0_fill 25 = .ok (.ifCond .eq 8, 3) := by decide +kernel
theorem dX0_fill_28 : decode cX0_fill 28 = .ok (.aload_n 1, 1) := by decide +kernel
theorem dX0_fill_29 : decode cX0_fill 29 = .ok (.iload_n 3, 1) := by decide +kernel
theorem dX0_fill_30 : decode cX0_fill 30 = .ok (.invokevirtual 46, 3) := by decide +kernel
theorem dX0_fill_33 : decode cX0_fill 33 = .ok (.iinc 3 1, 3) := by decide +kernel
theorem dX0_fill_36 : decode cX0_fill 36 = .ok (.goto (-24), 3) := by decide +kernel
theorem dX0_fill_39 : decode cX0_fill 39 = .ok (.aload_n 1, 1) := by decide +kernel
theorem dX0_fill_40 : decode cX0_fill 40 = .ok (.invokevirtual 50, 3) := by decide +kernel
theorem dX0_fill_43 : decode cX0_fill 43 = .ok (.istore_n 3, 1) := by decide +kernel
theorem dX0_fill_44 : decode cX0_fill 44 = .ok (.aload_n 1, 1) := by decide +kernel
theorem dX0_fill_45 : decode cX0_fill 45 = .ok (.getfield 32, 3) := by decide +kernel
theorem dX0_fill_48 : decode cX0_fill 48 = .ok (.istore 4, 2) := by decide +kernel
theorem dX0_fill_50 : decode cX0_fill 50 = .ok (.iload 4, 2) := by decide +kernel
theorem dX0_fill_52 : decode cX0_fill 52 = .ok (.iload_n 2, 1) := by decide +kernel
theorem dX0_fill_53 : decode cX0_fill 53 = .ok (.if_icmp .ge 37, 3) := by decide +kernel
theorem dX0_fill_56 : decode cX0_fill 56 = .ok (.aload_n 0, 1) := by decide +kernel
theorem dX0_fill_57 : decode cX0_fill 57 = .ok (.aload_n 1, 1) := by decide +kernel
theorem dX0_fill_58 : decode cX0_fill 58 = .ok (.iload_n 3, 1) := by decide +kernel
theorem dX0_fill_59 : decode cX0_fill 59 = .ok (.aload_n 1, 1) := by decide +kernel
theorem dX0_fill_60 : decode cX0_fill 60 = .ok (.invokevirtual 54, 3) := by decide +kernel
theorem dX0_fill_63 : decode cX0_fill 63 = .ok (.iconst (-1), 1) := by decide +kernel
theorem dX0_fill_64 : decode cX0_fill 64 = .ok (.ixor, 1) := by decide +kernel
theorem dX0_fill_65 : decode cX0_fill 65 = .ok (.iand, 1) := by decide +kernel
theorem dX0_fill_66 : decode cX0_fill 66 = .ok (.invokevirtual 57, 3) := by decide +kernel
theorem dX0_fill_69 : decode cX0_fill 69 = .ok (.istore 5, 2) := by decide +kernel
theorem dX0_fill_71 : decode cX0_fill 71 = .ok (.iload 5, 2) := by decide +kernel
theorem dX0_fill_73 : decode cX0_fill 73 = .ok (.iconst (-1), 1) := by decide +kernel
theorem dX0_fill_74 : decode cX0_fill 74 = .ok (.if_icmp .ne 4, 3) := by decide +kernel
theorem dX0_fill_77 : decode cX0_fill 77 = .ok (.return_, 1) := by decide +kernel
theorem dX0_fill_78 : decode cX0_fill 78 = .ok (.aload_n 1, 1) := by decide +kernel
theorem dX0_fill_79 : decode cX0_fill 79 = .ok (.iload 5, 2) := by decide +kernel
theorem dX0_fill_81 : decode cX0_fill 81 = .ok (.invokevirtual 46, 3) := by decide +kernel
theorem dX0_fill_84 : decode cX0_fill 84 = .ok (.iinc 4 1, 3) := by decide +kernel
theorem dX0_fill_87 : decode cX0_fill 87 = .ok (.goto (-37), 3) := by decide +kernel
theorem dX0_fill_90 : decode cX0_fill 90 = .ok (.return_, 1) := by decide +kernel
theorem dX0_nextOne_0 : decode cX0_nextOne 0 = .ok (.iconst (-1), 1) := by decide +kernel
theorem dX0_nextOne_1 : decode cX0_nextOne 1 = .ok (.istore_n 3, 1) := by decide +kernel
theorem dX0_nextOne_2 : decode cX0_nextOne 2 = .ok (.fconst 0, 1) := by decide +kernel
theorem dX0_nextOne_3 : decode cX0_nextOne 3 = .ok (.fstore 4, 2) := by decide +kernel
theorem dX0_nextOne_5 : decode cX0_nextOne 5 = .ok (.iconst 0, 1) := by decide +kernel
theorem dX0_nextOne_6 : decode cX0_nextOne 6 = .ok (.istore 5, 2) := by decide +kernel
theorem dX0_nextOne_8 : decode cX0_nextOne 8 = .ok (.iload 5, 2) := by decide +kernel
theorem dX0_nextOne_10 : decode cX0_nextOne 10 = .ok (.aload_n 1, 1) := by decide +kernel
theorem dX0_nextOne_11 : decode cX0_nextOne 11 = .ok (.getfield 19, 3) := by decide +kernel
theorem dX0_nextOne_14 : decode cX0_nextOne 14 = .ok (.if_icmp .ge 64, 3) := by decide +kernel
theorem dX0_nextOne_17 : decode cX0_nextOne 17 = .ok (.iload_n 2, 1) := by decide +kernel
theorem dX0_nextOne_18 : decode cX0_nextOne 18 = .ok (.iload 5, 2) := by decide +kernel
theorem dX0_nextOne_20 : decode cX0_nextOne 20 = .ok (.ishr, 1) := by decide +kernel
theorem dX0_nextOne_21 : decode cX0_nextOne 21 = .ok (.iconst 1, 1) := by decide +kernel
theorem dX0_nextOne_22 : decode cX0_nextOne 22 = .ok (.iand, 1) := by decide +kernel
theorem dX0_nextOne_23 : decode cX0_nextOne 23 = .ok (.iconst 1, 1) := by decide +kernel
theorem dX0_nextOne_24 : decode cX0_nextOne 24 = .ok (.if_icmp .ne 48, 3) := by decide +kernel
theorem dX0_nextOne_27 : decode cX0_nextOne 27 = .ok (.aload_n 1, 1) := by decide +kernel
theorem dX0_nextOne_28 : decode cX0_nextOne 28 = .ok (.getfield 32, 3) := by decide +kernel
theorem dX0_nextOne_31 : decode cX0_nextOne 31 = .ok (.ifCond .ne 12, 3) := by decide +kernel
theorem dX0_nextOne_34 : decode cX0_nextOne 34 = .ok (.aload_n 1, 1) := by decide +kernel
theorem dX0_nextOne_35 : decode cX0_nextOne 35 = .ok (.iload 5, 2) := by decide +kernel
theorem dX0_nextOne_37 : decode cX0_nextOne 37 = .ok (.invokevirtual 61, 3) := by decide +kernel
theorem dX0_nextOne_40 : decode cX0_nextOne 40 = .ok (.goto 10, 3) := by decide +kernel
theorem dX0_nextOne_43 : decode cX0_nextOne 43 = .ok (.aload_n 0, 1) := by decide +kernel
theorem dX0_nextOne_44 : decode cX0_nextOne 44 = .ok (.aload_n 1, 1) := by decide +kernel
theorem dX0_nextOne_45 : decode cX0_nextOne 45 = .ok (.iload 5, 2) := by decide +kernel
theorem dX0_nextOne_47 : decode cX0_nextOne 47 = .ok (.invokevirtual 65, 3) := by decide +kernel
theorem dX0_nextOne_50 : decode cX0_nextOne 50 = .ok (.fstore 6, 2) := by decide +kernel
theorem dX0_nextOne_52 : decode cX0_nextOne 52 = .ok (.iload_n 3, 1) := by decide +kernel
theorem dX0_nextOne_53 : decode cX0_nextOne 53 = .ok (.iconst (-1), 1) := by decide +kernel
theorem dX0_nextOne_54 : decode cX0_nextOne 54 = .ok (.if_icmp .eq 11, 3) := by decide +kernel
theorem dX0_nextOne_57 : decode cX0_nextOne 57 = .ok (.fload 6, 2) := by decide +kernel
theorem dX0_nextOne_59 : decode cX0_nextOne 59 = .ok (.fload 4, 2) := by decide +kernel
theorem dX0_nextOne_61 : decode cX0_nextOne 61 = .ok (.fcmp .l, 1) := by decide +kernel
theorem dX0_nextOne_62 : decode cX0_nextOne 62 = .ok (.ifCond .le 10, 3) := by decide +kernel
theorem dX0_nextOne_65 : decode cX0_nextOne 65 = .ok (.iload 5, 2) := by decide +kernel
theorem dX0_nextOne_67 : decode cX0_nextOne 67 = .ok (.istore_n 3, 1) := by decide +kernel
theorem dX0_nextOne_68 : decode cX0_nextOne 68 = .ok (.fload 6, 2) := by decide +kernel
theorem dX0_nextOne_70 : decode cX0_nextOne 70 = .ok (.fstore 4, 2) := by decide +kernel
theorem dX0_nextOne_72 : decode cX0_nextOne 72 = .ok (.iinc 5 1, 3) := by decide +kernel
theorem dX0_nextOne_75 : decode cX0_nextOne 75 = .ok (.goto (-67), 3) := by decide +kernel
theorem dX0_nextOne_78 : decode cX0_nextOne 78 = .ok (.iload_n 3, 1) := by decide +kernel
theorem dX0_nextOne_79 : decode cX0_nextOne 79 = .ok (.ireturn, 1) := by decide +kernel
theorem dX0_gapToRow_0 : decode cX0_gapToRow 0 = .ok (.aload_n 0, 1) := by decide +kernel
theorem dX0_gapToRow_1 : decode cX0_gapToRow 1 = .ok (.iload_n 2, 1) := by decide +kernel
theorem dX0_gapToRow_2 : decode cX0_gapToRow 2 = .ok (.aload_n 1, 1) := by decide +kernel
theorem dX0_gapToRow_3 : decode cX0_gapToRow 3 = .ok (.getfield 35, 3) := by decide +kernel
theorem dX0_gapToRow_6 : decode cX0_gapToRow 6 = .ok (.iconst 0, 1) := by decide +kernel
theorem dX0_gapToRow_7 : decode cX0_gapToRow 7 = .ok (.iaload, 1) := by decide +kernel
theorem dX0_gapToRow_8 : decode cX0_gapToRow 8 = .ok (.invokevirtual 29, 3) := by decide +kernel
theorem dX0_gapToRow_11 : decode cX0_gapToRow 11 = .ok (.fstore_n 3, 1) := by decide +kernel
theorem dX0_gapToRow_12 : decode cX0_gapToRow 12 = .ok (.iconst 1, 1) := by decide +kernel
theorem dX0_gapToRow_13 : decode cX0_gapToRow 13 = .ok (.istore 4, 2) := by decide +kernel
theorem dX0_gapToRow_15 : decode cX0_gapToRow 15 = .ok (.iload 4, 2) := by decide +kernel
theorem dX0_gapToRow_17 : decode cX0_gapToRow 17 = .ok (.aload_n 1, 1) := by decide +kernel
theorem dX0_gapToRow_18 : decode cX0_gapToRow 18 = .ok (.getfield 32, 3) := by decide +kernel
theorem dX0_gapToRow_21 : decode cX0_gapToRow 21 = .ok (.if_icmp .ge 37, 3) := by decide +kernel
theorem dX0_gapToRow_24 : decode cX0_gapToRow 24 = .ok (.aload_n 0, 1) := by decide +kernel
theorem dX0_gapToRow_25 : decode cX0_gapToRow 25 = .ok (.iload_n 2, 1) := by decide +kernel
theorem dX0_gapToRow_26 : decode cX0_gapToRow 26 = .ok (.aload_n 1, 1) := by decide +kernel
theorem dX0_gapToRow_27 : decode cX0_gapToRow 27 = .ok (.getfield 35, 3) := by decide +kernel
theorem dX0_gapToRow_30 : decode cX0_gapToRow 30 = .ok (.iload 4, 2) := by decide +kernel
theorem dX0_gapToRow_32 : decode cX0_gapToRow 32 = .ok (.iaload, 1) := by decide +kernel
theorem dX0_gapToRow_33 : decode cX0_gapToRow 33 = .ok (.invokevirtual 29, 3) := by decide +kernel
theorem dX0_gapToRow_36 : decode cX0_gapToRow 36 = .ok (.fstore 5, 2) := by decide +kernel
theorem dX0_gapToRow_38 : decode cX0_gapToRow 38 = .ok (.fload 5, 2) := by decide +kernel
theorem dX0_gapToRow_40 : decode cX0_gapToRow 40 = .ok (.fload_n 3, 1) := by decide +kernel
theorem dX0_gapToRow_41 : decode cX0_gapToRow 41 = .ok (.fcmp .g, 1) := by decide +kernel
theorem dX0_gapToRow_42 : decode cX0_gapToRow 42 = .ok (.ifCond .ge 8, 3) := by decide +kernel
theorem dX0_gapToRow_45 : decode cX0_gapToRow 45 = .ok (.fload 5, 2) := by decide +kernel
theorem dX0_gapToRow_47 : decode cX0_gapToRow 47 = .ok (.goto 4, 3) := by decide +kernel
theorem dX0_gapToRow_50 : decode cX0_gapToRow 50 = .ok (.fload_n 3, 1) := by decide +kernel
theorem dX0_gapToRow_51 : decode cX0_gapToRow 51 = .ok (.fstore_n 3, 1) := by decide +kernel
theorem dX0_gapToRow_52 : decode cX0_gapToRow 52 = .ok (.iinc 4 1, 3) := by decide +kernel
theorem dX0_gapToRow_55 : decode cX0_gapToRow 55 = .ok (.goto (-40), 3) := by decide +kernel
theorem dX0_gapToRow_58 : decode cX0_gapToRow 58 = .ok (.fload_n 3, 1) := by decide +kernel
theorem dX0_gapToRow_59 : decode cX0_gapToRow 59 = .ok (.freturn, 1) := by decide +kernel
theorem dX0_swapAll_0 : decode cX0_swapAll 0 = .ok (.aload_n 0, 1) := by decide +kernel
theorem dX0_swapAll_1 : decode cX0_swapAll 1 = .ok (.aload_n 1, 1) := by decide +kernel
theorem dX0_swapAll_2 : decode cX0_swapAll 2 = .ok (.invokevirtual 38, 3) := by decide +kernel
theorem dX0_swapAll_5 : decode cX0_swapAll 5 = .ok (.aload_n 1, 1) := by decide +kernel
theorem dX0_swapAll_6 : decode cX0_swapAll 6 = .ok (.invokevirtual 50, 3) := by decide +kernel
theorem dX0_swapAll_9 : decode cX0_swapAll 9 = .ok (.istore_n 2, 1) := by decide +kernel
theorem dX0_swapAll_10 : decode cX0_swapAll 10 = .ok (.iconst 0, 1) := by decide +kernel
theorem dX0_swapAll_11 : decode cX0_swapAll 11 = .ok (.istore_n 3, 1) := by decide +kernel
theorem dX0_swapAll_12 : decode cX0_swapAll 12 = .ok (.iload_n 3, 1) := by decide +kernel
theorem dX0_swapAll_13 : decode cX0_swapAll 13 = .ok (.bipush 60, 2) := by decide +kernel
theorem dX0_swapAll_15 : decode cX0_swapAll 15 = .ok (.if_icmp .ge 25, 3) := by decide +kernel
theorem dX0_swapAll_18 : decode cX0_swapAll 18 = .ok (.aload_n 0, 1) := by decide +kernel
theorem dX0_swapAll_19 : decode cX0_swapAll 19 = .ok (.aload_n 1, 1) := by decide +kernel
theorem dX0_swapAll_20 : decode cX0_swapAll 20 = .ok (.iload_n 2, 1) := by decide +kernel
theorem dX0_swapAll_21 : decode cX0_swapAll 21 = .ok (.aload_n 1, 1) := by decide +kernel
theorem dX0_swapAll_22 : decode cX0_swapAll 22 = .ok (.invokevirtual 54, 3) := by decide +kernel
theorem dX0_swapAll_25 : decode cX0_swapAll 25 = .ok (.iconst (-1), 1) := by decide +kernel
theorem dX0_swapAll_26 : decode cX0_swapAll 26 = .ok (.ixor, 1) := by decide +kernel
theorem dX0_swapAll_27 : decode cX0_swapAll 27 = .ok (.iand, 1) := by decide +kernel
theorem dX0_swapAll_28 : decode cX0_swapAll 28 = .ok (.invokevirtual 69, 3) := by decide +kernel
theorem dX0_swapAll_31 : decode cX0_swapAll 31 = .ok (.ifCond .eq 9, 3) := by decide +kernel
theorem dX0_swapAll_34 : decode cX0_swapAll 34 = .ok (.iinc 3 1, 3) := by decide +kernel
theorem dX0_swapAll_37 : decode cX0_swapAll 37 = .ok (.goto (-25), 3) := by decide +kernel
theorem dX0_swapAll_40 : decode cX0_swapAll 40 = .ok (.iload_n 3, 1) := by decide +kernel
theorem dX0_swapAll_41 : decode cX0_swapAll 41 = .ok (.ireturn, 1) := by decide +kernel
theorem dX0_swapOne_0 : decode cX0_swapOne 0 = .ok (.aload_n 0, 1) := by decide +kernel
theorem dX0_swapOne_1 : decode cX0_swapOne 1 = .ok (.aload_n 1, 1) := by decide +kernel
theorem dX0_swapOne_2 : decode cX0_swapOne 2 = .ok (.getfield 35, 3) := by decide +kernel
theorem dX0_swapOne_5 : decode cX0_swapOne 5 = .ok (.aload_n 1, 1) := by decide +kernel
theorem dX0_swapOne_6 : decode cX0_swapOne 6 = .ok (.getfield 32, 3) := by decide +kernel
theorem dX0_swapOne_9 : decode cX0_swapOne 9 = .ok (.invokevirtual 73, 3) := by decide +kernel
theorem dX0_swapOne_12 : decode cX0_swapOne 12 = .ok (.fstore_n 3, 1) := by decide +kernel
theorem dX0_swapOne_13 : decode cX0_swapOne 13 = .ok (.iconst 0, 1) := by decide +kernel
theorem dX0_swapOne_14 : decode cX0_swapOne 14 = .ok (.istore 4, 2) := by decide +kernel
theorem dX0_swapOne_16 : decode cX0_swapOne 16 = .ok (.iload 4, 2) := by decide +kernel
theorem dX0_swapOne_18 : decode cX0_swapOne 18 = .ok (.aload_n 1, 1) := by decide +kernel
theorem dX0_swapOne_19 : decode cX0_swapOne 19 = .ok (.getfield 32, 3) := by decide +kernel
theorem dX0_swapOne_22 : decode cX0_swapOne 22 = .ok (.if_icmp .ge 92, 3) := by decide +kernel
theorem dX0_swapOne_25 : decode cX0_swapOne 25 = .ok (.aload_n 1, 1) := by decide +kernel
theorem dX0_swapOne_26 : decode cX0_swapOne 26 = .ok (.getfield 35, 3) := by decide +kernel
theorem dX0_swapOne_29 : decode cX0_swapOne 29 = .ok (.iload 4, 2) := by decide +kernel
theorem dX0_swapOne_31 : decode cX0_swapOne 31 = .ok (.iaload, 1) := by decide +kernel
theorem dX0_swapOne_32 : decode cX0_swapOne 32 = .ok (.istore 5, 2) := by decide +kernel
theorem dX0_swapOne_34 : decode cX0_swapOne 34 = .ok (.iconst 0, 1) := by decide +kernel
theorem dX0_swapOne_35 : decode cX0_swapOne 35 = .ok (.istore 6, 2) := by decide +kernel
theorem dX0_swapOne_37 : decode cX0_swapOne 37 = .ok (.iload 6, 2) := by decide +kernel
theorem dX0_swapOne_39 : decode cX0_swapOne 39 = .ok (.aload_n 1, 1) := by decide +kernel
theorem dX0_swapOne_40 : decode cX0_swapOne 40 = .ok (.getfield 19, 3) := by decide +kernel
theorem dX0_swapOne_43 : decode cX0_swapOne 43 = .ok (.if_icmp .ge 56, 3) := by decide +kernel
theorem dX0_swapOne_46 : decode cX0_swapOne 46 = .ok (.aload_n 1, 1) := by decide +kernel
theorem dX0_swapOne_47 : decode cX0_swapOne 47 = .ok (.iload 5, 2) := by decide +kernel
theorem dX0_swapOne_49 : decode cX0_swapOne 49 = .ok (.invokevirtual 42, 3) := by decide +kernel
theorem dX0_swapOne_52 : decode cX0_swapOne 52 = .ok (.ifCond .ne 47, 3) := by decide +kernel
theorem dX0_swapOne_55 : decode cX0_swapOne 55 = .ok (.iload_n 2, 1) := by decide +kernel
theorem dX0_swapOne_56 : decode cX0_swapOne 56 = .ok (.iload 6, 2) := by decide +kernel
theorem dX0_swapOne_58 : decode cX0_swapOne 58 = .ok (.ishr, 1) := by decide +kernel
theorem dX0_swapOne_59 : decode cX0_swapOne 59 = .ok (.iconst 1, 1) := by decide +kernel
theorem dX0_swapOne_60 : decode cX0_swapOne 60 = .ok (.iand, 1) := by decide +kernel
theorem dX0_swapOne_61 : decode cX0_swapOne 61 = .ok (.iconst 1, 1) := by decide +kernel
theorem dX0_swapOne_62 : decode cX0_swapOne 62 = .ok (.if_icmp .ne 31, 3) := by decide +kernel
theorem dX0_swapOne_65 : decode cX0_swapOne 65 = .ok (.aload_n 1, 1) := by decide +kernel
theorem dX0_swapOne_66 : decode cX0_swapOne 66 = .ok (.getfield 35, 3) := by decide +kernel
theorem dX0_swapOne_69 : decode cX0_swapOne 69 = .ok (.iload 4, 2) := by decide +kernel
theorem dX0_swapOne_71 : decode cX0_swapOne 71 = .ok (.iload 6, 2) := by decide +kernel
theorem dX0_swapOne_73 : decode cX0_swapOne 73 = .ok (.iastore, 1) := by decide +kernel
theorem dX0_swapOne_74 : decode cX0_swapOne 74 = .ok (.aload_n 0, 1) := by decide +kernel
theorem dX0_swapOne_75 : decode cX0_swapOne 75 = .ok (.aload_n 1, 1) := by decide +kernel
theorem dX0_swapOne_76 : decode cX0_swapOne 76 = .ok (.getfield 35, 3) := by decide +kernel
theorem dX0_swapOne_79 : decode cX0_swapOne 79 = .ok (.aload_n 1, 1) := by decide +kernel
theorem dX0_swapOne_80 : decode cX0_swapOne 80 = .ok (.getfield 32, 3) := by decide +kernel
theorem dX0_swapOne_83 : decode cX0_swapOne 83 = .ok (.invokevirtual 73, 3) := by decide +kernel
theorem dX0_swapOne_86 : decode cX0_swapOne 86 = .ok (.fload_n 3, 1) := by decide +kernel
theorem dX0_swapOne_87 : decode cX0_swapOne 87 = .ok (.fcmp .l, 1) := by decide +kernel
theorem dX0_swapOne_88 : decode cX0_swapOne 88 = .ok (.ifCond .le 5, 3) := by decide +kernel
theorem dX0_swapOne_91 : decode cX0_swapOne 91 = .ok (.iconst 1, 1) := by decide +kernel
theorem dX0_swapOne_92 : decode cX0_swapOne 92 = .ok (.ireturn, 1) := by decide +kernel
theorem dX0_swapOne_93 : decode cX0_swapOne 93 = .ok (.iinc 6 1, 3) := by decide +kernel
theorem dX0_swapOne_96 : decode cX0_swapOne 96 = .ok (.goto (-59), 3) := by decide +kernel
theorem dX0_swapOne_99 : decode cX0_swapOne 99 = .ok (.aload_n 1, 1) := by decide +kernel
theorem dX0_swapOne_100 : decode cX0_swapOne 100 = .ok (.getfield 35, 3) := by decide +kernel
theorem dX0_swapOne_103 : decode cX0_swapOne 103 = .ok (.iload 4, 2) := by decide +kernel
theorem dX0_swapOne_105 : decode cX0_swapOne 105 = .ok (.iload 5, 2) := by decide +kernel
theorem dX0_swapOne_107 : decode cX0_swapOne 107 = .ok (.iastore, 1) := by decide +kernel
theorem dX0_swapOne_108 : decode cX0_swapOne 108 = .ok (.iinc 4 1, 3) := by decide +kernel
theorem dX0_swapOne_111 : decode cX0_swapOne 111 = .ok (.goto (-95), 3) := by decide +kernel
theorem dX0_swapOne_114 : decode cX0_swapOne 114 = .ok (.iconst 0, 1) := by decide +kernel
theorem dX0_swapOne_115 : decode cX0_swapOne 115 = .ok (.ireturn, 1) := by decide +kernel
theorem dX0_bestSet_0 : decode cX0_bestSet 0 = .ok (.aload_n 0, 1) := by decide +kernel
theorem dX0_bestSet_1 : decode cX0_bestSet 1 = .ok (.aload_n 1, 1) := by decide +kernel
theorem dX0_bestSet_2 : decode cX0_bestSet 2 = .ok (.invokevirtual 38, 3) := by decide +kernel
theorem dX0_bestSet_5 : decode cX0_bestSet 5 = .ok (.aload_n 1, 1) := by decide +kernel
theorem dX0_bestSet_6 : decode cX0_bestSet 6 = .ok (.invokevirtual 50, 3) := by decide +kernel
theorem dX0_bestSet_9 : decode cX0_bestSet 9 = .ok (.aload_n 1, 1) := by decide +kernel
theorem dX0_bestSet_10 : decode cX0_bestSet 10 = .ok (.getfield 77, 3) := by decide +kernel
theorem dX0_bestSet_13 : decode cX0_bestSet 13 = .ok (.ior, 1) := by decide +kernel
theorem dX0_bestSet_14 : decode cX0_bestSet 14 = .ok (.istore_n 3, 1) := by decide +kernel
theorem dX0_bestSet_15 : decode cX0_bestSet 15 = .ok (.iconst (-1), 1) := by decide +kernel
theorem dX0_bestSet_16 : decode cX0_bestSet 16 = .ok (.istore 4, 2) := by decide +kernel
theorem dX0_bestSet_18 : decode cX0_bestSet 18 = .ok (.fconst 0, 1) := by decide +kernel
theorem dX0_bestSet_19 : decode cX0_bestSet 19 = .ok (.fstore 5, 2) := by decide +kernel
theorem dX0_bestSet_21 : decode cX0_bestSet 21 = .ok (.iconst 1, 1) := by decide +kernel
theorem dX0_bestSet_22 : decode cX0_bestSet 22 = .ok (.iload_n 2, 1) := by decide +kernel
theorem dX0_bestSet_23 : decode cX0_bestSet 23 = .ok (.ishl, 1) := by decide +kernel
theorem dX0_bestSet_24 : decode cX0_bestSet 24 = .ok (.iconst 1, 1) := by decide +kernel
theorem dX0_bestSet_25 : decode cX0_bestSet 25 = .ok (.isub, 1) := by decide +kernel
theorem dX0_bestSet_26 : decode cX0_bestSet 26 = .ok (.istore 6, 2) := by decide +kernel
theorem dX0_bestSet_28 : decode cX0_bestSet 28 = .ok (.iconst 0, 1) := by decide +kernel
theorem dX0_bestSet_29 : decode cX0_bestSet 29 = .ok (.istore 7, 2) := by decide +kernel
theorem dX0_bestSet_31 : decode cX0_bestSet 31 = .ok (.iload 7, 2) := by decide +kernel
theorem dX0_bestSet_33 : decode cX0_bestSet 33 = .ok (.sipush 4845, 3) := by decide +kernel
theorem dX0_bestSet_36 : decode cX0_bestSet 36 = .ok (.if_icmp .ge 86, 3) := by decide +kernel
theorem dX0_bestSet_39 : decode cX0_bestSet 39 = .ok (.iload 6, 2) := by decide +kernel
theorem dX0_bestSet_41 : decode cX0_bestSet 41 = .ok (.iconst 1, 1) := by decide +kernel
theorem dX0_bestSet_42 : decode cX0_bestSet 42 = .ok (.aload_n 1, 1) := by decide +kernel
theorem dX0_bestSet_43 : decode cX0_bestSet 43 = .ok (.getfield 19, 3) := by decide +kernel
theorem dX0_bestSet_46 : decode cX0_bestSet 46 = .ok (.ishl, 1) := by decide +kernel
theorem dX0_bestSet_47 : decode cX0_bestSet 47 = .ok (.if_icmp .ge 75, 3) := by decide +kernel
theorem dX0_bestSet_50 : decode cX0_bestSet 50 = .ok (.iload 6, 2) := by decide +kernel
theorem dX0_bestSet_52 : decode cX0_bestSet 52 = .ok (.iload_n 3, 1) := by decide +kernel
theorem dX0_bestSet_53 : decode cX0_bestSet 53 = .ok (.iconst (-1), 1) := by decide +kernel
theorem dX0_bestSet_54 : decode cX0_bestSet 54 = .ok (.ixor, 1) := by decide +kernel
theorem dX0_bestSet_55 : decode cX0_bestSet 55 = .ok (.iand, 1) := by decide +kernel
theorem dX0_bestSet_56 : decode cX0_bestSet 56 = .ok (.ifCond .ne 53, 3) := by decide +kernel
theorem dX0_bestSet_59 : decode cX0_bestSet 59 = .ok (.aload_n 1, 1) := by decide +kernel
theorem dX0_bestSet_60 : decode cX0_bestSet 60 = .ok (.getfield 77, 3) := by decide +kernel
theorem dX0_bestSet_63 : decode cX0_bestSet 63 = .ok (.iload 6, 2) := by decide +kernel
theorem dX0_bestSet_65 : decode cX0_bestSet 65 = .ok (.iconst (-1), 1) := by decide +kernel
theorem dX0_bestSet_66 : decode cX0_bestSet 66 = .ok (.ixor, 1) := by decide +kernel
theorem dX0_bestSet_67 : decode cX0_bestSet 67 = .ok (.iand, 1) := by decide +kernel
theorem dX0_bestSet_68 : decode cX0_bestSet 68 = .ok (.ifCond .ne 41, 3) := by decide +kernel
theorem dX0_bestSet_71 : decode cX0_bestSet 71 = .ok (.aload_n 0, 1) := by decide +kernel
theorem dX0_bestSet_72 : decode cX0_bestSet 72 = .ok (.aload_n 0, 1) := by decide +kernel
theorem dX0_bestSet_73 : decode cX0_bestSet 73 = .ok (.getfield 15, 3) := by decide +kernel
theorem dX0_bestSet_76 : decode cX0_bestSet 76 = .ok (.aload_n 0, 1) := by decide +kernel
theorem dX0_bestSet_77 : decode cX0_bestSet 77 = .ok (.iload 6, 2) := by decide +kernel
theorem dX0_bestSet_79 : decode cX0_bestSet 79 = .ok (.invokevirtual 80, 3) := by decide +kernel
theorem dX0_bestSet_82 : decode cX0_bestSet 82 = .ok (.invokevirtual 73, 3) := by decide +kernel
theorem dX0_bestSet_85 : decode cX0_bestSet 85 = .ok (.fstore 8, 2) := by decide +kernel
theorem dX0_bestSet_87 : decode cX0_bestSet 87 = .ok (.iload 4, 2) := by decide +kernel
theorem dX0_bestSet_89 : decode cX0_bestSet 89 = .ok (.iconst (-1), 1) := by decide +kernel
theorem dX0_bestSet_90 : decode cX0_bestSet 90 = .ok (.if_icmp .eq 11, 3) := by decide +kernel
theorem dX0_bestSet_93 : decode cX0_bestSet 93 = .ok (.fload 8, 2) := by decide +kernel
theorem dX0_bestSet_95 : decode cX0_bestSet 95 = .ok (.fload 5, 2) := by decide +kernel
theorem dX0_bestSet_97 : decode cX0_bestSet 97 = .ok (.fcmp .l, 1) := by decide +kernel
theorem dX0_bestSet_98 : decode cX0_bestSet 98 = .ok (.ifCond .le 11, 3) := by decide +kernel
theorem dX0_bestSet_101 : decode cX0_bestSet 101 = .ok (.iload 6, 2) := by decide +kernel
theorem dX0_bestSet_103 : decode cX0_bestSet 103 = .ok (.istore 4, 2) := by decide +kernel
theorem dX0_bestSet_105 : decode cX0_bestSet 105 = .ok (.fload 8, 2) := by decide +kernel
theorem dX0_bestSet_107 : decode cX0_bestSet 107 = .ok (.fstore 5, 2) := by decide +kernel
theorem dX0_bestSet_109 : decode cX0_bestSet 109 = .ok (.iload 6, 2) := by decide +kernel
theorem dX0_bestSet_111 : decode cX0_bestSet 111 = .ok (.invokestatic 84, 3) := by decide +kernel
theorem dX0_bestSet_114 : decode cX0_bestSet 114 = .ok (.istore 6, 2) := by decide +kernel
theorem dX0_bestSet_116 : decode cX0_bestSet 116 = .ok (.iinc 7 1, 3) := by decide +kernel
theorem dX0_bestSet_119 : decode cX0_bestSet 119 = .ok (.goto (-88), 3) := by decide +kernel
theorem dX0_bestSet_122 : decode cX0_bestSet 122 = .ok (.iload 4, 2) := by decide +kernel
theorem dX0_bestSet_124 : decode cX0_bestSet 124 = .ok (.ireturn, 1) := by decide +kernel
theorem dX0_listMembers_0 : decode cX0_listMembers 0 = .ok (.iconst 0, 1) := by decide +kernel
theorem dX0_listMembers_1 : decode cX0_listMembers 1 = .ok (.istore_n 2, 1) := by decide +kernel
theorem dX0_listMembers_2 : decode cX0_listMembers 2 = .ok (.iconst 0, 1) := by decide +kernel
theorem dX0_listMembers_3 : decode cX0_listMembers 3 = .ok (.istore_n 3, 1) := by decide +kernel
theorem dX0_listMembers_4 : decode cX0_listMembers 4 = .ok (.iload_n 3, 1) := by decide +kernel
theorem dX0_listMembers_5 : decode cX0_listMembers 5 = .ok (.bipush 20, 2) := by decide +kernel
theorem dX0_listMembers_7 : decode cX0_listMembers 7 = .ok (.if_icmp .ge 37, 3) := by decide +kernel
theorem dX0_listMembers_10 : decode cX0_listMembers 10 = .ok (.iload_n 2, 1) := by decide +kernel
theorem dX0_listMembers_11 : decode cX0_listMembers 11 = .ok (.aload_n 0, 1) := by decide +kernel
theorem dX0_listMembers_12 : decode cX0_listMembers 12 = .ok (.getfield 15, 3) := by decide +kernel
theorem dX0_listMembers_15 : decode cX0_listMembers 15 = .ok (.arraylength, 1) := by decide +kernel
theorem dX0_listMembers_16 : decode cX0_listMembers 16 = .ok (.if_icmp .ge 28, 3) := by decide +kernel
theorem dX0_listMembers_19 : decode cX0_listMembers 19 = .ok (.iload_n 1, 1) := by decide +kernel
theorem dX0_listMembers_20 : decode cX0_listMembers 20 = .ok (.iload_n 3, 1) := by decide +kernel
theorem dX0_listMembers_21 : decode cX0_listMembers 21 = .ok (.ishr, 1) := by decide +kernel
theorem dX0_listMembers_22 : decode cX0_listMembers 22 = .ok (.iconst 1, 1) := by decide +kernel
theorem dX0_listMembers_23 : decode cX0_listMembers 23 = .ok (.iand, 1) := by decide +kernel
theorem dX0_listMembers_24 : decode cX0_listMembers 24 = .ok (.iconst 1, 1) := by decide +kernel
theorem dX0_listMembers_25 : decode cX0_listMembers 25 = .ok (.if_icmp .ne 13, 3) := by decide +kernel
theorem dX0_listMembers_28 : decode cX0_listMembers 28 = .ok (.aload_n 0, 1) := by decide +kernel
theorem dX0_listMembers_29 : decode cX0_listMembers 29 = .ok (.getfield 15, 3) := by decide +kernel
theorem dX0_listMembers_32 : decode cX0_listMembers 32 = .ok (.iload_n 2, 1) := by decide +kernel
theorem dX0_listMembers_33 : decode cX0_listMembers 33 = .ok (.iload_n 3, 1) := by decide +kernel
theorem dX0_listMembers_34 : decode cX0_listMembers 34 = .ok (.iastore, 1) := by decide +kernel
theorem dX0_listMembers_35 : decode cX0_listMembers 35 = .ok (.iinc 2 1, 3) := by decide +kernel
theorem dX0_listMembers_38 : decode cX0_listMembers 38 = .ok (.iinc 3 1, 3) := by decide +kernel
theorem dX0_listMembers_41 : decode cX0_listMembers 41 = .ok (.goto (-37), 3) := by decide +kernel
theorem dX0_listMembers_44 : decode cX0_listMembers 44 = .ok (.iload_n 2, 1) := by decide +kernel
theorem dX0_listMembers_45 : decode cX0_listMembers 45 = .ok (.ireturn, 1) := by decide +kernel
theorem dX0_nextOfLikeSize_0 : decode cX0_nextOfLikeSize 0 = .ok (.iload_n 0, 1) := by decide +kernel
theorem dX0_nextOfLikeSize_1 : decode cX0_nextOfLikeSize 1 = .ok (.iload_n 0, 1) := by decide +kernel
theorem dX0_nextOfLikeSize_2 : decode cX0_nextOfLikeSize 2 = .ok (.ineg, 1) := by decide +kernel
theorem dX0_nextOfLikeSize_3 : decode cX0_nextOfLikeSize 3 = .ok (.iand, 1) := by decide +kernel
theorem dX0_nextOfLikeSize_4 : decode cX0_nextOfLikeSize 4 = .ok (.istore_n 1, 1) := by decide +kernel
theorem dX0_nextOfLikeSize_5 : decode cX0_nextOfLikeSize 5 = .ok (.iload_n 0, 1) := by decide +kernel
theorem dX0_nextOfLikeSize_6 : decode cX0_nextOfLikeSize 6 = .ok (.iload_n 1, 1) := by decide +kernel
theorem dX0_nextOfLikeSize_7 : decode cX0_nextOfLikeSize 7 = .ok (.iadd, 1) := by decide +kernel
theorem dX0_nextOfLikeSize_8 : decode cX0_nextOfLikeSize 8 = .ok (.istore_n 2, 1) := by decide +kernel
theorem dX0_nextOfLikeSize_9 : decode cX0_nextOfLikeSize 9 = .ok (.iload_n 0, 1) := by decide +kernel
theorem dX0_nextOfLikeSize_10 : decode cX0_nextOfLikeSize 10 = .ok (.iload_n 2, 1) := by decide +kernel
theorem dX0_nextOfLikeSize_11 : decode cX0_nextOfLikeSize 11 = .ok (.ixor, 1) := by decide +kernel
theorem dX0_nextOfLikeSize_12 : decode cX0_nextOfLikeSize 12 = .ok (.iconst 2, 1) := by decide +kernel
theorem dX0_nextOfLikeSize_13 : decode cX0_nextOfLikeSize 13 = .ok (.iload_n 1, 1) := by decide +kernel
theorem dX0_nextOfLikeSize_14 : decode cX0_nextOfLikeSize 14 = .ok (.iconst 1, 1) := by decide +kernel
theorem dX0_nextOfLikeSize_15 : decode cX0_nextOfLikeSize 15 = .ok (.isub, 1) := by decide +kernel
theorem dX0_nextOfLikeSize_16 : decode cX0_nextOfLikeSize 16 = .ok (.invokestatic 87, 3) := by decide +kernel
theorem dX0_nextOfLikeSize_19 : decode cX0_nextOfLikeSize 19 = .ok (.iadd, 1) := by decide +kernel
theorem dX0_nextOfLikeSize_20 : decode cX0_nextOfLikeSize 20 = .ok (.iushr, 1) := by decide +kernel
theorem dX0_nextOfLikeSize_21 : decode cX0_nextOfLikeSize 21 = .ok (.istore_n 3, 1) := by decide +kernel
theorem dX0_nextOfLikeSize_22 : decode cX0_nextOfLikeSize 22 = .ok (.iload_n 2, 1) := by decide +kernel
theorem dX0_nextOfLikeSize_23 : decode cX0_nextOfLikeSize 23 = .ok (.iload_n 3, 1) := by decide +kernel
theorem dX0_nextOfLikeSize_24 : decode cX0_nextOfLikeSize 24 = .ok (.ior, 1) := by decide +kernel
theorem dX0_nextOfLikeSize_25 : decode cX0_nextOfLikeSize 25 = .ok (.ireturn, 1) := by decide +kernel
end
section
theorem dX1_init_0 : decode cX1_init 0 = .ok (.aload_n 0, 1) := by decide +kernel
theorem dX1_init_1 : decode cX1_init 1 = .ok (.invokespecial 3, 3) := by decide +kernel
theorem dX1_init_4 : decode cX1_init 4 = .ok (.aload_n 0, 1) := by decide +kernel
theorem dX1_init_5 : decode cX1_init 5 = .ok (.iconst 0, 1) := by decide +kernel
theorem dX1_init_6 : decode cX1_init 6 = .ok (.putfield 9, 3) := by decide +kernel
theorem dX1_init_9 : decode cX1_init 9 = .ok (.aload_n 0, 1) := by decide +kernel
theorem dX1_init_10 : decode cX1_init 10 = .ok (.bipush 60, 2) := by decide +kernel
theorem dX1_init_12 : decode cX1_init 12 = .ok (.newarray .int, 2) := by decide +kernel
theorem dX1_init_14 : decode cX1_init 14 = .ok (.putfield 15, 3) := by decide +kernel
theorem dX1_init_17 : decode cX1_init 17 = .ok (.aload_n 0, 1) := by decide +kernel
theorem dX1_init_18 : decode cX1_init 18 = .ok (.iconst 3, 1) := by decide +kernel
theorem dX1_init_19 : decode cX1_init 19 = .ok (.newarray .int, 2) := by decide +kernel
theorem dX1_init_21 : decode cX1_init 21 = .ok (.putfield 19, 3) := by decide +kernel
theorem dX1_init_24 : decode cX1_init 24 = .ok (.aload_n 0, 1) := by decide +kernel
theorem dX1_init_25 : decode cX1_init 25 = .ok (.getfield 19, 3) := by decide +kernel
theorem dX1_init_28 : decode cX1_init 28 = .ok (.sipush 255, 3) := by decide +kernel
theorem dX1_init_31 : decode cX1_init 31 = .ok (.invokestatic 22, 3) := by decide +kernel
theorem dX1_init_34 : decode cX1_init 34 = .ok (.aload_n 0, 1) := by decide +kernel
theorem dX1_init_35 : decode cX1_init 35 = .ok (.bipush 52, 2) := by decide +kernel
theorem dX1_init_37 : decode cX1_init 37 = .ok (.newarray .int, 2) := by decide +kernel
theorem dX1_init_39 : decode cX1_init 39 = .ok (.putfield 28, 3) := by decide +kernel
theorem dX1_init_42 : decode cX1_init 42 = .ok (.iconst 0, 1) := by decide +kernel
theorem dX1_init_43 : decode cX1_init 43 = .ok (.istore_n 1, 1) := by decide +kernel
theorem dX1_init_44 : decode cX1_init 44 = .ok (.iload_n 1, 1) := by decide +kernel
theorem dX1_init_45 : decode cX1_init 45 = .ok (.aload_n 0, 1) := by decide +kernel
theorem dX1_init_46 : decode cX1_init 46 = .ok (.getfield 28, 3) := by decide +kernel
theorem dX1_init_49 : decode cX1_init 49 = .ok (.arraylength, 1) := by decide +kernel
theorem dX1_init_50 : decode cX1_init 50 = .ok (.if_icmp .ge 46, 3) := by decide +kernel
theorem dX1_init_53 : decode cX1_init 53 = .ok (.iconst 0, 1) := by decide +kernel
theorem dX1_init_54 : decode cX1_init 54 = .ok (.istore_n 2, 1) := by decide +kernel
theorem dX1_init_55 : decode cX1_init 55 = .ok (.iload_n 2, 1) := by decide +kernel
theorem dX1_init_56 : decode cX1_init 56 = .ok (.iconst 3, 1) := by decide +kernel
theorem dX1_init_57 : decode cX1_init 57 = .ok (.if_icmp .ge 33, 3) := by decide +kernel
theorem dX1_init_60 : decode cX1_init 60 = .ok (.aload_n 0, 1) := by decide +kernel
theorem dX1_init_61 : decode cX1_init 61 = .ok (.getfield 28, 3) := by decide +kernel
theorem dX1_init_64 : decode cX1_init 64 = .ok (.iload_n 1, 1) := by decide +kernel
theorem dX1_init_65 : decode cX1_init 65 = .ok (.iconst 4, 1) := by decide +kernel
theorem dX1_init_66 : decode cX1_init 66 = .ok (.iload_n 2, 1) := by decide +kernel
theorem dX1_init_67 : decode cX1_init 67 = .ok (.imul, 1) := by decide +kernel
theorem dX1_init_68 : decode cX1_init 68 = .ok (.iadd, 1) := by decide +kernel
theorem dX1_init_69 : decode cX1_init 69 = .ok (.bipush 100, 2) := by decide +kernel
theorem dX1_init_71 : decode cX1_init 71 = .ok (.iastore, 1) := by decide +kernel
theorem dX1_init_72 : decode cX1_init 72 = .ok (.aload_n 0, 1) := by decide +kernel
theorem dX1_init_73 : decode cX1_init 73 = .ok (.getfield 28, 3) := by decide +kernel
theorem dX1_init_76 : decode cX1_init 76 = .ok (.iload_n 1, 1) := by decide +kernel
theorem dX1_init_77 : decode cX1_init 77 = .ok (.bipush 9, 2) := by decide +kernel
theorem dX1_init_79 : decode cX1_init 79 = .ok (.iadd, 1) := by decide +kernel
theorem dX1_init_80 : decode cX1_init 80 = .ok (.iload_n 2, 1) := by decide +kernel
theorem dX1_init_81 : decode cX1_init 81 = .ok (.iadd, 1) := by decide +kernel
theorem dX1_init_82 : decode cX1_init 82 = .ok (.iconst 1, 1) := by decide +kernel
theorem dX1_init_83 : decode cX1_init 83 = .ok (.iastore, 1) := by decide +kernel
theorem dX1_init_84 : decode cX1_init 84 = .ok (.iinc 2 1, 3) := by decide +kernel
theorem dX1_init_87 : decode cX1_init 87 = .ok (.goto (-32), 3) := by decide +kernel
theorem dX1_init_90 : decode cX1_init 90 = .ok (.iinc 1 13, 3) := by decide +kernel
theorem dX1_init_93 : decode cX1_init 93 = .ok (.goto (-49), 3) := by decide +kernel
theorem dX1_init_96 : decode cX1_init 96 = .ok (.aload_n 0, 1) := by decide +kernel
theorem dX1_init_97 : decode cX1_init 97 = .ok (.getfield 28, 3) := by decide +kernel
theorem dX1_init_100 : decode cX1_init 100 = .ok (.bipush 12, 2) := by decide +kernel
theorem dX1_init_102 : decode cX1_init 102 = .ok (.iconst 1, 1) := by decide +kernel
theorem dX1_init_103 : decode cX1_init 103 = .ok (.iastore, 1) := by decide +kernel
theorem dX1_init_104 : decode cX1_init 104 = .ok (.aload_n 0, 1) := by decide +kernel
theorem dX1_init_105 : decode cX1_init 105 = .ok (.iconst 3, 1) := by decide +kernel
theorem dX1_init_106 : decode cX1_init 106 = .ok (.newarray .int, 2) := by decide +kernel
theorem dX1_init_108 : decode cX1_init 108 = .ok (.putfield 31, 3) := by decide +kernel
theorem dX1_init_111 : decode cX1_init 111 = .ok (.aload_n 0, 1) := by decide +kernel
theorem dX1_init_112 : decode cX1_init 112 = .ok (.getfield 31, 3) := by decide +kernel
theorem dX1_init_115 : decode cX1_init 115 = .ok (.iconst 1, 1) := by decide +kernel
theorem dX1_init_116 : decode cX1_init 116 = .ok (.sipush 255, 3) := by decide +kernel
theorem dX1_init_119 : decode cX1_init 119 = .ok (.iastore, 1) := by decide +kernel
theorem dX1_init_120 : decode cX1_init 120 = .ok (.aload_n 0, 1) := by decide +kernel
theorem dX1_init_121 : decode cX1_init 121 = .ok (.iconst 0, 1) := by decide +kernel
theorem dX1_init_122 : decode cX1_init 122 = .ok (.putfield 34, 3) := by decide +kernel
theorem dX1_init_125 : decode cX1_init 125 = .ok (.aload_n 0, 1) := by decide +kernel
theorem dX1_init_126 : decode cX1_init 126 = .ok (.bipush 8, 2) := by decide +kernel
theorem dX1_init_128 : decode cX1_init 128 = .ok (.newarray .int, 2) := by decide +kernel
theorem dX1_init_130 : decode cX1_init 130 = .ok (.putfield 37, 3) := by decide +kernel
theorem dX1_init_133 : decode cX1_init 133 = .ok (.aload_n 0, 1) := by decide +kernel
theorem dX1_init_134 : decode cX1_init 134 = .ok (.iconst 0, 1) := by decide +kernel
theorem dX1_init_135 : decode cX1_init 135 = .ok (.putfield 40, 3) := by decide +kernel
theorem dX1_init_138 : decode cX1_init 138 = .ok (.return_, 1) := by decide +kernel
theorem dX1_become_0 : decode cX1_become 0 = .ok (.aload_n 0, 1) := by decide +kernel
theorem dX1_become_1 : decode cX1_become 1 = .ok (.aload_n 1, 1) := by decide +kernel
theorem dX1_become_2 : decode cX1_become 2 = .ok (.getfield 9, 3) := by decide +kernel
theorem dX1_become_5 : decode cX1_become 5 = .ok (.putfield 9, 3) := by decide +kernel
theorem dX1_become_8 : decode cX1_become 8 = .ok (.aload_n 0, 1) := by decide +kernel
theorem dX1_become_9 : decode cX1_become 9 = .ok (.aload_n 1, 1) := by decide +kernel
theorem dX1_become_10 : decode cX1_become 10 = .ok (.getfield 34, 3) := by decide +kernel
theorem dX1_become_13 : decode cX1_become 13 = .ok (.putfield 34, 3) := by decide +kernel
theorem dX1_become_16 : decode cX1_become 16 = .ok (.aload_n 0, 1) := by decide +kernel
theorem dX1_become_17 : decode cX1_become 17 = .ok (.aload_n 1, 1) := by decide +kernel
theorem dX1_become_18 : decode cX1_become 18 = .ok (.getfield 40, 3) := by decide +kernel
theorem dX1_become_21 : decode cX1_become 21 = .ok (.putfield 40, 3) := by decide +kernel
theorem dX1_become_24 : decode cX1_become 24 = .ok (.aload_n 1, 1) := by decide +kernel
theorem dX1_become_25 : decode cX1_become 25 = .ok (.getfield 15, 3) := by decide +kernel
theorem dX1_become_28 : decode cX1_become 28 = .ok (.iconst 0, 1) := by decide +kernel
theorem dX1_become_29 : decode cX1_become 29 = .ok (.aload_n 0, 1) := by decide +kernel
theorem dX1_become_30 : decode cX1_become 30 = .ok (.getfield 15, 3) := by decide +kernel
theorem dX1_become_33 : decode cX1_become 33 = .ok (.iconst 0, 1) := by decide +kernel
theorem dX1_become_34 : decode cX1_become 34 = .ok (.aload_n 0, 1) := by decide +kernel
theorem dX1_become_35 : decode cX1_become 35 = .ok (.getfield 15, 3) := by decide +kernel
theorem dX1_become_38 : decode cX1_become 38 = .ok (.arraylength, 1) := by decide +kernel
theorem dX1_become_39 : decode cX1_become 39 = .ok (.invokestatic 43, 3) := by decide +kernel
theorem dX1_become_42 : decode cX1_become 42 = .ok (.aload_n 1, 1) := by decide +kernel
theorem dX1_become_43 : decode cX1_become 43 = .ok (.getfield 19, 3) := by decide +kernel
theorem dX1_become_46 : decode cX1_become 46 = .ok (.iconst 0, 1) := by decide +kernel
theorem dX1_become_47 : decode cX1_become 47 = .ok (.aload_n 0, 1) := by decide +kernel
theorem dX1_become_48 : decode cX1_become 48 = .ok (.getfield 19, 3) := by decide +kernel
theorem dX1_become_51 : decode cX1_become 51 = .ok (.iconst 0, 1) := by decide +kernel
theorem dX1_become_52 : decode cX1_become 52 = .ok (.aload_n 0, 1) := by decide +kernel
theorem dX1_become_53 : decode cX1_become 53 = .ok (.getfield 19, 3) := by decide +kernel
theorem dX1_become_56 : decode cX1_become 56 = .ok (.arraylength, 1) := by decide +kernel
theorem dX1_become_57 : decode cX1_become 57 = .ok (.invokestatic 43, 3) := by decide +kernel
theorem dX1_become_60 : decode cX1_become 60 = .ok (.aload_n 1, 1) := by decide +kernel
theorem dX1_become_61 : decode cX1_become 61 = .ok (.getfield 28, 3) := by decide +kernel
theorem dX1_become_64 : decode cX1_become 64 = .ok (.iconst 0, 1) := by decide +kernel
theorem dX1_become_65 : decode cX1_become 65 = .ok (.aload_n 0, 1) := by decide +kernel
theorem dX1_become_66 : decode cX1_become 66 = .ok (.getfield 28, 3) := by decide +kernel
theorem dX1_become_69 : decode cX1_become 69 = .ok (.iconst 0, 1) := by decide +kernel
theorem dX1_become_70 : decode cX1_become 70 = .ok (.aload_n 0, 1) := by decide +kernel
theorem dX1_become_71 : decode cX1_become 71 = .ok (.getfield 28, 3) := by decide +kernel
theorem dX1_become_74 : decode cX1_become 74 = .ok (.arraylength, 1) := by decide +kernel
theorem dX1_become_75 : decode cX1_become 75 = .ok (.invokestatic 43, 3) := by decide +kernel
theorem dX1_become_78 : decode cX1_become 78 = .ok (.aload_n 1, 1) := by decide +kernel
theorem dX1_become_79 : decode cX1_become 79 = .ok (.getfield 31, 3) := by decide +kernel
theorem dX1_become_82 : decode cX1_become 82 = .ok (.iconst 0, 1) := by decide +kernel
theorem dX1_become_83 : decode cX1_become 83 = .ok (.aload_n 0, 1) := by decide +kernel
theorem dX1_become_84 : decode cX1_become 84 = .ok (.getfield 31, 3) := by decide +kernel
theorem dX1_become_87 : decode cX1_become 87 = .ok (.iconst 0, 1) := by decide +kernel
theorem dX1_become_88 : decode cX1_become 88 = .ok (.aload_n 0, 1) := by decide +kernel
theorem dX1_become_89 : decode cX1_become 89 = .ok (.getfield 31, 3) := by decide +kernel
theorem dX1_become_92 : decode cX1_become 92 = .ok (.arraylength, 1) := by decide +kernel
theorem dX1_become_93 : decode cX1_become 93 = .ok (.invokestatic 43, 3) := by decide +kernel
theorem dX1_become_96 : decode cX1_become 96 = .ok (.aload_n 1, 1) := by decide +kernel
theorem dX1_become_97 : decode cX1_become 97 = .ok (.getfield 37, 3) := by decide +kernel
theorem dX1_become_100 : decode cX1_become 100 = .ok (.iconst 0, 1) := by decide +kernel
theorem dX1_become_101 : decode cX1_become 101 = .ok (.aload_n 0, 1) := by decide +kernel
theorem dX1_become_102 : decode cX1_become 102 = .ok (.getfield 37, 3) := by decide +kernel
theorem dX1_become_105 : decode cX1_become 105 = .ok (.iconst 0, 1) := by decide +kernel
theorem dX1_become_106 : decode cX1_become 106 = .ok (.aload_n 0, 1) := by decide +kernel
theorem dX1_become_107 : decode cX1_become 107 = .ok (.getfield 37, 3) := by decide +kernel
theorem dX1_become_110 : decode cX1_become 110 = .ok (.arraylength, 1) := by decide +kernel
theorem dX1_become_111 : decode cX1_become 111 = .ok (.invokestatic 43, 3) := by decide +kernel
theorem dX1_become_114 : decode cX1_become 114 = .ok (.return_, 1) := by decide +kernel
theorem dX1_addColour_0 : decode cX1_addColour 0 = .ok (.aload_n 0, 1) := by decide +kernel
theorem dX1_addColour_1 : decode cX1_addColour 1 = .ok (.getfield 9, 3) := by decide +kernel
theorem dX1_addColour_4 : decode cX1_addColour 4 = .ok (.istore 4, 2) := by decide +kernel
theorem dX1_addColour_6 : decode cX1_addColour 6 = .ok (.aload_n 0, 1) := by decide +kernel
theorem dX1_addColour_7 : decode cX1_addColour 7 = .ok (.getfield 15, 3) := by decide +kernel
theorem dX1_addColour_10 : decode cX1_addColour 10 = .ok (.iconst 3, 1) := by decide +kernel
theorem dX1_addColour_11 : decode cX1_addColour 11 = .ok (.iload 4, 2) := by decide +kernel
theorem dX1_addColour_13 : decode cX1_addColour 13 = .ok (.imul, 1) := by decide +kernel
theorem dX1_addColour_14 : decode cX1_addColour 14 = .ok (.iload_n 1, 1) := by decide +kernel
theorem dX1_addColour_15 : decode cX1_addColour 15 = .ok (.iload_n 2, 1) := by decide +kernel
theorem dX1_addColour_16 : decode cX1_addColour 16 = .ok (.iload_n 3, 1) := by decide +kernel
theorem dX1_addColour_17 : decode cX1_addColour 17 = .ok (.invokestatic 49, 3) := by decide +kernel
theorem dX1_addColour_20 : decode cX1_addColour 20 = .ok (.pop, 1) := by decide +kernel
theorem dX1_addColour_21 : decode cX1_addColour 21 = .ok (.aload_n 0, 1) := by decide +kernel
theorem dX1_addColour_22 : decode cX1_addColour 22 = .ok (.dup, 1) := by decide +kernel
theorem dX1_addColour_23 : decode cX1_addColour 23 = .ok (.getfield 9, 3) := by decide +kernel
theorem dX1_addColour_26 : decode cX1_addColour 26 = .ok (.iconst 1, 1) := by decide +kernel
theorem dX1_addColour_27 : decode cX1_addColour 27 = .ok (.iadd, 1) := by decide +kernel
theorem dX1_addColour_28 : decode cX1_addColour 28 = .ok (.putfield 9, 3) := by decide +kernel
theorem dX1_addColour_31 : decode cX1_addColour 31 = .ok (.iload 4, 2) := by decide +kernel
theorem dX1_addColour_33 : decode cX1_addColour 33 = .ok (.ireturn, 1) := by decide +kernel
theorem dX1_setLimit_0 : decode cX1_setLimit 0 = .ok (.aload_n 0, 1) := by decide +kernel
theorem dX1_setLimit_1 : decode cX1_setLimit 1 = .ok (.getfield 31, 3) := by decide +kernel
theorem dX1_setLimit_4 : decode cX1_setLimit 4 = .ok (.iload_n 1, 1) := by decide +kernel
theorem dX1_setLimit_5 : decode cX1_setLimit 5 = .ok (.iaload, 1) := by decide +kernel
theorem dX1_setLimit_6 : decode cX1_setLimit 6 = .ok (.istore_n 3, 1) := by decide +kernel
theorem dX1_setLimit_7 : decode cX1_setLimit 7 = .ok (.aload_n 0, 1) := by decide +kernel
theorem dX1_setLimit_8 : decode cX1_setLimit 8 = .ok (.getfield 31, 3) := by decide +kernel
theorem dX1_setLimit_11 : decode cX1_setLimit 11 = .ok (.iload_n 1, 1) := by decide +kernel
theorem dX1_setLimit_12 : decode cX1_setLimit 12 = .ok (.iload_n 2, 1) := by decide +kernel
theorem dX1_setLimit_13 : decode cX1_setLimit 13 = .ok (.iastore, 1) := by decide +kernel
theorem dX1_setLimit_14 : decode cX1_setLimit 14 = .ok (.iload_n 3, 1) := by decide +kernel
theorem dX1_setLimit_15 : decode cX1_setLimit 15 = .ok (.ireturn, 1) := by decide +kernel
theorem dX1_setFixed_0 : decode cX1_setFixed 0 = .ok (.aload_n 0, 1) := by decide +kernel
theorem dX1_setFixed_1 : decode cX1_setFixed 1 = .ok (.iload_n 2, 1) := by decide +kernel
theorem dX1_setFixed_2 : decode cX1_setFixed 2 = .ok (.iconst 1, 1) := by decide +kernel
theorem dX1_setFixed_3 : decode cX1_setFixed 3 = .ok (.if_icmp .ne 14, 3) := by decide +kernel
theorem dX1_setFixed_6 : decode cX1_setFixed 6 = .ok (.aload_n 0, 1) := by decide +kernel
theorem dX1_setFixed_7 : decode cX1_setFixed 7 = .ok (.getfield 34, 3) := by decide +kernel
theorem dX1_setFixed_10 : decode cX1_setFixed 10 = .ok (.iconst 1, 1) := by decide +kernel
theorem dX1_setFixed_11 : decode cX1_setFixed 11 = .ok (.iload_n 1, 1) := by decide +kernel
theorem dX1_setFixed_12 : decode cX1_setFixed 12 = .ok (.ishl, 1) := by decide +kernel
theorem dX1_setFixed_13 : decode cX1_setFixed 13 = .ok (.ior, 1) := by decide +kernel
theorem dX1_setFixed_14 : decode cX1_setFixed 14 = .ok (.goto 13, 3) := by decide +kernel
theorem dX1_setFixed_17 : decode cX1_setFixed 17 = .ok (.aload_n 0, 1) := by decide +kernel
theorem dX1_setFixed_18 : decode cX1_setFixed 18 = .ok (.getfield 34, 3) := by decide +kernel
theorem dX1_setFixed_21 : decode cX1_setFixed 21 = .ok (.iconst 1, 1) := by decide +kernel
theorem dX1_setFixed_22 : decode cX1_setFixed 22 = .ok (.iload_n 1, 1) := by decide +kernel
theorem dX1_setFixed_23 : decode cX1_setFixed 23 = .ok (.ishl, 1) := by decide +kernel
theorem dX1_setFixed_24 : decode cX1_setFixed 24 = .ok (.iconst (-1), 1) := by decide +kernel
theorem dX1_setFixed_25 : decode cX1_setFixed 25 = .ok (.ixor, 1) := by decide +kernel
theorem dX1_setFixed_26 : decode cX1_setFixed 26 = .ok (.iand, 1) := by decide +kernel
theorem dX1_setFixed_27 : decode cX1_setFixed 27 = .ok (.putfield 34, 3) := by decide +kernel
theorem dX1_setFixed_30 : decode cX1_setFixed 30 = .ok (.aload_n 0, 1) := by decide +kernel
theorem dX1_setFixed_31 : decode cX1_setFixed 31 = .ok (.getfield 34, 3) := by decide +kernel
theorem dX1_setFixed_34 : decode cX1_setFixed 34 = .ok (.invokestatic 53, 3) := by decide +kernel
theorem dX1_setFixed_37 : decode cX1_setFixed 37 = .ok (.ireturn, 1) := by decide +kernel
theorem dX1_isFixed_0 : decode cX1_isFixed 0 = .ok (.aload_n 0, 1) := by decide +kernel
theorem dX1_isFixed_1 : decode cX1_isFixed 1 = .ok (.getfield 34, 3) := by decide +kernel
theorem dX1_isFixed_4 : decode cX1_isFixed 4 = .ok (.iload_n 1, 1) := by decide +kernel
theorem dX1_isFixed_5 : decode cX1_isFixed 5 = .ok (.ishr, 1) := by decide +kernel
theorem dX1_isFixed_6 : decode cX1_isFixed 6 = .ok (.iconst 1, 1) := by decide +kernel
theorem dX1_isFixed_7 : decode cX1_isFixed 7 = .ok (.iand, 1) := by decide +kernel
theorem dX1_isFixed_8 : decode cX1_isFixed 8 = .ok (.iconst 1, 1) := by decide +kernel
theorem dX1_isFixed_9 : decode cX1_isFixed 9 = .ok (.if_icmp .ne 7, 3) := by decide +kernel
theorem dX1_isFixed_12 : decode cX1_isFixed 12 = .ok (.iconst 1, 1) := by decide +kernel
theorem dX1_isFixed_13 : decode cX1_isFixed 13 = .ok (.goto 4, 3) := by decide +kernel
theorem dX1_isFixed_16 : decode cX1_isFixed 16 = .ok (.iconst 0, 1) := by decide +kernel
theorem dX1_isFixed_17 : decode cX1_isFixed 17 = .ok (.ireturn, 1) := by decide +kernel
theorem dX1_putIntoRow_0 : decode cX1_putIntoRow 0 = .ok (.aload_n 0, 1) := by decide +kernel
theorem dX1_putIntoRow_1 : decode cX1_putIntoRow 1 = .ok (.getfield 40, 3) := by decide +kernel
theorem dX1_putIntoRow_4 : decode cX1_putIntoRow 4 = .ok (.aload_n 0, 1) := by decide +kernel
theorem dX1_putIntoRow_5 : decode cX1_putIntoRow 5 = .ok (.getfield 37, 3) := by decide +kernel
theorem dX1_putIntoRow_8 : decode cX1_putIntoRow 8 = .ok (.arraylength, 1) := by decide +kernel
theorem dX1_putIntoRow_9 : decode cX1_putIntoRow 9 = .ok (.if_icmp .ge 23, 3) := by decide +kernel
theorem dX1_putIntoRow_12 : decode cX1_putIntoRow 12 = .ok (.aload_n 0, 1) := by decide +kernel
theorem dX1_putIntoRow_13 : decode cX1_putIntoRow 13 = .ok (.getfield 37, 3) := by decide +kernel
theorem dX1_putIntoRow_16 : decode cX1_putIntoRow 16 = .ok (.aload_n 0, 1) := by decide +kernel
theorem dX1_putIntoRow_17 : decode cX1_putIntoRow 17 = .ok (.getfield 40, 3) := by decide +kernel
theorem dX1_putIntoRow_20 : decode cX1_putIntoRow 20 = .ok (.iload_n 1, 1) := by decide +kernel
theorem dX1_putIntoRow_21 : decode cX1_putIntoRow 21 = .ok (.iastore, 1) := by decide +kernel
theorem dX1_putIntoRow_22 : decode cX1_putIntoRow 22 = .ok (.aload_n 0, 1) := by decide +kernel
theorem dX1_putIntoRow_23 : decode cX1_putIntoRow 23 = .ok (.dup, 1) := by decide +kernel
theorem dX1_putIntoRow_24 : decode cX1_putIntoRow 24 = .ok (.getfield 40, 3) := by decide +kernel
theorem dX1_putIntoRow_27 : decode cX1_putIntoRow 27 = .ok (.iconst 1, 1) := by decide +kernel
theorem dX1_putIntoRow_28 : decode cX1_putIntoRow 28 = .ok (.iadd, 1) := by decide +kernel
theorem dX1_putIntoRow_29 : decode cX1_putIntoRow 29 = .ok (.putfield 40, 3) := by decide +kernel
theorem dX1_putIntoRow_32 : decode cX1_putIntoRow 32 = .ok (.return_, 1) := by decide +kernel
theorem dX1_placeOf_0 : decode cX1_placeOf 0 = .ok (.iconst 0, 1) := by decide +kernel
theorem dX1_placeOf_1 : decode cX1_placeOf 1 = .ok (.istore_n 2, 1) := by decide +kernel
theorem dX1_placeOf_2 : decode cX1_placeOf 2 = .ok (.iload_n 2, 1) := by decide +kernel
theorem dX1_placeOf_3 : decode cX1_placeOf 3 = .ok (.aload_n 0, 1) := by decide +kernel
theorem dX1_placeOf_4 : decode cX1_placeOf 4 = .ok (.getfield 40, 3) := by decide +kernel
theorem dX1_placeOf_7 : decode cX1_placeOf 7 = .ok (.if_icmp .ge 21, 3) := by decide +kernel
theorem dX1_placeOf_10 : decode cX1_placeOf 10 = .ok (.aload_n 0, 1) := by decide +kernel
theorem dX1_placeOf_11 : decode cX1_placeOf 11 = .ok (.getfield 37, 3) := by decide +kernel
theorem dX1_placeOf_14 : decode cX1_placeOf 14 = .ok (.iload_n 2, 1) := by decide +kernel
theorem dX1_placeOf_15 : decode cX1_placeOf 15 = .ok (.iaload, 1) := by decide +kernel
theorem dX1_placeOf_16 : decode cX1_placeOf 16 = .ok (.iload_n 1, 1) := by decide +kernel
theorem dX1_placeOf_17 : decode cX1_placeOf 17 = .ok (.if_icmp .ne 5, 3) := by decide +kernel
theorem dX1_placeOf_20 : decode cX1_placeOf 20 = .ok (.iload_n 2, 1) := by decide +kernel
theorem dX1_placeOf_21 : decode cX1_placeOf 21 = .ok (.ireturn, 1) := by decide +kernel
theorem dX1_placeOf_22 : decode cX1_placeOf 22 = .ok (.iinc 2 1, 3) := by decide +kernel
theorem dX1_placeOf_25 : decode cX1_placeOf 25 = .ok (.goto (-23), 3) := by decide +kernel
theorem dX1_placeOf_28 : decode cX1_placeOf 28 = .ok (.iconst (-1), 1) := by decide +kernel
theorem dX1_placeOf_29 : decode cX1_placeOf 29 = .ok (.ireturn, 1) := by decide +kernel
theorem dX1_rowBits_0 : decode cX1_rowBits 0 = .ok (.iconst 0, 1) := by decide +kernel
theorem dX1_rowBits_1 : decode cX1_rowBits 1 = .ok (.istore_n 1, 1) := by decide +kernel
theorem dX1_rowBits_2 : decode cX1_rowBits 2 = .ok (.iconst 0, 1) := by decide +kernel
theorem dX1_rowBits_3 : decode cX1_rowBits 3 = .ok (.istore_n 2, 1) := by decide +kernel
theorem dX1_rowBits_4 : decode cX1_rowBits 4 = .ok (.iload_n 2, 1) := by decide +kernel
theorem dX1_rowBits_5 : decode cX1_rowBits 5 = .ok (.aload_n 0, 1) := by decide +kernel
theorem dX1_rowBits_6 : decode cX1_rowBits 6 = .ok (.getfield 40, 3) := by decide +kernel
theorem dX1_rowBits_9 : decode cX1_rowBits 9 = .ok (.if_icmp .ge 20, 3) := by decide +kernel
theorem dX1_rowBits_12 : decode cX1_rowBits 12 = .ok (.iload_n 1, 1) := by decide +kernel
theorem dX1_rowBits_13 : decode cX1_rowBits 13 = .ok (.iconst 1, 1) := by decide +kernel
theorem dX1_rowBits_14 : decode cX1_rowBits 14 = .ok (.aload_n 0, 1) := by decide +kernel
theorem dX1_rowBits_15 : decode cX1_rowBits 15 = .ok (.getfield 37, 3) := by decide +kernel
theorem dX1_rowBits_18 : decode cX1_rowBits 18 = .ok (.iload_n 2, 1) := by decide +kernel
theorem dX1_rowBits_19 : decode cX1_rowBits 19 = .ok (.iaload, 1) := by decide +kernel
theorem dX1_rowBits_20 : decode cX1_rowBits 20 = .ok (.ishl, 1) := by decide +kernel
theorem dX1_rowBits_21 : decode cX1_rowBits 21 = .ok (.ior, 1) := by decide +kernel
theorem dX1_rowBits_22 : decode cX1_rowBits 22 = .ok (.istore_n 1, 1) := by decide +kernel
theorem dX1_rowBits_23 : decode cX1_rowBits 23 = .ok (.iinc 2 1, 3) := by decide +kernel
theorem dX1_rowBits_26 : decode cX1_rowBits 26 = .ok (.goto (-22), 3) := by decide +kernel
theorem dX1_rowBits_29 : decode cX1_rowBits 29 = .ok (.iload_n 1, 1) := by decide +kernel
theorem dX1_rowBits_30 : decode cX1_rowBits 30 = .ok (.ireturn, 1) := by decide +kernel
theorem dX1_countingBits_0 : decode cX1_countingBits 0 = .ok (.iconst 0, 1) := by decide +kernel
theorem dX1_countingBits_1 : decode cX1_countingBits 1 = .ok (.istore_n 1, 1) := by decide +kernel
theorem dX1_countingBits_2 : decode cX1_countingBits 2 = .ok (.iconst 0, 1) := by decide +kernel
theorem dX1_countingBits_3 : decode cX1_countingBits 3 = .ok (.istore_n 2, 1) := by decide +kernel
theorem dX1_countingBits_4 : decode cX1_countingBits 4 = .ok (.iload_n 2, 1) := by decide +kernel
theorem dX1_countingBits_5 : decode cX1_countingBits 5 = .ok (.iconst 4, 1) := by decide +kernel
theorem dX1_countingBits_6 : decode cX1_countingBits 6 = .ok (.if_icmp .ge 26, 3) := by decide +kernel
theorem dX1_countingBits_9 : decode cX1_countingBits 9 = .ok (.iload_n 1, 1) := by decide +kernel
theorem dX1_countingBits_10 : decode cX1_countingBits 10 = .ok (.aload_n 0, 1) := by decide +kernel
theorem dX1_countingBits_11 : decode cX1_countingBits 11 = .ok (.getfield 28, 3) := by decide +kernel
theorem dX1_countingBits_14 : decode cX1_countingBits 14 = .ok (.bipush 13, 2) := by decide +kernel
theorem dX1_countingBits_16 : decode cX1_countingBits 16 = .ok (.iload_n 2, 1) := by decide +kernel
theorem dX1_countingBits_17 : decode cX1_countingBits 17 = .ok (.imul, 1) := by decide +kernel
theorem dX1_countingBits_18 : decode cX1_countingBits 18 = .ok (.bipush 12, 2) := by decide +kernel
theorem dX1_countingBits_20 : decode cX1_countingBits 20 = .ok (.iadd, 1) := by decide +kernel
theorem dX1_countingBits_21 : decode cX1_countingBits 21 = .ok (.iaload, 1) := by decide +kernel
theorem dX1_countingBits_22 : decode cX1_countingBits 22 = .ok (.iload_n 2, 1) := by decide +kernel
theorem dX1_countingBits_23 : decode cX1_countingBits 23 = .ok (.ishl, 1) := by decide +kernel
theorem dX1_countingBits_24 : decode cX1_countingBits 24 = .ok (.ior, 1) := by decide +kernel
theorem dX1_countingBits_25 : decode cX1_countingBits 25 = .ok (.istore_n 1, 1) := by decide +kernel
theorem dX1_countingBits_26 : decode cX1_countingBits 26 = .ok (.iinc 2 1, 3) := by decide +kernel
theorem dX1_countingBits_29 : decode cX1_countingBits 29 = .ok (.goto (-25), 3) := by decide +kernel
theorem dX1_countingBits_32 : decode cX1_countingBits 32 = .ok (.iload_n 1, 1) := by decide +kernel
theorem dX1_countingBits_33 : decode cX1_countingBits 33 = .ok (.ireturn, 1) := by decide +kernel
theorem dX1_fitBits_0 : decode cX1_fitBits 0 = .ok (.iconst 0, 1) := by decide +kernel
theorem dX1_fitBits_1 : decode cX1_fitBits 1 = .ok (.istore_n 1, 1) := by decide +kernel
theorem dX1_fitBits_2 : decode cX1_fitBits 2 = .ok (.iconst 0, 1) := by decide +kernel
theorem dX1_fitBits_3 : decode cX1_fitBits 3 = .ok (.istore_n 2, 1) := by decide +kernel
theorem dX1_fitBits_4 : decode cX1_fitBits 4 = .ok (.iload_n 2, 1) := by decide +kernel
theorem dX1_fitBits_5 : decode cX1_fitBits 5 = .ok (.aload_n 0, 1) := by decide +kernel
theorem dX1_fitBits_6 : decode cX1_fitBits 6 = .ok (.getfield 9, 3) := by decide +kernel
theorem dX1_fitBits_9 : decode cX1_fitBits 9 = .ok (.if_icmp .ge 23, 3) := by decide +kernel
theorem dX1_fitBits_12 : decode cX1_fitBits 12 = .ok (.aload_n 0, 1) := by decide +kernel
theorem dX1_fitBits_13 : decode cX1_fitBits 13 = .ok (.iload_n 2, 1) := by decide +kernel
theorem dX1_fitBits_14 : decode cX1_fitBits 14 = .ok (.invokevirtual 59, 3) := by decide +kernel
theorem dX1_fitBits_17 : decode cX1_fitBits 17 = .ok (.ifCond .eq 9, 3) := by decide +kernel
theorem dX1_fitBits_20 : decode cX1_fitBits 20 = .ok (.iload_n 1, 1) := by decide +kernel
theorem dX1_fitBits_21 : decode cX1_fitBits 21 = .ok (.iconst 1, 1) := by decide +kernel
theorem dX1_fitBits_22 : decode cX1_fitBits 22 = .ok (.iload_n 2, 1) := by decide +kernel
theorem dX1_fitBits_23 : decode cX1_fitBits 23 = .ok (.ishl, 1) := by decide +kernel
theorem dX1_fitBits_24 : decode cX1_fitBits 24 = .ok (.ior, 1) := by decide +kernel
theorem dX1_fitBits_25 : decode cX1_fitBits 25 = .ok (.istore_n 1, 1) := by decide +kernel
theorem dX1_fitBits_26 : decode cX1_fitBits 26 = .ok (.iinc 2 1, 3) := by decide +kernel
theorem dX1_fitBits_29 : decode cX1_fitBits 29 = .ok (.goto (-25), 3) := by decide +kernel
theorem dX1_fitBits_32 : decode cX1_fitBits 32 = .ok (.iload_n 1, 1) := by decide +kernel
theorem dX1_fitBits_33 : decode cX1_fitBits 33 = .ok (.ireturn, 1) := by decide +kernel
theorem dX1_isFit_0 : decode cX1_isFit 0 = .ok (.aload_n 0, 1) := by decide +kernel
theorem dX1_isFit_1 : decode cX1_isFit 1 = .ok (.iload_n 1, 1) := by decide +kernel
theorem dX1_isFit_2 : decode cX1_isFit 2 = .ok (.invokevirtual 63, 3) := by decide +kernel
theorem dX1_isFit_5 : decode cX1_isFit 5 = .ok (.fstore_n 2, 1) := by decide +kernel
theorem dX1_isFit_6 : decode cX1_isFit 6 = .ok (.fload_n 2, 1) := by decide +kernel
theorem dX1_isFit_7 : decode cX1_isFit 7 = .ok (.aload_n 0, 1) := by decide +kernel
theorem dX1_isFit_8 : decode cX1_isFit 8 = .ok (.getfield 31, 3) := by decide +kernel
theorem dX1_isFit_11 : decode cX1_isFit 11 = .ok (.iconst 0, 1) := by decide +kernel
theorem dX1_isFit_12 : decode cX1_isFit 12 = .ok (.iaload, 1) := by decide +kernel
theorem dX1_isFit_13 : decode cX1_isFit 13 = .ok (.i2f, 1) := by decide +kernel
theorem dX1_isFit_14 : decode cX1_isFit 14 = .ok (.fcmp .g, 1) := by decide +kernel
theorem dX1_isFit_15 : decode cX1_isFit 15 = .ok (.ifCond .lt 15, 3) := by decide +kernel
theorem dX1_isFit_18 : decode cX1_isFit 18 = .ok (.fload_n 2, 1) := by decide +kernel
theorem dX1_isFit_19 : decode cX1_isFit 19 = .ok (.aload_n 0, 1) := by decide +kernel
theorem dX1_isFit_20 : decode cX1_isFit 20 = .ok (.getfield 31, 3) := by decide +kernel
theorem dX1_isFit_23 : decode cX1_isFit 23 = .ok (.iconst 1, 1) := by decide +kernel
theorem dX1_isFit_24 : decode cX1_isFit 24 = .ok (.iaload, 1) := by decide +kernel
theorem dX1_isFit_25 : decode cX1_isFit 25 = .ok (.i2f, 1) := by decide +kernel
theorem dX1_isFit_26 : decode cX1_isFit 26 = .ok (.fcmp .l, 1) := by decide +kernel
theorem dX1_isFit_27 : decode cX1_isFit 27 = .ok (.ifCond .le 5, 3) := by decide +kernel
theorem dX1_isFit_30 : decode cX1_isFit 30 = .ok (.iconst 0, 1) := by decide +kernel
theorem dX1_isFit_31 : decode cX1_isFit 31 = .ok (.ireturn, 1) := by decide +kernel
theorem dX1_isFit_32 : decode cX1_isFit 32 = .ok (.fload_n 2, 1) := by decide +kernel
theorem dX1_isFit_33 : decode cX1_isFit 33 = .ok (.aload_n 0, 1) := by decide +kernel
theorem dX1_isFit_34 : decode cX1_isFit 34 = .ok (.getfield 19, 3) := by decide +kernel
theorem dX1_isFit_37 : decode cX1_isFit 37 = .ok (.iconst 0, 1) := by decide +kernel
theorem dX1_isFit_38 : decode cX1_isFit 38 = .ok (.invokestatic 67, 3) := by decide +kernel
theorem dX1_isFit_41 : decode cX1_isFit 41 = .ok (.fsub, 1) := by decide +kernel
theorem dX1_isFit_42 : decode cX1_isFit 42 = .ok (.fstore_n 3, 1) := by decide +kernel
theorem dX1_isFit_43 : decode cX1_isFit 43 = .ok (.fload_n 3, 1) := by decide +kernel
theorem dX1_isFit_44 : decode cX1_isFit 44 = .ok (.fconst 0, 1) := by decide +kernel
theorem dX1_isFit_45 : decode cX1_isFit 45 = .ok (.fcmp .g, 1) := by decide +kernel
theorem dX1_isFit_46 : decode cX1_isFit 46 = .ok (.ifCond .ge 8, 3) := by decide +kernel
theorem dX1_isFit_49 : decode cX1_isFit 49 = .ok (.fload_n 3, 1) := by decide +kernel
theorem dX1_isFit_50 : decode cX1_isFit 50 = .ok (.fneg, 1) := by decide +kernel
theorem dX1_isFit_51 : decode cX1_isFit 51 = .ok (.goto 4, 3) := by decide +kernel
theorem dX1_isFit_54 : decode cX1_isFit 54 = .ok (.fload_n 3, 1) := by decide +kernel
theorem dX1_isFit_55 : decode cX1_isFit 55 = .ok (.fstore 4, 2) := by decide +kernel
theorem dX1_isFit_57 : decode cX1_isFit 57 = .ok (.fload 4, 2) := by decide +kernel
theorem dX1_isFit_59 : decode cX1_isFit 59 = .ok (.aload_n 0, 1) := by decide +kernel
theorem dX1_isFit_60 : decode cX1_isFit 60 = .ok (.getfield 31, 3) := by decide +kernel
theorem dX1_isFit_63 : decode cX1_isFit 63 = .ok (.iconst 2, 1) := by decide +kernel
theorem dX1_isFit_64 : decode cX1_isFit 64 = .ok (.iaload, 1) := by decide +kernel
theorem dX1_isFit_65 : decode cX1_isFit 65 = .ok (.i2f, 1) := by decide +kernel
theorem dX1_isFit_66 : decode cX1_isFit 66 = .ok (.fcmp .l, 1) := by decide +kernel
theorem dX1_isFit_67 : decode cX1_isFit 67 = .ok (.ifCond .lt 7, 3) := by decide +kernel
theorem dX1_isFit_70 : decode cX1_isFit 70 = .ok (.iconst 1, 1) := by decide +kernel
theorem dX1_isFit_71 : decode cX1_isFit 71 = .ok (.goto 4, 3) := by decide +kernel
theorem dX1_isFit_74 : decode cX1_isFit 74 = .ok (.iconst 0, 1) := by decide +kernel
theorem dX1_isFit_75 : decode cX1_isFit 75 = .ok (.ireturn, 1) := by decide +kernel
theorem dX1_lightOf_0 : decode cX1_lightOf 0 = .ok (.aload_n 0, 1) := by decide +kernel
theorem dX1_lightOf_1 : decode cX1_lightOf 1 = .ok (.getfield 15, 3) := by decide +kernel
theorem dX1_lightOf_4 : decode cX1_lightOf 4 = .ok (.iconst 3, 1) := by decide +kernel
theorem dX1_lightOf_5 : decode cX1_lightOf 5 = .ok (.iload_n 1, 1) := by decide +kernel
theorem dX1_lightOf_6 : decode cX1_lightOf 6 = .ok (.imul, 1) := by decide +kernel
theorem dX1_lightOf_7 : decode cX1_lightOf 7 = .ok (.invokestatic 67, 3) := by decide +kernel
theorem dX1_lightOf_10 : decode cX1_lightOf 10 = .ok (.freturn, 1) := by decide +kernel
theorem dX1_lightAt_0 : decode cX1_lightAt 0 = .ok (.ldc 71, 2) := by decide +kernel
theorem dX1_lightAt_2 : decode cX1_lightAt 2 = .ok (.aload_n 0, 1) := by decide +kernel
theorem dX1_lightAt_3 : decode cX1_lightAt 3 = .ok (.iload_n 1, 1) := by decide +kernel
theorem dX1_lightAt_4 : decode cX1_lightAt 4 = .ok (.iaload, 1) := by decide +kernel
theorem dX1_lightAt_5 : decode cX1_lightAt 5 = .ok (.i2f, 1) := by decide +kernel
theorem dX1_lightAt_6 : decode cX1_lightAt 6 = .ok (.fmul, 1) := by decide +kernel
theorem dX1_lightAt_7 : decode cX1_lightAt 7 = .ok (.ldc 72, 2) := by decide +kernel
theorem dX1_lightAt_9 : decode cX1_lightAt 9 = .ok (.aload_n 0, 1) := by decide +kernel
theorem dX1_lightAt_10 : decode cX1_lightAt 10 = .ok (.iload_n 1, 1) := by decide +kernel
theorem dX1_lightAt_11 : decode cX1_lightAt 11 = .ok (.iconst 1, 1) := by decide +kernel
theorem dX1_lightAt_12 : decode cX1_lightAt 12 = .ok (.iadd, 1) := by decide +kernel
theorem dX1_lightAt_13 : decode cX1_lightAt 13 = .ok (.iaload, 1) := by decide +kernel
theorem dX1_lightAt_14 : decode cX1_lightAt 14 = .ok (.i2f, 1) := by decide +kernel
theorem dX1_lightAt_15 : decode cX1_lightAt 15 = .ok (.fmul, 1) := by decide +kernel
theorem dX1_lightAt_16 : decode cX1_lightAt 16 = .ok (.fadd, 1) := by decide +kernel
theorem dX1_lightAt_17 : decode cX1_lightAt 17 = .ok (.ldc 73, 2) := by decide +kernel
theorem dX1_lightAt_19 : decode cX1_lightAt 19 = .ok (.aload_n 0, 1) := by decide +kernel
theorem dX1_lightAt_20 : decode cX1_lightAt 20 = .ok (.iload_n 1, 1) := by decide +kernel
theorem dX1_lightAt_21 : decode cX1_lightAt 21 = .ok (.iconst 2, 1) := by decide +kernel
theorem dX1_lightAt_22 : decode cX1_lightAt 22 = .ok (.iadd, 1) := by decide +kernel
theorem dX1_lightAt_23 : decode cX1_lightAt 23 = .ok (.iaload, 1) := by decide +kernel
theorem dX1_lightAt_24 : decode cX1_lightAt 24 = .ok (.i2f, 1) := by decide +kernel
theorem dX1_lightAt_25 : decode cX1_lightAt 25 = .ok (.fmul, 1) := by decide +kernel
theorem dX1_lightAt_26 : decode cX1_lightAt 26 = .ok (.fadd, 1) := by decide +kernel
theorem dX1_lightAt_27 : decode cX1_lightAt 27 = .ok (.freturn, 1) := by decide +kernel
theorem dX1_seenBy_0 : decode cX1_seenBy 0 = .ok (.bipush 13, 2) := by decide +kernel
theorem dX1_seenBy_2 : decode cX1_seenBy 2 = .ok (.iload_n 1, 1) := by decide +kernel
theorem dX1_seenBy_3 : decode cX1_seenBy 3 = .ok (.imul, 1) := by decide +kernel
theorem dX1_seenBy_4 : decode cX1_seenBy 4 = .ok (.iconst 3, 1) := by decide +kernel
theorem dX1_seenBy_5 : decode cX1_seenBy 5 = .ok (.iload_n 3, 1) := by decide +kernel
theorem dX1_seenBy_6 : decode cX1_seenBy 6 = .ok (.imul, 1) := by decide +kernel
theorem dX1_seenBy_7 : decode cX1_seenBy 7 = .ok (.iadd, 1) := by decide +kernel
theorem dX1_seenBy_8 : decode cX1_seenBy 8 = .ok (.istore 4, 2) := by decide +kernel
theorem dX1_seenBy_10 : decode cX1_seenBy 10 = .ok (.aload_n 0, 1) := by decide +kernel
theorem dX1_seenBy_11 : decode cX1_seenBy 11 = .ok (.getfield 28, 3) := by decide +kernel
theorem dX1_seenBy_14 : decode cX1_seenBy 14 = .ok (.iload 4, 2) := by decide +kernel
theorem dX1_seenBy_16 : decode cX1_seenBy 16 = .ok (.iaload, 1) := by decide +kernel
theorem dX1_seenBy_17 : decode cX1_seenBy 17 = .ok (.i2f, 1) := by decide +kernel
theorem dX1_seenBy_18 : decode cX1_seenBy 18 = .ok (.ldc 74, 2) := by decide +kernel
theorem dX1_seenBy_20 : decode cX1_seenBy 20 = .ok (.fdiv, 1) := by decide +kernel
theorem dX1_seenBy_21 : decode cX1_seenBy 21 = .ok (.fstore 5, 2) := by decide +kernel
theorem dX1_seenBy_23 : decode cX1_seenBy 23 = .ok (.aload_n 0, 1) := by decide +kernel
theorem dX1_seenBy_24 : decode cX1_seenBy 24 = .ok (.getfield 28, 3) := by decide +kernel
theorem dX1_seenBy_27 : decode cX1_seenBy 27 = .ok (.iload 4, 2) := by decide +kernel
theorem dX1_seenBy_29 : decode cX1_seenBy 29 = .ok (.iconst 1, 1) := by decide +kernel
theorem dX1_seenBy_30 : decode cX1_seenBy 30 = .ok (.iadd, 1) := by decide +kernel
theorem dX1_seenBy_31 : decode cX1_seenBy 31 = .ok (.iaload, 1) := by decide +kernel
theorem dX1_seenBy_32 : decode cX1_seenBy 32 = .ok (.i2f, 1) := by decide +kernel
theorem dX1_seenBy_33 : decode cX1_seenBy 33 = .ok (.ldc 74, 2) := by decide +kernel
theorem dX1_seenBy_35 : decode cX1_seenBy 35 = .ok (.fdiv, 1) := by decide +kernel
theorem dX1_seenBy_36 : decode cX1_seenBy 36 = .ok (.fstore 6, 2) := by decide +kernel
theorem dX1_seenBy_38 : decode cX1_seenBy 38 = .ok (.aload_n 0, 1) := by decide +kernel
theorem dX1_seenBy_39 : decode cX1_seenBy 39 = .ok (.getfield 28, 3) := by decide +kernel
theorem dX1_seenBy_42 : decode cX1_seenBy 42 = .ok (.iload 4, 2) := by decide +kernel
theorem dX1_seenBy_44 : decode cX1_seenBy 44 = .ok (.iconst 2, 1) := by decide +kernel
theorem dX1_seenBy_45 : decode cX1_seenBy 45 = .ok (.iadd, 1) := by decide +kernel
theorem dX1_seenBy_46 : decode cX1_seenBy 46 = .ok (.iaload, 1) := by decide +kernel
theorem dX1_seenBy_47 : decode cX1_seenBy 47 = .ok (.i2f, 1) := by decide +kernel
theorem dX1_seenBy_48 : decode cX1_seenBy 48 = .ok (.ldc 74, 2) := by decide +kernel
theorem dX1_seenBy_50 : decode cX1_seenBy 50 = .ok (.fdiv, 1) := by decide +kernel
theorem dX1_seenBy_51 : decode cX1_seenBy 51 = .ok (.fstore 7, 2) := by decide +kernel
theorem dX1_seenBy_53 : decode cX1_seenBy 53 = .ok (.fload 5, 2) := by decide +kernel
theorem dX1_seenBy_55 : decode cX1_seenBy 55 = .ok (.aload_n 0, 1) := by decide +kernel
theorem dX1_seenBy_56 : decode cX1_seenBy 56 = .ok (.getfield 15, 3) := by decide +kernel
theorem dX1_seenBy_59 : decode cX1_seenBy 59 = .ok (.iconst 3, 1) := by decide +kernel
theorem dX1_seenBy_60 : decode cX1_seenBy 60 = .ok (.iload_n 2, 1) := by decide +kernel
theorem dX1_seenBy_61 : decode cX1_seenBy 61 = .ok (.imul, 1) := by decide +kernel
theorem dX1_seenBy_62 : decode cX1_seenBy 62 = .ok (.iaload, 1) := by decide +kernel
theorem dX1_seenBy_63 : decode cX1_seenBy 63 = .ok (.i2f, 1) := by decide +kernel
theorem dX1_seenBy_64 : decode cX1_seenBy 64 = .ok (.fmul, 1) := by decide +kernel
theorem dX1_seenBy_65 : decode cX1_seenBy 65 = .ok (.fload 6, 2) := by decide +kernel
theorem dX1_seenBy_67 : decode cX1_seenBy 67 = .ok (.aload_n 0, 1) := by decide +kernel
theorem dX1_seenBy_68 : decode cX1_seenBy 68 = .ok (.getfield 15, 3) := by decide +kernel
theorem dX1_seenBy_71 : decode cX1_seenBy 71 = .ok (.iconst 3, 1) := by decide +kernel
theorem dX1_seenBy_72 : decode cX1_seenBy 72 = .ok (.iload_n 2, 1) := by decide +kernel
theorem dX1_seenBy_73 : decode cX1_seenBy 73 = .ok (.imul, 1) := by decide +kernel
theorem dX1_seenBy_74 : decode cX1_seenBy 74 = .ok (.iconst 1, 1) := by decide +kernel
theorem dX1_seenBy_75 : decode cX1_seenBy 75 = .ok (.iadd, 1) := by decide +kernel
theorem dX1_seenBy_76 : decode cX1_seenBy 76 = .ok (.iaload, 1) := by decide +kernel
theorem dX1_seenBy_77 : decode cX1_seenBy 77 = .ok (.i2f, 1) := by decide +kernel
theorem dX1_seenBy_78 : decode cX1_seenBy 78 = .ok (.fmul, 1) := by decide +kernel
theorem dX1_seenBy_79 : decode cX1_seenBy 79 = .ok (.fadd, 1) := by decide +kernel
theorem dX1_seenBy_80 : decode cX1_seenBy 80 = .ok (.fload 7, 2) := by decide +kernel
theorem dX1_seenBy_82 : decode cX1_seenBy 82 = .ok (.aload_n 0, 1) := by decide +kernel
theorem dX1_seenBy_83 : decode cX1_seenBy 83 = .ok (.getfield 15, 3) := by decide +kernel
theorem dX1_seenBy_86 : decode cX1_seenBy 86 = .ok (.iconst 3, 1) := by decide +kernel
theorem dX1_seenBy_87 : decode cX1_seenBy 87 = .ok (.iload_n 2, 1) := by decide +kernel
theorem dX1_seenBy_88 : decode cX1_seenBy 88 = .ok (.imul, 1) := by decide +kernel
theorem dX1_seenBy_89 : decode cX1_seenBy 89 = .ok (.iconst 2, 1) := by decide +kernel
theorem dX1_seenBy_90 : decode cX1_seenBy 90 = .ok (.iadd, 1) := by decide +kernel
theorem dX1_seenBy_91 : decode cX1_seenBy 91 = .ok (.iaload, 1) := by decide +kernel
theorem dX1_seenBy_92 : decode cX1_seenBy 92 = .ok (.i2f, 1) := by decide +kernel
theorem dX1_seenBy_93 : decode cX1_seenBy 93 = .ok (.fmul, 1) := by decide +kernel
theorem dX1_seenBy_94 : decode cX1_seenBy 94 = .ok (.fadd, 1) := by decide +kernel
theorem dX1_seenBy_95 : decode cX1_seenBy 95 = .ok (.freturn, 1) := by decide +kernel
theorem dX1_isSeenAsMinusZero_0 : decode cX1_isSeenAsMinusZero 0 = .ok (.bipush 13, 2) := by decide +kernel
theorem dX1_isSeenAsMinusZero_2 : decode cX1_isSeenAsMinusZero 2 = .ok (.iload_n 1, 1) := by decide +kernel
theorem dX1_isSeenAsMinusZero_3 : decode cX1_isSeenAsMinusZero 3 = .ok (.imul, 1) := by decide +kernel
theorem dX1_isSeenAsMinusZero_4 : decode cX1_isSeenAsMinusZero 4 = .ok (.iconst 3, 1) := by decide +kernel
theorem dX1_isSeenAsMinusZero_5 : decode cX1_isSeenAsMinusZero 5 = .ok (.iload_n 3, 1) := by decide +kernel
theorem dX1_isSeenAsMinusZero_6 : decode cX1_isSeenAsMinusZero 6 = .ok (.imul, 1) := by decide +kernel
theorem dX1_isSeenAsMinusZero_7 : decode cX1_isSeenAsMinusZero 7 = .ok (.iadd, 1) := by decide +kernel
theorem dX1_isSeenAsMinusZero_8 : decode cX1_isSeenAsMinusZero 8 = .ok (.istore 4, 2) := by decide +kernel
theorem dX1_isSeenAsMinusZero_10 : decode cX1_isSeenAsMinusZero 10 = .ok (.iconst 0, 1) := by decide +kernel
theorem dX1_isSeenAsMinusZero_11 : decode cX1_isSeenAsMinusZero 11 = .ok (.istore 5, 2) := by decide +kernel
theorem dX1_isSeenAsMinusZero_13 : decode cX1_isSeenAsMinusZero 13 = .ok (.iload 5, 2) := by decide +kernel
theorem dX1_isSeenAsMinusZero_15 : decode cX1_isSeenAsMinusZero 15 = .ok (.iconst 3, 1) := by decide +kernel
theorem dX1_isSeenAsMinusZero_16 : decode cX1_isSeenAsMinusZero 16 = .ok (.if_icmp .ge 38, 3) := by decide +kernel
theorem dX1_isSeenAsMinusZero_19 : decode cX1_isSeenAsMinusZero 19 = .ok (.aload_n 0, 1) := by decide +kernel
theorem dX1_isSeenAsMinusZero_20 : decode cX1_isSeenAsMinusZero 20 = .ok (.getfield 28, 3) := by decide +kernel
theorem dX1_isSeenAsMinusZero_23 : decode cX1_isSeenAsMinusZero 23 = .ok (.iload 4, 2) := by decide +kernel
theorem dX1_isSeenAsMinusZero_25 : decode cX1_isSeenAsMinusZero 25 = .ok (.iload 5, 2) := by decide +kernel
theorem dX1_isSeenAsMinusZero_27 : decode cX1_isSeenAsMinusZero 27 = .ok (.iadd, 1) := by decide +kernel
theorem dX1_isSeenAsMinusZero_28 : decode cX1_isSeenAsMinusZero 28 = .ok (.iaload, 1) := by decide +kernel
theorem dX1_isSeenAsMinusZero_29 : decode cX1_isSeenAsMinusZero 29 = .ok (.ifCond .ge 17, 3) := by decide +kernel
theorem dX1_isSeenAsMinusZero_32 : decode cX1_isSeenAsMinusZero 32 = .ok (.aload_n 0, 1) := by decide +kernel
theorem dX1_isSeenAsMinusZero_33 : decode cX1_isSeenAsMinusZero 33 = .ok (.getfield 15, 3) := by decide +kernel
theorem dX1_isSeenAsMinusZero_36 : decode cX1_isSeenAsMinusZero 36 = .ok (.iconst 3, 1) := by decide +kernel
theorem dX1_isSeenAsMinusZero_37 : decode cX1_isSeenAsMinusZero 37 = .ok (.iload_n 2, 1) := by decide +kernel
theorem dX1_isSeenAsMinusZero_38 : decode cX1_isSeenAsMinusZero 38 = .ok (.imul, 1) := by decide +kernel
theorem dX1_isSeenAsMinusZero_39 : decode cX1_isSeenAsMinusZero 39 = .ok (.iload 5, 2) := by decide +kernel
theorem dX1_isSeenAsMinusZero_41 : decode cX1_isSeenAsMinusZero 41 = .ok (.iadd, 1) := by decide +kernel
theorem dX1_isSeenAsMinusZero_42 : decode cX1_isSeenAsMinusZero 42 = .ok (.iaload, 1) := by decide +kernel
theorem dX1_isSeenAsMinusZero_43 : decode cX1_isSeenAsMinusZero 43 = .ok (.ifCond .eq 5, 3) := by decide +kernel
theorem dX1_isSeenAsMinusZero_46 : decode cX1_isSeenAsMinusZero 46 = .ok (.iconst 0, 1) := by decide +kernel
theorem dX1_isSeenAsMinusZero_47 : decode cX1_isSeenAsMinusZero 47 = .ok (.ireturn, 1) := by decide +kernel
theorem dX1_isSeenAsMinusZero_48 : decode cX1_isSeenAsMinusZero 48 = .ok (.iinc 5 1, 3) := by decide +kernel
theorem dX1_isSeenAsMinusZero_51 : decode cX1_isSeenAsMinusZero 51 = .ok (.goto (-38), 3) := by decide +kernel
theorem dX1_isSeenAsMinusZero_54 : decode cX1_isSeenAsMinusZero 54 = .ok (.iconst 1, 1) := by decide +kernel
theorem dX1_isSeenAsMinusZero_55 : decode cX1_isSeenAsMinusZero 55 = .ok (.ireturn, 1) := by decide +kernel
theorem dX1_distanceFor_0 : decode cX1_distanceFor 0 = .ok (.bipush 13, 2) := by decide +kernel
theorem dX1_distanceFor_2 : decode cX1_distanceFor 2 = .ok (.iload_n 1, 1) := by decide +kernel
theorem dX1_distanceFor_3 : decode cX1_distanceFor 3 = .ok (.imul, 1) := by decide +kernel
theorem dX1_distanceFor_4 : decode cX1_distanceFor 4 = .ok (.bipush 9, 2) := by decide +kernel
theorem dX1_distanceFor_6 : decode cX1_distanceFor 6 = .ok (.iadd, 1) := by decide +kernel
theorem dX1_distanceFor_7 : decode cX1_distanceFor 7 = .ok (.istore 4, 2) := by decide +kernel
theorem dX1_distanceFor_9 : decode cX1_distanceFor 9 = .ok (.aload_n 0, 1) := by decide +kernel
theorem dX1_distanceFor_10 : decode cX1_distanceFor 10 = .ok (.iload_n 1, 1) := by decide +kernel
theorem dX1_distanceFor_11 : decode cX1_distanceFor 11 = .ok (.iload_n 2, 1) := by decide +kernel
theorem dX1_distanceFor_12 : decode cX1_distanceFor 12 = .ok (.iconst 0, 1) := by decide +kernel
theorem dX1_distanceFor_13 : decode cX1_distanceFor 13 = .ok (.invokevirtual 75, 3) := by decide +kernel
theorem dX1_distanceFor_16 : decode cX1_distanceFor 16 = .ok (.aload_n 0, 1) := by decide +kernel
theorem dX1_distanceFor_17 : decode cX1_distanceFor 17 = .ok (.iload_n 1, 1) := by decide +kernel
theorem dX1_distanceFor_18 : decode cX1_distanceFor 18 = .ok (.iload_n 3, 1) := by decide +kernel
theorem dX1_distanceFor_19 : decode cX1_distanceFor 19 = .ok (.iconst 0, 1) := by decide +kernel
theorem dX1_distanceFor_20 : decode cX1_distanceFor 20 = .ok (.invokevirtual 75, 3) := by decide +kernel
theorem dX1_distanceFor_23 : decode cX1_distanceFor 23 = .ok (.fsub, 1) := by decide +kernel
theorem dX1_distanceFor_24 : decode cX1_distanceFor 24 = .ok (.fstore 5, 2) := by decide +kernel
theorem dX1_distanceFor_26 : decode cX1_distanceFor 26 = .ok (.aload_n 0, 1) := by decide +kernel
theorem dX1_distanceFor_27 : decode cX1_distanceFor 27 = .ok (.iload_n 1, 1) := by decide +kernel
theorem dX1_distanceFor_28 : decode cX1_distanceFor 28 = .ok (.iload_n 2, 1) := by decide +kernel
theorem dX1_distanceFor_29 : decode cX1_distanceFor 29 = .ok (.iconst 1, 1) := by decide +kernel
theorem dX1_distanceFor_30 : decode cX1_distanceFor 30 = .ok (.invokevirtual 75, 3) := by decide +kernel
theorem dX1_distanceFor_33 : decode cX1_distanceFor 33 = .ok (.aload_n 0, 1) := by decide +kernel
theorem dX1_distanceFor_34 : decode cX1_distanceFor 34 = .ok (.iload_n 1, 1) := by decide +kernel
theorem dX1_distanceFor_35 : decode cX1_distanceFor 35 = .ok (.iload_n 3, 1) := by decide +kernel
theorem dX1_distanceFor_36 : decode cX1_distanceFor 36 = .ok (.iconst 1, 1) := by decide +kernel
theorem dX1_distanceFor_37 : decode cX1_distanceFor 37 = .ok (.invokevirtual 75, 3) := by decide +kernel
theorem dX1_distanceFor_40 : decode cX1_distanceFor 40 = .ok (.fsub, 1) := by decide +kernel
theorem dX1_distanceFor_41 : decode cX1_distanceFor 41 = .ok (.fstore 6, 2) := by decide +kernel
theorem dX1_distanceFor_43 : decode cX1_distanceFor 43 = .ok (.aload_n 0, 1) := by decide +kernel
theorem dX1_distanceFor_44 : decode cX1_distanceFor 44 = .ok (.iload_n 1, 1) := by decide +kernel
theorem dX1_distanceFor_45 : decode cX1_distanceFor 45 = .ok (.iload_n 2, 1) := by decide +kernel
theorem dX1_distanceFor_46 : decode cX1_distanceFor 46 = .ok (.iconst 2, 1) := by decide +kernel
theorem dX1_distanceFor_47 : decode cX1_distanceFor 47 = .ok (.invokevirtual 75, 3) := by decide +kernel
theorem dX1_distanceFor_50 : decode cX1_distanceFor 50 = .ok (.aload_n 0, 1) := by decide +kernel
theorem dX1_distanceFor_51 : decode cX1_distanceFor 51 = .ok (.iload_n 1, 1) := by decide +kernel
theorem dX1_distanceFor_52 : decode cX1_distanceFor 52 = .ok (.iload_n 3, 1) := by decide +kernel
theorem dX1_distanceFor_53 : decode cX1_distanceFor 53 = .ok (.iconst 2, 1) := by decide +kernel
theorem dX1_distanceFor_54 : decode cX1_distanceFor 54 = .ok (.invokevirtual 75, 3) := by decide +kernel
theorem dX1_distanceFor_57 : decode cX1_distanceFor 57 = .ok (.fsub, 1) := by decide +kernel
theorem dX1_distanceFor_58 : decode cX1_distanceFor 58 = .ok (.fstore 7, 2) := by decide +kernel
theorem dX1_distanceFor_60 : decode cX1_distanceFor 60 = .ok (.aload_n 0, 1) := by decide +kernel
theorem dX1_distanceFor_61 : decode cX1_distanceFor 61 = .ok (.getfield 28, 3) := by decide +kernel
theorem dX1_distanceFor_64 : decode cX1_distanceFor 64 = .ok (.iload 4, 2) := by decide +kernel
theorem dX1_distanceFor_66 : decode cX1_distanceFor 66 = .ok (.iaload, 1) := by decide +kernel
theorem dX1_distanceFor_67 : decode cX1_distanceFor 67 = .ok (.i2f, 1) := by decide +kernel
theorem dX1_distanceFor_68 : decode cX1_distanceFor 68 = .ok (.fload 5, 2) := by decide +kernel
theorem dX1_distanceFor_70 : decode cX1_distanceFor 70 = .ok (.fload 5, 2) := by decide +kernel
theorem dX1_distanceFor_72 : decode cX1_distanceFor 72 = .ok (.fmul, 1) := by decide +kernel
theorem dX1_distanceFor_73 : decode cX1_distanceFor 73 = .ok (.fmul, 1) := by decide +kernel
theorem dX1_distanceFor_74 : decode cX1_distanceFor 74 = .ok (.aload_n 0, 1) := by decide +kernel
theorem dX1_distanceFor_75 : decode cX1_distanceFor 75 = .ok (.getfield 28, 3) := by decide +kernel
theorem dX1_distanceFor_78 : decode cX1_distanceFor 78 = .ok (.iload 4, 2) := by decide +kernel
theorem dX1_distanceFor_80 : decode cX1_distanceFor 80 = .ok (.iconst 1, 1) := by decide +kernel
theorem dX1_distanceFor_81 : decode cX1_distanceFor 81 = .ok (.iadd, 1) := by decide +kernel
theorem dX1_distanceFor_82 : decode cX1_distanceFor 82 = .ok (.iaload, 1) := by decide +kernel
theorem dX1_distanceFor_83 : decode cX1_distanceFor 83 = .ok (.i2f, 1) := by decide +kernel
theorem dX1_distanceFor_84 : decode cX1_distanceFor 84 = .ok (.fload 6, 2) := by decide +kernel
theorem dX1_distanceFor_86 : decode cX1_distanceFor 86 = .ok (.fload 6, 2) := by decide +kernel
theorem dX1_distanceFor_88 : decode cX1_distanceFor 88 = .ok (.fmul, 1) := by decide +kernel
theorem dX1_distanceFor_89 : decode cX1_distanceFor 89 = .ok (.fmul, 1) := by decide +kernel
theorem dX1_distanceFor_90 : decode cX1_distanceFor 90 = .ok (.fadd, 1) := by decide +kernel
theorem dX1_distanceFor_91 : decode cX1_distanceFor 91 = .ok (.aload_n 0, 1) := by decide +kernel
theorem dX1_distanceFor_92 : decode cX1_distanceFor 92 = .ok (.getfield 28, 3) := by decide +kernel
theorem dX1_distanceFor_95 : decode cX1_distanceFor 95 = .ok (.iload 4, 2) := by decide +kernel
theorem dX1_distanceFor_97 : decode cX1_distanceFor 97 = .ok (.iconst 2, 1) := by decide +kernel
theorem dX1_distanceFor_98 : decode cX1_distanceFor 98 = .ok (.iadd, 1) := by decide +kernel
theorem dX1_distanceFor_99 : decode cX1_distanceFor 99 = .ok (.iaload, 1) := by decide +kernel
theorem dX1_distanceFor_100 : decode cX1_distanceFor 100 = .ok (.i2f, 1) := by decide +kernel
theorem dX1_distanceFor_101 : decode cX1_distanceFor 101 = .ok (.fload 7, 2) := by decide +kernel
theorem dX1_distanceFor_103 : decode cX1_distanceFor 103 = .ok (.fload 7, 2) := by decide +kernel
theorem dX1_distanceFor_105 : decode cX1_distanceFor 105 = .ok (.fmul, 1) := by decide +kernel
theorem dX1_distanceFor_106 : decode cX1_distanceFor 106 = .ok (.fmul, 1) := by decide +kernel
theorem dX1_distanceFor_107 : decode cX1_distanceFor 107 = .ok (.fadd, 1) := by decide +kernel
theorem dX1_distanceFor_108 : decode cX1_distanceFor 108 = .ok (.freturn, 1) := by decide +kernel
theorem dX1_apartOf_0 : decode cX1_apartOf 0 = .ok (.fconst 0, 1) := by decide +kernel
theorem dX1_apartOf_1 : decode cX1_apartOf 1 = .ok (.fstore_n 3, 1) := by decide +kernel
theorem dX1_apartOf_2 : decode cX1_apartOf 2 = .ok (.iconst 0, 1) := by decide +kernel
theorem dX1_apartOf_3 : decode cX1_apartOf 3 = .ok (.istore 4, 2) := by decide +kernel
theorem dX1_apartOf_5 : decode cX1_apartOf 5 = .ok (.iconst 0, 1) := by decide +kernel
theorem dX1_apartOf_6 : decode cX1_apartOf 6 = .ok (.istore 5, 2) := by decide +kernel
theorem dX1_apartOf_8 : decode cX1_apartOf 8 = .ok (.iload 5, 2) := by decide +kernel
theorem dX1_apartOf_10 : decode cX1_apartOf 10 = .ok (.iconst 4, 1) := by decide +kernel
theorem dX1_apartOf_11 : decode cX1_apartOf 11 = .ok (.if_icmp .ge 58, 3) := by decide +kernel
theorem dX1_apartOf_14 : decode cX1_apartOf 14 = .ok (.aload_n 0, 1) := by decide +kernel
theorem dX1_apartOf_15 : decode cX1_apartOf 15 = .ok (.getfield 28, 3) := by decide +kernel
theorem dX1_apartOf_18 : decode cX1_apartOf 18 = .ok (.bipush 13, 2) := by decide +kernel
theorem dX1_apartOf_20 : decode cX1_apartOf 20 = .ok (.iload 5, 2) := by decide +kernel
theorem dX1_apartOf_22 : decode cX1_apartOf 22 = .ok (.imul, 1) := by decide +kernel
theorem dX1_apartOf_23 : decode cX1_apartOf 23 = .ok (.bipush 12, 2) := by decide +kernel
theorem dX1_apartOf_25 : decode cX1_apartOf 25 = .ok (.iadd, 1) := by decide +kernel
theorem dX1_apartOf_26 : decode cX1_apartOf 26 = .ok (.iaload, 1) := by decide +kernel
theorem dX1_apartOf_27 : decode cX1_apartOf 27 = .ok (.iconst 1, 1) := by decide +kernel
theorem dX1_apartOf_28 : decode cX1_apartOf 28 = .ok (.if_icmp .ne 35, 3) := by decide +kernel
theorem dX1_apartOf_31 : decode cX1_apartOf 31 = .ok (.aload_n 0, 1) := by decide +kernel
theorem dX1_apartOf_32 : decode cX1_apartOf 32 = .ok (.iload 5, 2) := by decide +kernel
theorem dX1_apartOf_34 : decode cX1_apartOf 34 = .ok (.iload_n 1, 1) := by decide +kernel
theorem dX1_apartOf_35 : decode cX1_apartOf 35 = .ok (.iload_n 2, 1) := by decide +kernel
theorem dX1_apartOf_36 : decode cX1_apartOf 36 = .ok (.invokevirtual 79, 3) := by decide +kernel
theorem dX1_apartOf_39 : decode cX1_apartOf 39 = .ok (.fstore 6, 2) := by decide +kernel
theorem dX1_apartOf_41 : decode cX1_apartOf 41 = .ok (.iload 4, 2) := by decide +kernel
theorem dX1_apartOf_43 : decode cX1_apartOf 43 = .ok (.ifCond .eq 14, 3) := by decide +kernel
theorem dX1_apartOf_46 : decode cX1_apartOf 46 = .ok (.fload_n 3, 1) := by decide +kernel
theorem dX1_apartOf_47 : decode cX1_apartOf 47 = .ok (.fload 6, 2) := by decide +kernel
theorem dX1_apartOf_49 : decode cX1_apartOf 49 = .ok (.fcmp .g, 1) := by decide +kernel
theorem dX1_apartOf_50 : decode cX1_apartOf 50 = .ok (.ifCond .gt 7, 3) := by decide +kernel
theorem dX1_apartOf_53 : decode cX1_apartOf 53 = .ok (.fload_n 3, 1) := by decide +kernel
theorem dX1_apartOf_54 : decode cX1_apartOf 54 = .ok (.goto 5, 3) := by decide +kernel
theorem dX1_apartOf_57 : decode cX1_apartOf 57 = .ok (.fload 6, 2) := by decide +kernel
theorem dX1_apartOf_59 : decode cX1_apartOf 59 = .ok (.fstore_n 3, 1) := by decide +kernel
theorem dX1_apartOf_60 : decode cX1_apartOf 60 = .ok (.iconst 1, 1) := by decide +kernel
theorem dX1_apartOf_61 : decode cX1_apartOf 61 = .ok (.istore 4, 2) := by decide +kernel
theorem dX1_apartOf_63 : decode cX1_apartOf 63 = .ok (.iinc 5 1, 3) := by decide +kernel
theorem dX1_apartOf_66 : decode cX1_apartOf 66 = .ok (.goto (-58), 3) := by decide +kernel
theorem dX1_apartOf_69 : decode cX1_apartOf 69 = .ok (.fload_n 3, 1) := by decide +kernel
theorem dX1_apartOf_70 : decode cX1_apartOf 70 = .ok (.freturn, 1) := by decide +kernel
theorem dX1_pairsBelow_0 : decode cX1_pairsBelow 0 = .ok (.iconst 0, 1) := by decide +kernel
theorem dX1_pairsBelow_1 : decode cX1_pairsBelow 1 = .ok (.istore_n 3, 1) := by decide +kernel
theorem dX1_pairsBelow_2 : decode cX1_pairsBelow 2 = .ok (.iconst 0, 1) := by decide +kernel
theorem dX1_pairsBelow_3 : decode cX1_pairsBelow 3 = .ok (.istore 4, 2) := by decide +kernel
theorem dX1_pairsBelow_5 : decode cX1_pairsBelow 5 = .ok (.iload 4, 2) := by decide +kernel
theorem dX1_pairsBelow_7 : decode cX1_pairsBelow 7 = .ok (.aload_n 0, 1) := by decide +kernel
theorem dX1_pairsBelow_8 : decode cX1_pairsBelow 8 = .ok (.getfield 40, 3) := by decide +kernel
theorem dX1_pairsBelow_11 : decode cX1_pairsBelow 11 = .ok (.if_icmp .ge 58, 3) := by decide +kernel
theorem dX1_pairsBelow_14 : decode cX1_pairsBelow 14 = .ok (.iload 4, 2) := by decide +kernel
theorem dX1_pairsBelow_16 : decode cX1_pairsBelow 16 = .ok (.iconst 1, 1) := by decide +kernel
theorem dX1_pairsBelow_17 : decode cX1_pairsBelow 17 = .ok (.iadd, 1) := by decide +kernel
theorem dX1_pairsBelow_18 : decode cX1_pairsBelow 18 = .ok (.istore 5, 2) := by decide +kernel
theorem dX1_pairsBelow_20 : decode cX1_pairsBelow 20 = .ok (.iload 5, 2) := by decide +kernel
theorem dX1_pairsBelow_22 : decode cX1_pairsBelow 22 = .ok (.aload_n 0, 1) := by decide +kernel
theorem dX1_pairsBelow_23 : decode cX1_pairsBelow 23 = .ok (.getfield 40, 3) := by decide +kernel
theorem dX1_pairsBelow_26 : decode cX1_pairsBelow 26 = .ok (.if_icmp .ge 37, 3) := by decide +kernel
theorem dX1_pairsBelow_29 : decode cX1_pairsBelow 29 = .ok (.aload_n 0, 1) := by decide +kernel
theorem dX1_pairsBelow_30 : decode cX1_pairsBelow 30 = .ok (.iload_n 1, 1) := by decide +kernel
theorem dX1_pairsBelow_31 : decode cX1_pairsBelow 31 = .ok (.aload_n 0, 1) := by decide +kernel
theorem dX1_pairsBelow_32 : decode cX1_pairsBelow 32 = .ok (.getfield 37, 3) := by decide +kernel
theorem dX1_pairsBelow_35 : decode cX1_pairsBelow 35 = .ok (.iload 4, 2) := by decide +kernel
theorem dX1_pairsBelow_37 : decode cX1_pairsBelow 37 = .ok (.iaload, 1) := by decide +kernel
theorem dX1_pairsBelow_38 : decode cX1_pairsBelow 38 = .ok (.aload_n 0, 1) := by decide +kernel
theorem dX1_pairsBelow_39 : decode cX1_pairsBelow 39 = .ok (.getfield 37, 3) := by decide +kernel
theorem dX1_pairsBelow_42 : decode cX1_pairsBelow 42 = .ok (.iload 5, 2) := by decide +kernel
theorem dX1_pairsBelow_44 : decode cX1_pairsBelow 44 = .ok (.iaload, 1) := by decide +kernel
theorem dX1_pairsBelow_45 : decode cX1_pairsBelow 45 = .ok (.invokevirtual 79, 3) := by decide +kernel
theorem dX1_pairsBelow_48 : decode cX1_pairsBelow 48 = .ok (.iload_n 2, 1) := by decide +kernel
theorem dX1_pairsBelow_49 : decode cX1_pairsBelow 49 = .ok (.i2f, 1) := by decide +kernel
theorem dX1_pairsBelow_50 : decode cX1_pairsBelow 50 = .ok (.fcmp .g, 1) := by decide +kernel
theorem dX1_pairsBelow_51 : decode cX1_pairsBelow 51 = .ok (.ifCond .ge 6, 3) := by decide +kernel
theorem dX1_pairsBelow_54 : decode cX1_pairsBelow 54 = .ok (.iinc 3 1, 3) := by decide +kernel
theorem dX1_pairsBelow_57 : decode cX1_pairsBelow 57 = .ok (.iinc 5 1, 3) := by decide +kernel
theorem dX1_pairsBelow_60 : decode cX1_pairsBelow 60 = .ok (.goto (-40), 3) := by decide +kernel
theorem dX1_pairsBelow_63 : decode cX1_pairsBelow 63 = .ok (.iinc 4 1, 3) := by decide +kernel
theorem dX1_pairsBelow_66 : decode cX1_pairsBelow 66 = .ok (.goto (-61), 3) := by decide +kernel
theorem dX1_pairsBelow_69 : decode cX1_pairsBelow 69 = .ok (.iload_n 3, 1) := by decide +kernel
theorem dX1_pairsBelow_70 : decode cX1_pairsBelow 70 = .ok (.ireturn, 1) := by decide +kernel
end
section
theorem dX2_init_0 : decode cX2_init 0 = .ok (.aload_n 0, 1) := by decide +kernel
theorem dX2_init_1 : decode cX2_init 1 = .ok (.invokespecial 3, 3) := by decide +kernel
theorem dX2_init_4 : decode cX2_init 4 = .ok (.aload_n 0, 1) := by decide +kernel
theorem dX2_init_5 : decode cX2_init 5 = .ok (.bipush 120, 2) := by decide +kernel
theorem dX2_init_7 : decode cX2_init 7 = .ok (.newarray .int, 2) := by decide +kernel
theorem dX2_init_9 : decode cX2_init 9 = .ok (.putfield 9, 3) := by decide +kernel
theorem dX2_init_12 : decode cX2_init 12 = .ok (.aload_n 0, 1) := by decide +kernel
theorem dX2_init_13 : decode cX2_init 13 = .ok (.iconst 0, 1) := by decide +kernel
theorem dX2_init_14 : decode cX2_init 14 = .ok (.putfield 15, 3) := by decide +kernel
theorem dX2_init_17 : decode cX2_init 17 = .ok (.aload_n 0, 1) := by decide +kernel
theorem dX2_init_18 : decode cX2_init 18 = .ok (.iconst 0, 1) := by decide +kernel
theorem dX2_init_19 : decode cX2_init 19 = .ok (.putfield 19, 3) := by decide +kernel
theorem dX2_init_22 : decode cX2_init 22 = .ok (.aload_n 0, 1) := by decide +kernel
theorem dX2_init_23 : decode cX2_init 23 = .ok (.iconst 0, 1) := by decide +kernel
theorem dX2_init_24 : decode cX2_init 24 = .ok (.putfield 22, 3) := by decide +kernel
theorem dX2_init_27 : decode cX2_init 27 = .ok (.aload_n 0, 1) := by decide +kernel
theorem dX2_init_28 : decode cX2_init 28 = .ok (.bipush 60, 2) := by decide +kernel
theorem dX2_init_30 : decode cX2_init 30 = .ok (.newarray .int, 2) := by decide +kernel
theorem dX2_init_32 : decode cX2_init 32 = .ok (.putfield 25, 3) := by decide +kernel
theorem dX2_init_35 : decode cX2_init 35 = .ok (.aload_n 0, 1) := by decide +kernel
theorem dX2_init_36 : decode cX2_init 36 = .ok (.bipush 60, 2) := by decide +kernel
theorem dX2_init_38 : decode cX2_init 38 = .ok (.newarray .int, 2) := by decide +kernel
theorem dX2_init_40 : decode cX2_init 40 = .ok (.putfield 28, 3) := by decide +kernel
theorem dX2_init_43 : decode cX2_init 43 = .ok (.aload_n 0, 1) := by decide +kernel
theorem dX2_init_44 : decode cX2_init 44 = .ok (.bipush 60, 2) := by decide +kernel
theorem dX2_init_46 : decode cX2_init 46 = .ok (.newarray .int, 2) := by decide +kernel
theorem dX2_init_48 : decode cX2_init 48 = .ok (.putfield 31, 3) := by decide +kernel
theorem dX2_init_51 : decode cX2_init 51 = .ok (.return_, 1) := by decide +kernel
theorem dX2_append_0 : decode cX2_append 0 = .ok (.aload_n 0, 1) := by decide +kernel
theorem dX2_append_1 : decode cX2_append 1 = .ok (.getfield 15, 3) := by decide +kernel
theorem dX2_append_4 : decode cX2_append 4 = .ok (.aload_n 0, 1) := by decide +kernel
theorem dX2_append_5 : decode cX2_append 5 = .ok (.getfield 9, 3) := by decide +kernel
theorem dX2_append_8 : decode cX2_append 8 = .ok (.arraylength, 1) := by decide +kernel
theorem dX2_append_9 : decode cX2_append 9 = .ok (.if_icmp .ge 23, 3) := by decide +kernel
theorem dX2_append_12 : decode cX2_append 12 = .ok (.aload_n 0, 1) := by decide +kernel
theorem dX2_append_13 : decode cX2_append 13 = .ok (.getfield 9, 3) := by decide +kernel
theorem dX2_append_16 : decode cX2_append 16 = .ok (.aload_n 0, 1) := by decide +kernel
theorem dX2_append_17 : decode cX2_append 17 = .ok (.getfield 15, 3) := by decide +kernel
theorem dX2_append_20 : decode cX2_append 20 = .ok (.iload_n 1, 1) := by decide +kernel
theorem dX2_append_21 : decode cX2_append 21 = .ok (.iastore, 1) := by decide +kernel
theorem dX2_append_22 : decode cX2_append 22 = .ok (.aload_n 0, 1) := by decide +kernel
theorem dX2_append_23 : decode cX2_append 23 = .ok (.dup, 1) := by decide +kernel
theorem dX2_append_24 : decode cX2_append 24 = .ok (.getfield 15, 3) := by decide +kernel
theorem dX2_append_27 : decode cX2_append 27 = .ok (.iconst 1, 1) := by decide +kernel
theorem dX2_append_28 : decode cX2_append 28 = .ok (.iadd, 1) := by decide +kernel
theorem dX2_append_29 : decode cX2_append 29 = .ok (.putfield 15, 3) := by decide +kernel
theorem dX2_append_32 : decode cX2_append 32 = .ok (.aload_n 0, 1) := by decide +kernel
theorem dX2_append_33 : decode cX2_append 33 = .ok (.getfield 15, 3) := by decide +kernel
theorem dX2_append_36 : decode cX2_append 36 = .ok (.ireturn, 1) := by decide +kernel
theorem dX2_read_0 : decode cX2_read 0 = .ok (.aload_n 0, 1) := by decide +kernel
theorem dX2_read_1 : decode cX2_read 1 = .ok (.iconst 0, 1) := by decide +kernel
theorem dX2_read_2 : decode cX2_read 2 = .ok (.putfield 19, 3) := by decide +kernel
theorem dX2_read_5 : decode cX2_read 5 = .ok (.aload_n 0, 1) := by decide +kernel
theorem dX2_read_6 : decode cX2_read 6 = .ok (.iconst 0, 1) := by decide +kernel
theorem dX2_read_7 : decode cX2_read 7 = .ok (.putfield 22, 3) := by decide +kernel
theorem dX2_read_10 : decode cX2_read 10 = .ok (.aload_n 0, 1) := by decide +kernel
theorem dX2_read_11 : decode cX2_read 11 = .ok (.invokevirtual 34, 3) := by decide +kernel
theorem dX2_read_14 : decode cX2_read 14 = .ok (.aload_n 0, 1) := by decide +kernel
theorem dX2_read_15 : decode cX2_read 15 = .ok (.getfield 19, 3) := by decide +kernel
theorem dX2_read_18 : decode cX2_read 18 = .ok (.aload_n 0, 1) := by decide +kernel
theorem dX2_read_19 : decode cX2_read 19 = .ok (.getfield 15, 3) := by decide +kernel
theorem dX2_read_22 : decode cX2_read 22 = .ok (.if_icmp .ne 8, 3) := by decide +kernel
theorem dX2_read_25 : decode cX2_read 25 = .ok (.aload_n 0, 1) := by decide +kernel
theorem dX2_read_26 : decode cX2_read 26 = .ok (.getfield 15, 3) := by decide +kernel
theorem dX2_read_29 : decode cX2_read 29 = .ok (.ireturn, 1) := by decide +kernel
theorem dX2_read_30 : decode cX2_read 30 = .ok (.aload_n 0, 1) := by decide +kernel
theorem dX2_read_31 : decode cX2_read 31 = .ok (.getfield 19, 3) := by decide +kernel
theorem dX2_read_34 : decode cX2_read 34 = .ok (.aload_n 0, 1) := by decide +kernel
theorem dX2_read_35 : decode cX2_read 35 = .ok (.getfield 15, 3) := by decide +kernel
theorem dX2_read_38 : decode cX2_read 38 = .ok (.if_icmp .ge 41, 3) := by decide +kernel
theorem dX2_read_41 : decode cX2_read 41 = .ok (.aload_n 0, 1) := by decide +kernel
theorem dX2_read_42 : decode cX2_read 42 = .ok (.getfield 22, 3) := by decide +kernel
theorem dX2_read_45 : decode cX2_read 45 = .ok (.bipush 60, 2) := by decide +kernel
theorem dX2_read_47 : decode cX2_read 47 = .ok (.if_icmp .ge 32, 3) := by decide +kernel
theorem dX2_read_50 : decode cX2_read 50 = .ok (.aload_n 0, 1) := by decide +kernel
theorem dX2_read_51 : decode cX2_read 51 = .ok (.invokevirtual 37, 3) := by decide +kernel
theorem dX2_read_54 : decode cX2_read 54 = .ok (.ifCond .ne 8, 3) := by decide +kernel
theorem dX2_read_57 : decode cX2_read 57 = .ok (.aload_n 0, 1) := by decide +kernel
theorem dX2_read_58 : decode cX2_read 58 = .ok (.getfield 19, 3) := by decide +kernel
theorem dX2_read_61 : decode cX2_read 61 = .ok (.ireturn, 1) := by decide +kernel
theorem dX2_read_62 : decode cX2_read 62 = .ok (.aload_n 0, 1) := by decide +kernel
theorem dX2_read_63 : decode cX2_read 63 = .ok (.dup, 1) := by decide +kernel
theorem dX2_read_64 : decode cX2_read 64 = .ok (.getfield 22, 3) := by decide +kernel
theorem dX2_read_67 : decode cX2_read 67 = .ok (.iconst 1, 1) := by decide +kernel
theorem dX2_read_68 : decode cX2_read 68 = .ok (.iadd, 1) := by decide +kernel
theorem dX2_read_69 : decode cX2_read 69 = .ok (.putfield 22, 3) := by decide +kernel
theorem dX2_read_72 : decode cX2_read 72 = .ok (.aload_n 0, 1) := by decide +kernel
theorem dX2_read_73 : decode cX2_read 73 = .ok (.invokevirtual 34, 3) := by decide +kernel
theorem dX2_read_76 : decode cX2_read 76 = .ok (.goto (-46), 3) := by decide +kernel
theorem dX2_read_79 : decode cX2_read 79 = .ok (.iconst (-1), 1) := by decide +kernel
theorem dX2_read_80 : decode cX2_read 80 = .ok (.ireturn, 1) := by decide +kernel
theorem dX2_readOrder_0 : decode cX2_readOrder 0 = .ok (.aload_n 0, 1) := by decide +kernel
theorem dX2_readOrder_1 : decode cX2_readOrder 1 = .ok (.invokevirtual 41, 3) := by decide +kernel
theorem dX2_readOrder_4 : decode cX2_readOrder 4 = .ok (.istore_n 1, 1) := by decide +kernel
theorem dX2_readOrder_5 : decode cX2_readOrder 5 = .ok (.aload_n 0, 1) := by decide +kernel
theorem dX2_readOrder_6 : decode cX2_readOrder 6 = .ok (.getfield 25, 3) := by decide +kernel
theorem dX2_readOrder_9 : decode cX2_readOrder 9 = .ok (.aload_n 0, 1) := by decide +kernel
theorem dX2_readOrder_10 : decode cX2_readOrder 10 = .ok (.getfield 22, 3) := by decide +kernel
theorem dX2_readOrder_13 : decode cX2_readOrder 13 = .ok (.iload_n 1, 1) := by decide +kernel
theorem dX2_readOrder_14 : decode cX2_readOrder 14 = .ok (.iastore, 1) := by decide +kernel
theorem dX2_readOrder_15 : decode cX2_readOrder 15 = .ok (.iload_n 1, 1) := by decide +kernel
theorem dX2_readOrder_16 : decode cX2_readOrder 16 = .ok (.lookupswitch 176 #[(99, 52), (102, 82), (108, 82), (112, 127), (115, 161)], 52) := by decide +kernel
theorem dX2_readOrder_68 : decode cX2_readOrder 68 = .ok (.aload_n 0, 1) := by decide +kernel
theorem dX2_readOrder_69 : decode cX2_readOrder 69 = .ok (.dup, 1) := by decide +kernel
theorem dX2_readOrder_70 : decode cX2_readOrder 70 = .ok (.getfield 19, 3) := by decide +kernel
theorem dX2_readOrder_73 : decode cX2_readOrder 73 = .ok (.iconst 1, 1) := by decide +kernel
theorem dX2_readOrder_74 : decode cX2_readOrder 74 = .ok (.iadd, 1) := by decide +kernel
theorem dX2_readOrder_75 : decode cX2_readOrder 75 = .ok (.putfield 19, 3) := by decide +kernel
theorem dX2_readOrder_78 : decode cX2_readOrder 78 = .ok (.aload_n 0, 1) := by decide +kernel
theorem dX2_readOrder_79 : decode cX2_readOrder 79 = .ok (.invokevirtual 45, 3) := by decide +kernel
theorem dX2_readOrder_82 : decode cX2_readOrder 82 = .ok (.ifCond .eq 14, 3) := by decide +kernel
theorem dX2_readOrder_85 : decode cX2_readOrder 85 = .ok (.aload_n 0, 1) := by decide +kernel
theorem dX2_readOrder_86 : decode cX2_readOrder 86 = .ok (.invokevirtual 48, 3) := by decide +kernel
theorem dX2_readOrder_89 : decode cX2_readOrder 89 = .ok (.ifCond .eq 7, 3) := by decide +kernel
theorem dX2_readOrder_92 : decode cX2_readOrder 92 = .ok (.iconst 1, 1) := by decide +kernel
theorem dX2_readOrder_93 : decode cX2_readOrder 93 = .ok (.goto 4, 3) := by decide +kernel
theorem dX2_readOrder_96 : decode cX2_readOrder 96 = .ok (.iconst 0, 1) := by decide +kernel
theorem dX2_readOrder_97 : decode cX2_readOrder 97 = .ok (.ireturn, 1) := by decide +kernel
theorem dX2_readOrder_98 : decode cX2_readOrder 98 = .ok (.aload_n 0, 1) := by decide +kernel
theorem dX2_readOrder_99 : decode cX2_readOrder 99 = .ok (.dup, 1) := by decide +kernel
theorem dX2_readOrder_100 : decode cX2_readOrder 100 = .ok (.getfield 19, 3) := by decide +kernel
theorem dX2_readOrder_103 : decode cX2_readOrder 103 = .ok (.iconst 1, 1) := by decide +kernel
theorem dX2_readOrder_104 : decode cX2_readOrder 104 = .ok (.iadd, 1) := by decide +kernel
theorem dX2_readOrder_105 : decode cX2_readOrder 105 = .ok (.putfield 19, 3) := by decide +kernel
theorem dX2_readOrder_108 : decode cX2_readOrder 108 = .ok (.aload_n 0, 1) := by decide +kernel
theorem dX2_readOrder_109 : decode cX2_readOrder 109 = .ok (.aload_n 0, 1) := by decide +kernel
theorem dX2_readOrder_110 : decode cX2_readOrder 110 = .ok (.getfield 28, 3) := by decide +kernel
theorem dX2_readOrder_113 : decode cX2_readOrder 113 = .ok (.invokevirtual 51, 3) := by decide +kernel
theorem dX2_readOrder_116 : decode cX2_readOrder 116 = .ok (.ifCond .eq 25, 3) := by decide +kernel
theorem dX2_readOrder_119 : decode cX2_readOrder 119 = .ok (.aload_n 0, 1) := by decide +kernel
theorem dX2_readOrder_120 : decode cX2_readOrder 120 = .ok (.aload_n 0, 1) := by decide +kernel
theorem dX2_readOrder_121 : decode cX2_readOrder 121 = .ok (.getfield 31, 3) := by decide +kernel
theorem dX2_readOrder_124 : decode cX2_readOrder 124 = .ok (.invokevirtual 51, 3) := by decide +kernel
theorem dX2_readOrder_127 : decode cX2_readOrder 127 = .ok (.ifCond .eq 14, 3) := by decide +kernel
theorem dX2_readOrder_130 : decode cX2_readOrder 130 = .ok (.aload_n 0, 1) := by decide +kernel
theorem dX2_readOrder_131 : decode cX2_readOrder 131 = .ok (.invokevirtual 48, 3) := by decide +kernel
theorem dX2_readOrder_134 : decode cX2_readOrder 134 = .ok (.ifCond .eq 7, 3) := by decide +kernel
theorem dX2_readOrder_137 : decode cX2_readOrder 137 = .ok (.iconst 1, 1) := by decide +kernel
theorem dX2_readOrder_138 : decode cX2_readOrder 138 = .ok (.goto 4, 3) := by decide +kernel
theorem dX2_readOrder_141 : decode cX2_readOrder 141 = .ok (.iconst 0, 1) := by decide +kernel
theorem dX2_readOrder_142 : decode cX2_readOrder 142 = .ok (.ireturn, 1) := by decide +kernel
theorem dX2_readOrder_143 : decode cX2_readOrder 143 = .ok (.aload_n 0, 1) := by decide +kernel
theorem dX2_readOrder_144 : decode cX2_readOrder 144 = .ok (.dup, 1) := by decide +kernel
theorem dX2_readOrder_145 : decode cX2_readOrder 145 = .ok (.getfield 19, 3) := by decide +kernel
theorem dX2_readOrder_148 : decode cX2_readOrder 148 = .ok (.iconst 1, 1) := by decide +kernel
theorem dX2_readOrder_149 : decode cX2_readOrder 149 = .ok (.iadd, 1) := by decide +kernel
theorem dX2_readOrder_150 : decode cX2_readOrder 150 = .ok (.putfield 19, 3) := by decide +kernel
theorem dX2_readOrder_153 : decode cX2_readOrder 153 = .ok (.aload_n 0, 1) := by decide +kernel
theorem dX2_readOrder_154 : decode cX2_readOrder 154 = .ok (.aload_n 0, 1) := by decide +kernel
theorem dX2_readOrder_155 : decode cX2_readOrder 155 = .ok (.getfield 28, 3) := by decide +kernel
theorem dX2_readOrder_158 : decode cX2_readOrder 158 = .ok (.invokevirtual 51, 3) := by decide +kernel
theorem dX2_readOrder_161 : decode cX2_readOrder 161 = .ok (.ifCond .eq 14, 3) := by decide +kernel
theorem dX2_readOrder_164 : decode cX2_readOrder 164 = .ok (.aload_n 0, 1) := by decide +kernel
theorem dX2_readOrder_165 : decode cX2_readOrder 165 = .ok (.invokevirtual 48, 3) := by decide +kernel
theorem dX2_readOrder_168 : decode cX2_readOrder 168 = .ok (.ifCond .eq 7, 3) := by decide +kernel
theorem dX2_readOrder_171 : decode cX2_readOrder 171 = .ok (.iconst 1, 1) := by decide +kernel
theorem dX2_readOrder_172 : decode cX2_readOrder 172 = .ok (.goto 4, 3) := by decide +kernel
theorem dX2_readOrder_175 : decode cX2_readOrder 175 = .ok (.iconst 0, 1) := by decide +kernel
theorem dX2_readOrder_176 : decode cX2_readOrder 176 = .ok (.ireturn, 1) := by decide +kernel
theorem dX2_readOrder_177 : decode cX2_readOrder 177 = .ok (.aload_n 0, 1) := by decide +kernel
theorem dX2_readOrder_178 : decode cX2_readOrder 178 = .ok (.dup, 1) := by decide +kernel
theorem dX2_readOrder_179 : decode cX2_readOrder 179 = .ok (.getfield 19, 3) := by decide +kernel
theorem dX2_readOrder_182 : decode cX2_readOrder 182 = .ok (.iconst 1, 1) := by decide +kernel
theorem dX2_readOrder_183 : decode cX2_readOrder 183 = .ok (.iadd, 1) := by decide +kernel
theorem dX2_readOrder_184 : decode cX2_readOrder 184 = .ok (.putfield 19, 3) := by decide +kernel
theorem dX2_readOrder_187 : decode cX2_readOrder 187 = .ok (.aload_n 0, 1) := by decide +kernel
theorem dX2_readOrder_188 : decode cX2_readOrder 188 = .ok (.invokevirtual 48, 3) := by decide +kernel
theorem dX2_readOrder_191 : decode cX2_readOrder 191 = .ok (.ireturn, 1) := by decide +kernel
theorem dX2_readOrder_192 : decode cX2_readOrder 192 = .ok (.iconst 0, 1) := by decide +kernel
theorem dX2_readOrder_193 : decode cX2_readOrder 193 = .ok (.ireturn, 1) := by decide +kernel
theorem dX2_readSixFigures_0 : decode cX2_readSixFigures 0 = .ok (.aload_n 0, 1) := by decide +kernel
theorem dX2_readSixFigures_1 : decode cX2_readSixFigures 1 = .ok (.invokevirtual 34, 3) := by decide +kernel
theorem dX2_readSixFigures_4 : decode cX2_readSixFigures 4 = .ok (.iconst 0, 1) := by decide +kernel
theorem dX2_readSixFigures_5 : decode cX2_readSixFigures 5 = .ok (.istore_n 1, 1) := by decide +kernel
theorem dX2_readSixFigures_6 : decode cX2_readSixFigures 6 = .ok (.iconst 0, 1) := by decide +kernel
theorem dX2_readSixFigures_7 : decode cX2_readSixFigures 7 = .ok (.istore_n 2, 1) := by decide +kernel
theorem dX2_readSixFigures_8 : decode cX2_readSixFigures 8 = .ok (.iload_n 2, 1) := by decide +kernel
theorem dX2_readSixFigures_9 : decode cX2_readSixFigures 9 = .ok (.bipush 6, 2) := by decide +kernel
theorem dX2_readSixFigures_11 : decode cX2_readSixFigures 11 = .ok (.if_icmp .ge 41, 3) := by decide +kernel
theorem dX2_readSixFigures_14 : decode cX2_readSixFigures 14 = .ok (.aload_n 0, 1) := by decide +kernel
theorem dX2_readSixFigures_15 : decode cX2_readSixFigures 15 = .ok (.invokevirtual 41, 3) := by decide +kernel
theorem dX2_readSixFigures_18 : decode cX2_readSixFigures 18 = .ok (.invokestatic 55, 3) := by decide +kernel
theorem dX2_readSixFigures_21 : decode cX2_readSixFigures 21 = .ok (.istore_n 3, 1) := by decide +kernel
theorem dX2_readSixFigures_22 : decode cX2_readSixFigures 22 = .ok (.iload_n 3, 1) := by decide +kernel
theorem dX2_readSixFigures_23 : decode cX2_readSixFigures 23 = .ok (.iconst (-1), 1) := by decide +kernel
theorem dX2_readSixFigures_24 : decode cX2_readSixFigures 24 = .ok (.if_icmp .ne 5, 3) := by decide +kernel
theorem dX2_readSixFigures_27 : decode cX2_readSixFigures 27 = .ok (.iconst 0, 1) := by decide +kernel
theorem dX2_readSixFigures_28 : decode cX2_readSixFigures 28 = .ok (.ireturn, 1) := by decide +kernel
theorem dX2_readSixFigures_29 : decode cX2_readSixFigures 29 = .ok (.bipush 16, 2) := by decide +kernel
theorem dX2_readSixFigures_31 : decode cX2_readSixFigures 31 = .ok (.iload_n 1, 1) := by decide +kernel
theorem dX2_readSixFigures_32 : decode cX2_readSixFigures 32 = .ok (.imul, 1) := by decide +kernel
theorem dX2_readSixFigures_33 : decode cX2_readSixFigures 33 = .ok (.iload_n 3, 1) := by decide +kernel
theorem dX2_readSixFigures_34 : decode cX2_readSixFigures 34 = .ok (.iadd, 1) := by decide +kernel
theorem dX2_readSixFigures_35 : decode cX2_readSixFigures 35 = .ok (.istore_n 1, 1) := by decide +kernel
theorem dX2_readSixFigures_36 : decode cX2_readSixFigures 36 = .ok (.aload_n 0, 1) := by decide +kernel
theorem dX2_readSixFigures_37 : decode cX2_readSixFigures 37 = .ok (.dup, 1) := by decide +kernel
theorem dX2_readSixFigures_38 : decode cX2_readSixFigures 38 = .ok (.getfield 19, 3) := by decide +kernel
theorem dX2_readSixFigures_41 : decode cX2_readSixFigures 41 = .ok (.iconst 1, 1) := by decide +kernel
theorem dX2_readSixFigures_42 : decode cX2_readSixFigures 42 = .ok (.iadd, 1) := by decide +kernel
theorem dX2_readSixFigures_43 : decode cX2_readSixFigures 43 = .ok (.putfield 19, 3) := by decide +kernel
theorem dX2_readSixFigures_46 : decode cX2_readSixFigures 46 = .ok (.iinc 2 1, 3) := by decide +kernel
theorem dX2_readSixFigures_49 : decode cX2_readSixFigures 49 = .ok (.goto (-41), 3) := by decide +kernel
theorem dX2_readSixFigures_52 : decode cX2_readSixFigures 52 = .ok (.aload_n 0, 1) := by decide +kernel
theorem dX2_readSixFigures_53 : decode cX2_readSixFigures 53 = .ok (.getfield 28, 3) := by decide +kernel
theorem dX2_readSixFigures_56 : decode cX2_readSixFigures 56 = .ok (.aload_n 0, 1) := by decide +kernel
theorem dX2_readSixFigures_57 : decode cX2_readSixFigures 57 = .ok (.getfield 22, 3) := by decide +kernel
theorem dX2_readSixFigures_60 : decode cX2_readSixFigures 60 = .ok (.iload_n 1, 1) := by decide +kernel
theorem dX2_readSixFigures_61 : decode cX2_readSixFigures 61 = .ok (.iastore, 1) := by decide +kernel
theorem dX2_readSixFigures_62 : decode cX2_readSixFigures 62 = .ok (.iconst 1, 1) := by decide +kernel
theorem dX2_readSixFigures_63 : decode cX2_readSixFigures 63 = .ok (.ireturn, 1) := by decide +kernel
theorem dX2_readNumber_0 : decode cX2_readNumber 0 = .ok (.aload_n 0, 1) := by decide +kernel
theorem dX2_readNumber_1 : decode cX2_readNumber 1 = .ok (.invokevirtual 34, 3) := by decide +kernel
theorem dX2_readNumber_4 : decode cX2_readNumber 4 = .ok (.iconst 0, 1) := by decide +kernel
theorem dX2_readNumber_5 : decode cX2_readNumber 5 = .ok (.istore_n 2, 1) := by decide +kernel
theorem dX2_readNumber_6 : decode cX2_readNumber 6 = .ok (.iconst 0, 1) := by decide +kernel
theorem dX2_readNumber_7 : decode cX2_readNumber 7 = .ok (.istore_n 3, 1) := by decide +kernel
theorem dX2_readNumber_8 : decode cX2_readNumber 8 = .ok (.iload_n 3, 1) := by decide +kernel
theorem dX2_readNumber_9 : decode cX2_readNumber 9 = .ok (.iconst 3, 1) := by decide +kernel
theorem dX2_readNumber_10 : decode cX2_readNumber 10 = .ok (.if_icmp .ge 42, 3) := by decide +kernel
theorem dX2_readNumber_13 : decode cX2_readNumber 13 = .ok (.aload_n 0, 1) := by decide +kernel
theorem dX2_readNumber_14 : decode cX2_readNumber 14 = .ok (.invokevirtual 41, 3) := by decide +kernel
theorem dX2_readNumber_17 : decode cX2_readNumber 17 = .ok (.invokestatic 59, 3) := by decide +kernel
theorem dX2_readNumber_20 : decode cX2_readNumber 20 = .ok (.ifCond .eq 32, 3) := by decide +kernel
theorem dX2_readNumber_23 : decode cX2_readNumber 23 = .ok (.bipush 10, 2) := by decide +kernel
theorem dX2_readNumber_25 : decode cX2_readNumber 25 = .ok (.iload_n 2, 1) := by decide +kernel
theorem dX2_readNumber_26 : decode cX2_readNumber 26 = .ok (.imul, 1) := by decide +kernel
theorem dX2_readNumber_27 : decode cX2_readNumber 27 = .ok (.aload_n 0, 1) := by decide +kernel
theorem dX2_readNumber_28 : decode cX2_readNumber 28 = .ok (.invokevirtual 41, 3) := by decide +kernel
theorem dX2_readNumber_31 : decode cX2_readNumber 31 = .ok (.invokestatic 55, 3) := by decide +kernel
theorem dX2_readNumber_34 : decode cX2_readNumber 34 = .ok (.iadd, 1) := by decide +kernel
theorem dX2_readNumber_35 : decode cX2_readNumber 35 = .ok (.istore_n 2, 1) := by decide +kernel
theorem dX2_readNumber_36 : decode cX2_readNumber 36 = .ok (.iinc 3 1, 3) := by decide +kernel
theorem dX2_readNumber_39 : decode cX2_readNumber 39 = .ok (.aload_n 0, 1) := by decide +kernel
theorem dX2_readNumber_40 : decode cX2_readNumber 40 = .ok (.dup, 1) := by decide +kernel
theorem dX2_readNumber_41 : decode cX2_readNumber 41 = .ok (.getfield 19, 3) := by decide +kernel
theorem dX2_readNumber_44 : decode cX2_readNumber 44 = .ok (.iconst 1, 1) := by decide +kernel
theorem dX2_readNumber_45 : decode cX2_readNumber 45 = .ok (.iadd, 1) := by decide +kernel
theorem dX2_readNumber_46 : decode cX2_readNumber 46 = .ok (.putfield 19, 3) := by decide +kernel
theorem dX2_readNumber_49 : decode cX2_readNumber 49 = .ok (.goto (-41), 3) := by decide +kernel
theorem dX2_readNumber_52 : decode cX2_readNumber 52 = .ok (.aload_n 1, 1) := by decide +kernel
theorem dX2_readNumber_53 : decode cX2_readNumber 53 = .ok (.aload_n 0, 1) := by decide +kernel
theorem dX2_readNumber_54 : decode cX2_readNumber 54 = .ok (.getfield 22, 3) := by decide +kernel
theorem dX2_readNumber_57 : decode cX2_readNumber 57 = .ok (.iload_n 2, 1) := by decide +kernel
theorem dX2_readNumber_58 : decode cX2_readNumber 58 = .ok (.iastore, 1) := by decide +kernel
theorem dX2_readNumber_59 : decode cX2_readNumber 59 = .ok (.iload_n 3, 1) := by decide +kernel
theorem dX2_readNumber_60 : decode cX2_readNumber 60 = .ok (.ifCond .le 17, 3) := by decide +kernel
theorem dX2_readNumber_63 : decode cX2_readNumber 63 = .ok (.aload_n 0, 1) := by decide +kernel
theorem dX2_readNumber_64 : decode cX2_readNumber 64 = .ok (.invokevirtual 41, 3) := by decide +kernel
theorem dX2_readNumber_67 : decode cX2_readNumber 67 = .ok (.invokestatic 59, 3) := by decide +kernel
theorem dX2_readNumber_70 : decode cX2_readNumber 70 = .ok (.ifCond .ne 7, 3) := by decide +kernel
theorem dX2_readNumber_73 : decode cX2_readNumber 73 = .ok (.iconst 1, 1) := by decide +kernel
theorem dX2_readNumber_74 : decode cX2_readNumber 74 = .ok (.goto 4, 3) := by decide +kernel
theorem dX2_readNumber_77 : decode cX2_readNumber 77 = .ok (.iconst 0, 1) := by decide +kernel
theorem dX2_readNumber_78 : decode cX2_readNumber 78 = .ok (.ireturn, 1) := by decide +kernel
theorem dX2_readEnd_0 : decode cX2_readEnd 0 = .ok (.aload_n 0, 1) := by decide +kernel
theorem dX2_readEnd_1 : decode cX2_readEnd 1 = .ok (.invokevirtual 34, 3) := by decide +kernel
theorem dX2_readEnd_4 : decode cX2_readEnd 4 = .ok (.aload_n 0, 1) := by decide +kernel
theorem dX2_readEnd_5 : decode cX2_readEnd 5 = .ok (.invokevirtual 41, 3) := by decide +kernel
theorem dX2_readEnd_8 : decode cX2_readEnd 8 = .ok (.bipush 59, 2) := by decide +kernel
theorem dX2_readEnd_10 : decode cX2_readEnd 10 = .ok (.if_icmp .eq 5, 3) := by decide +kernel
theorem dX2_readEnd_13 : decode cX2_readEnd 13 = .ok (.iconst 0, 1) := by decide +kernel
theorem dX2_readEnd_14 : decode cX2_readEnd 14 = .ok (.ireturn, 1) := by decide +kernel
theorem dX2_readEnd_15 : decode cX2_readEnd 15 = .ok (.aload_n 0, 1) := by decide +kernel
theorem dX2_readEnd_16 : decode cX2_readEnd 16 = .ok (.dup, 1) := by decide +kernel
theorem dX2_readEnd_17 : decode cX2_readEnd 17 = .ok (.getfield 19, 3) := by decide +kernel
theorem dX2_readEnd_20 : decode cX2_readEnd 20 = .ok (.iconst 1, 1) := by decide +kernel
theorem dX2_readEnd_21 : decode cX2_readEnd 21 = .ok (.iadd, 1) := by decide +kernel
theorem dX2_readEnd_22 : decode cX2_readEnd 22 = .ok (.putfield 19, 3) := by decide +kernel
theorem dX2_readEnd_25 : decode cX2_readEnd 25 = .ok (.iconst 1, 1) := by decide +kernel
theorem dX2_readEnd_26 : decode cX2_readEnd 26 = .ok (.ireturn, 1) := by decide +kernel
theorem dX2_skipBlanks_0 : decode cX2_skipBlanks 0 = .ok (.aload_n 0, 1) := by decide +kernel
theorem dX2_skipBlanks_1 : decode cX2_skipBlanks 1 = .ok (.getfield 19, 3) := by decide +kernel
theorem dX2_skipBlanks_4 : decode cX2_skipBlanks 4 = .ok (.aload_n 0, 1) := by decide +kernel
theorem dX2_skipBlanks_5 : decode cX2_skipBlanks 5 = .ok (.getfield 15, 3) := by decide +kernel
theorem dX2_skipBlanks_8 : decode cX2_skipBlanks 8 = .ok (.if_icmp .ge 25, 3) := by decide +kernel
theorem dX2_skipBlanks_11 : decode cX2_skipBlanks 11 = .ok (.aload_n 0, 1) := by decide +kernel
theorem dX2_skipBlanks_12 : decode cX2_skipBlanks 12 = .ok (.invokevirtual 41, 3) := by decide +kernel
theorem dX2_skipBlanks_15 : decode cX2_skipBlanks 15 = .ok (.bipush 32, 2) := by decide +kernel
theorem dX2_skipBlanks_17 : decode cX2_skipBlanks 17 = .ok (.if_icmp .ne 16, 3) := by decide +kernel
theorem dX2_skipBlanks_20 : decode cX2_skipBlanks 20 = .ok (.aload_n 0, 1) := by decide +kernel
theorem dX2_skipBlanks_21 : decode cX2_skipBlanks 21 = .ok (.dup, 1) := by decide +kernel
theorem dX2_skipBlanks_22 : decode cX2_skipBlanks 22 = .ok (.getfield 19, 3) := by decide +kernel
theorem dX2_skipBlanks_25 : decode cX2_skipBlanks 25 = .ok (.iconst 1, 1) := by decide +kernel
theorem dX2_skipBlanks_26 : decode cX2_skipBlanks 26 = .ok (.iadd, 1) := by decide +kernel
theorem dX2_skipBlanks_27 : decode cX2_skipBlanks 27 = .ok (.putfield 19, 3) := by decide +kernel
theorem dX2_skipBlanks_30 : decode cX2_skipBlanks 30 = .ok (.goto (-30), 3) := by decide +kernel
theorem dX2_skipBlanks_33 : decode cX2_skipBlanks 33 = .ok (.return_, 1) := by decide +kernel
theorem dX2_byteHere_0 : decode cX2_byteHere 0 = .ok (.aload_n 0, 1) := by decide +kernel
theorem dX2_byteHere_1 : decode cX2_byteHere 1 = .ok (.getfield 19, 3) := by decide +kernel
theorem dX2_byteHere_4 : decode cX2_byteHere 4 = .ok (.aload_n 0, 1) := by decide +kernel
theorem dX2_byteHere_5 : decode cX2_byteHere 5 = .ok (.getfield 15, 3) := by decide +kernel
theorem dX2_byteHere_8 : decode cX2_byteHere 8 = .ok (.if_icmp .ge 15, 3) := by decide +kernel
theorem dX2_byteHere_11 : decode cX2_byteHere 11 = .ok (.aload_n 0, 1) := by decide +kernel
theorem dX2_byteHere_12 : decode cX2_byteHere 12 = .ok (.getfield 9, 3) := by decide +kernel
theorem dX2_byteHere_15 : decode cX2_byteHere 15 = .ok (.aload_n 0, 1) := by decide +kernel
theorem dX2_byteHere_16 : decode cX2_byteHere 16 = .ok (.getfield 19, 3) := by decide +kernel
theorem dX2_byteHere_19 : decode cX2_byteHere 19 = .ok (.iaload, 1) := by decide +kernel
theorem dX2_byteHere_20 : decode cX2_byteHere 20 = .ok (.goto 4, 3) := by decide +kernel
theorem dX2_byteHere_23 : decode cX2_byteHere 23 = .ok (.iconst (-1), 1) := by decide +kernel
theorem dX2_byteHere_24 : decode cX2_byteHere 24 = .ok (.ireturn, 1) := by decide +kernel
theorem dX2_isTenFigure_0 : decode cX2_isTenFigure 0 = .ok (.iload_n 0, 1) := by decide +kernel
theorem dX2_isTenFigure_1 : decode cX2_isTenFigure 1 = .ok (.bipush 48, 2) := by decide +kernel
theorem dX2_isTenFigure_3 : decode cX2_isTenFigure 3 = .ok (.if_icmp .lt 13, 3) := by decide +kernel
theorem dX2_isTenFigure_6 : decode cX2_isTenFigure 6 = .ok (.iload_n 0, 1) := by decide +kernel
theorem dX2_isTenFigure_7 : decode cX2_isTenFigure 7 = .ok (.bipush 57, 2) := by decide +kernel
theorem dX2_isTenFigure_9 : decode cX2_isTenFigure 9 = .ok (.if_icmp .gt 7, 3) := by decide +kernel
theorem dX2_isTenFigure_12 : decode cX2_isTenFigure 12 = .ok (.iconst 1, 1) := by decide +kernel
theorem dX2_isTenFigure_13 : decode cX2_isTenFigure 13 = .ok (.goto 4, 3) := by decide +kernel
theorem dX2_isTenFigure_16 : decode cX2_isTenFigure 16 = .ok (.iconst 0, 1) := by decide +kernel
theorem dX2_isTenFigure_17 : decode cX2_isTenFigure 17 = .ok (.ireturn, 1) := by decide +kernel
theorem dX2_figureOf_0 : decode cX2_figureOf 0 = .ok (.iload_n 0, 1) := by decide +kernel
theorem dX2_figureOf_1 : decode cX2_figureOf 1 = .ok (.invokestatic 59, 3) := by decide +kernel
theorem dX2_figureOf_4 : decode cX2_figureOf 4 = .ok (.ifCond .eq 8, 3) := by decide +kernel
theorem dX2_figureOf_7 : decode cX2_figureOf 7 = .ok (.iload_n 0, 1) := by decide +kernel
theorem dX2_figureOf_8 : decode cX2_figureOf 8 = .ok (.bipush 48, 2) := by decide +kernel
theorem dX2_figureOf_10 : decode cX2_figureOf 10 = .ok (.isub, 1) := by decide +kernel
theorem dX2_figureOf_11 : decode cX2_figureOf 11 = .ok (.ireturn, 1) := by decide +kernel
theorem dX2_figureOf_12 : decode cX2_figureOf 12 = .ok (.iload_n 0, 1) := by decide +kernel
theorem dX2_figureOf_13 : decode cX2_figureOf 13 = .ok (.bipush 97, 2) := by decide +kernel
theorem dX2_figureOf_15 : decode cX2_figureOf 15 = .ok (.if_icmp .lt 19, 3) := by decide +kernel
theorem dX2_figureOf_18 : decode cX2_figureOf 18 = .ok (.iload_n 0, 1) := by decide +kernel
theorem dX2_figureOf_19 : decode cX2_figureOf 19 = .ok (.bipush 102, 2) := by decide +kernel
theorem dX2_figureOf_21 : decode cX2_figureOf 21 = .ok (.if_icmp .gt 13, 3) := by decide +kernel
theorem dX2_figureOf_24 : decode cX2_figureOf 24 = .ok (.iload_n 0, 1) := by decide +kernel
theorem dX2_figureOf_25 : decode cX2_figureOf 25 = .ok (.bipush 97, 2) := by decide +kernel
theorem dX2_figureOf_27 : decode cX2_figureOf 27 = .ok (.isub, 1) := by decide +kernel
theorem dX2_figureOf_28 : decode cX2_figureOf 28 = .ok (.bipush 10, 2) := by decide +kernel
theorem dX2_figureOf_30 : decode cX2_figureOf 30 = .ok (.iadd, 1) := by decide +kernel
theorem dX2_figureOf_31 : decode cX2_figureOf 31 = .ok (.goto 4, 3) := by decide +kernel
theorem dX2_figureOf_34 : decode cX2_figureOf 34 = .ok (.iconst (-1), 1) := by decide +kernel
theorem dX2_figureOf_35 : decode cX2_figureOf 35 = .ok (.ireturn, 1) := by decide +kernel
end
section
theorem dX3_init_0 : decode cX3_init 0 = .ok (.aload_n 0, 1) := by decide +kernel
theorem dX3_init_1 : decode cX3_init 1 = .ok (.invokespecial 1, 3) := by decide +kernel
theorem dX3_init_4 : decode cX3_init 4 = .ok (.aload_n 0, 1) := by decide +kernel
theorem dX3_init_5 : decode cX3_init 5 = .ok (.new 7, 3) := by decide +kernel
theorem dX3_init_8 : decode cX3_init 8 = .ok (.dup, 1) := by decide +kernel
theorem dX3_init_9 : decode cX3_init 9 = .ok (.invokespecial 9, 3) := by decide +kernel
theorem dX3_init_12 : decode cX3_init 12 = .ok (.putfield 10, 3) := by decide +kernel
theorem dX3_init_15 : decode cX3_init 15 = .ok (.aload_n 0, 1) := by decide +kernel
theorem dX3_init_16 : decode cX3_init 16 = .ok (.bipush 6, 2) := by decide +kernel
theorem dX3_init_18 : decode cX3_init 18 = .ok (.anewarray 7, 3) := by decide +kernel
theorem dX3_init_21 : decode cX3_init 21 = .ok (.putfield 16, 3) := by decide +kernel
theorem dX3_init_24 : decode cX3_init 24 = .ok (.iconst 0, 1) := by decide +kernel
theorem dX3_init_25 : decode cX3_init 25 = .ok (.istore_n 1, 1) := by decide +kernel
theorem dX3_init_26 : decode cX3_init 26 = .ok (.iload_n 1, 1) := by decide +kernel
theorem dX3_init_27 : decode cX3_init 27 = .ok (.aload_n 0, 1) := by decide +kernel
theorem dX3_init_28 : decode cX3_init 28 = .ok (.getfield 16, 3) := by decide +kernel
theorem dX3_init_31 : decode cX3_init 31 = .ok (.arraylength, 1) := by decide +kernel
theorem dX3_init_32 : decode cX3_init 32 = .ok (.if_icmp .ge 22, 3) := by decide +kernel
theorem dX3_init_35 : decode cX3_init 35 = .ok (.aload_n 0, 1) := by decide +kernel
theorem dX3_init_36 : decode cX3_init 36 = .ok (.getfield 16, 3) := by decide +kernel
theorem dX3_init_39 : decode cX3_init 39 = .ok (.iload_n 1, 1) := by decide +kernel
theorem dX3_init_40 : decode cX3_init 40 = .ok (.new 7, 3) := by decide +kernel
theorem dX3_init_43 : decode cX3_init 43 = .ok (.dup, 1) := by decide +kernel
theorem dX3_init_44 : decode cX3_init 44 = .ok (.invokespecial 9, 3) := by decide +kernel
theorem dX3_init_47 : decode cX3_init 47 = .ok (.aastore, 1) := by decide +kernel
theorem dX3_init_48 : decode cX3_init 48 = .ok (.iinc 1 1, 3) := by decide +kernel
theorem dX3_init_51 : decode cX3_init 51 = .ok (.goto (-25), 3) := by decide +kernel
theorem dX3_init_54 : decode cX3_init 54 = .ok (.aload_n 0, 1) := by decide +kernel
theorem dX3_init_55 : decode cX3_init 55 = .ok (.iconst 0, 1) := by decide +kernel
theorem dX3_init_56 : decode cX3_init 56 = .ok (.putfield 20, 3) := by decide +kernel
theorem dX3_init_59 : decode cX3_init 59 = .ok (.aload_n 0, 1) := by decide +kernel
theorem dX3_init_60 : decode cX3_init 60 = .ok (.iconst 3, 1) := by decide +kernel
theorem dX3_init_61 : decode cX3_init 61 = .ok (.newarray .int, 2) := by decide +kernel
theorem dX3_init_63 : decode cX3_init 63 = .ok (.putfield 24, 3) := by decide +kernel
theorem dX3_init_66 : decode cX3_init 66 = .ok (.aload_n 0, 1) := by decide +kernel
theorem dX3_init_67 : decode cX3_init 67 = .ok (.new 28, 3) := by decide +kernel
theorem dX3_init_70 : decode cX3_init 70 = .ok (.dup, 1) := by decide +kernel
theorem dX3_init_71 : decode cX3_init 71 = .ok (.invokespecial 30, 3) := by decide +kernel
theorem dX3_init_74 : decode cX3_init 74 = .ok (.putfield 31, 3) := by decide +kernel
theorem dX3_init_77 : decode cX3_init 77 = .ok (.aload_n 0, 1) := by decide +kernel
theorem dX3_init_78 : decode cX3_init 78 = .ok (.new 35, 3) := by decide +kernel
theorem dX3_init_81 : decode cX3_init 81 = .ok (.dup, 1) := by decide +kernel
theorem dX3_init_82 : decode cX3_init 82 = .ok (.invokespecial 37, 3) := by decide +kernel
theorem dX3_init_85 : decode cX3_init 85 = .ok (.putfield 38, 3) := by decide +kernel
theorem dX3_init_88 : decode cX3_init 88 = .ok (.return_, 1) := by decide +kernel
theorem dX3_colour_0 : decode cX3_colour 0 = .ok (.aload_n 0, 1) := by decide +kernel
theorem dX3_colour_1 : decode cX3_colour 1 = .ok (.iload_n 1, 1) := by decide +kernel
theorem dX3_colour_2 : decode cX3_colour 2 = .ok (.iload_n 2, 1) := by decide +kernel
theorem dX3_colour_3 : decode cX3_colour 3 = .ok (.iload_n 3, 1) := by decide +kernel
theorem dX3_colour_4 : decode cX3_colour 4 = .ok (.invokevirtual 42, 3) := by decide +kernel
theorem dX3_colour_7 : decode cX3_colour 7 = .ok (.istore 4, 2) := by decide +kernel
theorem dX3_colour_9 : decode cX3_colour 9 = .ok (.iload 4, 2) := by decide +kernel
theorem dX3_colour_11 : decode cX3_colour 11 = .ok (.ifCond .eq 10, 3) := by decide +kernel
theorem dX3_colour_14 : decode cX3_colour 14 = .ok (.aload_n 0, 1) := by decide +kernel
theorem dX3_colour_15 : decode cX3_colour 15 = .ok (.iload 4, 2) := by decide +kernel
theorem dX3_colour_17 : decode cX3_colour 17 = .ok (.invokevirtual 46, 3) := by decide +kernel
theorem dX3_colour_20 : decode cX3_colour 20 = .ok (.ireturn, 1) := by decide +kernel
theorem dX3_colour_21 : decode cX3_colour 21 = .ok (.aload_n 0, 1) := by decide +kernel
theorem dX3_colour_22 : decode cX3_colour 22 = .ok (.invokevirtual 50, 3) := by decide +kernel
theorem dX3_colour_25 : decode cX3_colour 25 = .ok (.aload_n 0, 1) := by decide +kernel
theorem dX3_colour_26 : decode cX3_colour 26 = .ok (.getfield 10, 3) := by decide +kernel
theorem dX3_colour_29 : decode cX3_colour 29 = .ok (.iload_n 1, 1) := by decide +kernel
theorem dX3_colour_30 : decode cX3_colour 30 = .ok (.iload_n 2, 1) := by decide +kernel
theorem dX3_colour_31 : decode cX3_colour 31 = .ok (.iload_n 3, 1) := by decide +kernel
theorem dX3_colour_32 : decode cX3_colour 32 = .ok (.invokevirtual 53, 3) := by decide +kernel
theorem dX3_colour_35 : decode cX3_colour 35 = .ok (.ireturn, 1) := by decide +kernel
theorem dX3_paints_0 : decode cX3_paints 0 = .ok (.aload_n 0, 1) := by decide +kernel
theorem dX3_paints_1 : decode cX3_paints 1 = .ok (.iload_n 1, 1) := by decide +kernel
theorem dX3_paints_2 : decode cX3_paints 2 = .ok (.invokevirtual 56, 3) := by decide +kernel
theorem dX3_paints_5 : decode cX3_paints 5 = .ok (.ifCond .eq 13, 3) := by decide +kernel
theorem dX3_paints_8 : decode cX3_paints 8 = .ok (.iload_n 2, 1) := by decide +kernel
theorem dX3_paints_9 : decode cX3_paints 9 = .ok (.iload_n 3, 1) := by decide +kernel
theorem dX3_paints_10 : decode cX3_paints 10 = .ok (.iload 4, 2) := by decide +kernel
theorem dX3_paints_12 : decode cX3_paints 12 = .ok (.invokestatic 60, 3) := by decide +kernel
theorem dX3_paints_15 : decode cX3_paints 15 = .ok (.ifCond .ne 10, 3) := by decide +kernel
theorem dX3_paints_18 : decode cX3_paints 18 = .ok (.aload_n 0, 1) := by decide +kernel
theorem dX3_paints_19 : decode cX3_paints 19 = .ok (.bipush (-2), 2) := by decide +kernel
theorem dX3_paints_21 : decode cX3_paints 21 = .ok (.invokevirtual 46, 3) := by decide +kernel
theorem dX3_paints_24 : decode cX3_paints 24 = .ok (.ireturn, 1) := by decide +kernel
theorem dX3_paints_25 : decode cX3_paints 25 = .ok (.aload_n 0, 1) := by decide +kernel
theorem dX3_paints_26 : decode cX3_paints 26 = .ok (.invokevirtual 50, 3) := by decide +kernel
theorem dX3_paints_29 : decode cX3_paints 29 = .ok (.aload_n 0, 1) := by decide +kernel
theorem dX3_paints_30 : decode cX3_paints 30 = .ok (.getfield 10, 3) := by decide +kernel
theorem dX3_paints_33 : decode cX3_paints 33 = .ok (.getfield 64, 3) := by decide +kernel
theorem dX3_paints_36 : decode cX3_paints 36 = .ok (.iconst 3, 1) := by decide +kernel
theorem dX3_paints_37 : decode cX3_paints 37 = .ok (.iload_n 1, 1) := by decide +kernel
theorem dX3_paints_38 : decode cX3_paints 38 = .ok (.imul, 1) := by decide +kernel
theorem dX3_paints_39 : decode cX3_paints 39 = .ok (.iload_n 2, 1) := by decide +kernel
theorem dX3_paints_40 : decode cX3_paints 40 = .ok (.iload_n 3, 1) := by decide +kernel
theorem dX3_paints_41 : decode cX3_paints 41 = .ok (.iload 4, 2) := by decide +kernel
theorem dX3_paints_43 : decode cX3_paints 43 = .ok (.invokestatic 67, 3) := by decide +kernel
theorem dX3_paints_46 : decode cX3_paints 46 = .ok (.ireturn, 1) := by decide +kernel
theorem dX3_ground_0 : decode cX3_ground 0 = .ok (.iload_n 1, 1) := by decide +kernel
theorem dX3_ground_1 : decode cX3_ground 1 = .ok (.iload_n 2, 1) := by decide +kernel
theorem dX3_ground_2 : decode cX3_ground 2 = .ok (.iload_n 3, 1) := by decide +kernel
theorem dX3_ground_3 : decode cX3_ground 3 = .ok (.invokestatic 60, 3) := by decide +kernel
theorem dX3_ground_6 : decode cX3_ground 6 = .ok (.ifCond .ne 10, 3) := by decide +kernel
theorem dX3_ground_9 : decode cX3_ground 9 = .ok (.aload_n 0, 1) := by decide +kernel
theorem dX3_ground_10 : decode cX3_ground 10 = .ok (.bipush (-2), 2) := by decide +kernel
theorem dX3_ground_12 : decode cX3_ground 12 = .ok (.invokevirtual 46, 3) := by decide +kernel
theorem dX3_ground_15 : decode cX3_ground 15 = .ok (.ireturn, 1) := by decide +kernel
theorem dX3_ground_16 : decode cX3_ground 16 = .ok (.aload_n 0, 1) := by decide +kernel
theorem dX3_ground_17 : decode cX3_ground 17 = .ok (.invokevirtual 50, 3) := by decide +kernel
theorem dX3_ground_20 : decode cX3_ground 20 = .ok (.aload_n 0, 1) := by decide +kernel
theorem dX3_ground_21 : decode cX3_ground 21 = .ok (.getfield 10, 3) := by decide +kernel
theorem dX3_ground_24 : decode cX3_ground 24 = .ok (.getfield 71, 3) := by decide +kernel
theorem dX3_ground_27 : decode cX3_ground 27 = .ok (.iconst 0, 1) := by decide +kernel
theorem dX3_ground_28 : decode cX3_ground 28 = .ok (.iload_n 1, 1) := by decide +kernel
theorem dX3_ground_29 : decode cX3_ground 29 = .ok (.iload_n 2, 1) := by decide +kernel
theorem dX3_ground_30 : decode cX3_ground 30 = .ok (.iload_n 3, 1) := by decide +kernel
theorem dX3_ground_31 : decode cX3_ground 31 = .ok (.invokestatic 67, 3) := by decide +kernel
theorem dX3_ground_34 : decode cX3_ground 34 = .ok (.ireturn, 1) := by decide +kernel
theorem dX3_eye_0 : decode cX3_eye 0 = .ok (.iload_n 1, 1) := by decide +kernel
theorem dX3_eye_1 : decode cX3_eye 1 = .ok (.invokestatic 74, 3) := by decide +kernel
theorem dX3_eye_4 : decode cX3_eye 4 = .ok (.ifCond .eq 11, 3) := by decide +kernel
theorem dX3_eye_7 : decode cX3_eye 7 = .ok (.iload_n 2, 1) := by decide +kernel
theorem dX3_eye_8 : decode cX3_eye 8 = .ok (.iload_n 3, 1) := by decide +kernel
theorem dX3_eye_9 : decode cX3_eye 9 = .ok (.invokestatic 77, 3) := by decide +kernel
theorem dX3_eye_12 : decode cX3_eye 12 = .ok (.ifCond .ne 10, 3) := by decide +kernel
theorem dX3_eye_15 : decode cX3_eye 15 = .ok (.aload_n 0, 1) := by decide +kernel
theorem dX3_eye_16 : decode cX3_eye 16 = .ok (.bipush (-2), 2) := by decide +kernel
theorem dX3_eye_18 : decode cX3_eye 18 = .ok (.invokevirtual 46, 3) := by decide +kernel
theorem dX3_eye_21 : decode cX3_eye 21 = .ok (.ireturn, 1) := by decide +kernel
theorem dX3_eye_22 : decode cX3_eye 22 = .ok (.aload_n 0, 1) := by decide +kernel
theorem dX3_eye_23 : decode cX3_eye 23 = .ok (.invokevirtual 50, 3) := by decide +kernel
theorem dX3_eye_26 : decode cX3_eye 26 = .ok (.bipush 13, 2) := by decide +kernel
theorem dX3_eye_28 : decode cX3_eye 28 = .ok (.iload_n 1, 1) := by decide +kernel
theorem dX3_eye_29 : decode cX3_eye 29 = .ok (.imul, 1) := by decide +kernel
theorem dX3_eye_30 : decode cX3_eye 30 = .ok (.iload_n 2, 1) := by decide +kernel
theorem dX3_eye_31 : decode cX3_eye 31 = .ok (.iadd, 1) := by decide +kernel
theorem dX3_eye_32 : decode cX3_eye 32 = .ok (.istore 4, 2) := by decide +kernel
theorem dX3_eye_34 : decode cX3_eye 34 = .ok (.aload_n 0, 1) := by decide +kernel
theorem dX3_eye_35 : decode cX3_eye 35 = .ok (.getfield 10, 3) := by decide +kernel
theorem dX3_eye_38 : decode cX3_eye 38 = .ok (.getfield 81, 3) := by decide +kernel
theorem dX3_eye_41 : decode cX3_eye 41 = .ok (.iload 4, 2) := by decide +kernel
theorem dX3_eye_43 : decode cX3_eye 43 = .ok (.iaload, 1) := by decide +kernel
theorem dX3_eye_44 : decode cX3_eye 44 = .ok (.istore 5, 2) := by decide +kernel
theorem dX3_eye_46 : decode cX3_eye 46 = .ok (.aload_n 0, 1) := by decide +kernel
theorem dX3_eye_47 : decode cX3_eye 47 = .ok (.getfield 10, 3) := by decide +kernel
theorem dX3_eye_50 : decode cX3_eye 50 = .ok (.getfield 81, 3) := by decide +kernel
theorem dX3_eye_53 : decode cX3_eye 53 = .ok (.iload 4, 2) := by decide +kernel
theorem dX3_eye_55 : decode cX3_eye 55 = .ok (.iload_n 3, 1) := by decide +kernel
theorem dX3_eye_56 : decode cX3_eye 56 = .ok (.iastore, 1) := by decide +kernel
theorem dX3_eye_57 : decode cX3_eye 57 = .ok (.iload 5, 2) := by decide +kernel
theorem dX3_eye_59 : decode cX3_eye 59 = .ok (.ireturn, 1) := by decide +kernel
theorem dX3_sets_0 : decode cX3_sets 0 = .ok (.aload_n 0, 1) := by decide +kernel
theorem dX3_sets_1 : decode cX3_sets 1 = .ok (.iload_n 1, 1) := by decide +kernel
theorem dX3_sets_2 : decode cX3_sets 2 = .ok (.iload_n 2, 1) := by decide +kernel
theorem dX3_sets_3 : decode cX3_sets 3 = .ok (.invokevirtual 84, 3) := by decide +kernel
theorem dX3_sets_6 : decode cX3_sets 6 = .ok (.istore_n 3, 1) := by decide +kernel
theorem dX3_sets_7 : decode cX3_sets 7 = .ok (.iload_n 3, 1) := by decide +kernel
theorem dX3_sets_8 : decode cX3_sets 8 = .ok (.ifCond .eq 9, 3) := by decide +kernel
theorem dX3_sets_11 : decode cX3_sets 11 = .ok (.aload_n 0, 1) := by decide +kernel
theorem dX3_sets_12 : decode cX3_sets 12 = .ok (.iload_n 3, 1) := by decide +kernel
theorem dX3_sets_13 : decode cX3_sets 13 = .ok (.invokevirtual 46, 3) := by decide +kernel
theorem dX3_sets_16 : decode cX3_sets 16 = .ok (.ireturn, 1) := by decide +kernel
theorem dX3_sets_17 : decode cX3_sets 17 = .ok (.aload_n 0, 1) := by decide +kernel
theorem dX3_sets_18 : decode cX3_sets 18 = .ok (.invokevirtual 50, 3) := by decide +kernel
theorem dX3_sets_21 : decode cX3_sets 21 = .ok (.aload_n 0, 1) := by decide +kernel
theorem dX3_sets_22 : decode cX3_sets 22 = .ok (.getfield 10, 3) := by decide +kernel
theorem dX3_sets_25 : decode cX3_sets 25 = .ok (.iload_n 1, 1) := by decide +kernel
theorem dX3_sets_26 : decode cX3_sets 26 = .ok (.iload_n 2, 1) := by decide +kernel
theorem dX3_sets_27 : decode cX3_sets 27 = .ok (.invokevirtual 88, 3) := by decide +kernel
theorem dX3_sets_30 : decode cX3_sets 30 = .ok (.ireturn, 1) := by decide +kernel
theorem dX3_fixes_0 : decode cX3_fixes 0 = .ok (.aload_n 0, 1) := by decide +kernel
theorem dX3_fixes_1 : decode cX3_fixes 1 = .ok (.iload_n 1, 1) := by decide +kernel
theorem dX3_fixes_2 : decode cX3_fixes 2 = .ok (.iload_n 2, 1) := by decide +kernel
theorem dX3_fixes_3 : decode cX3_fixes 3 = .ok (.invokevirtual 91, 3) := by decide +kernel
theorem dX3_fixes_6 : decode cX3_fixes 6 = .ok (.istore_n 3, 1) := by decide +kernel
theorem dX3_fixes_7 : decode cX3_fixes 7 = .ok (.iload_n 3, 1) := by decide +kernel
theorem dX3_fixes_8 : decode cX3_fixes 8 = .ok (.ifCond .eq 9, 3) := by decide +kernel
theorem dX3_fixes_11 : decode cX3_fixes 11 = .ok (.aload_n 0, 1) := by decide +kernel
theorem dX3_fixes_12 : decode cX3_fixes 12 = .ok (.iload_n 3, 1) := by decide +kernel
theorem dX3_fixes_13 : decode cX3_fixes 13 = .ok (.invokevirtual 46, 3) := by decide +kernel
theorem dX3_fixes_16 : decode cX3_fixes 16 = .ok (.ireturn, 1) := by decide +kernel
theorem dX3_fixes_17 : decode cX3_fixes 17 = .ok (.aload_n 0, 1) := by decide +kernel
theorem dX3_fixes_18 : decode cX3_fixes 18 = .ok (.invokevirtual 50, 3) := by decide +kernel
theorem dX3_fixes_21 : decode cX3_fixes 21 = .ok (.aload_n 0, 1) := by decide +kernel
theorem dX3_fixes_22 : decode cX3_fixes 22 = .ok (.getfield 10, 3) := by decide +kernel
theorem dX3_fixes_25 : decode cX3_fixes 25 = .ok (.iload_n 1, 1) := by decide +kernel
theorem dX3_fixes_26 : decode cX3_fixes 26 = .ok (.iload_n 2, 1) := by decide +kernel
theorem dX3_fixes_27 : decode cX3_fixes 27 = .ok (.invokevirtual 94, 3) := by decide +kernel
theorem dX3_fixes_30 : decode cX3_fixes 30 = .ok (.ireturn, 1) := by decide +kernel
theorem dX3_of_0 : decode cX3_of 0 = .ok (.aload_n 0, 1) := by decide +kernel
theorem dX3_of_1 : decode cX3_of 1 = .ok (.iload_n 1, 1) := by decide +kernel
theorem dX3_of_2 : decode cX3_of 2 = .ok (.invokevirtual 56, 3) := by decide +kernel
theorem dX3_of_5 : decode cX3_of 5 = .ok (.ifCond .eq 12, 3) := by decide +kernel
theorem dX3_of_8 : decode cX3_of 8 = .ok (.iload_n 2, 1) := by decide +kernel
theorem dX3_of_9 : decode cX3_of 9 = .ok (.iconst 0, 1) := by decide +kernel
theorem dX3_of_10 : decode cX3_of 10 = .ok (.iconst 5, 1) := by decide +kernel
theorem dX3_of_11 : decode cX3_of 11 = .ok (.invokestatic 97, 3) := by decide +kernel
theorem dX3_of_14 : decode cX3_of 14 = .ok (.ifCond .ne 10, 3) := by decide +kernel
theorem dX3_of_17 : decode cX3_of 17 = .ok (.aload_n 0, 1) := by decide +kernel
theorem dX3_of_18 : decode cX3_of 18 = .ok (.bipush (-2), 2) := by decide +kernel
theorem dX3_of_20 : decode cX3_of 20 = .ok (.invokevirtual 46, 3) := by decide +kernel
theorem dX3_of_23 : decode cX3_of 23 = .ok (.ireturn, 1) := by decide +kernel
theorem dX3_of_24 : decode cX3_of 24 = .ok (.iload_n 2, 1) := by decide +kernel
theorem dX3_of_25 : decode cX3_of 25 = .ok (.tableswitch 70 3 5 #[27, 44, 61], 27) := by decide +kernel
theorem dX3_of_52 : decode cX3_of 52 = .ok (.aload_n 0, 1) := by decide +kernel
theorem dX3_of_53 : decode cX3_of 53 = .ok (.getfield 10, 3) := by decide +kernel
theorem dX3_of_56 : decode cX3_of 56 = .ok (.iload_n 1, 1) := by decide +kernel
theorem dX3_of_57 : decode cX3_of 57 = .ok (.invokevirtual 100, 3) := by decide +kernel
theorem dX3_of_60 : decode cX3_of 60 = .ok (.ifCond .eq 7, 3) := by decide +kernel
theorem dX3_of_63 : decode cX3_of 63 = .ok (.iconst 1, 1) := by decide +kernel
theorem dX3_of_64 : decode cX3_of 64 = .ok (.goto 4, 3) := by decide +kernel
theorem dX3_of_67 : decode cX3_of 67 = .ok (.iconst 0, 1) := by decide +kernel
theorem dX3_of_68 : decode cX3_of 68 = .ok (.ireturn, 1) := by decide +kernel
theorem dX3_of_69 : decode cX3_of 69 = .ok (.aload_n 0, 1) := by decide +kernel
theorem dX3_of_70 : decode cX3_of 70 = .ok (.getfield 10, 3) := by decide +kernel
theorem dX3_of_73 : decode cX3_of 73 = .ok (.iload_n 1, 1) := by decide +kernel
theorem dX3_of_74 : decode cX3_of 74 = .ok (.invokevirtual 103, 3) := by decide +kernel
theorem dX3_of_77 : decode cX3_of 77 = .ok (.ifCond .eq 7, 3) := by decide +kernel
theorem dX3_of_80 : decode cX3_of 80 = .ok (.iconst 1, 1) := by decide +kernel
theorem dX3_of_81 : decode cX3_of 81 = .ok (.goto 4, 3) := by decide +kernel
theorem dX3_of_84 : decode cX3_of 84 = .ok (.iconst 0, 1) := by decide +kernel
theorem dX3_of_85 : decode cX3_of 85 = .ok (.ireturn, 1) := by decide +kernel
theorem dX3_of_86 : decode cX3_of 86 = .ok (.aload_n 0, 1) := by decide +kernel
theorem dX3_of_87 : decode cX3_of 87 = .ok (.getfield 10, 3) := by decide +kernel
theorem dX3_of_90 : decode cX3_of 90 = .ok (.iload_n 1, 1) := by decide +kernel
theorem dX3_of_91 : decode cX3_of 91 = .ok (.invokevirtual 106, 3) := by decide +kernel
theorem dX3_of_94 : decode cX3_of 94 = .ok (.ireturn, 1) := by decide +kernel
theorem dX3_of_95 : decode cX3_of 95 = .ok (.aload_n 0, 1) := by decide +kernel
theorem dX3_of_96 : decode cX3_of 96 = .ok (.getfield 10, 3) := by decide +kernel
theorem dX3_of_99 : decode cX3_of 99 = .ok (.getfield 64, 3) := by decide +kernel
theorem dX3_of_102 : decode cX3_of 102 = .ok (.iconst 3, 1) := by decide +kernel
theorem dX3_of_103 : decode cX3_of 103 = .ok (.iload_n 1, 1) := by decide +kernel
theorem dX3_of_104 : decode cX3_of 104 = .ok (.imul, 1) := by decide +kernel
theorem dX3_of_105 : decode cX3_of 105 = .ok (.iload_n 2, 1) := by decide +kernel
theorem dX3_of_106 : decode cX3_of 106 = .ok (.iadd, 1) := by decide +kernel
theorem dX3_of_107 : decode cX3_of 107 = .ok (.iaload, 1) := by decide +kernel
theorem dX3_of_108 : decode cX3_of 108 = .ok (.ireturn, 1) := by decide +kernel
theorem dX3_look_0 : decode cX3_look 0 = .ok (.iload_n 1, 1) := by decide +kernel
theorem dX3_look_1 : decode cX3_look 1 = .ok (.invokestatic 74, 3) := by decide +kernel
theorem dX3_look_4 : decode cX3_look 4 = .ok (.ifCond .eq 13, 3) := by decide +kernel
theorem dX3_look_7 : decode cX3_look 7 = .ok (.iload_n 2, 1) := by decide +kernel
theorem dX3_look_8 : decode cX3_look 8 = .ok (.iconst 0, 1) := by decide +kernel
theorem dX3_look_9 : decode cX3_look 9 = .ok (.bipush 12, 2) := by decide +kernel
theorem dX3_look_11 : decode cX3_look 11 = .ok (.invokestatic 97, 3) := by decide +kernel
theorem dX3_look_14 : decode cX3_look 14 = .ok (.ifCond .ne 10, 3) := by decide +kernel
theorem dX3_look_17 : decode cX3_look 17 = .ok (.aload_n 0, 1) := by decide +kernel
theorem dX3_look_18 : decode cX3_look 18 = .ok (.bipush (-2), 2) := by decide +kernel
theorem dX3_look_20 : decode cX3_look 20 = .ok (.invokevirtual 46, 3) := by decide +kernel
theorem dX3_look_23 : decode cX3_look 23 = .ok (.ireturn, 1) := by decide +kernel
theorem dX3_look_24 : decode cX3_look 24 = .ok (.aload_n 0, 1) := by decide +kernel
theorem dX3_look_25 : decode cX3_look 25 = .ok (.getfield 10, 3) := by decide +kernel
theorem dX3_look_28 : decode cX3_look 28 = .ok (.getfield 81, 3) := by decide +kernel
theorem dX3_look_31 : decode cX3_look 31 = .ok (.bipush 13, 2) := by decide +kernel
theorem dX3_look_33 : decode cX3_look 33 = .ok (.iload_n 1, 1) := by decide +kernel
theorem dX3_look_34 : decode cX3_look 34 = .ok (.imul, 1) := by decide +kernel
theorem dX3_look_35 : decode cX3_look 35 = .ok (.iload_n 2, 1) := by decide +kernel
theorem dX3_look_36 : decode cX3_look 36 = .ok (.iadd, 1) := by decide +kernel
theorem dX3_look_37 : decode cX3_look 37 = .ok (.iaload, 1) := by decide +kernel
theorem dX3_look_38 : decode cX3_look 38 = .ok (.ireturn, 1) := by decide +kernel
theorem dX3_light_0 : decode cX3_light 0 = .ok (.aload_n 0, 1) := by decide +kernel
theorem dX3_light_1 : decode cX3_light 1 = .ok (.iload_n 1, 1) := by decide +kernel
theorem dX3_light_2 : decode cX3_light 2 = .ok (.invokevirtual 56, 3) := by decide +kernel
theorem dX3_light_5 : decode cX3_light 5 = .ok (.ifCond .ne 10, 3) := by decide +kernel
theorem dX3_light_8 : decode cX3_light 8 = .ok (.aload_n 0, 1) := by decide +kernel
theorem dX3_light_9 : decode cX3_light 9 = .ok (.bipush (-2), 2) := by decide +kernel
theorem dX3_light_11 : decode cX3_light 11 = .ok (.invokevirtual 46, 3) := by decide +kernel
theorem dX3_light_14 : decode cX3_light 14 = .ok (.ireturn, 1) := by decide +kernel
theorem dX3_light_15 : decode cX3_light 15 = .ok (.aload_n 0, 1) := by decide +kernel
theorem dX3_light_16 : decode cX3_light 16 = .ok (.getfield 10, 3) := by decide +kernel
theorem dX3_light_19 : decode cX3_light 19 = .ok (.iload_n 1, 1) := by decide +kernel
theorem dX3_light_20 : decode cX3_light 20 = .ok (.invokevirtual 109, 3) := by decide +kernel
theorem dX3_light_23 : decode cX3_light 23 = .ok (.invokestatic 113, 3) := by decide +kernel
theorem dX3_light_26 : decode cX3_light 26 = .ok (.ireturn, 1) := by decide +kernel
theorem dX3_seen_0 : decode cX3_seen 0 = .ok (.iload_n 1, 1) := by decide +kernel
theorem dX3_seen_1 : decode cX3_seen 1 = .ok (.invokestatic 74, 3) := by decide +kernel
theorem dX3_seen_4 : decode cX3_seen 4 = .ok (.ifCond .eq 20, 3) := by decide +kernel
theorem dX3_seen_7 : decode cX3_seen 7 = .ok (.aload_n 0, 1) := by decide +kernel
theorem dX3_seen_8 : decode cX3_seen 8 = .ok (.iload_n 2, 1) := by decide +kernel
theorem dX3_seen_9 : decode cX3_seen 9 = .ok (.invokevirtual 56, 3) := by decide +kernel
theorem dX3_seen_12 : decode cX3_seen 12 = .ok (.ifCond .eq 12, 3) := by decide +kernel
theorem dX3_seen_15 : decode cX3_seen 15 = .ok (.iload_n 3, 1) := by decide +kernel
theorem dX3_seen_16 : decode cX3_seen 16 = .ok (.iconst 0, 1) := by decide +kernel
theorem dX3_seen_17 : decode cX3_seen 17 = .ok (.iconst 2, 1) := by decide +kernel
theorem dX3_seen_18 : decode cX3_seen 18 = .ok (.invokestatic 97, 3) := by decide +kernel
theorem dX3_seen_21 : decode cX3_seen 21 = .ok (.ifCond .ne 10, 3) := by decide +kernel
theorem dX3_seen_24 : decode cX3_seen 24 = .ok (.aload_n 0, 1) := by decide +kernel
theorem dX3_seen_25 : decode cX3_seen 25 = .ok (.bipush (-2), 2) := by decide +kernel
theorem dX3_seen_27 : decode cX3_seen 27 = .ok (.invokevirtual 46, 3) := by decide +kernel
theorem dX3_seen_30 : decode cX3_seen 30 = .ok (.ireturn, 1) := by decide +kernel
theorem dX3_seen_31 : decode cX3_seen 31 = .ok (.aload_n 0, 1) := by decide +kernel
theorem dX3_seen_32 : decode cX3_seen 32 = .ok (.getfield 10, 3) := by decide +kernel
theorem dX3_seen_35 : decode cX3_seen 35 = .ok (.iload_n 1, 1) := by decide +kernel
theorem dX3_seen_36 : decode cX3_seen 36 = .ok (.iload_n 2, 1) := by decide +kernel
theorem dX3_seen_37 : decode cX3_seen 37 = .ok (.iload_n 3, 1) := by decide +kernel
theorem dX3_seen_38 : decode cX3_seen 38 = .ok (.invokevirtual 117, 3) := by decide +kernel
theorem dX3_seen_41 : decode cX3_seen 41 = .ok (.ifCond .eq 8, 3) := by decide +kernel
theorem dX3_seen_44 : decode cX3_seen 44 = .ok (.ldc 120, 2) := by decide +kernel
theorem dX3_seen_46 : decode cX3_seen 46 = .ok (.goto 16, 3) := by decide +kernel
theorem dX3_seen_49 : decode cX3_seen 49 = .ok (.aload_n 0, 1) := by decide +kernel
theorem dX3_seen_50 : decode cX3_seen 50 = .ok (.getfield 10, 3) := by decide +kernel
theorem dX3_seen_53 : decode cX3_seen 53 = .ok (.iload_n 1, 1) := by decide +kernel
theorem dX3_seen_54 : decode cX3_seen 54 = .ok (.iload_n 2, 1) := by decide +kernel
theorem dX3_seen_55 : decode cX3_seen 55 = .ok (.iload_n 3, 1) := by decide +kernel
theorem dX3_seen_56 : decode cX3_seen 56 = .ok (.invokevirtual 121, 3) := by decide +kernel
theorem dX3_seen_59 : decode cX3_seen 59 = .ok (.invokestatic 113, 3) := by decide +kernel
theorem dX3_seen_62 : decode cX3_seen 62 = .ok (.ireturn, 1) := by decide +kernel
theorem dX3_distance_0 : decode cX3_distance 0 = .ok (.iload_n 1, 1) := by decide +kernel
theorem dX3_distance_1 : decode cX3_distance 1 = .ok (.invokestatic 74, 3) := by decide +kernel
theorem dX3_distance_4 : decode cX3_distance 4 = .ok (.ifCond .eq 19, 3) := by decide +kernel
theorem dX3_distance_7 : decode cX3_distance 7 = .ok (.aload_n 0, 1) := by decide +kernel
theorem dX3_distance_8 : decode cX3_distance 8 = .ok (.iload_n 2, 1) := by decide +kernel
theorem dX3_distance_9 : decode cX3_distance 9 = .ok (.invokevirtual 56, 3) := by decide +kernel
theorem dX3_distance_12 : decode cX3_distance 12 = .ok (.ifCond .eq 11, 3) := by decide +kernel
theorem dX3_distance_15 : decode cX3_distance 15 = .ok (.aload_n 0, 1) := by decide +kernel
theorem dX3_distance_16 : decode cX3_distance 16 = .ok (.iload_n 3, 1) := by decide +kernel
theorem dX3_distance_17 : decode cX3_distance 17 = .ok (.invokevirtual 56, 3) := by decide +kernel
theorem dX3_distance_20 : decode cX3_distance 20 = .ok (.ifCond .ne 10, 3) := by decide +kernel
theorem dX3_distance_23 : decode cX3_distance 23 = .ok (.aload_n 0, 1) := by decide +kernel
theorem dX3_distance_24 : decode cX3_distance 24 = .ok (.bipush (-2), 2) := by decide +kernel
theorem dX3_distance_26 : decode cX3_distance 26 = .ok (.invokevirtual 46, 3) := by decide +kernel
theorem dX3_distance_29 : decode cX3_distance 29 = .ok (.ireturn, 1) := by decide +kernel
theorem dX3_distance_30 : decode cX3_distance 30 = .ok (.aload_n 0, 1) := by decide +kernel
theorem dX3_distance_31 : decode cX3_distance 31 = .ok (.getfield 10, 3) := by decide +kernel
theorem dX3_distance_34 : decode cX3_distance 34 = .ok (.iload_n 1, 1) := by decide +kernel
theorem dX3_distance_35 : decode cX3_distance 35 = .ok (.iload_n 2, 1) := by decide +kernel
theorem dX3_distance_36 : decode cX3_distance 36 = .ok (.iload_n 3, 1) := by decide +kernel
theorem dX3_distance_37 : decode cX3_distance 37 = .ok (.invokevirtual 125, 3) := by decide +kernel
theorem dX3_distance_40 : decode cX3_distance 40 = .ok (.invokestatic 113, 3) := by decide +kernel
theorem dX3_distance_43 : decode cX3_distance 43 = .ok (.ireturn, 1) := by decide +kernel
theorem dX3_apart_0 : decode cX3_apart 0 = .ok (.aload_n 0, 1) := by decide +kernel
theorem dX3_apart_1 : decode cX3_apart 1 = .ok (.iload_n 1, 1) := by decide +kernel
theorem dX3_apart_2 : decode cX3_apart 2 = .ok (.invokevirtual 56, 3) := by decide +kernel
theorem dX3_apart_5 : decode cX3_apart 5 = .ok (.ifCond .eq 11, 3) := by decide +kernel
theorem dX3_apart_8 : decode cX3_apart 8 = .ok (.aload_n 0, 1) := by decide +kernel
theorem dX3_apart_9 : decode cX3_apart 9 = .ok (.iload_n 2, 1) := by decide +kernel
theorem dX3_apart_10 : decode cX3_apart 10 = .ok (.invokevirtual 56, 3) := by decide +kernel
theorem dX3_apart_13 : decode cX3_apart 13 = .ok (.ifCond .ne 10, 3) := by decide +kernel
theorem dX3_apart_16 : decode cX3_apart 16 = .ok (.aload_n 0, 1) := by decide +kernel
theorem dX3_apart_17 : decode cX3_apart 17 = .ok (.bipush (-2), 2) := by decide +kernel
theorem dX3_apart_19 : decode cX3_apart 19 = .ok (.invokevirtual 46, 3) := by decide +kernel
theorem dX3_apart_22 : decode cX3_apart 22 = .ok (.ireturn, 1) := by decide +kernel
theorem dX3_apart_23 : decode cX3_apart 23 = .ok (.aload_n 0, 1) := by decide +kernel
theorem dX3_apart_24 : decode cX3_apart 24 = .ok (.getfield 10, 3) := by decide +kernel
theorem dX3_apart_27 : decode cX3_apart 27 = .ok (.iload_n 1, 1) := by decide +kernel
theorem dX3_apart_28 : decode cX3_apart 28 = .ok (.iload_n 2, 1) := by decide +kernel
theorem dX3_apart_29 : decode cX3_apart 29 = .ok (.invokevirtual 128, 3) := by decide +kernel
theorem dX3_apart_32 : decode cX3_apart 32 = .ok (.invokestatic 113, 3) := by decide +kernel
theorem dX3_apart_35 : decode cX3_apart 35 = .ok (.ireturn, 1) := by decide +kernel
theorem dX3_fills_0 : decode cX3_fills 0 = .ok (.aload_n 0, 1) := by decide +kernel
theorem dX3_fills_1 : decode cX3_fills 1 = .ok (.iload_n 1, 1) := by decide +kernel
theorem dX3_fills_2 : decode cX3_fills 2 = .ok (.invokevirtual 132, 3) := by decide +kernel
theorem dX3_fills_5 : decode cX3_fills 5 = .ok (.istore_n 2, 1) := by decide +kernel
theorem dX3_fills_6 : decode cX3_fills 6 = .ok (.iload_n 2, 1) := by decide +kernel
theorem dX3_fills_7 : decode cX3_fills 7 = .ok (.ifCond .eq 9, 3) := by decide +kernel
theorem dX3_fills_10 : decode cX3_fills 10 = .ok (.aload_n 0, 1) := by decide +kernel
theorem dX3_fills_11 : decode cX3_fills 11 = .ok (.iload_n 2, 1) := by decide +kernel
theorem dX3_fills_12 : decode cX3_fills 12 = .ok (.invokevirtual 46, 3) := by decide +kernel
theorem dX3_fills_15 : decode cX3_fills 15 = .ok (.ireturn, 1) := by decide +kernel
theorem dX3_fills_16 : decode cX3_fills 16 = .ok (.aload_n 0, 1) := by decide +kernel
theorem dX3_fills_17 : decode cX3_fills 17 = .ok (.invokevirtual 50, 3) := by decide +kernel
theorem dX3_fills_20 : decode cX3_fills 20 = .ok (.aload_n 0, 1) := by decide +kernel
theorem dX3_fills_21 : decode cX3_fills 21 = .ok (.getfield 38, 3) := by decide +kernel
theorem dX3_fills_24 : decode cX3_fills 24 = .ok (.aload_n 0, 1) := by decide +kernel
theorem dX3_fills_25 : decode cX3_fills 25 = .ok (.getfield 10, 3) := by decide +kernel
theorem dX3_fills_28 : decode cX3_fills 28 = .ok (.iload_n 1, 1) := by decide +kernel
theorem dX3_fills_29 : decode cX3_fills 29 = .ok (.invokevirtual 135, 3) := by decide +kernel
theorem dX3_fills_32 : decode cX3_fills 32 = .ok (.aload_n 0, 1) := by decide +kernel
theorem dX3_fills_33 : decode cX3_fills 33 = .ok (.getfield 10, 3) := by decide +kernel
theorem dX3_fills_36 : decode cX3_fills 36 = .ok (.getfield 139, 3) := by decide +kernel
theorem dX3_fills_39 : decode cX3_fills 39 = .ok (.ireturn, 1) := by decide +kernel
theorem dX3_swaps_0 : decode cX3_swaps 0 = .ok (.aload_n 0, 1) := by decide +kernel
theorem dX3_swaps_1 : decode cX3_swaps 1 = .ok (.invokevirtual 50, 3) := by decide +kernel
theorem dX3_swaps_4 : decode cX3_swaps 4 = .ok (.aload_n 0, 1) := by decide +kernel
theorem dX3_swaps_5 : decode cX3_swaps 5 = .ok (.getfield 38, 3) := by decide +kernel
theorem dX3_swaps_8 : decode cX3_swaps 8 = .ok (.aload_n 0, 1) := by decide +kernel
theorem dX3_swaps_9 : decode cX3_swaps 9 = .ok (.getfield 10, 3) := by decide +kernel
theorem dX3_swaps_12 : decode cX3_swaps 12 = .ok (.invokevirtual 142, 3) := by decide +kernel
theorem dX3_swaps_15 : decode cX3_swaps 15 = .ok (.ireturn, 1) := by decide +kernel
theorem dX3_palette_0 : decode cX3_palette 0 = .ok (.iload_n 1, 1) := by decide +kernel
theorem dX3_palette_1 : decode cX3_palette 1 = .ok (.ifCond .ge 10, 3) := by decide +kernel
theorem dX3_palette_4 : decode cX3_palette 4 = .ok (.aload_n 0, 1) := by decide +kernel
theorem dX3_palette_5 : decode cX3_palette 5 = .ok (.bipush (-2), 2) := by decide +kernel
theorem dX3_palette_7 : decode cX3_palette 7 = .ok (.invokevirtual 46, 3) := by decide +kernel
theorem dX3_palette_10 : decode cX3_palette 10 = .ok (.ireturn, 1) := by decide +kernel
theorem dX3_palette_11 : decode cX3_palette 11 = .ok (.iload_n 1, 1) := by decide +kernel
theorem dX3_palette_12 : decode cX3_palette 12 = .ok (.aload_n 0, 1) := by decide +kernel
theorem dX3_palette_13 : decode cX3_palette 13 = .ok (.getfield 10, 3) := by decide +kernel
theorem dX3_palette_16 : decode cX3_palette 16 = .ok (.getfield 139, 3) := by decide +kernel
theorem dX3_palette_19 : decode cX3_palette 19 = .ok (.if_icmp .ge 15, 3) := by decide +kernel
theorem dX3_palette_22 : decode cX3_palette 22 = .ok (.aload_n 0, 1) := by decide +kernel
theorem dX3_palette_23 : decode cX3_palette 23 = .ok (.getfield 10, 3) := by decide +kernel
theorem dX3_palette_26 : decode cX3_palette 26 = .ok (.getfield 146, 3) := by decide +kernel
theorem dX3_palette_29 : decode cX3_palette 29 = .ok (.iload_n 1, 1) := by decide +kernel
theorem dX3_palette_30 : decode cX3_palette 30 = .ok (.iaload, 1) := by decide +kernel
theorem dX3_palette_31 : decode cX3_palette 31 = .ok (.goto 4, 3) := by decide +kernel
theorem dX3_palette_34 : decode cX3_palette 34 = .ok (.iconst (-1), 1) := by decide +kernel
theorem dX3_palette_35 : decode cX3_palette 35 = .ok (.ireturn, 1) := by decide +kernel
theorem dX3_least_0 : decode cX3_least 0 = .ok (.aload_n 0, 1) := by decide +kernel
theorem dX3_least_1 : decode cX3_least 1 = .ok (.getfield 38, 3) := by decide +kernel
theorem dX3_least_4 : decode cX3_least 4 = .ok (.aload_n 0, 1) := by decide +kernel
theorem dX3_least_5 : decode cX3_least 5 = .ok (.getfield 10, 3) := by decide +kernel
theorem dX3_least_8 : decode cX3_least 8 = .ok (.invokevirtual 149, 3) := by decide +kernel
theorem dX3_least_11 : decode cX3_least 11 = .ok (.aload_n 0, 1) := by decide +kernel
theorem dX3_least_12 : decode cX3_least 12 = .ok (.getfield 38, 3) := by decide +kernel
theorem dX3_least_15 : decode cX3_least 15 = .ok (.aload_n 0, 1) := by decide +kernel
theorem dX3_least_16 : decode cX3_least 16 = .ok (.getfield 10, 3) := by decide +kernel
theorem dX3_least_19 : decode cX3_least 19 = .ok (.getfield 146, 3) := by decide +kernel
theorem dX3_least_22 : decode cX3_least 22 = .ok (.aload_n 0, 1) := by decide +kernel
theorem dX3_least_23 : decode cX3_least 23 = .ok (.getfield 10, 3) := by decide +kernel
theorem dX3_least_26 : decode cX3_least 26 = .ok (.getfield 139, 3) := by decide +kernel
theorem dX3_least_29 : decode cX3_least 29 = .ok (.invokevirtual 153, 3) := by decide +kernel
theorem dX3_least_32 : decode cX3_least 32 = .ok (.invokestatic 113, 3) := by decide +kernel
theorem dX3_least_35 : decode cX3_least 35 = .ok (.ireturn, 1) := by decide +kernel
theorem dX3_nearest_0 : decode cX3_nearest 0 = .ok (.aload_n 0, 1) := by decide +kernel
theorem dX3_nearest_1 : decode cX3_nearest 1 = .ok (.getfield 38, 3) := by decide +kernel
theorem dX3_nearest_4 : decode cX3_nearest 4 = .ok (.aload_n 0, 1) := by decide +kernel
theorem dX3_nearest_5 : decode cX3_nearest 5 = .ok (.getfield 10, 3) := by decide +kernel
theorem dX3_nearest_8 : decode cX3_nearest 8 = .ok (.invokevirtual 149, 3) := by decide +kernel
theorem dX3_nearest_11 : decode cX3_nearest 11 = .ok (.aload_n 0, 1) := by decide +kernel
theorem dX3_nearest_12 : decode cX3_nearest 12 = .ok (.getfield 38, 3) := by decide +kernel
theorem dX3_nearest_15 : decode cX3_nearest 15 = .ok (.aload_n 0, 1) := by decide +kernel
theorem dX3_nearest_16 : decode cX3_nearest 16 = .ok (.getfield 10, 3) := by decide +kernel
theorem dX3_nearest_19 : decode cX3_nearest 19 = .ok (.invokevirtual 157, 3) := by decide +kernel
theorem dX3_nearest_22 : decode cX3_nearest 22 = .ok (.ireturn, 1) := by decide +kernel
theorem dX3_best_0 : decode cX3_best 0 = .ok (.iload_n 1, 1) := by decide +kernel
theorem dX3_best_1 : decode cX3_best 1 = .ok (.iconst 1, 1) := by decide +kernel
theorem dX3_best_2 : decode cX3_best 2 = .ok (.iconst 4, 1) := by decide +kernel
theorem dX3_best_3 : decode cX3_best 3 = .ok (.invokestatic 97, 3) := by decide +kernel
theorem dX3_best_6 : decode cX3_best 6 = .ok (.ifCond .ne 10, 3) := by decide +kernel
theorem dX3_best_9 : decode cX3_best 9 = .ok (.aload_n 0, 1) := by decide +kernel
theorem dX3_best_10 : decode cX3_best 10 = .ok (.bipush (-2), 2) := by decide +kernel
theorem dX3_best_12 : decode cX3_best 12 = .ok (.invokevirtual 46, 3) := by decide +kernel
theorem dX3_best_15 : decode cX3_best 15 = .ok (.ireturn, 1) := by decide +kernel
theorem dX3_best_16 : decode cX3_best 16 = .ok (.aload_n 0, 1) := by decide +kernel
theorem dX3_best_17 : decode cX3_best 17 = .ok (.getfield 38, 3) := by decide +kernel
theorem dX3_best_20 : decode cX3_best 20 = .ok (.aload_n 0, 1) := by decide +kernel
theorem dX3_best_21 : decode cX3_best 21 = .ok (.getfield 10, 3) := by decide +kernel
theorem dX3_best_24 : decode cX3_best 24 = .ok (.iload_n 1, 1) := by decide +kernel
theorem dX3_best_25 : decode cX3_best 25 = .ok (.invokevirtual 160, 3) := by decide +kernel
theorem dX3_best_28 : decode cX3_best 28 = .ok (.ireturn, 1) := by decide +kernel
theorem dX3_mistaken_0 : decode cX3_mistaken 0 = .ok (.iload_n 1, 1) := by decide +kernel
theorem dX3_mistaken_1 : decode cX3_mistaken 1 = .ok (.invokestatic 74, 3) := by decide +kernel
theorem dX3_mistaken_4 : decode cX3_mistaken 4 = .ok (.ifCond .eq 14, 3) := by decide +kernel
theorem dX3_mistaken_7 : decode cX3_mistaken 7 = .ok (.iload_n 2, 1) := by decide +kernel
theorem dX3_mistaken_8 : decode cX3_mistaken 8 = .ok (.iconst 0, 1) := by decide +kernel
theorem dX3_mistaken_9 : decode cX3_mistaken 9 = .ok (.sipush 9999, 3) := by decide +kernel
theorem dX3_mistaken_12 : decode cX3_mistaken 12 = .ok (.invokestatic 97, 3) := by decide +kernel
theorem dX3_mistaken_15 : decode cX3_mistaken 15 = .ok (.ifCond .ne 10, 3) := by decide +kernel
theorem dX3_mistaken_18 : decode cX3_mistaken 18 = .ok (.aload_n 0, 1) := by decide +kernel
theorem dX3_mistaken_19 : decode cX3_mistaken 19 = .ok (.bipush (-2), 2) := by decide +kernel
theorem dX3_mistaken_21 : decode cX3_mistaken 21 = .ok (.invokevirtual 46, 3) := by decide +kernel
theorem dX3_mistaken_24 : decode cX3_mistaken 24 = .ok (.ireturn, 1) := by decide +kernel
theorem dX3_mistaken_25 : decode cX3_mistaken 25 = .ok (.aload_n 0, 1) := by decide +kernel
theorem dX3_mistaken_26 : decode cX3_mistaken 26 = .ok (.getfield 10, 3) := by decide +kernel
theorem dX3_mistaken_29 : decode cX3_mistaken 29 = .ok (.iload_n 1, 1) := by decide +kernel
theorem dX3_mistaken_30 : decode cX3_mistaken 30 = .ok (.iload_n 2, 1) := by decide +kernel
theorem dX3_mistaken_31 : decode cX3_mistaken 31 = .ok (.invokevirtual 164, 3) := by decide +kernel
theorem dX3_mistaken_34 : decode cX3_mistaken 34 = .ok (.ireturn, 1) := by decide +kernel
theorem dX3_count_0 : decode cX3_count 0 = .ok (.iload_n 1, 1) := by decide +kernel
theorem dX3_count_1 : decode cX3_count 1 = .ok (.iconst 0, 1) := by decide +kernel
theorem dX3_count_2 : decode cX3_count 2 = .ok (.bipush 7, 2) := by decide +kernel
theorem dX3_count_4 : decode cX3_count 4 = .ok (.invokestatic 97, 3) := by decide +kernel
theorem dX3_count_7 : decode cX3_count 7 = .ok (.ifCond .ne 10, 3) := by decide +kernel
theorem dX3_count_10 : decode cX3_count 10 = .ok (.aload_n 0, 1) := by decide +kernel
theorem dX3_count_11 : decode cX3_count 11 = .ok (.bipush (-2), 2) := by decide +kernel
theorem dX3_count_13 : decode cX3_count 13 = .ok (.invokevirtual 46, 3) := by decide +kernel
theorem dX3_count_16 : decode cX3_count 16 = .ok (.ireturn, 1) := by decide +kernel
theorem dX3_count_17 : decode cX3_count 17 = .ok (.iload_n 1, 1) := by decide +kernel
theorem dX3_count_18 : decode cX3_count 18 = .ok (.tableswitch 77 0 4 #[34, 42, 53, 61, 69], 34) := by decide +kernel
theorem dX3_count_52 : decode cX3_count 52 = .ok (.aload_n 0, 1) := by decide +kernel
theorem dX3_count_53 : decode cX3_count 53 = .ok (.getfield 10, 3) := by decide +kernel
theorem dX3_count_56 : decode cX3_count 56 = .ok (.getfield 167, 3) := by decide +kernel
theorem dX3_count_59 : decode cX3_count 59 = .ok (.ireturn, 1) := by decide +kernel
theorem dX3_count_60 : decode cX3_count 60 = .ok (.aload_n 0, 1) := by decide +kernel
theorem dX3_count_61 : decode cX3_count 61 = .ok (.getfield 10, 3) := by decide +kernel
theorem dX3_count_64 : decode cX3_count 64 = .ok (.invokevirtual 170, 3) := by decide +kernel
theorem dX3_count_67 : decode cX3_count 67 = .ok (.invokestatic 174, 3) := by decide +kernel
theorem dX3_count_70 : decode cX3_count 70 = .ok (.ireturn, 1) := by decide +kernel
theorem dX3_count_71 : decode cX3_count 71 = .ok (.aload_n 0, 1) := by decide +kernel
theorem dX3_count_72 : decode cX3_count 72 = .ok (.getfield 10, 3) := by decide +kernel
theorem dX3_count_75 : decode cX3_count 75 = .ok (.getfield 179, 3) := by decide +kernel
theorem dX3_count_78 : decode cX3_count 78 = .ok (.ireturn, 1) := by decide +kernel
theorem dX3_count_79 : decode cX3_count 79 = .ok (.aload_n 0, 1) := by decide +kernel
theorem dX3_count_80 : decode cX3_count 80 = .ok (.getfield 10, 3) := by decide +kernel
theorem dX3_count_83 : decode cX3_count 83 = .ok (.getfield 139, 3) := by decide +kernel
theorem dX3_count_86 : decode cX3_count 86 = .ok (.ireturn, 1) := by decide +kernel
theorem dX3_count_87 : decode cX3_count 87 = .ok (.aload_n 0, 1) := by decide +kernel
theorem dX3_count_88 : decode cX3_count 88 = .ok (.getfield 10, 3) := by decide +kernel
theorem dX3_count_91 : decode cX3_count 91 = .ok (.invokevirtual 182, 3) := by decide +kernel
theorem dX3_count_94 : decode cX3_count 94 = .ok (.ireturn, 1) := by decide +kernel
theorem dX3_count_95 : decode cX3_count 95 = .ok (.aload_n 0, 1) := by decide +kernel
theorem dX3_count_96 : decode cX3_count 96 = .ok (.getfield 10, 3) := by decide +kernel
theorem dX3_count_99 : decode cX3_count 99 = .ok (.getfield 71, 3) := by decide +kernel
theorem dX3_count_102 : decode cX3_count 102 = .ok (.iload_n 1, 1) := by decide +kernel
theorem dX3_count_103 : decode cX3_count 103 = .ok (.iconst 5, 1) := by decide +kernel
theorem dX3_count_104 : decode cX3_count 104 = .ok (.isub, 1) := by decide +kernel
theorem dX3_count_105 : decode cX3_count 105 = .ok (.iaload, 1) := by decide +kernel
theorem dX3_count_106 : decode cX3_count 106 = .ok (.ireturn, 1) := by decide +kernel
theorem dX3_type_0 : decode cX3_type 0 = .ok (.iload_n 1, 1) := by decide +kernel
theorem dX3_type_1 : decode cX3_type 1 = .ok (.iconst 0, 1) := by decide +kernel
theorem dX3_type_2 : decode cX3_type 2 = .ok (.bipush 127, 2) := by decide +kernel
theorem dX3_type_4 : decode cX3_type 4 = .ok (.invokestatic 97, 3) := by decide +kernel
theorem dX3_type_7 : decode cX3_type 7 = .ok (.ifCond .ne 10, 3) := by decide +kernel
theorem dX3_type_10 : decode cX3_type 10 = .ok (.aload_n 0, 1) := by decide +kernel
theorem dX3_type_11 : decode cX3_type 11 = .ok (.bipush (-2), 2) := by decide +kernel
theorem dX3_type_13 : decode cX3_type 13 = .ok (.invokevirtual 46, 3) := by decide +kernel
theorem dX3_type_16 : decode cX3_type 16 = .ok (.ireturn, 1) := by decide +kernel
theorem dX3_type_17 : decode cX3_type 17 = .ok (.aload_n 0, 1) := by decide +kernel
theorem dX3_type_18 : decode cX3_type 18 = .ok (.getfield 31, 3) := by decide +kernel
theorem dX3_type_21 : decode cX3_type 21 = .ok (.getfield 185, 3) := by decide +kernel
theorem dX3_type_24 : decode cX3_type 24 = .ok (.bipush 120, 2) := by decide +kernel
theorem dX3_type_26 : decode cX3_type 26 = .ok (.if_icmp .lt 10, 3) := by decide +kernel
theorem dX3_type_29 : decode cX3_type 29 = .ok (.aload_n 0, 1) := by decide +kernel
theorem dX3_type_30 : decode cX3_type 30 = .ok (.bipush (-4), 2) := by decide +kernel
theorem dX3_type_32 : decode cX3_type 32 = .ok (.invokevirtual 46, 3) := by decide +kernel
theorem dX3_type_35 : decode cX3_type 35 = .ok (.ireturn, 1) := by decide +kernel
theorem dX3_type_36 : decode cX3_type 36 = .ok (.aload_n 0, 1) := by decide +kernel
theorem dX3_type_37 : decode cX3_type 37 = .ok (.getfield 31, 3) := by decide +kernel
theorem dX3_type_40 : decode cX3_type 40 = .ok (.iload_n 1, 1) := by decide +kernel
theorem dX3_type_41 : decode cX3_type 41 = .ok (.invokevirtual 188, 3) := by decide +kernel
theorem dX3_type_44 : decode cX3_type 44 = .ok (.ireturn, 1) := by decide +kernel
theorem dX3_clear_0 : decode cX3_clear 0 = .ok (.aload_n 0, 1) := by decide +kernel
theorem dX3_clear_1 : decode cX3_clear 1 = .ok (.getfield 31, 3) := by decide +kernel
theorem dX3_clear_4 : decode cX3_clear 4 = .ok (.getfield 185, 3) := by decide +kernel
theorem dX3_clear_7 : decode cX3_clear 7 = .ok (.istore_n 1, 1) := by decide +kernel
theorem dX3_clear_8 : decode cX3_clear 8 = .ok (.aload_n 0, 1) := by decide +kernel
theorem dX3_clear_9 : decode cX3_clear 9 = .ok (.getfield 31, 3) := by decide +kernel
theorem dX3_clear_12 : decode cX3_clear 12 = .ok (.iconst 0, 1) := by decide +kernel
theorem dX3_clear_13 : decode cX3_clear 13 = .ok (.putfield 185, 3) := by decide +kernel
theorem dX3_clear_16 : decode cX3_clear 16 = .ok (.iload_n 1, 1) := by decide +kernel
theorem dX3_clear_17 : decode cX3_clear 17 = .ok (.ireturn, 1) := by decide +kernel
theorem dX3_does_0 : decode cX3_does 0 = .ok (.aload_n 0, 1) := by decide +kernel
theorem dX3_does_1 : decode cX3_does 1 = .ok (.getfield 31, 3) := by decide +kernel
theorem dX3_does_4 : decode cX3_does 4 = .ok (.invokevirtual 191, 3) := by decide +kernel
theorem dX3_does_7 : decode cX3_does 7 = .ok (.istore_n 1, 1) := by decide +kernel
theorem dX3_does_8 : decode cX3_does 8 = .ok (.iload_n 1, 1) := by decide +kernel
theorem dX3_does_9 : decode cX3_does 9 = .ok (.iconst (-1), 1) := by decide +kernel
theorem dX3_does_10 : decode cX3_does 10 = .ok (.if_icmp .eq 8, 3) := by decide +kernel
theorem dX3_does_13 : decode cX3_does 13 = .ok (.bipush (-10), 2) := by decide +kernel
theorem dX3_does_15 : decode cX3_does 15 = .ok (.iload_n 1, 1) := by decide +kernel
theorem dX3_does_16 : decode cX3_does 16 = .ok (.isub, 1) := by decide +kernel
theorem dX3_does_17 : decode cX3_does 17 = .ok (.ireturn, 1) := by decide +kernel
theorem dX3_does_18 : decode cX3_does 18 = .ok (.aload_n 0, 1) := by decide +kernel
theorem dX3_does_19 : decode cX3_does 19 = .ok (.invokevirtual 194, 3) := by decide +kernel
theorem dX3_does_22 : decode cX3_does 22 = .ok (.iconst 0, 1) := by decide +kernel
theorem dX3_does_23 : decode cX3_does 23 = .ok (.istore_n 2, 1) := by decide +kernel
theorem dX3_does_24 : decode cX3_does 24 = .ok (.iload_n 2, 1) := by decide +kernel
theorem dX3_does_25 : decode cX3_does 25 = .ok (.aload_n 0, 1) := by decide +kernel
theorem dX3_does_26 : decode cX3_does 26 = .ok (.getfield 31, 3) := by decide +kernel
theorem dX3_does_29 : decode cX3_does 29 = .ok (.getfield 197, 3) := by decide +kernel
theorem dX3_does_32 : decode cX3_does 32 = .ok (.if_icmp .ge 84, 3) := by decide +kernel
theorem dX3_does_35 : decode cX3_does 35 = .ok (.aload_n 0, 1) := by decide +kernel
theorem dX3_does_36 : decode cX3_does 36 = .ok (.getfield 31, 3) := by decide +kernel
theorem dX3_does_39 : decode cX3_does 39 = .ok (.getfield 200, 3) := by decide +kernel
theorem dX3_does_42 : decode cX3_does 42 = .ok (.iload_n 2, 1) := by decide +kernel
theorem dX3_does_43 : decode cX3_does 43 = .ok (.iaload, 1) := by decide +kernel
theorem dX3_does_44 : decode cX3_does 44 = .ok (.istore_n 3, 1) := by decide +kernel
theorem dX3_does_45 : decode cX3_does 45 = .ok (.aload_n 0, 1) := by decide +kernel
theorem dX3_does_46 : decode cX3_does 46 = .ok (.getfield 31, 3) := by decide +kernel
theorem dX3_does_49 : decode cX3_does 49 = .ok (.getfield 203, 3) := by decide +kernel
theorem dX3_does_52 : decode cX3_does 52 = .ok (.iload_n 2, 1) := by decide +kernel
theorem dX3_does_53 : decode cX3_does 53 = .ok (.iaload, 1) := by decide +kernel
theorem dX3_does_54 : decode cX3_does 54 = .ok (.istore 4, 2) := by decide +kernel
theorem dX3_does_56 : decode cX3_does 56 = .ok (.aload_n 0, 1) := by decide +kernel
theorem dX3_does_57 : decode cX3_does 57 = .ok (.getfield 31, 3) := by decide +kernel
theorem dX3_does_60 : decode cX3_does 60 = .ok (.getfield 206, 3) := by decide +kernel
theorem dX3_does_63 : decode cX3_does 63 = .ok (.iload_n 2, 1) := by decide +kernel
theorem dX3_does_64 : decode cX3_does 64 = .ok (.iaload, 1) := by decide +kernel
theorem dX3_does_65 : decode cX3_does 65 = .ok (.istore 5, 2) := by decide +kernel
theorem dX3_does_67 : decode cX3_does 67 = .ok (.aload_n 0, 1) := by decide +kernel
theorem dX3_does_68 : decode cX3_does 68 = .ok (.iload_n 3, 1) := by decide +kernel
theorem dX3_does_69 : decode cX3_does 69 = .ok (.iload 4, 2) := by decide +kernel
theorem dX3_does_71 : decode cX3_does 71 = .ok (.iload 5, 2) := by decide +kernel
theorem dX3_does_73 : decode cX3_does 73 = .ok (.invokevirtual 209, 3) := by decide +kernel
theorem dX3_does_76 : decode cX3_does 76 = .ok (.ifCond .eq 25, 3) := by decide +kernel
theorem dX3_does_79 : decode cX3_does 79 = .ok (.aload_n 0, 1) := by decide +kernel
theorem dX3_does_80 : decode cX3_does 80 = .ok (.getfield 10, 3) := by decide +kernel
theorem dX3_does_83 : decode cX3_does 83 = .ok (.aload_n 0, 1) := by decide +kernel
theorem dX3_does_84 : decode cX3_does 84 = .ok (.getfield 16, 3) := by decide +kernel
theorem dX3_does_87 : decode cX3_does 87 = .ok (.aload_n 0, 1) := by decide +kernel
theorem dX3_does_88 : decode cX3_does 88 = .ok (.getfield 20, 3) := by decide +kernel
theorem dX3_does_91 : decode cX3_does 91 = .ok (.aaload, 1) := by decide +kernel
theorem dX3_does_92 : decode cX3_does 92 = .ok (.invokevirtual 212, 3) := by decide +kernel
theorem dX3_does_95 : decode cX3_does 95 = .ok (.sipush (-1000), 3) := by decide +kernel
theorem dX3_does_98 : decode cX3_does 98 = .ok (.iload_n 2, 1) := by decide +kernel
theorem dX3_does_99 : decode cX3_does 99 = .ok (.isub, 1) := by decide +kernel
theorem dX3_does_100 : decode cX3_does 100 = .ok (.ireturn, 1) := by decide +kernel
theorem dX3_does_101 : decode cX3_does 101 = .ok (.aload_n 0, 1) := by decide +kernel
theorem dX3_does_102 : decode cX3_does 102 = .ok (.iload_n 3, 1) := by decide +kernel
theorem dX3_does_103 : decode cX3_does 103 = .ok (.iload 4, 2) := by decide +kernel
theorem dX3_does_105 : decode cX3_does 105 = .ok (.iload 5, 2) := by decide +kernel
theorem dX3_does_107 : decode cX3_does 107 = .ok (.invokevirtual 215, 3) := by decide +kernel
theorem dX3_does_110 : decode cX3_does 110 = .ok (.iinc 2 1, 3) := by decide +kernel
theorem dX3_does_113 : decode cX3_does 113 = .ok (.goto (-89), 3) := by decide +kernel
theorem dX3_does_116 : decode cX3_does 116 = .ok (.aload_n 0, 1) := by decide +kernel
theorem dX3_does_117 : decode cX3_does 117 = .ok (.invokevirtual 219, 3) := by decide +kernel
theorem dX3_does_120 : decode cX3_does 120 = .ok (.aload_n 0, 1) := by decide +kernel
theorem dX3_does_121 : decode cX3_does 121 = .ok (.getfield 31, 3) := by decide +kernel
theorem dX3_does_124 : decode cX3_does 124 = .ok (.getfield 197, 3) := by decide +kernel
theorem dX3_does_127 : decode cX3_does 127 = .ok (.ireturn, 1) := by decide +kernel
theorem dX3_back_0 : decode cX3_back 0 = .ok (.aload_n 0, 1) := by decide +kernel
theorem dX3_back_1 : decode cX3_back 1 = .ok (.getfield 20, 3) := by decide +kernel
theorem dX3_back_4 : decode cX3_back 4 = .ok (.ifCond .ne 10, 3) := by decide +kernel
theorem dX3_back_7 : decode cX3_back 7 = .ok (.aload_n 0, 1) := by decide +kernel
theorem dX3_back_8 : decode cX3_back 8 = .ok (.bipush (-3), 2) := by decide +kernel
theorem dX3_back_10 : decode cX3_back 10 = .ok (.invokevirtual 46, 3) := by decide +kernel
theorem dX3_back_13 : decode cX3_back 13 = .ok (.ireturn, 1) := by decide +kernel
theorem dX3_back_14 : decode cX3_back 14 = .ok (.aload_n 0, 1) := by decide +kernel
theorem dX3_back_15 : decode cX3_back 15 = .ok (.dup, 1) := by decide +kernel
theorem dX3_back_16 : decode cX3_back 16 = .ok (.getfield 20, 3) := by decide +kernel
theorem dX3_back_19 : decode cX3_back 19 = .ok (.iconst 1, 1) := by decide +kernel
theorem dX3_back_20 : decode cX3_back 20 = .ok (.isub, 1) := by decide +kernel
theorem dX3_back_21 : decode cX3_back 21 = .ok (.putfield 20, 3) := by decide +kernel
theorem dX3_back_24 : decode cX3_back 24 = .ok (.aload_n 0, 1) := by decide +kernel
theorem dX3_back_25 : decode cX3_back 25 = .ok (.getfield 10, 3) := by decide +kernel
theorem dX3_back_28 : decode cX3_back 28 = .ok (.aload_n 0, 1) := by decide +kernel
theorem dX3_back_29 : decode cX3_back 29 = .ok (.getfield 16, 3) := by decide +kernel
theorem dX3_back_32 : decode cX3_back 32 = .ok (.aload_n 0, 1) := by decide +kernel
theorem dX3_back_33 : decode cX3_back 33 = .ok (.getfield 20, 3) := by decide +kernel
theorem dX3_back_36 : decode cX3_back 36 = .ok (.aaload, 1) := by decide +kernel
theorem dX3_back_37 : decode cX3_back 37 = .ok (.invokevirtual 212, 3) := by decide +kernel
theorem dX3_back_40 : decode cX3_back 40 = .ok (.aload_n 0, 1) := by decide +kernel
theorem dX3_back_41 : decode cX3_back 41 = .ok (.getfield 20, 3) := by decide +kernel
theorem dX3_back_44 : decode cX3_back 44 = .ok (.ireturn, 1) := by decide +kernel
theorem dX3_told_0 : decode cX3_told 0 = .ok (.iload_n 1, 1) := by decide +kernel
theorem dX3_told_1 : decode cX3_told 1 = .ok (.iconst 0, 1) := by decide +kernel
theorem dX3_told_2 : decode cX3_told 2 = .ok (.bipush 7, 2) := by decide +kernel
theorem dX3_told_4 : decode cX3_told 4 = .ok (.invokestatic 97, 3) := by decide +kernel
theorem dX3_told_7 : decode cX3_told 7 = .ok (.ifCond .ne 10, 3) := by decide +kernel
theorem dX3_told_10 : decode cX3_told 10 = .ok (.aload_n 0, 1) := by decide +kernel
theorem dX3_told_11 : decode cX3_told 11 = .ok (.bipush (-2), 2) := by decide +kernel
theorem dX3_told_13 : decode cX3_told 13 = .ok (.invokevirtual 46, 3) := by decide +kernel
theorem dX3_told_16 : decode cX3_told 16 = .ok (.ireturn, 1) := by decide +kernel
theorem dX3_told_17 : decode cX3_told 17 = .ok (.iload_n 1, 1) := by decide +kernel
theorem dX3_told_18 : decode cX3_told 18 = .ok (.iconst 3, 1) := by decide +kernel
theorem dX3_told_19 : decode cX3_told 19 = .ok (.if_icmp .ge 10, 3) := by decide +kernel
theorem dX3_told_22 : decode cX3_told 22 = .ok (.aload_n 0, 1) := by decide +kernel
theorem dX3_told_23 : decode cX3_told 23 = .ok (.getfield 24, 3) := by decide +kernel
theorem dX3_told_26 : decode cX3_told 26 = .ok (.iload_n 1, 1) := by decide +kernel
theorem dX3_told_27 : decode cX3_told 27 = .ok (.iaload, 1) := by decide +kernel
theorem dX3_told_28 : decode cX3_told 28 = .ok (.ireturn, 1) := by decide +kernel
theorem dX3_told_29 : decode cX3_told 29 = .ok (.iload_n 1, 1) := by decide +kernel
theorem dX3_told_30 : decode cX3_told 30 = .ok (.bipush 6, 2) := by decide +kernel
theorem dX3_told_32 : decode cX3_told 32 = .ok (.if_icmp .ge 15, 3) := by decide +kernel
theorem dX3_told_35 : decode cX3_told 35 = .ok (.aload_n 0, 1) := by decide +kernel
theorem dX3_told_36 : decode cX3_told 36 = .ok (.getfield 10, 3) := by decide +kernel
theorem dX3_told_39 : decode cX3_told 39 = .ok (.getfield 222, 3) := by decide +kernel
theorem dX3_told_42 : decode cX3_told 42 = .ok (.iload_n 1, 1) := by decide +kernel
theorem dX3_told_43 : decode cX3_told 43 = .ok (.iconst 3, 1) := by decide +kernel
theorem dX3_told_44 : decode cX3_told 44 = .ok (.isub, 1) := by decide +kernel
theorem dX3_told_45 : decode cX3_told 45 = .ok (.iaload, 1) := by decide +kernel
theorem dX3_told_46 : decode cX3_told 46 = .ok (.ireturn, 1) := by decide +kernel
theorem dX3_told_47 : decode cX3_told 47 = .ok (.iload_n 1, 1) := by decide +kernel
theorem dX3_told_48 : decode cX3_told 48 = .ok (.bipush 6, 2) := by decide +kernel
theorem dX3_told_50 : decode cX3_told 50 = .ok (.if_icmp .ne 13, 3) := by decide +kernel
theorem dX3_told_53 : decode cX3_told 53 = .ok (.aload_n 0, 1) := by decide +kernel
theorem dX3_told_54 : decode cX3_told 54 = .ok (.getfield 31, 3) := by decide +kernel
theorem dX3_told_57 : decode cX3_told 57 = .ok (.getfield 185, 3) := by decide +kernel
theorem dX3_told_60 : decode cX3_told 60 = .ok (.goto 7, 3) := by decide +kernel
theorem dX3_told_63 : decode cX3_told 63 = .ok (.aload_n 0, 1) := by decide +kernel
theorem dX3_told_64 : decode cX3_told 64 = .ok (.getfield 20, 3) := by decide +kernel
theorem dX3_told_67 : decode cX3_told 67 = .ok (.ireturn, 1) := by decide +kernel
theorem dX3_digest_0 : decode cX3_digest 0 = .ok (.ldc2_w 225, 3) := by decide +kernel
theorem dX3_digest_3 : decode cX3_digest 3 = .ok (.lstore_n 1, 1) := by decide +kernel
theorem dX3_digest_4 : decode cX3_digest 4 = .ok (.iconst 0, 1) := by decide +kernel
theorem dX3_digest_5 : decode cX3_digest 5 = .ok (.istore_n 3, 1) := by decide +kernel
theorem dX3_digest_6 : decode cX3_digest 6 = .ok (.iload_n 3, 1) := by decide +kernel
theorem dX3_digest_7 : decode cX3_digest 7 = .ok (.bipush 8, 2) := by decide +kernel
theorem dX3_digest_9 : decode cX3_digest 9 = .ok (.if_icmp .ge 22, 3) := by decide +kernel
theorem dX3_digest_12 : decode cX3_digest 12 = .ok (.ldc2_w 227, 3) := by decide +kernel
theorem dX3_digest_15 : decode cX3_digest 15 = .ok (.lload_n 1, 1) := by decide +kernel
theorem dX3_digest_16 : decode cX3_digest 16 = .ok (.lmul, 1) := by decide +kernel
theorem dX3_digest_17 : decode cX3_digest 17 = .ok (.aload_n 0, 1) := by decide +kernel
theorem dX3_digest_18 : decode cX3_digest 18 = .ok (.iload_n 3, 1) := by decide +kernel
theorem dX3_digest_19 : decode cX3_digest 19 = .ok (.invokevirtual 229, 3) := by decide +kernel
theorem dX3_digest_22 : decode cX3_digest 22 = .ok (.i2l, 1) := by decide +kernel
theorem dX3_digest_23 : decode cX3_digest 23 = .ok (.ladd, 1) := by decide +kernel
theorem dX3_digest_24 : decode cX3_digest 24 = .ok (.lstore_n 1, 1) := by decide +kernel
theorem dX3_digest_25 : decode cX3_digest 25 = .ok (.iinc 3 1, 3) := by decide +kernel
theorem dX3_digest_28 : decode cX3_digest 28 = .ok (.goto (-22), 3) := by decide +kernel
theorem dX3_digest_31 : decode cX3_digest 31 = .ok (.iconst 0, 1) := by decide +kernel
theorem dX3_digest_32 : decode cX3_digest 32 = .ok (.istore_n 3, 1) := by decide +kernel
theorem dX3_digest_33 : decode cX3_digest 33 = .ok (.iload_n 3, 1) := by decide +kernel
theorem dX3_digest_34 : decode cX3_digest 34 = .ok (.bipush 8, 2) := by decide +kernel
theorem dX3_digest_36 : decode cX3_digest 36 = .ok (.if_icmp .ge 22, 3) := by decide +kernel
theorem dX3_digest_39 : decode cX3_digest 39 = .ok (.ldc2_w 227, 3) := by decide +kernel
theorem dX3_digest_42 : decode cX3_digest 42 = .ok (.lload_n 1, 1) := by decide +kernel
theorem dX3_digest_43 : decode cX3_digest 43 = .ok (.lmul, 1) := by decide +kernel
theorem dX3_digest_44 : decode cX3_digest 44 = .ok (.aload_n 0, 1) := by decide +kernel
theorem dX3_digest_45 : decode cX3_digest 45 = .ok (.iload_n 3, 1) := by decide +kernel
theorem dX3_digest_46 : decode cX3_digest 46 = .ok (.invokevirtual 232, 3) := by decide +kernel
theorem dX3_digest_49 : decode cX3_digest 49 = .ok (.i2l, 1) := by decide +kernel
theorem dX3_digest_50 : decode cX3_digest 50 = .ok (.ladd, 1) := by decide +kernel
theorem dX3_digest_51 : decode cX3_digest 51 = .ok (.lstore_n 1, 1) := by decide +kernel
theorem dX3_digest_52 : decode cX3_digest 52 = .ok (.iinc 3 1, 3) := by decide +kernel
theorem dX3_digest_55 : decode cX3_digest 55 = .ok (.goto (-22), 3) := by decide +kernel
theorem dX3_digest_58 : decode cX3_digest 58 = .ok (.iconst 0, 1) := by decide +kernel
theorem dX3_digest_59 : decode cX3_digest 59 = .ok (.istore_n 3, 1) := by decide +kernel
theorem dX3_digest_60 : decode cX3_digest 60 = .ok (.iload_n 3, 1) := by decide +kernel
theorem dX3_digest_61 : decode cX3_digest 61 = .ok (.aload_n 0, 1) := by decide +kernel
theorem dX3_digest_62 : decode cX3_digest 62 = .ok (.getfield 10, 3) := by decide +kernel
theorem dX3_digest_65 : decode cX3_digest 65 = .ok (.getfield 167, 3) := by decide +kernel
theorem dX3_digest_68 : decode cX3_digest 68 = .ok (.if_icmp .ge 53, 3) := by decide +kernel
theorem dX3_digest_71 : decode cX3_digest 71 = .ok (.iconst 0, 1) := by decide +kernel
theorem dX3_digest_72 : decode cX3_digest 72 = .ok (.istore 4, 2) := by decide +kernel
theorem dX3_digest_74 : decode cX3_digest 74 = .ok (.iload 4, 2) := by decide +kernel
theorem dX3_digest_76 : decode cX3_digest 76 = .ok (.bipush 6, 2) := by decide +kernel
theorem dX3_digest_78 : decode cX3_digest 78 = .ok (.if_icmp .ge 24, 3) := by decide +kernel
theorem dX3_digest_81 : decode cX3_digest 81 = .ok (.ldc2_w 227, 3) := by decide +kernel
theorem dX3_digest_84 : decode cX3_digest 84 = .ok (.lload_n 1, 1) := by decide +kernel
theorem dX3_digest_85 : decode cX3_digest 85 = .ok (.lmul, 1) := by decide +kernel
theorem dX3_digest_86 : decode cX3_digest 86 = .ok (.aload_n 0, 1) := by decide +kernel
theorem dX3_digest_87 : decode cX3_digest 87 = .ok (.iload_n 3, 1) := by decide +kernel
theorem dX3_digest_88 : decode cX3_digest 88 = .ok (.iload 4, 2) := by decide +kernel
theorem dX3_digest_90 : decode cX3_digest 90 = .ok (.invokevirtual 235, 3) := by decide +kernel
theorem dX3_digest_93 : decode cX3_digest 93 = .ok (.i2l, 1) := by decide +kernel
theorem dX3_digest_94 : decode cX3_digest 94 = .ok (.ladd, 1) := by decide +kernel
theorem dX3_digest_95 : decode cX3_digest 95 = .ok (.lstore_n 1, 1) := by decide +kernel
theorem dX3_digest_96 : decode cX3_digest 96 = .ok (.iinc 4 1, 3) := by decide +kernel
theorem dX3_digest_99 : decode cX3_digest 99 = .ok (.goto (-25), 3) := by decide +kernel
theorem dX3_digest_102 : decode cX3_digest 102 = .ok (.ldc2_w 227, 3) := by decide +kernel
theorem dX3_digest_105 : decode cX3_digest 105 = .ok (.lload_n 1, 1) := by decide +kernel
theorem dX3_digest_106 : decode cX3_digest 106 = .ok (.lmul, 1) := by decide +kernel
theorem dX3_digest_107 : decode cX3_digest 107 = .ok (.aload_n 0, 1) := by decide +kernel
theorem dX3_digest_108 : decode cX3_digest 108 = .ok (.iload_n 3, 1) := by decide +kernel
theorem dX3_digest_109 : decode cX3_digest 109 = .ok (.invokevirtual 238, 3) := by decide +kernel
theorem dX3_digest_112 : decode cX3_digest 112 = .ok (.i2l, 1) := by decide +kernel
theorem dX3_digest_113 : decode cX3_digest 113 = .ok (.ladd, 1) := by decide +kernel
theorem dX3_digest_114 : decode cX3_digest 114 = .ok (.lstore_n 1, 1) := by decide +kernel
theorem dX3_digest_115 : decode cX3_digest 115 = .ok (.iinc 3 1, 3) := by decide +kernel
theorem dX3_digest_118 : decode cX3_digest 118 = .ok (.goto (-58), 3) := by decide +kernel
theorem dX3_digest_121 : decode cX3_digest 121 = .ok (.iconst 0, 1) := by decide +kernel
theorem dX3_digest_122 : decode cX3_digest 122 = .ok (.istore_n 3, 1) := by decide +kernel
theorem dX3_digest_123 : decode cX3_digest 123 = .ok (.iload_n 3, 1) := by decide +kernel
theorem dX3_digest_124 : decode cX3_digest 124 = .ok (.aload_n 0, 1) := by decide +kernel
theorem dX3_digest_125 : decode cX3_digest 125 = .ok (.getfield 10, 3) := by decide +kernel
theorem dX3_digest_128 : decode cX3_digest 128 = .ok (.getfield 81, 3) := by decide +kernel
theorem dX3_digest_131 : decode cX3_digest 131 = .ok (.arraylength, 1) := by decide +kernel
theorem dX3_digest_132 : decode cX3_digest 132 = .ok (.if_icmp .ge 26, 3) := by decide +kernel
theorem dX3_digest_135 : decode cX3_digest 135 = .ok (.ldc2_w 227, 3) := by decide +kernel
theorem dX3_digest_138 : decode cX3_digest 138 = .ok (.lload_n 1, 1) := by decide +kernel
theorem dX3_digest_139 : decode cX3_digest 139 = .ok (.lmul, 1) := by decide +kernel
theorem dX3_digest_140 : decode cX3_digest 140 = .ok (.aload_n 0, 1) := by decide +kernel
theorem dX3_digest_141 : decode cX3_digest 141 = .ok (.getfield 10, 3) := by decide +kernel
theorem dX3_digest_144 : decode cX3_digest 144 = .ok (.getfield 81, 3) := by decide +kernel
theorem dX3_digest_147 : decode cX3_digest 147 = .ok (.iload_n 3, 1) := by decide +kernel
theorem dX3_digest_148 : decode cX3_digest 148 = .ok (.iaload, 1) := by decide +kernel
theorem dX3_digest_149 : decode cX3_digest 149 = .ok (.i2l, 1) := by decide +kernel
theorem dX3_digest_150 : decode cX3_digest 150 = .ok (.ladd, 1) := by decide +kernel
theorem dX3_digest_151 : decode cX3_digest 151 = .ok (.lstore_n 1, 1) := by decide +kernel
theorem dX3_digest_152 : decode cX3_digest 152 = .ok (.iinc 3 1, 3) := by decide +kernel
theorem dX3_digest_155 : decode cX3_digest 155 = .ok (.goto (-32), 3) := by decide +kernel
theorem dX3_digest_158 : decode cX3_digest 158 = .ok (.iconst 0, 1) := by decide +kernel
theorem dX3_digest_159 : decode cX3_digest 159 = .ok (.istore_n 3, 1) := by decide +kernel
theorem dX3_digest_160 : decode cX3_digest 160 = .ok (.iload_n 3, 1) := by decide +kernel
theorem dX3_digest_161 : decode cX3_digest 161 = .ok (.aload_n 0, 1) := by decide +kernel
theorem dX3_digest_162 : decode cX3_digest 162 = .ok (.getfield 10, 3) := by decide +kernel
theorem dX3_digest_165 : decode cX3_digest 165 = .ok (.getfield 139, 3) := by decide +kernel
theorem dX3_digest_168 : decode cX3_digest 168 = .ok (.if_icmp .ge 26, 3) := by decide +kernel
theorem dX3_digest_171 : decode cX3_digest 171 = .ok (.ldc2_w 227, 3) := by decide +kernel
theorem dX3_digest_174 : decode cX3_digest 174 = .ok (.lload_n 1, 1) := by decide +kernel
theorem dX3_digest_175 : decode cX3_digest 175 = .ok (.lmul, 1) := by decide +kernel
theorem dX3_digest_176 : decode cX3_digest 176 = .ok (.aload_n 0, 1) := by decide +kernel
theorem dX3_digest_177 : decode cX3_digest 177 = .ok (.getfield 10, 3) := by decide +kernel
theorem dX3_digest_180 : decode cX3_digest 180 = .ok (.getfield 146, 3) := by decide +kernel
theorem dX3_digest_183 : decode cX3_digest 183 = .ok (.iload_n 3, 1) := by decide +kernel
theorem dX3_digest_184 : decode cX3_digest 184 = .ok (.iaload, 1) := by decide +kernel
theorem dX3_digest_185 : decode cX3_digest 185 = .ok (.i2l, 1) := by decide +kernel
theorem dX3_digest_186 : decode cX3_digest 186 = .ok (.ladd, 1) := by decide +kernel
theorem dX3_digest_187 : decode cX3_digest 187 = .ok (.lstore_n 1, 1) := by decide +kernel
theorem dX3_digest_188 : decode cX3_digest 188 = .ok (.iinc 3 1, 3) := by decide +kernel
theorem dX3_digest_191 : decode cX3_digest 191 = .ok (.goto (-31), 3) := by decide +kernel
theorem dX3_digest_194 : decode cX3_digest 194 = .ok (.ldc2_w 227, 3) := by decide +kernel
theorem dX3_digest_197 : decode cX3_digest 197 = .ok (.lload_n 1, 1) := by decide +kernel
theorem dX3_digest_198 : decode cX3_digest 198 = .ok (.lmul, 1) := by decide +kernel
theorem dX3_digest_199 : decode cX3_digest 199 = .ok (.aload_n 0, 1) := by decide +kernel
theorem dX3_digest_200 : decode cX3_digest 200 = .ok (.invokevirtual 241, 3) := by decide +kernel
theorem dX3_digest_203 : decode cX3_digest 203 = .ok (.i2l, 1) := by decide +kernel
theorem dX3_digest_204 : decode cX3_digest 204 = .ok (.ladd, 1) := by decide +kernel
theorem dX3_digest_205 : decode cX3_digest 205 = .ok (.lstore_n 1, 1) := by decide +kernel
theorem dX3_digest_206 : decode cX3_digest 206 = .ok (.ldc2_w 227, 3) := by decide +kernel
theorem dX3_digest_209 : decode cX3_digest 209 = .ok (.lload_n 1, 1) := by decide +kernel
theorem dX3_digest_210 : decode cX3_digest 210 = .ok (.lmul, 1) := by decide +kernel
theorem dX3_digest_211 : decode cX3_digest 211 = .ok (.aload_n 0, 1) := by decide +kernel
theorem dX3_digest_212 : decode cX3_digest 212 = .ok (.invokevirtual 244, 3) := by decide +kernel
theorem dX3_digest_215 : decode cX3_digest 215 = .ok (.i2l, 1) := by decide +kernel
theorem dX3_digest_216 : decode cX3_digest 216 = .ok (.ladd, 1) := by decide +kernel
theorem dX3_digest_217 : decode cX3_digest 217 = .ok (.lreturn, 1) := by decide +kernel
theorem dX3_whyNoColour_0 : decode cX3_whyNoColour 0 = .ok (.iload_n 1, 1) := by decide +kernel
theorem dX3_whyNoColour_1 : decode cX3_whyNoColour 1 = .ok (.iload_n 2, 1) := by decide +kernel
theorem dX3_whyNoColour_2 : decode cX3_whyNoColour 2 = .ok (.iload_n 3, 1) := by decide +kernel
theorem dX3_whyNoColour_3 : decode cX3_whyNoColour 3 = .ok (.invokestatic 60, 3) := by decide +kernel
theorem dX3_whyNoColour_6 : decode cX3_whyNoColour 6 = .ok (.ifCond .ne 6, 3) := by decide +kernel
theorem dX3_whyNoColour_9 : decode cX3_whyNoColour 9 = .ok (.bipush (-2), 2) := by decide +kernel
theorem dX3_whyNoColour_11 : decode cX3_whyNoColour 11 = .ok (.ireturn, 1) := by decide +kernel
theorem dX3_whyNoColour_12 : decode cX3_whyNoColour 12 = .ok (.aload_n 0, 1) := by decide +kernel
theorem dX3_whyNoColour_13 : decode cX3_whyNoColour 13 = .ok (.getfield 10, 3) := by decide +kernel
theorem dX3_whyNoColour_16 : decode cX3_whyNoColour 16 = .ok (.getfield 167, 3) := by decide +kernel
theorem dX3_whyNoColour_19 : decode cX3_whyNoColour 19 = .ok (.bipush 20, 2) := by decide +kernel
theorem dX3_whyNoColour_21 : decode cX3_whyNoColour 21 = .ok (.if_icmp .lt 8, 3) := by decide +kernel
theorem dX3_whyNoColour_24 : decode cX3_whyNoColour 24 = .ok (.bipush (-4), 2) := by decide +kernel
theorem dX3_whyNoColour_26 : decode cX3_whyNoColour 26 = .ok (.goto 4, 3) := by decide +kernel
theorem dX3_whyNoColour_29 : decode cX3_whyNoColour 29 = .ok (.iconst 0, 1) := by decide +kernel
theorem dX3_whyNoColour_30 : decode cX3_whyNoColour 30 = .ok (.ireturn, 1) := by decide +kernel
theorem dX3_whyNoLimit_0 : decode cX3_whyNoLimit 0 = .ok (.iload_n 1, 1) := by decide +kernel
theorem dX3_whyNoLimit_1 : decode cX3_whyNoLimit 1 = .ok (.iconst 0, 1) := by decide +kernel
theorem dX3_whyNoLimit_2 : decode cX3_whyNoLimit 2 = .ok (.iconst 2, 1) := by decide +kernel
theorem dX3_whyNoLimit_3 : decode cX3_whyNoLimit 3 = .ok (.invokestatic 97, 3) := by decide +kernel
theorem dX3_whyNoLimit_6 : decode cX3_whyNoLimit 6 = .ok (.ifCond .eq 18, 3) := by decide +kernel
theorem dX3_whyNoLimit_9 : decode cX3_whyNoLimit 9 = .ok (.iload_n 2, 1) := by decide +kernel
theorem dX3_whyNoLimit_10 : decode cX3_whyNoLimit 10 = .ok (.iconst 0, 1) := by decide +kernel
theorem dX3_whyNoLimit_11 : decode cX3_whyNoLimit 11 = .ok (.sipush 255, 3) := by decide +kernel
theorem dX3_whyNoLimit_14 : decode cX3_whyNoLimit 14 = .ok (.invokestatic 97, 3) := by decide +kernel
theorem dX3_whyNoLimit_17 : decode cX3_whyNoLimit 17 = .ok (.ifCond .eq 7, 3) := by decide +kernel
theorem dX3_whyNoLimit_20 : decode cX3_whyNoLimit 20 = .ok (.iconst 0, 1) := by decide +kernel
theorem dX3_whyNoLimit_21 : decode cX3_whyNoLimit 21 = .ok (.goto 5, 3) := by decide +kernel
theorem dX3_whyNoLimit_24 : decode cX3_whyNoLimit 24 = .ok (.bipush (-2), 2) := by decide +kernel
theorem dX3_whyNoLimit_26 : decode cX3_whyNoLimit 26 = .ok (.ireturn, 1) := by decide +kernel
theorem dX3_whyNotFixed_0 : decode cX3_whyNotFixed 0 = .ok (.aload_n 0, 1) := by decide +kernel
theorem dX3_whyNotFixed_1 : decode cX3_whyNotFixed 1 = .ok (.iload_n 1, 1) := by decide +kernel
theorem dX3_whyNotFixed_2 : decode cX3_whyNotFixed 2 = .ok (.invokevirtual 56, 3) := by decide +kernel
theorem dX3_whyNotFixed_5 : decode cX3_whyNotFixed 5 = .ok (.ifCond .eq 16, 3) := by decide +kernel
theorem dX3_whyNotFixed_8 : decode cX3_whyNotFixed 8 = .ok (.iload_n 2, 1) := by decide +kernel
theorem dX3_whyNotFixed_9 : decode cX3_whyNotFixed 9 = .ok (.iconst 0, 1) := by decide +kernel
theorem dX3_whyNotFixed_10 : decode cX3_whyNotFixed 10 = .ok (.iconst 1, 1) := by decide +kernel
theorem dX3_whyNotFixed_11 : decode cX3_whyNotFixed 11 = .ok (.invokestatic 97, 3) := by decide +kernel
theorem dX3_whyNotFixed_14 : decode cX3_whyNotFixed 14 = .ok (.ifCond .eq 7, 3) := by decide +kernel
theorem dX3_whyNotFixed_17 : decode cX3_whyNotFixed 17 = .ok (.iconst 0, 1) := by decide +kernel
theorem dX3_whyNotFixed_18 : decode cX3_whyNotFixed 18 = .ok (.goto 5, 3) := by decide +kernel
theorem dX3_whyNotFixed_21 : decode cX3_whyNotFixed 21 = .ok (.bipush (-2), 2) := by decide +kernel
theorem dX3_whyNotFixed_23 : decode cX3_whyNotFixed 23 = .ok (.ireturn, 1) := by decide +kernel
theorem dX3_whyNoFilling_0 : decode cX3_whyNoFilling 0 = .ok (.iload_n 1, 1) := by decide +kernel
theorem dX3_whyNoFilling_1 : decode cX3_whyNoFilling 1 = .ok (.iconst 1, 1) := by decide +kernel
theorem dX3_whyNoFilling_2 : decode cX3_whyNoFilling 2 = .ok (.bipush 8, 2) := by decide +kernel
theorem dX3_whyNoFilling_4 : decode cX3_whyNoFilling 4 = .ok (.invokestatic 97, 3) := by decide +kernel
theorem dX3_whyNoFilling_7 : decode cX3_whyNoFilling 7 = .ok (.ifCond .ne 6, 3) := by decide +kernel
theorem dX3_whyNoFilling_10 : decode cX3_whyNoFilling 10 = .ok (.bipush (-2), 2) := by decide +kernel
theorem dX3_whyNoFilling_12 : decode cX3_whyNoFilling 12 = .ok (.ireturn, 1) := by decide +kernel
theorem dX3_whyNoFilling_13 : decode cX3_whyNoFilling 13 = .ok (.aload_n 0, 1) := by decide +kernel
theorem dX3_whyNoFilling_14 : decode cX3_whyNoFilling 14 = .ok (.getfield 10, 3) := by decide +kernel
theorem dX3_whyNoFilling_17 : decode cX3_whyNoFilling 17 = .ok (.getfield 179, 3) := by decide +kernel
theorem dX3_whyNoFilling_20 : decode cX3_whyNoFilling 20 = .ok (.invokestatic 174, 3) := by decide +kernel
theorem dX3_whyNoFilling_23 : decode cX3_whyNoFilling 23 = .ok (.iload_n 1, 1) := by decide +kernel
theorem dX3_whyNoFilling_24 : decode cX3_whyNoFilling 24 = .ok (.if_icmp .le 8, 3) := by decide +kernel
theorem dX3_whyNoFilling_27 : decode cX3_whyNoFilling 27 = .ok (.bipush (-3), 2) := by decide +kernel
theorem dX3_whyNoFilling_29 : decode cX3_whyNoFilling 29 = .ok (.goto 4, 3) := by decide +kernel
theorem dX3_whyNoFilling_32 : decode cX3_whyNoFilling 32 = .ok (.iconst 0, 1) := by decide +kernel
theorem dX3_whyNoFilling_33 : decode cX3_whyNoFilling 33 = .ok (.ireturn, 1) := by decide +kernel
theorem dX3_refuse_0 : decode cX3_refuse 0 = .ok (.bipush (-2), 2) := by decide +kernel
theorem dX3_refuse_2 : decode cX3_refuse 2 = .ok (.iload_n 1, 1) := by decide +kernel
theorem dX3_refuse_3 : decode cX3_refuse 3 = .ok (.isub, 1) := by decide +kernel
theorem dX3_refuse_4 : decode cX3_refuse 4 = .ok (.istore_n 2, 1) := by decide +kernel
theorem dX3_refuse_5 : decode cX3_refuse 5 = .ok (.iload_n 2, 1) := by decide +kernel
theorem dX3_refuse_6 : decode cX3_refuse 6 = .ok (.ifCond .lt 22, 3) := by decide +kernel
theorem dX3_refuse_9 : decode cX3_refuse 9 = .ok (.iload_n 2, 1) := by decide +kernel
theorem dX3_refuse_10 : decode cX3_refuse 10 = .ok (.aload_n 0, 1) := by decide +kernel
theorem dX3_refuse_11 : decode cX3_refuse 11 = .ok (.getfield 24, 3) := by decide +kernel
theorem dX3_refuse_14 : decode cX3_refuse 14 = .ok (.arraylength, 1) := by decide +kernel
theorem dX3_refuse_15 : decode cX3_refuse 15 = .ok (.if_icmp .ge 13, 3) := by decide +kernel
theorem dX3_refuse_18 : decode cX3_refuse 18 = .ok (.aload_n 0, 1) := by decide +kernel
theorem dX3_refuse_19 : decode cX3_refuse 19 = .ok (.getfield 24, 3) := by decide +kernel
theorem dX3_refuse_22 : decode cX3_refuse 22 = .ok (.iload_n 2, 1) := by decide +kernel
theorem dX3_refuse_23 : decode cX3_refuse 23 = .ok (.dup2, 1) := by decide +kernel
theorem dX3_refuse_24 : decode cX3_refuse 24 = .ok (.iaload, 1) := by decide +kernel
theorem dX3_refuse_25 : decode cX3_refuse 25 = .ok (.iconst 1, 1) := by decide +kernel
theorem dX3_refuse_26 : decode cX3_refuse 26 = .ok (.iadd, 1) := by decide +kernel
theorem dX3_refuse_27 : decode cX3_refuse 27 = .ok (.iastore, 1) := by decide +kernel
theorem dX3_refuse_28 : decode cX3_refuse 28 = .ok (.iload_n 1, 1) := by decide +kernel
theorem dX3_refuse_29 : decode cX3_refuse 29 = .ok (.ireturn, 1) := by decide +kernel
theorem dX3_isColour_0 : decode cX3_isColour 0 = .ok (.iload_n 1, 1) := by decide +kernel
theorem dX3_isColour_1 : decode cX3_isColour 1 = .ok (.ifCond .lt 18, 3) := by decide +kernel
theorem dX3_isColour_4 : decode cX3_isColour 4 = .ok (.iload_n 1, 1) := by decide +kernel
theorem dX3_isColour_5 : decode cX3_isColour 5 = .ok (.aload_n 0, 1) := by decide +kernel
theorem dX3_isColour_6 : decode cX3_isColour 6 = .ok (.getfield 10, 3) := by decide +kernel
theorem dX3_isColour_9 : decode cX3_isColour 9 = .ok (.getfield 167, 3) := by decide +kernel
theorem dX3_isColour_12 : decode cX3_isColour 12 = .ok (.if_icmp .ge 7, 3) := by decide +kernel
theorem dX3_isColour_15 : decode cX3_isColour 15 = .ok (.iconst 1, 1) := by decide +kernel
theorem dX3_isColour_16 : decode cX3_isColour 16 = .ok (.goto 4, 3) := by decide +kernel
theorem dX3_isColour_19 : decode cX3_isColour 19 = .ok (.iconst 0, 1) := by decide +kernel
theorem dX3_isColour_20 : decode cX3_isColour 20 = .ok (.ireturn, 1) := by decide +kernel
theorem dX3_isEye_0 : decode cX3_isEye 0 = .ok (.iload_n 0, 1) := by decide +kernel
theorem dX3_isEye_1 : decode cX3_isEye 1 = .ok (.iconst 0, 1) := by decide +kernel
theorem dX3_isEye_2 : decode cX3_isEye 2 = .ok (.iconst 3, 1) := by decide +kernel
theorem dX3_isEye_3 : decode cX3_isEye 3 = .ok (.invokestatic 97, 3) := by decide +kernel
theorem dX3_isEye_6 : decode cX3_isEye 6 = .ok (.ireturn, 1) := by decide +kernel
theorem dX3_isEyeNumber_0 : decode cX3_isEyeNumber 0 = .ok (.iload_n 0, 1) := by decide +kernel
theorem dX3_isEyeNumber_1 : decode cX3_isEyeNumber 1 = .ok (.iconst 0, 1) := by decide +kernel
theorem dX3_isEyeNumber_2 : decode cX3_isEyeNumber 2 = .ok (.bipush 12, 2) := by decide +kernel
theorem dX3_isEyeNumber_4 : decode cX3_isEyeNumber 4 = .ok (.invokestatic 97, 3) := by decide +kernel
theorem dX3_isEyeNumber_7 : decode cX3_isEyeNumber 7 = .ok (.ifCond .ne 5, 3) := by decide +kernel
theorem dX3_isEyeNumber_10 : decode cX3_isEyeNumber 10 = .ok (.iconst 0, 1) := by decide +kernel
theorem dX3_isEyeNumber_11 : decode cX3_isEyeNumber 11 = .ok (.ireturn, 1) := by decide +kernel
theorem dX3_isEyeNumber_12 : decode cX3_isEyeNumber 12 = .ok (.iload_n 0, 1) := by decide +kernel
theorem dX3_isEyeNumber_13 : decode cX3_isEyeNumber 13 = .ok (.bipush 12, 2) := by decide +kernel
theorem dX3_isEyeNumber_15 : decode cX3_isEyeNumber 15 = .ok (.if_icmp .ne 10, 3) := by decide +kernel
theorem dX3_isEyeNumber_18 : decode cX3_isEyeNumber 18 = .ok (.iload_n 1, 1) := by decide +kernel
theorem dX3_isEyeNumber_19 : decode cX3_isEyeNumber 19 = .ok (.iconst 0, 1) := by decide +kernel
theorem dX3_isEyeNumber_20 : decode cX3_isEyeNumber 20 = .ok (.iconst 1, 1) := by decide +kernel
theorem dX3_isEyeNumber_21 : decode cX3_isEyeNumber 21 = .ok (.invokestatic 97, 3) := by decide +kernel
theorem dX3_isEyeNumber_24 : decode cX3_isEyeNumber 24 = .ok (.ireturn, 1) := by decide +kernel
theorem dX3_isEyeNumber_25 : decode cX3_isEyeNumber 25 = .ok (.iload_n 0, 1) := by decide +kernel
theorem dX3_isEyeNumber_26 : decode cX3_isEyeNumber 26 = .ok (.bipush 9, 2) := by decide +kernel
theorem dX3_isEyeNumber_28 : decode cX3_isEyeNumber 28 = .ok (.if_icmp .lt 13, 3) := by decide +kernel
theorem dX3_isEyeNumber_31 : decode cX3_isEyeNumber 31 = .ok (.iload_n 1, 1) := by decide +kernel
theorem dX3_isEyeNumber_32 : decode cX3_isEyeNumber 32 = .ok (.iconst 0, 1) := by decide +kernel
theorem dX3_isEyeNumber_33 : decode cX3_isEyeNumber 33 = .ok (.bipush 9, 2) := by decide +kernel
theorem dX3_isEyeNumber_35 : decode cX3_isEyeNumber 35 = .ok (.invokestatic 97, 3) := by decide +kernel
theorem dX3_isEyeNumber_38 : decode cX3_isEyeNumber 38 = .ok (.goto 13, 3) := by decide +kernel
theorem dX3_isEyeNumber_41 : decode cX3_isEyeNumber 41 = .ok (.iload_n 1, 1) := by decide +kernel
theorem dX3_isEyeNumber_42 : decode cX3_isEyeNumber 42 = .ok (.sipush (-300), 3) := by decide +kernel
theorem dX3_isEyeNumber_45 : decode cX3_isEyeNumber 45 = .ok (.sipush 300, 3) := by decide +kernel
theorem dX3_isEyeNumber_48 : decode cX3_isEyeNumber 48 = .ok (.invokestatic 97, 3) := by decide +kernel
theorem dX3_isEyeNumber_51 : decode cX3_isEyeNumber 51 = .ok (.ireturn, 1) := by decide +kernel
theorem dX3_isRgb_0 : decode cX3_isRgb 0 = .ok (.iload_n 0, 1) := by decide +kernel
theorem dX3_isRgb_1 : decode cX3_isRgb 1 = .ok (.iconst 0, 1) := by decide +kernel
theorem dX3_isRgb_2 : decode cX3_isRgb 2 = .ok (.sipush 255, 3) := by decide +kernel
theorem dX3_isRgb_5 : decode cX3_isRgb 5 = .ok (.invokestatic 97, 3) := by decide +kernel
theorem dX3_isRgb_8 : decode cX3_isRgb 8 = .ok (.ifCond .eq 29, 3) := by decide +kernel
theorem dX3_isRgb_11 : decode cX3_isRgb 11 = .ok (.iload_n 1, 1) := by decide +kernel
theorem dX3_isRgb_12 : decode cX3_isRgb 12 = .ok (.iconst 0, 1) := by decide +kernel
theorem dX3_isRgb_13 : decode cX3_isRgb 13 = .ok (.sipush 255, 3) := by decide +kernel
theorem dX3_isRgb_16 : decode cX3_isRgb 16 = .ok (.invokestatic 97, 3) := by decide +kernel
theorem dX3_isRgb_19 : decode cX3_isRgb 19 = .ok (.ifCond .eq 18, 3) := by decide +kernel
theorem dX3_isRgb_22 : decode cX3_isRgb 22 = .ok (.iload_n 2, 1) := by decide +kernel
theorem dX3_isRgb_23 : decode cX3_isRgb 23 = .ok (.iconst 0, 1) := by decide +kernel
theorem dX3_isRgb_24 : decode cX3_isRgb 24 = .ok (.sipush 255, 3) := by decide +kernel
theorem dX3_isRgb_27 : decode cX3_isRgb 27 = .ok (.invokestatic 97, 3) := by decide +kernel
theorem dX3_isRgb_30 : decode cX3_isRgb 30 = .ok (.ifCond .eq 7, 3) := by decide +kernel
theorem dX3_isRgb_33 : decode cX3_isRgb 33 = .ok (.iconst 1, 1) := by decide +kernel
theorem dX3_isRgb_34 : decode cX3_isRgb 34 = .ok (.goto 4, 3) := by decide +kernel
theorem dX3_isRgb_37 : decode cX3_isRgb 37 = .ok (.iconst 0, 1) := by decide +kernel
theorem dX3_isRgb_38 : decode cX3_isRgb 38 = .ok (.ireturn, 1) := by decide +kernel
theorem dX3_isWithin_0 : decode cX3_isWithin 0 = .ok (.iload_n 0, 1) := by decide +kernel
theorem dX3_isWithin_1 : decode cX3_isWithin 1 = .ok (.iload_n 1, 1) := by decide +kernel
theorem dX3_isWithin_2 : decode cX3_isWithin 2 = .ok (.if_icmp .lt 12, 3) := by decide +kernel
theorem dX3_isWithin_5 : decode cX3_isWithin 5 = .ok (.iload_n 0, 1) := by decide +kernel
theorem dX3_isWithin_6 : decode cX3_isWithin 6 = .ok (.iload_n 2, 1) := by decide +kernel
theorem dX3_isWithin_7 : decode cX3_isWithin 7 = .ok (.if_icmp .gt 7, 3) := by decide +kernel
theorem dX3_isWithin_10 : decode cX3_isWithin 10 = .ok (.iconst 1, 1) := by decide +kernel
theorem dX3_isWithin_11 : decode cX3_isWithin 11 = .ok (.goto 4, 3) := by decide +kernel
theorem dX3_isWithin_14 : decode cX3_isWithin 14 = .ok (.iconst 0, 1) := by decide +kernel
theorem dX3_isWithin_15 : decode cX3_isWithin 15 = .ok (.ireturn, 1) := by decide +kernel
theorem dX3_whyNoOrder_0 : decode cX3_whyNoOrder 0 = .ok (.iload_n 1, 1) := by decide +kernel
theorem dX3_whyNoOrder_1 : decode cX3_whyNoOrder 1 = .ok (.lookupswitch 94 #[(99, 43), (102, 60), (108, 67), (112, 88)], 43) := by decide +kernel
theorem dX3_whyNoOrder_44 : decode cX3_whyNoOrder 44 = .ok (.aload_n 0, 1) := by decide +kernel
theorem dX3_whyNoOrder_45 : decode cX3_whyNoOrder 45 = .ok (.iload_n 2, 1) := by decide +kernel
theorem dX3_whyNoOrder_46 : decode cX3_whyNoOrder 46 = .ok (.invokestatic 247, 3) := by decide +kernel
theorem dX3_whyNoOrder_49 : decode cX3_whyNoOrder 49 = .ok (.iload_n 2, 1) := by decide +kernel
theorem dX3_whyNoOrder_50 : decode cX3_whyNoOrder 50 = .ok (.invokestatic 250, 3) := by decide +kernel
theorem dX3_whyNoOrder_53 : decode cX3_whyNoOrder 53 = .ok (.iload_n 2, 1) := by decide +kernel
theorem dX3_whyNoOrder_54 : decode cX3_whyNoOrder 54 = .ok (.invokestatic 253, 3) := by decide +kernel
theorem dX3_whyNoOrder_57 : decode cX3_whyNoOrder 57 = .ok (.invokevirtual 42, 3) := by decide +kernel
theorem dX3_whyNoOrder_60 : decode cX3_whyNoOrder 60 = .ok (.ireturn, 1) := by decide +kernel
theorem dX3_whyNoOrder_61 : decode cX3_whyNoOrder 61 = .ok (.aload_n 0, 1) := by decide +kernel
theorem dX3_whyNoOrder_62 : decode cX3_whyNoOrder 62 = .ok (.iload_n 2, 1) := by decide +kernel
theorem dX3_whyNoOrder_63 : decode cX3_whyNoOrder 63 = .ok (.iload_n 3, 1) := by decide +kernel
theorem dX3_whyNoOrder_64 : decode cX3_whyNoOrder 64 = .ok (.invokevirtual 91, 3) := by decide +kernel
theorem dX3_whyNoOrder_67 : decode cX3_whyNoOrder 67 = .ok (.ireturn, 1) := by decide +kernel
theorem dX3_whyNoOrder_68 : decode cX3_whyNoOrder 68 = .ok (.aload_n 0, 1) := by decide +kernel
theorem dX3_whyNoOrder_69 : decode cX3_whyNoOrder 69 = .ok (.iconst 0, 1) := by decide +kernel
theorem dX3_whyNoOrder_70 : decode cX3_whyNoOrder 70 = .ok (.iload_n 2, 1) := by decide +kernel
theorem dX3_whyNoOrder_71 : decode cX3_whyNoOrder 71 = .ok (.invokevirtual 84, 3) := by decide +kernel
theorem dX3_whyNoOrder_74 : decode cX3_whyNoOrder 74 = .ok (.ifCond .eq 8, 3) := by decide +kernel
theorem dX3_whyNoOrder_77 : decode cX3_whyNoOrder 77 = .ok (.bipush (-2), 2) := by decide +kernel
theorem dX3_whyNoOrder_79 : decode cX3_whyNoOrder 79 = .ok (.goto 9, 3) := by decide +kernel
theorem dX3_whyNoOrder_82 : decode cX3_whyNoOrder 82 = .ok (.aload_n 0, 1) := by decide +kernel
theorem dX3_whyNoOrder_83 : decode cX3_whyNoOrder 83 = .ok (.iconst 1, 1) := by decide +kernel
theorem dX3_whyNoOrder_84 : decode cX3_whyNoOrder 84 = .ok (.iload_n 3, 1) := by decide +kernel
theorem dX3_whyNoOrder_85 : decode cX3_whyNoOrder 85 = .ok (.invokevirtual 84, 3) := by decide +kernel
theorem dX3_whyNoOrder_88 : decode cX3_whyNoOrder 88 = .ok (.ireturn, 1) := by decide +kernel
theorem dX3_whyNoOrder_89 : decode cX3_whyNoOrder 89 = .ok (.aload_n 0, 1) := by decide +kernel
theorem dX3_whyNoOrder_90 : decode cX3_whyNoOrder 90 = .ok (.iload_n 2, 1) := by decide +kernel
theorem dX3_whyNoOrder_91 : decode cX3_whyNoOrder 91 = .ok (.invokevirtual 132, 3) := by decide +kernel
theorem dX3_whyNoOrder_94 : decode cX3_whyNoOrder 94 = .ok (.ireturn, 1) := by decide +kernel
theorem dX3_whyNoOrder_95 : decode cX3_whyNoOrder 95 = .ok (.iconst 0, 1) := by decide +kernel
theorem dX3_whyNoOrder_96 : decode cX3_whyNoOrder 96 = .ok (.ireturn, 1) := by decide +kernel
theorem dX3_obey_0 : decode cX3_obey 0 = .ok (.iload_n 1, 1) := by decide +kernel
theorem dX3_obey_1 : decode cX3_obey 1 = .ok (.lookupswitch 117 #[(99, 43), (102, 66), (108, 79), (112, 102)], 43) := by decide +kernel
theorem dX3_obey_44 : decode cX3_obey 44 = .ok (.aload_n 0, 1) := by decide +kernel
theorem dX3_obey_45 : decode cX3_obey 45 = .ok (.getfield 10, 3) := by decide +kernel
theorem dX3_obey_48 : decode cX3_obey 48 = .ok (.iload_n 2, 1) := by decide +kernel
theorem dX3_obey_49 : decode cX3_obey 49 = .ok (.invokestatic 247, 3) := by decide +kernel
theorem dX3_obey_52 : decode cX3_obey 52 = .ok (.iload_n 2, 1) := by decide +kernel
theorem dX3_obey_53 : decode cX3_obey 53 = .ok (.invokestatic 250, 3) := by decide +kernel
theorem dX3_obey_56 : decode cX3_obey 56 = .ok (.iload_n 2, 1) := by decide +kernel
theorem dX3_obey_57 : decode cX3_obey 57 = .ok (.invokestatic 253, 3) := by decide +kernel
theorem dX3_obey_60 : decode cX3_obey 60 = .ok (.invokevirtual 53, 3) := by decide +kernel
theorem dX3_obey_63 : decode cX3_obey 63 = .ok (.pop, 1) := by decide +kernel
theorem dX3_obey_64 : decode cX3_obey 64 = .ok (.goto 66, 3) := by decide +kernel
theorem dX3_obey_67 : decode cX3_obey 67 = .ok (.aload_n 0, 1) := by decide +kernel
theorem dX3_obey_68 : decode cX3_obey 68 = .ok (.getfield 10, 3) := by decide +kernel
theorem dX3_obey_71 : decode cX3_obey 71 = .ok (.iload_n 2, 1) := by decide +kernel
theorem dX3_obey_72 : decode cX3_obey 72 = .ok (.iload_n 3, 1) := by decide +kernel
theorem dX3_obey_73 : decode cX3_obey 73 = .ok (.invokevirtual 94, 3) := by decide +kernel
theorem dX3_obey_76 : decode cX3_obey 76 = .ok (.pop, 1) := by decide +kernel
theorem dX3_obey_77 : decode cX3_obey 77 = .ok (.goto 53, 3) := by decide +kernel
theorem dX3_obey_80 : decode cX3_obey 80 = .ok (.aload_n 0, 1) := by decide +kernel
theorem dX3_obey_81 : decode cX3_obey 81 = .ok (.getfield 10, 3) := by decide +kernel
theorem dX3_obey_84 : decode cX3_obey 84 = .ok (.iconst 0, 1) := by decide +kernel
theorem dX3_obey_85 : decode cX3_obey 85 = .ok (.iload_n 2, 1) := by decide +kernel
theorem dX3_obey_86 : decode cX3_obey 86 = .ok (.invokevirtual 88, 3) := by decide +kernel
theorem dX3_obey_89 : decode cX3_obey 89 = .ok (.pop, 1) := by decide +kernel
theorem dX3_obey_90 : decode cX3_obey 90 = .ok (.aload_n 0, 1) := by decide +kernel
theorem dX3_obey_91 : decode cX3_obey 91 = .ok (.getfield 10, 3) := by decide +kernel
theorem dX3_obey_94 : decode cX3_obey 94 = .ok (.iconst 1, 1) := by decide +kernel
theorem dX3_obey_95 : decode cX3_obey 95 = .ok (.iload_n 3, 1) := by decide +kernel
theorem dX3_obey_96 : decode cX3_obey 96 = .ok (.invokevirtual 88, 3) := by decide +kernel
theorem dX3_obey_99 : decode cX3_obey 99 = .ok (.pop, 1) := by decide +kernel
theorem dX3_obey_100 : decode cX3_obey 100 = .ok (.goto 30, 3) := by decide +kernel
theorem dX3_obey_103 : decode cX3_obey 103 = .ok (.aload_n 0, 1) := by decide +kernel
theorem dX3_obey_104 : decode cX3_obey 104 = .ok (.getfield 38, 3) := by decide +kernel
theorem dX3_obey_107 : decode cX3_obey 107 = .ok (.aload_n 0, 1) := by decide +kernel
theorem dX3_obey_108 : decode cX3_obey 108 = .ok (.getfield 10, 3) := by decide +kernel
theorem dX3_obey_111 : decode cX3_obey 111 = .ok (.iload_n 2, 1) := by decide +kernel
theorem dX3_obey_112 : decode cX3_obey 112 = .ok (.invokevirtual 135, 3) := by decide +kernel
theorem dX3_obey_115 : decode cX3_obey 115 = .ok (.goto 15, 3) := by decide +kernel
theorem dX3_obey_118 : decode cX3_obey 118 = .ok (.aload_n 0, 1) := by decide +kernel
theorem dX3_obey_119 : decode cX3_obey 119 = .ok (.getfield 38, 3) := by decide +kernel
theorem dX3_obey_122 : decode cX3_obey 122 = .ok (.aload_n 0, 1) := by decide +kernel
theorem dX3_obey_123 : decode cX3_obey 123 = .ok (.getfield 10, 3) := by decide +kernel
theorem dX3_obey_126 : decode cX3_obey 126 = .ok (.invokevirtual 142, 3) := by decide +kernel
theorem dX3_obey_129 : decode cX3_obey 129 = .ok (.pop, 1) := by decide +kernel
theorem dX3_obey_130 : decode cX3_obey 130 = .ok (.return_, 1) := by decide +kernel
theorem dX3_redOf_0 : decode cX3_redOf 0 = .ok (.iload_n 0, 1) := by decide +kernel
theorem dX3_redOf_1 : decode cX3_redOf 1 = .ok (.bipush 16, 2) := by decide +kernel
theorem dX3_redOf_3 : decode cX3_redOf 3 = .ok (.ishr, 1) := by decide +kernel
theorem dX3_redOf_4 : decode cX3_redOf 4 = .ok (.sipush 255, 3) := by decide +kernel
theorem dX3_redOf_7 : decode cX3_redOf 7 = .ok (.iand, 1) := by decide +kernel
theorem dX3_redOf_8 : decode cX3_redOf 8 = .ok (.ireturn, 1) := by decide +kernel
theorem dX3_greenOf_0 : decode cX3_greenOf 0 = .ok (.iload_n 0, 1) := by decide +kernel
theorem dX3_greenOf_1 : decode cX3_greenOf 1 = .ok (.bipush 8, 2) := by decide +kernel
theorem dX3_greenOf_3 : decode cX3_greenOf 3 = .ok (.ishr, 1) := by decide +kernel
theorem dX3_greenOf_4 : decode cX3_greenOf 4 = .ok (.sipush 255, 3) := by decide +kernel
theorem dX3_greenOf_7 : decode cX3_greenOf 7 = .ok (.iand, 1) := by decide +kernel
theorem dX3_greenOf_8 : decode cX3_greenOf 8 = .ok (.ireturn, 1) := by decide +kernel
theorem dX3_blueOf_0 : decode cX3_blueOf 0 = .ok (.iload_n 0, 1) := by decide +kernel
theorem dX3_blueOf_1 : decode cX3_blueOf 1 = .ok (.sipush 255, 3) := by decide +kernel
theorem dX3_blueOf_4 : decode cX3_blueOf 4 = .ok (.iand, 1) := by decide +kernel
theorem dX3_blueOf_5 : decode cX3_blueOf 5 = .ok (.ireturn, 1) := by decide +kernel
theorem dX3_leaveState_0 : decode cX3_leaveState 0 = .ok (.aload_n 0, 1) := by decide +kernel
theorem dX3_leaveState_1 : decode cX3_leaveState 1 = .ok (.invokevirtual 194, 3) := by decide +kernel
theorem dX3_leaveState_4 : decode cX3_leaveState 4 = .ok (.aload_n 0, 1) := by decide +kernel
theorem dX3_leaveState_5 : decode cX3_leaveState 5 = .ok (.invokevirtual 219, 3) := by decide +kernel
theorem dX3_leaveState_8 : decode cX3_leaveState 8 = .ok (.return_, 1) := by decide +kernel
theorem dX3_noteState_0 : decode cX3_noteState 0 = .ok (.aload_n 0, 1) := by decide +kernel
theorem dX3_noteState_1 : decode cX3_noteState 1 = .ok (.getfield 16, 3) := by decide +kernel
theorem dX3_noteState_4 : decode cX3_noteState 4 = .ok (.aload_n 0, 1) := by decide +kernel
theorem dX3_noteState_5 : decode cX3_noteState 5 = .ok (.getfield 20, 3) := by decide +kernel
theorem dX3_noteState_8 : decode cX3_noteState 8 = .ok (.aaload, 1) := by decide +kernel
theorem dX3_noteState_9 : decode cX3_noteState 9 = .ok (.aload_n 0, 1) := by decide +kernel
theorem dX3_noteState_10 : decode cX3_noteState 10 = .ok (.getfield 10, 3) := by decide +kernel
theorem dX3_noteState_13 : decode cX3_noteState 13 = .ok (.invokevirtual 212, 3) := by decide +kernel
theorem dX3_noteState_16 : decode cX3_noteState 16 = .ok (.return_, 1) := by decide +kernel
theorem dX3_keepNoted_0 : decode cX3_keepNoted 0 = .ok (.aload_n 0, 1) := by decide +kernel
theorem dX3_keepNoted_1 : decode cX3_keepNoted 1 = .ok (.getfield 20, 3) := by decide +kernel
theorem dX3_keepNoted_4 : decode cX3_keepNoted 4 = .ok (.iconst 5, 1) := by decide +kernel
theorem dX3_keepNoted_5 : decode cX3_keepNoted 5 = .ok (.if_icmp .ge 14, 3) := by decide +kernel
theorem dX3_keepNoted_8 : decode cX3_keepNoted 8 = .ok (.aload_n 0, 1) := by decide +kernel
theorem dX3_keepNoted_9 : decode cX3_keepNoted 9 = .ok (.dup, 1) := by decide +kernel
theorem dX3_keepNoted_10 : decode cX3_keepNoted 10 = .ok (.getfield 20, 3) := by decide +kernel
theorem dX3_keepNoted_13 : decode cX3_keepNoted 13 = .ok (.iconst 1, 1) := by decide +kernel
theorem dX3_keepNoted_14 : decode cX3_keepNoted 14 = .ok (.iadd, 1) := by decide +kernel
theorem dX3_keepNoted_15 : decode cX3_keepNoted 15 = .ok (.putfield 20, 3) := by decide +kernel
theorem dX3_keepNoted_18 : decode cX3_keepNoted 18 = .ok (.return_, 1) := by decide +kernel
theorem dX3_keepNoted_19 : decode cX3_keepNoted 19 = .ok (.aload_n 0, 1) := by decide +kernel
theorem dX3_keepNoted_20 : decode cX3_keepNoted 20 = .ok (.getfield 16, 3) := by decide +kernel
theorem dX3_keepNoted_23 : decode cX3_keepNoted 23 = .ok (.iconst 0, 1) := by decide +kernel
theorem dX3_keepNoted_24 : decode cX3_keepNoted 24 = .ok (.aaload, 1) := by decide +kernel
theorem dX3_keepNoted_25 : decode cX3_keepNoted 25 = .ok (.astore_n 1, 1) := by decide +kernel
theorem dX3_keepNoted_26 : decode cX3_keepNoted 26 = .ok (.iconst 0, 1) := by decide +kernel
theorem dX3_keepNoted_27 : decode cX3_keepNoted 27 = .ok (.istore_n 2, 1) := by decide +kernel
theorem dX3_keepNoted_28 : decode cX3_keepNoted 28 = .ok (.iload_n 2, 1) := by decide +kernel
theorem dX3_keepNoted_29 : decode cX3_keepNoted 29 = .ok (.iconst 5, 1) := by decide +kernel
theorem dX3_keepNoted_30 : decode cX3_keepNoted 30 = .ok (.if_icmp .ge 23, 3) := by decide +kernel
theorem dX3_keepNoted_33 : decode cX3_keepNoted 33 = .ok (.aload_n 0, 1) := by decide +kernel
theorem dX3_keepNoted_34 : decode cX3_keepNoted 34 = .ok (.getfield 16, 3) := by decide +kernel
theorem dX3_keepNoted_37 : decode cX3_keepNoted 37 = .ok (.iload_n 2, 1) := by decide +kernel
theorem dX3_keepNoted_38 : decode cX3_keepNoted 38 = .ok (.aload_n 0, 1) := by decide +kernel
theorem dX3_keepNoted_39 : decode cX3_keepNoted 39 = .ok (.getfield 16, 3) := by decide +kernel
theorem dX3_keepNoted_42 : decode cX3_keepNoted 42 = .ok (.iload_n 2, 1) := by decide +kernel
theorem dX3_keepNoted_43 : decode cX3_keepNoted 43 = .ok (.iconst 1, 1) := by decide +kernel
theorem dX3_keepNoted_44 : decode cX3_keepNoted 44 = .ok (.iadd, 1) := by decide +kernel
theorem dX3_keepNoted_45 : decode cX3_keepNoted 45 = .ok (.aaload, 1) := by decide +kernel
theorem dX3_keepNoted_46 : decode cX3_keepNoted 46 = .ok (.aastore, 1) := by decide +kernel
theorem dX3_keepNoted_47 : decode cX3_keepNoted 47 = .ok (.iinc 2 1, 3) := by decide +kernel
theorem dX3_keepNoted_50 : decode cX3_keepNoted 50 = .ok (.goto (-22), 3) := by decide +kernel
theorem dX3_keepNoted_53 : decode cX3_keepNoted 53 = .ok (.aload_n 0, 1) := by decide +kernel
theorem dX3_keepNoted_54 : decode cX3_keepNoted 54 = .ok (.getfield 16, 3) := by decide +kernel
theorem dX3_keepNoted_57 : decode cX3_keepNoted 57 = .ok (.iconst 5, 1) := by decide +kernel
theorem dX3_keepNoted_58 : decode cX3_keepNoted 58 = .ok (.aload_n 1, 1) := by decide +kernel
theorem dX3_keepNoted_59 : decode cX3_keepNoted 59 = .ok (.aastore, 1) := by decide +kernel
theorem dX3_keepNoted_60 : decode cX3_keepNoted 60 = .ok (.return_, 1) := by decide +kernel
theorem dX3_putRgb_0 : decode cX3_putRgb 0 = .ok (.aload_n 0, 1) := by decide +kernel
theorem dX3_putRgb_1 : decode cX3_putRgb 1 = .ok (.iload_n 1, 1) := by decide +kernel
theorem dX3_putRgb_2 : decode cX3_putRgb 2 = .ok (.iaload, 1) := by decide +kernel
theorem dX3_putRgb_3 : decode cX3_putRgb 3 = .ok (.iload_n 2, 1) := by decide +kernel
theorem dX3_putRgb_4 : decode cX3_putRgb 4 = .ok (.if_icmp .ne 7, 3) := by decide +kernel
theorem dX3_putRgb_7 : decode cX3_putRgb 7 = .ok (.iconst 0, 1) := by decide +kernel
theorem dX3_putRgb_8 : decode cX3_putRgb 8 = .ok (.goto 4, 3) := by decide +kernel
theorem dX3_putRgb_11 : decode cX3_putRgb 11 = .ok (.iconst 1, 1) := by decide +kernel
theorem dX3_putRgb_12 : decode cX3_putRgb 12 = .ok (.aload_n 0, 1) := by decide +kernel
theorem dX3_putRgb_13 : decode cX3_putRgb 13 = .ok (.iload_n 1, 1) := by decide +kernel
theorem dX3_putRgb_14 : decode cX3_putRgb 14 = .ok (.iconst 1, 1) := by decide +kernel
theorem dX3_putRgb_15 : decode cX3_putRgb 15 = .ok (.iadd, 1) := by decide +kernel
theorem dX3_putRgb_16 : decode cX3_putRgb 16 = .ok (.iaload, 1) := by decide +kernel
theorem dX3_putRgb_17 : decode cX3_putRgb 17 = .ok (.iload_n 3, 1) := by decide +kernel
theorem dX3_putRgb_18 : decode cX3_putRgb 18 = .ok (.if_icmp .ne 7, 3) := by decide +kernel
theorem dX3_putRgb_21 : decode cX3_putRgb 21 = .ok (.iconst 0, 1) := by decide +kernel
theorem dX3_putRgb_22 : decode cX3_putRgb 22 = .ok (.goto 4, 3) := by decide +kernel
theorem dX3_putRgb_25 : decode cX3_putRgb 25 = .ok (.iconst 1, 1) := by decide +kernel
theorem dX3_putRgb_26 : decode cX3_putRgb 26 = .ok (.iadd, 1) := by decide +kernel
theorem dX3_putRgb_27 : decode cX3_putRgb 27 = .ok (.aload_n 0, 1) := by decide +kernel
theorem dX3_putRgb_28 : decode cX3_putRgb 28 = .ok (.iload_n 1, 1) := by decide +kernel
theorem dX3_putRgb_29 : decode cX3_putRgb 29 = .ok (.iconst 2, 1) := by decide +kernel
theorem dX3_putRgb_30 : decode cX3_putRgb 30 = .ok (.iadd, 1) := by decide +kernel
theorem dX3_putRgb_31 : decode cX3_putRgb 31 = .ok (.iaload, 1) := by decide +kernel
theorem dX3_putRgb_32 : decode cX3_putRgb 32 = .ok (.iload 4, 2) := by decide +kernel
theorem dX3_putRgb_34 : decode cX3_putRgb 34 = .ok (.if_icmp .ne 7, 3) := by decide +kernel
theorem dX3_putRgb_37 : decode cX3_putRgb 37 = .ok (.iconst 0, 1) := by decide +kernel
theorem dX3_putRgb_38 : decode cX3_putRgb 38 = .ok (.goto 4, 3) := by decide +kernel
theorem dX3_putRgb_41 : decode cX3_putRgb 41 = .ok (.iconst 1, 1) := by decide +kernel
theorem dX3_putRgb_42 : decode cX3_putRgb 42 = .ok (.iadd, 1) := by decide +kernel
theorem dX3_putRgb_43 : decode cX3_putRgb 43 = .ok (.istore 5, 2) := by decide +kernel
theorem dX3_putRgb_45 : decode cX3_putRgb 45 = .ok (.aload_n 0, 1) := by decide +kernel
theorem dX3_putRgb_46 : decode cX3_putRgb 46 = .ok (.iload_n 1, 1) := by decide +kernel
theorem dX3_putRgb_47 : decode cX3_putRgb 47 = .ok (.iload_n 2, 1) := by decide +kernel
theorem dX3_putRgb_48 : decode cX3_putRgb 48 = .ok (.iastore, 1) := by decide +kernel
theorem dX3_putRgb_49 : decode cX3_putRgb 49 = .ok (.aload_n 0, 1) := by decide +kernel
theorem dX3_putRgb_50 : decode cX3_putRgb 50 = .ok (.iload_n 1, 1) := by decide +kernel
theorem dX3_putRgb_51 : decode cX3_putRgb 51 = .ok (.iconst 1, 1) := by decide +kernel
theorem dX3_putRgb_52 : decode cX3_putRgb 52 = .ok (.iadd, 1) := by decide +kernel
theorem dX3_putRgb_53 : decode cX3_putRgb 53 = .ok (.iload_n 3, 1) := by decide +kernel
theorem dX3_putRgb_54 : decode cX3_putRgb 54 = .ok (.iastore, 1) := by decide +kernel
theorem dX3_putRgb_55 : decode cX3_putRgb 55 = .ok (.aload_n 0, 1) := by decide +kernel
theorem dX3_putRgb_56 : decode cX3_putRgb 56 = .ok (.iload_n 1, 1) := by decide +kernel
theorem dX3_putRgb_57 : decode cX3_putRgb 57 = .ok (.iconst 2, 1) := by decide +kernel
theorem dX3_putRgb_58 : decode cX3_putRgb 58 = .ok (.iadd, 1) := by decide +kernel
theorem dX3_putRgb_59 : decode cX3_putRgb 59 = .ok (.iload 4, 2) := by decide +kernel
theorem dX3_putRgb_61 : decode cX3_putRgb 61 = .ok (.iastore, 1) := by decide +kernel
theorem dX3_putRgb_62 : decode cX3_putRgb 62 = .ok (.iload 5, 2) := by decide +kernel
theorem dX3_putRgb_64 : decode cX3_putRgb 64 = .ok (.ireturn, 1) := by decide +kernel
theorem dX3_bitsOf_0 : decode cX3_bitsOf 0 = .ok (.fload_n 0, 1) := by decide +kernel
theorem dX3_bitsOf_1 : decode cX3_bitsOf 1 = .ok (.fconst 0, 1) := by decide +kernel
theorem dX3_bitsOf_2 : decode cX3_bitsOf 2 = .ok (.fcmp .g, 1) := by decide +kernel
theorem dX3_bitsOf_3 : decode cX3_bitsOf 3 = .ok (.ifCond .ge 8, 3) := by decide +kernel
theorem dX3_bitsOf_6 : decode cX3_bitsOf 6 = .ok (.fload_n 0, 1) := by decide +kernel
theorem dX3_bitsOf_7 : decode cX3_bitsOf 7 = .ok (.fneg, 1) := by decide +kernel
theorem dX3_bitsOf_8 : decode cX3_bitsOf 8 = .ok (.goto 4, 3) := by decide +kernel
theorem dX3_bitsOf_11 : decode cX3_bitsOf 11 = .ok (.fload_n 0, 1) := by decide +kernel
theorem dX3_bitsOf_12 : decode cX3_bitsOf 12 = .ok (.fstore_n 1, 1) := by decide +kernel
theorem dX3_bitsOf_13 : decode cX3_bitsOf 13 = .ok (.bipush 127, 2) := by decide +kernel
theorem dX3_bitsOf_15 : decode cX3_bitsOf 15 = .ok (.istore_n 2, 1) := by decide +kernel
theorem dX3_bitsOf_16 : decode cX3_bitsOf 16 = .ok (.fload_n 1, 1) := by decide +kernel
theorem dX3_bitsOf_17 : decode cX3_bitsOf 17 = .ok (.fconst 2, 1) := by decide +kernel
theorem dX3_bitsOf_18 : decode cX3_bitsOf 18 = .ok (.fcmp .l, 1) := by decide +kernel
theorem dX3_bitsOf_19 : decode cX3_bitsOf 19 = .ok (.ifCond .lt 22, 3) := by decide +kernel
theorem dX3_bitsOf_22 : decode cX3_bitsOf 22 = .ok (.iload_n 2, 1) := by decide +kernel
theorem dX3_bitsOf_23 : decode cX3_bitsOf 23 = .ok (.sipush 254, 3) := by decide +kernel
theorem dX3_bitsOf_26 : decode cX3_bitsOf 26 = .ok (.if_icmp .ge 15, 3) := by decide +kernel
theorem dX3_bitsOf_29 : decode cX3_bitsOf 29 = .ok (.fload_n 1, 1) := by decide +kernel
theorem dX3_bitsOf_30 : decode cX3_bitsOf 30 = .ok (.ldc_w 256, 3) := by decide +kernel
theorem dX3_bitsOf_33 : decode cX3_bitsOf 33 = .ok (.fmul, 1) := by decide +kernel
theorem dX3_bitsOf_34 : decode cX3_bitsOf 34 = .ok (.fstore_n 1, 1) := by decide +kernel
theorem dX3_bitsOf_35 : decode cX3_bitsOf 35 = .ok (.iinc 2 1, 3) := by decide +kernel
theorem dX3_bitsOf_38 : decode cX3_bitsOf 38 = .ok (.goto (-22), 3) := by decide +kernel
theorem dX3_bitsOf_41 : decode cX3_bitsOf 41 = .ok (.fload_n 1, 1) := by decide +kernel
theorem dX3_bitsOf_42 : decode cX3_bitsOf 42 = .ok (.fconst 1, 1) := by decide +kernel
theorem dX3_bitsOf_43 : decode cX3_bitsOf 43 = .ok (.fcmp .g, 1) := by decide +kernel
theorem dX3_bitsOf_44 : decode cX3_bitsOf 44 = .ok (.ifCond .ge 18, 3) := by decide +kernel
theorem dX3_bitsOf_47 : decode cX3_bitsOf 47 = .ok (.iload_n 2, 1) := by decide +kernel
theorem dX3_bitsOf_48 : decode cX3_bitsOf 48 = .ok (.iconst 1, 1) := by decide +kernel
theorem dX3_bitsOf_49 : decode cX3_bitsOf 49 = .ok (.if_icmp .le 13, 3) := by decide +kernel
theorem dX3_bitsOf_52 : decode cX3_bitsOf 52 = .ok (.fload_n 1, 1) := by decide +kernel
theorem dX3_bitsOf_53 : decode cX3_bitsOf 53 = .ok (.fconst 2, 1) := by decide +kernel
theorem dX3_bitsOf_54 : decode cX3_bitsOf 54 = .ok (.fmul, 1) := by decide +kernel
theorem dX3_bitsOf_55 : decode cX3_bitsOf 55 = .ok (.fstore_n 1, 1) := by decide +kernel
theorem dX3_bitsOf_56 : decode cX3_bitsOf 56 = .ok (.iinc 2 (-1), 3) := by decide +kernel
theorem dX3_bitsOf_59 : decode cX3_bitsOf 59 = .ok (.goto (-18), 3) := by decide +kernel
theorem dX3_bitsOf_62 : decode cX3_bitsOf 62 = .ok (.iload_n 2, 1) := by decide +kernel
theorem dX3_bitsOf_63 : decode cX3_bitsOf 63 = .ok (.iconst 1, 1) := by decide +kernel
theorem dX3_bitsOf_64 : decode cX3_bitsOf 64 = .ok (.isub, 1) := by decide +kernel
theorem dX3_bitsOf_65 : decode cX3_bitsOf 65 = .ok (.bipush 23, 2) := by decide +kernel
theorem dX3_bitsOf_67 : decode cX3_bitsOf 67 = .ok (.ishl, 1) := by decide +kernel
theorem dX3_bitsOf_68 : decode cX3_bitsOf 68 = .ok (.fload_n 1, 1) := by decide +kernel
theorem dX3_bitsOf_69 : decode cX3_bitsOf 69 = .ok (.ldc_w 257, 3) := by decide +kernel
theorem dX3_bitsOf_72 : decode cX3_bitsOf 72 = .ok (.fmul, 1) := by decide +kernel
theorem dX3_bitsOf_73 : decode cX3_bitsOf 73 = .ok (.f2i, 1) := by decide +kernel
theorem dX3_bitsOf_74 : decode cX3_bitsOf 74 = .ok (.iadd, 1) := by decide +kernel
theorem dX3_bitsOf_75 : decode cX3_bitsOf 75 = .ok (.istore_n 3, 1) := by decide +kernel
theorem dX3_bitsOf_76 : decode cX3_bitsOf 76 = .ok (.fload_n 0, 1) := by decide +kernel
theorem dX3_bitsOf_77 : decode cX3_bitsOf 77 = .ok (.fconst 0, 1) := by decide +kernel
theorem dX3_bitsOf_78 : decode cX3_bitsOf 78 = .ok (.fcmp .g, 1) := by decide +kernel
theorem dX3_bitsOf_79 : decode cX3_bitsOf 79 = .ok (.ifCond .ge 10, 3) := by decide +kernel
theorem dX3_bitsOf_82 : decode cX3_bitsOf 82 = .ok (.iload_n 3, 1) := by decide +kernel
theorem dX3_bitsOf_83 : decode cX3_bitsOf 83 = .ok (.ldc 120, 2) := by decide +kernel
theorem dX3_bitsOf_85 : decode cX3_bitsOf 85 = .ok (.ior, 1) := by decide +kernel
theorem dX3_bitsOf_86 : decode cX3_bitsOf 86 = .ok (.goto 4, 3) := by decide +kernel
theorem dX3_bitsOf_89 : decode cX3_bitsOf 89 = .ok (.iload_n 3, 1) := by decide +kernel
theorem dX3_bitsOf_90 : decode cX3_bitsOf 90 = .ok (.ireturn, 1) := by decide +kernel
end
section
theorem dX4_init_0 : decode cX4_init 0 = .ok (.aload_n 0, 1) := by decide +kernel
theorem dX4_init_1 : decode cX4_init 1 = .ok (.invokespecial 1, 3) := by decide +kernel
theorem dX4_init_4 : decode cX4_init 4 = .ok (.aload_n 0, 1) := by decide +kernel
theorem dX4_init_5 : decode cX4_init 5 = .ok (.sipush 129, 3) := by decide +kernel
theorem dX4_init_8 : decode cX4_init 8 = .ok (.newarray .int, 2) := by decide +kernel
theorem dX4_init_10 : decode cX4_init 10 = .ok (.putfield 7, 3) := by decide +kernel
theorem dX4_init_13 : decode cX4_init 13 = .ok (.aload_n 0, 1) := by decide +kernel
theorem dX4_init_14 : decode cX4_init 14 = .ok (.sipush 129, 3) := by decide +kernel
theorem dX4_init_17 : decode cX4_init 17 = .ok (.newarray .int, 2) := by decide +kernel
theorem dX4_init_19 : decode cX4_init 19 = .ok (.putfield 13, 3) := by decide +kernel
theorem dX4_init_22 : decode cX4_init 22 = .ok (.aload_n 0, 1) := by decide +kernel
theorem dX4_init_23 : decode cX4_init 23 = .ok (.sipush 645, 3) := by decide +kernel
theorem dX4_init_26 : decode cX4_init 26 = .ok (.newarray .int, 2) := by decide +kernel
theorem dX4_init_28 : decode cX4_init 28 = .ok (.putfield 16, 3) := by decide +kernel
theorem dX4_init_31 : decode cX4_init 31 = .ok (.aload_n 0, 1) := by decide +kernel
theorem dX4_init_32 : decode cX4_init 32 = .ok (.iconst 3, 1) := by decide +kernel
theorem dX4_init_33 : decode cX4_init 33 = .ok (.newarray .int, 2) := by decide +kernel
theorem dX4_init_35 : decode cX4_init 35 = .ok (.putfield 19, 3) := by decide +kernel
theorem dX4_init_38 : decode cX4_init 38 = .ok (.aload_n 0, 1) := by decide +kernel
theorem dX4_init_39 : decode cX4_init 39 = .ok (.bipush 120, 2) := by decide +kernel
theorem dX4_init_41 : decode cX4_init 41 = .ok (.newarray .int, 2) := by decide +kernel
theorem dX4_init_43 : decode cX4_init 43 = .ok (.putfield 22, 3) := by decide +kernel
theorem dX4_init_46 : decode cX4_init 46 = .ok (.aload_n 0, 1) := by decide +kernel
theorem dX4_init_47 : decode cX4_init 47 = .ok (.sipush 400, 3) := by decide +kernel
theorem dX4_init_50 : decode cX4_init 50 = .ok (.newarray .float, 2) := by decide +kernel
theorem dX4_init_52 : decode cX4_init 52 = .ok (.putfield 25, 3) := by decide +kernel
theorem dX4_init_55 : decode cX4_init 55 = .ok (.aload_n 0, 1) := by decide +kernel
theorem dX4_init_56 : decode cX4_init 56 = .ok (.bipush 8, 2) := by decide +kernel
theorem dX4_init_58 : decode cX4_init 58 = .ok (.newarray .int, 2) := by decide +kernel
theorem dX4_init_60 : decode cX4_init 60 = .ok (.putfield 29, 3) := by decide +kernel
theorem dX4_init_63 : decode cX4_init 63 = .ok (.aload_n 0, 1) := by decide +kernel
theorem dX4_init_64 : decode cX4_init 64 = .ok (.bipush 60, 2) := by decide +kernel
theorem dX4_init_66 : decode cX4_init 66 = .ok (.newarray .int, 2) := by decide +kernel
theorem dX4_init_68 : decode cX4_init 68 = .ok (.putfield 32, 3) := by decide +kernel
theorem dX4_init_71 : decode cX4_init 71 = .ok (.aload_n 0, 1) := by decide +kernel
theorem dX4_init_72 : decode cX4_init 72 = .ok (.bipush 120, 2) := by decide +kernel
theorem dX4_init_74 : decode cX4_init 74 = .ok (.newarray .int, 2) := by decide +kernel
theorem dX4_init_76 : decode cX4_init 76 = .ok (.putfield 35, 3) := by decide +kernel
theorem dX4_init_79 : decode cX4_init 79 = .ok (.iconst 0, 1) := by decide +kernel
theorem dX4_init_80 : decode cX4_init 80 = .ok (.istore_n 1, 1) := by decide +kernel
theorem dX4_init_81 : decode cX4_init 81 = .ok (.iload_n 1, 1) := by decide +kernel
theorem dX4_init_82 : decode cX4_init 82 = .ok (.iconst 4, 1) := by decide +kernel
theorem dX4_init_83 : decode cX4_init 83 = .ok (.if_icmp .ge 58, 3) := by decide +kernel
theorem dX4_init_86 : decode cX4_init 86 = .ok (.iconst 0, 1) := by decide +kernel
theorem dX4_init_87 : decode cX4_init 87 = .ok (.istore_n 2, 1) := by decide +kernel
theorem dX4_init_88 : decode cX4_init 88 = .ok (.iload_n 2, 1) := by decide +kernel
theorem dX4_init_89 : decode cX4_init 89 = .ok (.iconst 3, 1) := by decide +kernel
theorem dX4_init_90 : decode cX4_init 90 = .ok (.if_icmp .ge 45, 3) := by decide +kernel
theorem dX4_init_93 : decode cX4_init 93 = .ok (.aload_n 0, 1) := by decide +kernel
theorem dX4_init_94 : decode cX4_init 94 = .ok (.getfield 7, 3) := by decide +kernel
theorem dX4_init_97 : decode cX4_init 97 = .ok (.bipush 62, 2) := by decide +kernel
theorem dX4_init_99 : decode cX4_init 99 = .ok (.bipush 13, 2) := by decide +kernel
theorem dX4_init_101 : decode cX4_init 101 = .ok (.iload_n 1, 1) := by decide +kernel
theorem dX4_init_102 : decode cX4_init 102 = .ok (.imul, 1) := by decide +kernel
theorem dX4_init_103 : decode cX4_init 103 = .ok (.iadd, 1) := by decide +kernel
theorem dX4_init_104 : decode cX4_init 104 = .ok (.iconst 4, 1) := by decide +kernel
theorem dX4_init_105 : decode cX4_init 105 = .ok (.iload_n 2, 1) := by decide +kernel
theorem dX4_init_106 : decode cX4_init 106 = .ok (.imul, 1) := by decide +kernel
theorem dX4_init_107 : decode cX4_init 107 = .ok (.iadd, 1) := by decide +kernel
theorem dX4_init_108 : decode cX4_init 108 = .ok (.bipush 100, 2) := by decide +kernel
theorem dX4_init_110 : decode cX4_init 110 = .ok (.iastore, 1) := by decide +kernel
theorem dX4_init_111 : decode cX4_init 111 = .ok (.aload_n 0, 1) := by decide +kernel
theorem dX4_init_112 : decode cX4_init 112 = .ok (.getfield 7, 3) := by decide +kernel
theorem dX4_init_115 : decode cX4_init 115 = .ok (.bipush 62, 2) := by decide +kernel
theorem dX4_init_117 : decode cX4_init 117 = .ok (.bipush 13, 2) := by decide +kernel
theorem dX4_init_119 : decode cX4_init 119 = .ok (.iload_n 1, 1) := by decide +kernel
theorem dX4_init_120 : decode cX4_init 120 = .ok (.imul, 1) := by decide +kernel
theorem dX4_init_121 : decode cX4_init 121 = .ok (.iadd, 1) := by decide +kernel
theorem dX4_init_122 : decode cX4_init 122 = .ok (.bipush 9, 2) := by decide +kernel
theorem dX4_init_124 : decode cX4_init 124 = .ok (.iadd, 1) := by decide +kernel
theorem dX4_init_125 : decode cX4_init 125 = .ok (.iload_n 2, 1) := by decide +kernel
theorem dX4_init_126 : decode cX4_init 126 = .ok (.iadd, 1) := by decide +kernel
theorem dX4_init_127 : decode cX4_init 127 = .ok (.iconst 1, 1) := by decide +kernel
theorem dX4_init_128 : decode cX4_init 128 = .ok (.iastore, 1) := by decide +kernel
theorem dX4_init_129 : decode cX4_init 129 = .ok (.iinc 2 1, 3) := by decide +kernel
theorem dX4_init_132 : decode cX4_init 132 = .ok (.goto (-44), 3) := by decide +kernel
theorem dX4_init_135 : decode cX4_init 135 = .ok (.iinc 1 1, 3) := by decide +kernel
theorem dX4_init_138 : decode cX4_init 138 = .ok (.goto (-57), 3) := by decide +kernel
theorem dX4_init_141 : decode cX4_init 141 = .ok (.aload_n 0, 1) := by decide +kernel
theorem dX4_init_142 : decode cX4_init 142 = .ok (.getfield 7, 3) := by decide +kernel
theorem dX4_init_145 : decode cX4_init 145 = .ok (.bipush 74, 2) := by decide +kernel
theorem dX4_init_147 : decode cX4_init 147 = .ok (.iconst 1, 1) := by decide +kernel
theorem dX4_init_148 : decode cX4_init 148 = .ok (.iastore, 1) := by decide +kernel
theorem dX4_init_149 : decode cX4_init 149 = .ok (.aload_n 0, 1) := by decide +kernel
theorem dX4_init_150 : decode cX4_init 150 = .ok (.getfield 7, 3) := by decide +kernel
theorem dX4_init_153 : decode cX4_init 153 = .ok (.bipush 115, 2) := by decide +kernel
theorem dX4_init_155 : decode cX4_init 155 = .ok (.sipush 255, 3) := by decide +kernel
theorem dX4_init_158 : decode cX4_init 158 = .ok (.iastore, 1) := by decide +kernel
theorem dX4_init_159 : decode cX4_init 159 = .ok (.iconst 0, 1) := by decide +kernel
theorem dX4_init_160 : decode cX4_init 160 = .ok (.istore_n 1, 1) := by decide +kernel
theorem dX4_init_161 : decode cX4_init 161 = .ok (.iload_n 1, 1) := by decide +kernel
theorem dX4_init_162 : decode cX4_init 162 = .ok (.iconst 3, 1) := by decide +kernel
theorem dX4_init_163 : decode cX4_init 163 = .ok (.if_icmp .ge 21, 3) := by decide +kernel
theorem dX4_init_166 : decode cX4_init 166 = .ok (.aload_n 0, 1) := by decide +kernel
theorem dX4_init_167 : decode cX4_init 167 = .ok (.getfield 7, 3) := by decide +kernel
theorem dX4_init_170 : decode cX4_init 170 = .ok (.bipush 117, 2) := by decide +kernel
theorem dX4_init_172 : decode cX4_init 172 = .ok (.iload_n 1, 1) := by decide +kernel
theorem dX4_init_173 : decode cX4_init 173 = .ok (.iadd, 1) := by decide +kernel
theorem dX4_init_174 : decode cX4_init 174 = .ok (.sipush 255, 3) := by decide +kernel
theorem dX4_init_177 : decode cX4_init 177 = .ok (.iastore, 1) := by decide +kernel
theorem dX4_init_178 : decode cX4_init 178 = .ok (.iinc 1 1, 3) := by decide +kernel
theorem dX4_init_181 : decode cX4_init 181 = .ok (.goto (-20), 3) := by decide +kernel
theorem dX4_init_184 : decode cX4_init 184 = .ok (.return_, 1) := by decide +kernel
theorem dX4_in_0 : decode cX4_in 0 = .ok (.iload_n 0, 1) := by decide +kernel
theorem dX4_in_1 : decode cX4_in 1 = .ok (.iload_n 1, 1) := by decide +kernel
theorem dX4_in_2 : decode cX4_in 2 = .ok (.if_icmp .lt 12, 3) := by decide +kernel
theorem dX4_in_5 : decode cX4_in 5 = .ok (.iload_n 0, 1) := by decide +kernel
theorem dX4_in_6 : decode cX4_in 6 = .ok (.iload_n 2, 1) := by decide +kernel
theorem dX4_in_7 : decode cX4_in 7 = .ok (.if_icmp .gt 7, 3) := by decide +kernel
theorem dX4_in_10 : decode cX4_in 10 = .ok (.iconst 1, 1) := by decide +kernel
theorem dX4_in_11 : decode cX4_in 11 = .ok (.goto 4, 3) := by decide +kernel
theorem dX4_in_14 : decode cX4_in 14 = .ok (.iconst 0, 1) := by decide +kernel
theorem dX4_in_15 : decode cX4_in 15 = .ok (.ireturn, 1) := by decide +kernel
theorem dX4_has_0 : decode cX4_has 0 = .ok (.iload_n 0, 1) := by decide +kernel
theorem dX4_has_1 : decode cX4_has 1 = .ok (.iload_n 1, 1) := by decide +kernel
theorem dX4_has_2 : decode cX4_has 2 = .ok (.ishr, 1) := by decide +kernel
theorem dX4_has_3 : decode cX4_has 3 = .ok (.iconst 1, 1) := by decide +kernel
theorem dX4_has_4 : decode cX4_has 4 = .ok (.iand, 1) := by decide +kernel
theorem dX4_has_5 : decode cX4_has 5 = .ok (.iconst 1, 1) := by decide +kernel
theorem dX4_has_6 : decode cX4_has 6 = .ok (.if_icmp .ne 7, 3) := by decide +kernel
theorem dX4_has_9 : decode cX4_has 9 = .ok (.iconst 1, 1) := by decide +kernel
theorem dX4_has_10 : decode cX4_has 10 = .ok (.goto 4, 3) := by decide +kernel
theorem dX4_has_13 : decode cX4_has 13 = .ok (.iconst 0, 1) := by decide +kernel
theorem dX4_has_14 : decode cX4_has 14 = .ok (.ireturn, 1) := by decide +kernel
theorem dX4_bitsIn_0 : decode cX4_bitsIn 0 = .ok (.iconst 0, 1) := by decide +kernel
theorem dX4_bitsIn_1 : decode cX4_bitsIn 1 = .ok (.istore_n 1, 1) := by decide +kernel
theorem dX4_bitsIn_2 : decode cX4_bitsIn 2 = .ok (.iconst 0, 1) := by decide +kernel
theorem dX4_bitsIn_3 : decode cX4_bitsIn 3 = .ok (.istore_n 2, 1) := by decide +kernel
theorem dX4_bitsIn_4 : decode cX4_bitsIn 4 = .ok (.iload_n 2, 1) := by decide +kernel
theorem dX4_bitsIn_5 : decode cX4_bitsIn 5 = .ok (.bipush 20, 2) := by decide +kernel
theorem dX4_bitsIn_7 : decode cX4_bitsIn 7 = .ok (.if_icmp .ge 17, 3) := by decide +kernel
theorem dX4_bitsIn_10 : decode cX4_bitsIn 10 = .ok (.iload_n 1, 1) := by decide +kernel
theorem dX4_bitsIn_11 : decode cX4_bitsIn 11 = .ok (.iload_n 0, 1) := by decide +kernel
theorem dX4_bitsIn_12 : decode cX4_bitsIn 12 = .ok (.iload_n 2, 1) := by decide +kernel
theorem dX4_bitsIn_13 : decode cX4_bitsIn 13 = .ok (.ishr, 1) := by decide +kernel
theorem dX4_bitsIn_14 : decode cX4_bitsIn 14 = .ok (.iconst 1, 1) := by decide +kernel
theorem dX4_bitsIn_15 : decode cX4_bitsIn 15 = .ok (.iand, 1) := by decide +kernel
theorem dX4_bitsIn_16 : decode cX4_bitsIn 16 = .ok (.iadd, 1) := by decide +kernel
theorem dX4_bitsIn_17 : decode cX4_bitsIn 17 = .ok (.istore_n 1, 1) := by decide +kernel
theorem dX4_bitsIn_18 : decode cX4_bitsIn 18 = .ok (.iinc 2 1, 3) := by decide +kernel
theorem dX4_bitsIn_21 : decode cX4_bitsIn 21 = .ok (.goto (-17), 3) := by decide +kernel
theorem dX4_bitsIn_24 : decode cX4_bitsIn 24 = .ok (.iload_n 1, 1) := by decide +kernel
theorem dX4_bitsIn_25 : decode cX4_bitsIn 25 = .ok (.ireturn, 1) := by decide +kernel
theorem dX4_bitsOf_0 : decode cX4_bitsOf 0 = .ok (.fload_n 0, 1) := by decide +kernel
theorem dX4_bitsOf_1 : decode cX4_bitsOf 1 = .ok (.fconst 0, 1) := by decide +kernel
theorem dX4_bitsOf_2 : decode cX4_bitsOf 2 = .ok (.fcmp .l, 1) := by decide +kernel
theorem dX4_bitsOf_3 : decode cX4_bitsOf 3 = .ok (.ifCond .ne 18, 3) := by decide +kernel
theorem dX4_bitsOf_6 : decode cX4_bitsOf 6 = .ok (.fconst 1, 1) := by decide +kernel
theorem dX4_bitsOf_7 : decode cX4_bitsOf 7 = .ok (.fload_n 0, 1) := by decide +kernel
theorem dX4_bitsOf_8 : decode cX4_bitsOf 8 = .ok (.fdiv, 1) := by decide +kernel
theorem dX4_bitsOf_9 : decode cX4_bitsOf 9 = .ok (.fconst 0, 1) := by decide +kernel
theorem dX4_bitsOf_10 : decode cX4_bitsOf 10 = .ok (.fcmp .g, 1) := by decide +kernel
theorem dX4_bitsOf_11 : decode cX4_bitsOf 11 = .ok (.ifCond .ge 8, 3) := by decide +kernel
theorem dX4_bitsOf_14 : decode cX4_bitsOf 14 = .ok (.ldc 38, 2) := by decide +kernel
theorem dX4_bitsOf_16 : decode cX4_bitsOf 16 = .ok (.goto 4, 3) := by decide +kernel
theorem dX4_bitsOf_19 : decode cX4_bitsOf 19 = .ok (.iconst 0, 1) := by decide +kernel
theorem dX4_bitsOf_20 : decode cX4_bitsOf 20 = .ok (.ireturn, 1) := by decide +kernel
theorem dX4_bitsOf_21 : decode cX4_bitsOf 21 = .ok (.fload_n 0, 1) := by decide +kernel
theorem dX4_bitsOf_22 : decode cX4_bitsOf 22 = .ok (.fconst 0, 1) := by decide +kernel
theorem dX4_bitsOf_23 : decode cX4_bitsOf 23 = .ok (.fcmp .g, 1) := by decide +kernel
theorem dX4_bitsOf_24 : decode cX4_bitsOf 24 = .ok (.ifCond .ge 8, 3) := by decide +kernel
theorem dX4_bitsOf_27 : decode cX4_bitsOf 27 = .ok (.fload_n 0, 1) := by decide +kernel
theorem dX4_bitsOf_28 : decode cX4_bitsOf 28 = .ok (.fneg, 1) := by decide +kernel
theorem dX4_bitsOf_29 : decode cX4_bitsOf 29 = .ok (.goto 4, 3) := by decide +kernel
theorem dX4_bitsOf_32 : decode cX4_bitsOf 32 = .ok (.fload_n 0, 1) := by decide +kernel
theorem dX4_bitsOf_33 : decode cX4_bitsOf 33 = .ok (.fstore_n 1, 1) := by decide +kernel
theorem dX4_bitsOf_34 : decode cX4_bitsOf 34 = .ok (.bipush 127, 2) := by decide +kernel
theorem dX4_bitsOf_36 : decode cX4_bitsOf 36 = .ok (.istore_n 2, 1) := by decide +kernel
theorem dX4_bitsOf_37 : decode cX4_bitsOf 37 = .ok (.fload_n 1, 1) := by decide +kernel
theorem dX4_bitsOf_38 : decode cX4_bitsOf 38 = .ok (.fconst 2, 1) := by decide +kernel
theorem dX4_bitsOf_39 : decode cX4_bitsOf 39 = .ok (.fcmp .l, 1) := by decide +kernel
theorem dX4_bitsOf_40 : decode cX4_bitsOf 40 = .ok (.ifCond .lt 14, 3) := by decide +kernel
theorem dX4_bitsOf_43 : decode cX4_bitsOf 43 = .ok (.fload_n 1, 1) := by decide +kernel
theorem dX4_bitsOf_44 : decode cX4_bitsOf 44 = .ok (.ldc 39, 2) := by decide +kernel
theorem dX4_bitsOf_46 : decode cX4_bitsOf 46 = .ok (.fmul, 1) := by decide +kernel
theorem dX4_bitsOf_47 : decode cX4_bitsOf 47 = .ok (.fstore_n 1, 1) := by decide +kernel
theorem dX4_bitsOf_48 : decode cX4_bitsOf 48 = .ok (.iinc 2 1, 3) := by decide +kernel
theorem dX4_bitsOf_51 : decode cX4_bitsOf 51 = .ok (.goto (-14), 3) := by decide +kernel
theorem dX4_bitsOf_54 : decode cX4_bitsOf 54 = .ok (.fload_n 1, 1) := by decide +kernel
theorem dX4_bitsOf_55 : decode cX4_bitsOf 55 = .ok (.fconst 1, 1) := by decide +kernel
theorem dX4_bitsOf_56 : decode cX4_bitsOf 56 = .ok (.fcmp .g, 1) := by decide +kernel
theorem dX4_bitsOf_57 : decode cX4_bitsOf 57 = .ok (.ifCond .ge 13, 3) := by decide +kernel
theorem dX4_bitsOf_60 : decode cX4_bitsOf 60 = .ok (.fload_n 1, 1) := by decide +kernel
theorem dX4_bitsOf_61 : decode cX4_bitsOf 61 = .ok (.fconst 2, 1) := by decide +kernel
theorem dX4_bitsOf_62 : decode cX4_bitsOf 62 = .ok (.fmul, 1) := by decide +kernel
theorem dX4_bitsOf_63 : decode cX4_bitsOf 63 = .ok (.fstore_n 1, 1) := by decide +kernel
theorem dX4_bitsOf_64 : decode cX4_bitsOf 64 = .ok (.iinc 2 (-1), 3) := by decide +kernel
theorem dX4_bitsOf_67 : decode cX4_bitsOf 67 = .ok (.goto (-13), 3) := by decide +kernel
theorem dX4_bitsOf_70 : decode cX4_bitsOf 70 = .ok (.fload_n 1, 1) := by decide +kernel
theorem dX4_bitsOf_71 : decode cX4_bitsOf 71 = .ok (.fconst 1, 1) := by decide +kernel
theorem dX4_bitsOf_72 : decode cX4_bitsOf 72 = .ok (.fsub, 1) := by decide +kernel
theorem dX4_bitsOf_73 : decode cX4_bitsOf 73 = .ok (.ldc 40, 2) := by decide +kernel
theorem dX4_bitsOf_75 : decode cX4_bitsOf 75 = .ok (.fmul, 1) := by decide +kernel
theorem dX4_bitsOf_76 : decode cX4_bitsOf 76 = .ok (.f2i, 1) := by decide +kernel
theorem dX4_bitsOf_77 : decode cX4_bitsOf 77 = .ok (.istore_n 3, 1) := by decide +kernel
theorem dX4_bitsOf_78 : decode cX4_bitsOf 78 = .ok (.fload_n 0, 1) := by decide +kernel
theorem dX4_bitsOf_79 : decode cX4_bitsOf 79 = .ok (.fconst 0, 1) := by decide +kernel
theorem dX4_bitsOf_80 : decode cX4_bitsOf 80 = .ok (.fcmp .g, 1) := by decide +kernel
theorem dX4_bitsOf_81 : decode cX4_bitsOf 81 = .ok (.ifCond .ge 8, 3) := by decide +kernel
theorem dX4_bitsOf_84 : decode cX4_bitsOf 84 = .ok (.ldc 38, 2) := by decide +kernel
theorem dX4_bitsOf_86 : decode cX4_bitsOf 86 = .ok (.goto 4, 3) := by decide +kernel
theorem dX4_bitsOf_89 : decode cX4_bitsOf 89 = .ok (.iconst 0, 1) := by decide +kernel
theorem dX4_bitsOf_90 : decode cX4_bitsOf 90 = .ok (.iload_n 2, 1) := by decide +kernel
theorem dX4_bitsOf_91 : decode cX4_bitsOf 91 = .ok (.bipush 23, 2) := by decide +kernel
theorem dX4_bitsOf_93 : decode cX4_bitsOf 93 = .ok (.ishl, 1) := by decide +kernel
theorem dX4_bitsOf_94 : decode cX4_bitsOf 94 = .ok (.ior, 1) := by decide +kernel
theorem dX4_bitsOf_95 : decode cX4_bitsOf 95 = .ok (.iload_n 3, 1) := by decide +kernel
theorem dX4_bitsOf_96 : decode cX4_bitsOf 96 = .ok (.ior, 1) := by decide +kernel
theorem dX4_bitsOf_97 : decode cX4_bitsOf 97 = .ok (.ireturn, 1) := by decide +kernel
theorem dX4_bad_0 : decode cX4_bad 0 = .ok (.aload_n 0, 1) := by decide +kernel
theorem dX4_bad_1 : decode cX4_bad 1 = .ok (.getfield 19, 3) := by decide +kernel
theorem dX4_bad_4 : decode cX4_bad 4 = .ok (.iconst 0, 1) := by decide +kernel
theorem dX4_bad_5 : decode cX4_bad 5 = .ok (.dup2, 1) := by decide +kernel
theorem dX4_bad_6 : decode cX4_bad 6 = .ok (.iaload, 1) := by decide +kernel
theorem dX4_bad_7 : decode cX4_bad 7 = .ok (.iconst 1, 1) := by decide +kernel
theorem dX4_bad_8 : decode cX4_bad 8 = .ok (.iadd, 1) := by decide +kernel
theorem dX4_bad_9 : decode cX4_bad 9 = .ok (.iastore, 1) := by decide +kernel
theorem dX4_bad_10 : decode cX4_bad 10 = .ok (.bipush (-2), 2) := by decide +kernel
theorem dX4_bad_12 : decode cX4_bad 12 = .ok (.ireturn, 1) := by decide +kernel
theorem dX4_no_0 : decode cX4_no 0 = .ok (.aload_n 0, 1) := by decide +kernel
theorem dX4_no_1 : decode cX4_no 1 = .ok (.getfield 19, 3) := by decide +kernel
theorem dX4_no_4 : decode cX4_no 4 = .ok (.iconst 1, 1) := by decide +kernel
theorem dX4_no_5 : decode cX4_no 5 = .ok (.dup2, 1) := by decide +kernel
theorem dX4_no_6 : decode cX4_no 6 = .ok (.iaload, 1) := by decide +kernel
theorem dX4_no_7 : decode cX4_no 7 = .ok (.iconst 1, 1) := by decide +kernel
theorem dX4_no_8 : decode cX4_no 8 = .ok (.iadd, 1) := by decide +kernel
theorem dX4_no_9 : decode cX4_no 9 = .ok (.iastore, 1) := by decide +kernel
theorem dX4_no_10 : decode cX4_no 10 = .ok (.bipush (-3), 2) := by decide +kernel
theorem dX4_no_12 : decode cX4_no 12 = .ok (.ireturn, 1) := by decide +kernel
theorem dX4_full_0 : decode cX4_full 0 = .ok (.aload_n 0, 1) := by decide +kernel
theorem dX4_full_1 : decode cX4_full 1 = .ok (.getfield 19, 3) := by decide +kernel
theorem dX4_full_4 : decode cX4_full 4 = .ok (.iconst 2, 1) := by decide +kernel
theorem dX4_full_5 : decode cX4_full 5 = .ok (.dup2, 1) := by decide +kernel
theorem dX4_full_6 : decode cX4_full 6 = .ok (.iaload, 1) := by decide +kernel
theorem dX4_full_7 : decode cX4_full 7 = .ok (.iconst 1, 1) := by decide +kernel
theorem dX4_full_8 : decode cX4_full 8 = .ok (.iadd, 1) := by decide +kernel
theorem dX4_full_9 : decode cX4_full 9 = .ok (.iastore, 1) := by decide +kernel
theorem dX4_full_10 : decode cX4_full 10 = .ok (.bipush (-4), 2) := by decide +kernel
theorem dX4_full_12 : decode cX4_full 12 = .ok (.ireturn, 1) := by decide +kernel
theorem dX4_remembers_0 : decode cX4_remembers 0 = .ok (.aload_n 0, 1) := by decide +kernel
theorem dX4_remembers_1 : decode cX4_remembers 1 = .ok (.getfield 41, 3) := by decide +kernel
theorem dX4_remembers_4 : decode cX4_remembers 4 = .ok (.iconst 5, 1) := by decide +kernel
theorem dX4_remembers_5 : decode cX4_remembers 5 = .ok (.if_icmp .ne 44, 3) := by decide +kernel
theorem dX4_remembers_8 : decode cX4_remembers 8 = .ok (.iconst 0, 1) := by decide +kernel
theorem dX4_remembers_9 : decode cX4_remembers 9 = .ok (.istore_n 1, 1) := by decide +kernel
theorem dX4_remembers_10 : decode cX4_remembers 10 = .ok (.iload_n 1, 1) := by decide +kernel
theorem dX4_remembers_11 : decode cX4_remembers 11 = .ok (.sipush 516, 3) := by decide +kernel
theorem dX4_remembers_14 : decode cX4_remembers 14 = .ok (.if_icmp .ge 25, 3) := by decide +kernel
theorem dX4_remembers_17 : decode cX4_remembers 17 = .ok (.aload_n 0, 1) := by decide +kernel
theorem dX4_remembers_18 : decode cX4_remembers 18 = .ok (.getfield 16, 3) := by decide +kernel
theorem dX4_remembers_21 : decode cX4_remembers 21 = .ok (.iload_n 1, 1) := by decide +kernel
theorem dX4_remembers_22 : decode cX4_remembers 22 = .ok (.aload_n 0, 1) := by decide +kernel
theorem dX4_remembers_23 : decode cX4_remembers 23 = .ok (.getfield 16, 3) := by decide +kernel
theorem dX4_remembers_26 : decode cX4_remembers 26 = .ok (.iload_n 1, 1) := by decide +kernel
theorem dX4_remembers_27 : decode cX4_remembers 27 = .ok (.sipush 129, 3) := by decide +kernel
theorem dX4_remembers_30 : decode cX4_remembers 30 = .ok (.iadd, 1) := by decide +kernel
theorem dX4_remembers_31 : decode cX4_remembers 31 = .ok (.iaload, 1) := by decide +kernel
theorem dX4_remembers_32 : decode cX4_remembers 32 = .ok (.iastore, 1) := by decide +kernel
theorem dX4_remembers_33 : decode cX4_remembers 33 = .ok (.iinc 1 1, 3) := by decide +kernel
theorem dX4_remembers_36 : decode cX4_remembers 36 = .ok (.goto (-26), 3) := by decide +kernel
theorem dX4_remembers_39 : decode cX4_remembers 39 = .ok (.aload_n 0, 1) := by decide +kernel
theorem dX4_remembers_40 : decode cX4_remembers 40 = .ok (.dup, 1) := by decide +kernel
theorem dX4_remembers_41 : decode cX4_remembers 41 = .ok (.getfield 41, 3) := by decide +kernel
theorem dX4_remembers_44 : decode cX4_remembers 44 = .ok (.iconst 1, 1) := by decide +kernel
theorem dX4_remembers_45 : decode cX4_remembers 45 = .ok (.isub, 1) := by decide +kernel
theorem dX4_remembers_46 : decode cX4_remembers 46 = .ok (.putfield 41, 3) := by decide +kernel
theorem dX4_remembers_49 : decode cX4_remembers 49 = .ok (.iconst 0, 1) := by decide +kernel
theorem dX4_remembers_50 : decode cX4_remembers 50 = .ok (.istore_n 1, 1) := by decide +kernel
theorem dX4_remembers_51 : decode cX4_remembers 51 = .ok (.iload_n 1, 1) := by decide +kernel
theorem dX4_remembers_52 : decode cX4_remembers 52 = .ok (.sipush 129, 3) := by decide +kernel
theorem dX4_remembers_55 : decode cX4_remembers 55 = .ok (.if_icmp .ge 30, 3) := by decide +kernel
theorem dX4_remembers_58 : decode cX4_remembers 58 = .ok (.aload_n 0, 1) := by decide +kernel
theorem dX4_remembers_59 : decode cX4_remembers 59 = .ok (.getfield 16, 3) := by decide +kernel
theorem dX4_remembers_62 : decode cX4_remembers 62 = .ok (.sipush 129, 3) := by decide +kernel
theorem dX4_remembers_65 : decode cX4_remembers 65 = .ok (.aload_n 0, 1) := by decide +kernel
theorem dX4_remembers_66 : decode cX4_remembers 66 = .ok (.getfield 41, 3) := by decide +kernel
theorem dX4_remembers_69 : decode cX4_remembers 69 = .ok (.imul, 1) := by decide +kernel
theorem dX4_remembers_70 : decode cX4_remembers 70 = .ok (.iload_n 1, 1) := by decide +kernel
theorem dX4_remembers_71 : decode cX4_remembers 71 = .ok (.iadd, 1) := by decide +kernel
theorem dX4_remembers_72 : decode cX4_remembers 72 = .ok (.aload_n 0, 1) := by decide +kernel
theorem dX4_remembers_73 : decode cX4_remembers 73 = .ok (.getfield 7, 3) := by decide +kernel
theorem dX4_remembers_76 : decode cX4_remembers 76 = .ok (.iload_n 1, 1) := by decide +kernel
theorem dX4_remembers_77 : decode cX4_remembers 77 = .ok (.iaload, 1) := by decide +kernel
theorem dX4_remembers_78 : decode cX4_remembers 78 = .ok (.iastore, 1) := by decide +kernel
theorem dX4_remembers_79 : decode cX4_remembers 79 = .ok (.iinc 1 1, 3) := by decide +kernel
theorem dX4_remembers_82 : decode cX4_remembers 82 = .ok (.goto (-31), 3) := by decide +kernel
theorem dX4_remembers_85 : decode cX4_remembers 85 = .ok (.aload_n 0, 1) := by decide +kernel
theorem dX4_remembers_86 : decode cX4_remembers 86 = .ok (.dup, 1) := by decide +kernel
theorem dX4_remembers_87 : decode cX4_remembers 87 = .ok (.getfield 41, 3) := by decide +kernel
theorem dX4_remembers_90 : decode cX4_remembers 90 = .ok (.iconst 1, 1) := by decide +kernel
theorem dX4_remembers_91 : decode cX4_remembers 91 = .ok (.iadd, 1) := by decide +kernel
theorem dX4_remembers_92 : decode cX4_remembers 92 = .ok (.putfield 41, 3) := by decide +kernel
theorem dX4_remembers_95 : decode cX4_remembers 95 = .ok (.return_, 1) := by decide +kernel
theorem dX4_back_0 : decode cX4_back 0 = .ok (.aload_n 0, 1) := by decide +kernel
theorem dX4_back_1 : decode cX4_back 1 = .ok (.getfield 41, 3) := by decide +kernel
theorem dX4_back_4 : decode cX4_back 4 = .ok (.ifCond .ne 8, 3) := by decide +kernel
theorem dX4_back_7 : decode cX4_back 7 = .ok (.aload_n 0, 1) := by decide +kernel
theorem dX4_back_8 : decode cX4_back 8 = .ok (.invokevirtual 45, 3) := by decide +kernel
theorem dX4_back_11 : decode cX4_back 11 = .ok (.ireturn, 1) := by decide +kernel
theorem dX4_back_12 : decode cX4_back 12 = .ok (.aload_n 0, 1) := by decide +kernel
theorem dX4_back_13 : decode cX4_back 13 = .ok (.dup, 1) := by decide +kernel
theorem dX4_back_14 : decode cX4_back 14 = .ok (.getfield 41, 3) := by decide +kernel
theorem dX4_back_17 : decode cX4_back 17 = .ok (.iconst 1, 1) := by decide +kernel
theorem dX4_back_18 : decode cX4_back 18 = .ok (.isub, 1) := by decide +kernel
theorem dX4_back_19 : decode cX4_back 19 = .ok (.putfield 41, 3) := by decide +kernel
theorem dX4_back_22 : decode cX4_back 22 = .ok (.iconst 0, 1) := by decide +kernel
theorem dX4_back_23 : decode cX4_back 23 = .ok (.istore_n 1, 1) := by decide +kernel
theorem dX4_back_24 : decode cX4_back 24 = .ok (.iload_n 1, 1) := by decide +kernel
theorem dX4_back_25 : decode cX4_back 25 = .ok (.sipush 129, 3) := by decide +kernel
theorem dX4_back_28 : decode cX4_back 28 = .ok (.if_icmp .ge 30, 3) := by decide +kernel
theorem dX4_back_31 : decode cX4_back 31 = .ok (.aload_n 0, 1) := by decide +kernel
theorem dX4_back_32 : decode cX4_back 32 = .ok (.getfield 7, 3) := by decide +kernel
theorem dX4_back_35 : decode cX4_back 35 = .ok (.iload_n 1, 1) := by decide +kernel
theorem dX4_back_36 : decode cX4_back 36 = .ok (.aload_n 0, 1) := by decide +kernel
theorem dX4_back_37 : decode cX4_back 37 = .ok (.getfield 16, 3) := by decide +kernel
theorem dX4_back_40 : decode cX4_back 40 = .ok (.sipush 129, 3) := by decide +kernel
theorem dX4_back_43 : decode cX4_back 43 = .ok (.aload_n 0, 1) := by decide +kernel
theorem dX4_back_44 : decode cX4_back 44 = .ok (.getfield 41, 3) := by decide +kernel
theorem dX4_back_47 : decode cX4_back 47 = .ok (.imul, 1) := by decide +kernel
theorem dX4_back_48 : decode cX4_back 48 = .ok (.iload_n 1, 1) := by decide +kernel
theorem dX4_back_49 : decode cX4_back 49 = .ok (.iadd, 1) := by decide +kernel
theorem dX4_back_50 : decode cX4_back 50 = .ok (.iaload, 1) := by decide +kernel
theorem dX4_back_51 : decode cX4_back 51 = .ok (.iastore, 1) := by decide +kernel
theorem dX4_back_52 : decode cX4_back 52 = .ok (.iinc 1 1, 3) := by decide +kernel
theorem dX4_back_55 : decode cX4_back 55 = .ok (.goto (-31), 3) := by decide +kernel
theorem dX4_back_58 : decode cX4_back 58 = .ok (.aload_n 0, 1) := by decide +kernel
theorem dX4_back_59 : decode cX4_back 59 = .ok (.getfield 41, 3) := by decide +kernel
theorem dX4_back_62 : decode cX4_back 62 = .ok (.ireturn, 1) := by decide +kernel
theorem dX4_isPart_0 : decode cX4_isPart 0 = .ok (.iload_n 0, 1) := by decide +kernel
theorem dX4_isPart_1 : decode cX4_isPart 1 = .ok (.iconst 0, 1) := by decide +kernel
theorem dX4_isPart_2 : decode cX4_isPart 2 = .ok (.sipush 255, 3) := by decide +kernel
theorem dX4_isPart_5 : decode cX4_isPart 5 = .ok (.invokestatic 49, 3) := by decide +kernel
theorem dX4_isPart_8 : decode cX4_isPart 8 = .ok (.ireturn, 1) := by decide +kernel
theorem dX4_areParts_0 : decode cX4_areParts 0 = .ok (.iload_n 0, 1) := by decide +kernel
theorem dX4_areParts_1 : decode cX4_areParts 1 = .ok (.invokestatic 53, 3) := by decide +kernel
theorem dX4_areParts_4 : decode cX4_areParts 4 = .ok (.ifCond .eq 21, 3) := by decide +kernel
theorem dX4_areParts_7 : decode cX4_areParts 7 = .ok (.iload_n 1, 1) := by decide +kernel
theorem dX4_areParts_8 : decode cX4_areParts 8 = .ok (.invokestatic 53, 3) := by decide +kernel
theorem dX4_areParts_11 : decode cX4_areParts 11 = .ok (.ifCond .eq 14, 3) := by decide +kernel
theorem dX4_areParts_14 : decode cX4_areParts 14 = .ok (.iload_n 2, 1) := by decide +kernel
theorem dX4_areParts_15 : decode cX4_areParts 15 = .ok (.invokestatic 53, 3) := by decide +kernel
theorem dX4_areParts_18 : decode cX4_areParts 18 = .ok (.ifCond .eq 7, 3) := by decide +kernel
theorem dX4_areParts_21 : decode cX4_areParts 21 = .ok (.iconst 1, 1) := by decide +kernel
theorem dX4_areParts_22 : decode cX4_areParts 22 = .ok (.goto 4, 3) := by decide +kernel
theorem dX4_areParts_25 : decode cX4_areParts 25 = .ok (.iconst 0, 1) := by decide +kernel
theorem dX4_areParts_26 : decode cX4_areParts 26 = .ok (.ireturn, 1) := by decide +kernel
theorem dX4_isColour_0 : decode cX4_isColour 0 = .ok (.iload_n 1, 1) := by decide +kernel
theorem dX4_isColour_1 : decode cX4_isColour 1 = .ok (.iconst 0, 1) := by decide +kernel
theorem dX4_isColour_2 : decode cX4_isColour 2 = .ok (.aload_n 0, 1) := by decide +kernel
theorem dX4_isColour_3 : decode cX4_isColour 3 = .ok (.getfield 7, 3) := by decide +kernel
theorem dX4_isColour_6 : decode cX4_isColour 6 = .ok (.iconst 0, 1) := by decide +kernel
theorem dX4_isColour_7 : decode cX4_isColour 7 = .ok (.iaload, 1) := by decide +kernel
theorem dX4_isColour_8 : decode cX4_isColour 8 = .ok (.iconst 1, 1) := by decide +kernel
theorem dX4_isColour_9 : decode cX4_isColour 9 = .ok (.isub, 1) := by decide +kernel
theorem dX4_isColour_10 : decode cX4_isColour 10 = .ok (.invokestatic 49, 3) := by decide +kernel
theorem dX4_isColour_13 : decode cX4_isColour 13 = .ok (.ireturn, 1) := by decide +kernel
theorem dX4_isEye_0 : decode cX4_isEye 0 = .ok (.iload_n 0, 1) := by decide +kernel
theorem dX4_isEye_1 : decode cX4_isEye 1 = .ok (.iconst 0, 1) := by decide +kernel
theorem dX4_isEye_2 : decode cX4_isEye 2 = .ok (.iconst 3, 1) := by decide +kernel
theorem dX4_isEye_3 : decode cX4_isEye 3 = .ok (.invokestatic 49, 3) := by decide +kernel
theorem dX4_isEye_6 : decode cX4_isEye 6 = .ok (.ireturn, 1) := by decide +kernel
theorem dX4_becomes_0 : decode cX4_becomes 0 = .ok (.aload_n 0, 1) := by decide +kernel
theorem dX4_becomes_1 : decode cX4_becomes 1 = .ok (.getfield 7, 3) := by decide +kernel
theorem dX4_becomes_4 : decode cX4_becomes 4 = .ok (.iload_n 1, 1) := by decide +kernel
theorem dX4_becomes_5 : decode cX4_becomes 5 = .ok (.iaload, 1) := by decide +kernel
theorem dX4_becomes_6 : decode cX4_becomes 6 = .ok (.iload_n 2, 1) := by decide +kernel
theorem dX4_becomes_7 : decode cX4_becomes 7 = .ok (.if_icmp .ne 7, 3) := by decide +kernel
theorem dX4_becomes_10 : decode cX4_becomes 10 = .ok (.iconst 0, 1) := by decide +kernel
theorem dX4_becomes_11 : decode cX4_becomes 11 = .ok (.goto 4, 3) := by decide +kernel
theorem dX4_becomes_14 : decode cX4_becomes 14 = .ok (.iconst 1, 1) := by decide +kernel
theorem dX4_becomes_15 : decode cX4_becomes 15 = .ok (.aload_n 0, 1) := by decide +kernel
theorem dX4_becomes_16 : decode cX4_becomes 16 = .ok (.getfield 7, 3) := by decide +kernel
theorem dX4_becomes_19 : decode cX4_becomes 19 = .ok (.iload_n 1, 1) := by decide +kernel
theorem dX4_becomes_20 : decode cX4_becomes 20 = .ok (.iconst 1, 1) := by decide +kernel
theorem dX4_becomes_21 : decode cX4_becomes 21 = .ok (.iadd, 1) := by decide +kernel
theorem dX4_becomes_22 : decode cX4_becomes 22 = .ok (.iaload, 1) := by decide +kernel
theorem dX4_becomes_23 : decode cX4_becomes 23 = .ok (.iload_n 3, 1) := by decide +kernel
theorem dX4_becomes_24 : decode cX4_becomes 24 = .ok (.if_icmp .ne 7, 3) := by decide +kernel
theorem dX4_becomes_27 : decode cX4_becomes 27 = .ok (.iconst 0, 1) := by decide +kernel
theorem dX4_becomes_28 : decode cX4_becomes 28 = .ok (.goto 4, 3) := by decide +kernel
theorem dX4_becomes_31 : decode cX4_becomes 31 = .ok (.iconst 1, 1) := by decide +kernel
theorem dX4_becomes_32 : decode cX4_becomes 32 = .ok (.iadd, 1) := by decide +kernel
theorem dX4_becomes_33 : decode cX4_becomes 33 = .ok (.aload_n 0, 1) := by decide +kernel
theorem dX4_becomes_34 : decode cX4_becomes 34 = .ok (.getfield 7, 3) := by decide +kernel
theorem dX4_becomes_37 : decode cX4_becomes 37 = .ok (.iload_n 1, 1) := by decide +kernel
theorem dX4_becomes_38 : decode cX4_becomes 38 = .ok (.iconst 2, 1) := by decide +kernel
theorem dX4_becomes_39 : decode cX4_becomes 39 = .ok (.iadd, 1) := by decide +kernel
theorem dX4_becomes_40 : decode cX4_becomes 40 = .ok (.iaload, 1) := by decide +kernel
theorem dX4_becomes_41 : decode cX4_becomes 41 = .ok (.iload 4, 2) := by decide +kernel
theorem dX4_becomes_43 : decode cX4_becomes 43 = .ok (.if_icmp .ne 7, 3) := by decide +kernel
theorem dX4_becomes_46 : decode cX4_becomes 46 = .ok (.iconst 0, 1) := by decide +kernel
theorem dX4_becomes_47 : decode cX4_becomes 47 = .ok (.goto 4, 3) := by decide +kernel
theorem dX4_becomes_50 : decode cX4_becomes 50 = .ok (.iconst 1, 1) := by decide +kernel
theorem dX4_becomes_51 : decode cX4_becomes 51 = .ok (.iadd, 1) := by decide +kernel
theorem dX4_becomes_52 : decode cX4_becomes 52 = .ok (.istore 5, 2) := by decide +kernel
theorem dX4_becomes_54 : decode cX4_becomes 54 = .ok (.aload_n 0, 1) := by decide +kernel
theorem dX4_becomes_55 : decode cX4_becomes 55 = .ok (.getfield 7, 3) := by decide +kernel
theorem dX4_becomes_58 : decode cX4_becomes 58 = .ok (.iload_n 1, 1) := by decide +kernel
theorem dX4_becomes_59 : decode cX4_becomes 59 = .ok (.iload_n 2, 1) := by decide +kernel
theorem dX4_becomes_60 : decode cX4_becomes 60 = .ok (.iastore, 1) := by decide +kernel
theorem dX4_becomes_61 : decode cX4_becomes 61 = .ok (.aload_n 0, 1) := by decide +kernel
theorem dX4_becomes_62 : decode cX4_becomes 62 = .ok (.getfield 7, 3) := by decide +kernel
theorem dX4_becomes_65 : decode cX4_becomes 65 = .ok (.iload_n 1, 1) := by decide +kernel
theorem dX4_becomes_66 : decode cX4_becomes 66 = .ok (.iconst 1, 1) := by decide +kernel
theorem dX4_becomes_67 : decode cX4_becomes 67 = .ok (.iadd, 1) := by decide +kernel
theorem dX4_becomes_68 : decode cX4_becomes 68 = .ok (.iload_n 3, 1) := by decide +kernel
theorem dX4_becomes_69 : decode cX4_becomes 69 = .ok (.iastore, 1) := by decide +kernel
theorem dX4_becomes_70 : decode cX4_becomes 70 = .ok (.aload_n 0, 1) := by decide +kernel
theorem dX4_becomes_71 : decode cX4_becomes 71 = .ok (.getfield 7, 3) := by decide +kernel
theorem dX4_becomes_74 : decode cX4_becomes 74 = .ok (.iload_n 1, 1) := by decide +kernel
theorem dX4_becomes_75 : decode cX4_becomes 75 = .ok (.iconst 2, 1) := by decide +kernel
theorem dX4_becomes_76 : decode cX4_becomes 76 = .ok (.iadd, 1) := by decide +kernel
theorem dX4_becomes_77 : decode cX4_becomes 77 = .ok (.iload 4, 2) := by decide +kernel
theorem dX4_becomes_79 : decode cX4_becomes 79 = .ok (.iastore, 1) := by decide +kernel
theorem dX4_becomes_80 : decode cX4_becomes 80 = .ok (.iload 5, 2) := by decide +kernel
theorem dX4_becomes_82 : decode cX4_becomes 82 = .ok (.ireturn, 1) := by decide +kernel
theorem dX4_colourAt_0 : decode cX4_colourAt 0 = .ok (.iconst 1, 1) := by decide +kernel
theorem dX4_colourAt_1 : decode cX4_colourAt 1 = .ok (.iconst 3, 1) := by decide +kernel
theorem dX4_colourAt_2 : decode cX4_colourAt 2 = .ok (.iload_n 1, 1) := by decide +kernel
theorem dX4_colourAt_3 : decode cX4_colourAt 3 = .ok (.imul, 1) := by decide +kernel
theorem dX4_colourAt_4 : decode cX4_colourAt 4 = .ok (.iadd, 1) := by decide +kernel
theorem dX4_colourAt_5 : decode cX4_colourAt 5 = .ok (.ireturn, 1) := by decide +kernel
theorem dX4_comes_0 : decode cX4_comes 0 = .ok (.aload_n 0, 1) := by decide +kernel
theorem dX4_comes_1 : decode cX4_comes 1 = .ok (.aload_n 0, 1) := by decide +kernel
theorem dX4_comes_2 : decode cX4_comes 2 = .ok (.aload_n 0, 1) := by decide +kernel
theorem dX4_comes_3 : decode cX4_comes 3 = .ok (.getfield 7, 3) := by decide +kernel
theorem dX4_comes_6 : decode cX4_comes 6 = .ok (.iconst 0, 1) := by decide +kernel
theorem dX4_comes_7 : decode cX4_comes 7 = .ok (.iaload, 1) := by decide +kernel
theorem dX4_comes_8 : decode cX4_comes 8 = .ok (.invokevirtual 57, 3) := by decide +kernel
theorem dX4_comes_11 : decode cX4_comes 11 = .ok (.iload_n 1, 1) := by decide +kernel
theorem dX4_comes_12 : decode cX4_comes 12 = .ok (.iload_n 2, 1) := by decide +kernel
theorem dX4_comes_13 : decode cX4_comes 13 = .ok (.iload_n 3, 1) := by decide +kernel
theorem dX4_comes_14 : decode cX4_comes 14 = .ok (.invokevirtual 61, 3) := by decide +kernel
theorem dX4_comes_17 : decode cX4_comes 17 = .ok (.istore 4, 2) := by decide +kernel
theorem dX4_comes_19 : decode cX4_comes 19 = .ok (.aload_n 0, 1) := by decide +kernel
theorem dX4_comes_20 : decode cX4_comes 20 = .ok (.getfield 7, 3) := by decide +kernel
theorem dX4_comes_23 : decode cX4_comes 23 = .ok (.iconst 0, 1) := by decide +kernel
theorem dX4_comes_24 : decode cX4_comes 24 = .ok (.dup2, 1) := by decide +kernel
theorem dX4_comes_25 : decode cX4_comes 25 = .ok (.iaload, 1) := by decide +kernel
theorem dX4_comes_26 : decode cX4_comes 26 = .ok (.iconst 1, 1) := by decide +kernel
theorem dX4_comes_27 : decode cX4_comes 27 = .ok (.iadd, 1) := by decide +kernel
theorem dX4_comes_28 : decode cX4_comes 28 = .ok (.iastore, 1) := by decide +kernel
theorem dX4_comes_29 : decode cX4_comes 29 = .ok (.iload 4, 2) := by decide +kernel
theorem dX4_comes_31 : decode cX4_comes 31 = .ok (.ifCond .ge 7, 3) := by decide +kernel
theorem dX4_comes_34 : decode cX4_comes 34 = .ok (.iconst (-1), 1) := by decide +kernel
theorem dX4_comes_35 : decode cX4_comes 35 = .ok (.goto 11, 3) := by decide +kernel
theorem dX4_comes_38 : decode cX4_comes 38 = .ok (.aload_n 0, 1) := by decide +kernel
theorem dX4_comes_39 : decode cX4_comes 39 = .ok (.getfield 7, 3) := by decide +kernel
theorem dX4_comes_42 : decode cX4_comes 42 = .ok (.iconst 0, 1) := by decide +kernel
theorem dX4_comes_43 : decode cX4_comes 43 = .ok (.iaload, 1) := by decide +kernel
theorem dX4_comes_44 : decode cX4_comes 44 = .ok (.iconst 1, 1) := by decide +kernel
theorem dX4_comes_45 : decode cX4_comes 45 = .ok (.isub, 1) := by decide +kernel
theorem dX4_comes_46 : decode cX4_comes 46 = .ok (.ireturn, 1) := by decide +kernel
theorem dX4_colour_0 : decode cX4_colour 0 = .ok (.iload_n 1, 1) := by decide +kernel
theorem dX4_colour_1 : decode cX4_colour 1 = .ok (.iload_n 2, 1) := by decide +kernel
theorem dX4_colour_2 : decode cX4_colour 2 = .ok (.iload_n 3, 1) := by decide +kernel
theorem dX4_colour_3 : decode cX4_colour 3 = .ok (.invokestatic 65, 3) := by decide +kernel
theorem dX4_colour_6 : decode cX4_colour 6 = .ok (.ifCond .ne 8, 3) := by decide +kernel
theorem dX4_colour_9 : decode cX4_colour 9 = .ok (.aload_n 0, 1) := by decide +kernel
theorem dX4_colour_10 : decode cX4_colour 10 = .ok (.invokevirtual 68, 3) := by decide +kernel
theorem dX4_colour_13 : decode cX4_colour 13 = .ok (.ireturn, 1) := by decide +kernel
theorem dX4_colour_14 : decode cX4_colour 14 = .ok (.aload_n 0, 1) := by decide +kernel
theorem dX4_colour_15 : decode cX4_colour 15 = .ok (.getfield 7, 3) := by decide +kernel
theorem dX4_colour_18 : decode cX4_colour 18 = .ok (.iconst 0, 1) := by decide +kernel
theorem dX4_colour_19 : decode cX4_colour 19 = .ok (.iaload, 1) := by decide +kernel
theorem dX4_colour_20 : decode cX4_colour 20 = .ok (.bipush 20, 2) := by decide +kernel
theorem dX4_colour_22 : decode cX4_colour 22 = .ok (.if_icmp .ne 8, 3) := by decide +kernel
theorem dX4_colour_25 : decode cX4_colour 25 = .ok (.aload_n 0, 1) := by decide +kernel
theorem dX4_colour_26 : decode cX4_colour 26 = .ok (.invokevirtual 71, 3) := by decide +kernel
theorem dX4_colour_29 : decode cX4_colour 29 = .ok (.ireturn, 1) := by decide +kernel
theorem dX4_colour_30 : decode cX4_colour 30 = .ok (.aload_n 0, 1) := by decide +kernel
theorem dX4_colour_31 : decode cX4_colour 31 = .ok (.invokevirtual 74, 3) := by decide +kernel
theorem dX4_colour_34 : decode cX4_colour 34 = .ok (.aload_n 0, 1) := by decide +kernel
theorem dX4_colour_35 : decode cX4_colour 35 = .ok (.iload_n 1, 1) := by decide +kernel
theorem dX4_colour_36 : decode cX4_colour 36 = .ok (.iload_n 2, 1) := by decide +kernel
theorem dX4_colour_37 : decode cX4_colour 37 = .ok (.iload_n 3, 1) := by decide +kernel
theorem dX4_colour_38 : decode cX4_colour 38 = .ok (.invokevirtual 77, 3) := by decide +kernel
theorem dX4_colour_41 : decode cX4_colour 41 = .ok (.ireturn, 1) := by decide +kernel
theorem dX4_paints_0 : decode cX4_paints 0 = .ok (.aload_n 0, 1) := by decide +kernel
theorem dX4_paints_1 : decode cX4_paints 1 = .ok (.iload_n 1, 1) := by decide +kernel
theorem dX4_paints_2 : decode cX4_paints 2 = .ok (.invokevirtual 81, 3) := by decide +kernel
theorem dX4_paints_5 : decode cX4_paints 5 = .ok (.ifCond .eq 13, 3) := by decide +kernel
theorem dX4_paints_8 : decode cX4_paints 8 = .ok (.iload_n 2, 1) := by decide +kernel
theorem dX4_paints_9 : decode cX4_paints 9 = .ok (.iload_n 3, 1) := by decide +kernel
theorem dX4_paints_10 : decode cX4_paints 10 = .ok (.iload 4, 2) := by decide +kernel
theorem dX4_paints_12 : decode cX4_paints 12 = .ok (.invokestatic 65, 3) := by decide +kernel
theorem dX4_paints_15 : decode cX4_paints 15 = .ok (.ifCond .ne 8, 3) := by decide +kernel
theorem dX4_paints_18 : decode cX4_paints 18 = .ok (.aload_n 0, 1) := by decide +kernel
theorem dX4_paints_19 : decode cX4_paints 19 = .ok (.invokevirtual 68, 3) := by decide +kernel
theorem dX4_paints_22 : decode cX4_paints 22 = .ok (.ireturn, 1) := by decide +kernel
theorem dX4_paints_23 : decode cX4_paints 23 = .ok (.aload_n 0, 1) := by decide +kernel
theorem dX4_paints_24 : decode cX4_paints 24 = .ok (.invokevirtual 74, 3) := by decide +kernel
theorem dX4_paints_27 : decode cX4_paints 27 = .ok (.aload_n 0, 1) := by decide +kernel
theorem dX4_paints_28 : decode cX4_paints 28 = .ok (.aload_n 0, 1) := by decide +kernel
theorem dX4_paints_29 : decode cX4_paints 29 = .ok (.iload_n 1, 1) := by decide +kernel
theorem dX4_paints_30 : decode cX4_paints 30 = .ok (.invokevirtual 57, 3) := by decide +kernel
theorem dX4_paints_33 : decode cX4_paints 33 = .ok (.iload_n 2, 1) := by decide +kernel
theorem dX4_paints_34 : decode cX4_paints 34 = .ok (.iload_n 3, 1) := by decide +kernel
theorem dX4_paints_35 : decode cX4_paints 35 = .ok (.iload 4, 2) := by decide +kernel
theorem dX4_paints_37 : decode cX4_paints 37 = .ok (.invokevirtual 61, 3) := by decide +kernel
theorem dX4_paints_40 : decode cX4_paints 40 = .ok (.ireturn, 1) := by decide +kernel
theorem dX4_ground_0 : decode cX4_ground 0 = .ok (.iload_n 1, 1) := by decide +kernel
theorem dX4_ground_1 : decode cX4_ground 1 = .ok (.iload_n 2, 1) := by decide +kernel
theorem dX4_ground_2 : decode cX4_ground 2 = .ok (.iload_n 3, 1) := by decide +kernel
theorem dX4_ground_3 : decode cX4_ground 3 = .ok (.invokestatic 65, 3) := by decide +kernel
theorem dX4_ground_6 : decode cX4_ground 6 = .ok (.ifCond .ne 8, 3) := by decide +kernel
theorem dX4_ground_9 : decode cX4_ground 9 = .ok (.aload_n 0, 1) := by decide +kernel
theorem dX4_ground_10 : decode cX4_ground 10 = .ok (.invokevirtual 68, 3) := by decide +kernel
theorem dX4_ground_13 : decode cX4_ground 13 = .ok (.ireturn, 1) := by decide +kernel
theorem dX4_ground_14 : decode cX4_ground 14 = .ok (.aload_n 0, 1) := by decide +kernel
theorem dX4_ground_15 : decode cX4_ground 15 = .ok (.invokevirtual 74, 3) := by decide +kernel
theorem dX4_ground_18 : decode cX4_ground 18 = .ok (.aload_n 0, 1) := by decide +kernel
theorem dX4_ground_19 : decode cX4_ground 19 = .ok (.bipush 117, 2) := by decide +kernel
theorem dX4_ground_21 : decode cX4_ground 21 = .ok (.iload_n 1, 1) := by decide +kernel
theorem dX4_ground_22 : decode cX4_ground 22 = .ok (.iload_n 2, 1) := by decide +kernel
theorem dX4_ground_23 : decode cX4_ground 23 = .ok (.iload_n 3, 1) := by decide +kernel
theorem dX4_ground_24 : decode cX4_ground 24 = .ok (.invokevirtual 61, 3) := by decide +kernel
theorem dX4_ground_27 : decode cX4_ground 27 = .ok (.ireturn, 1) := by decide +kernel
theorem dX4_isOfEye_0 : decode cX4_isOfEye 0 = .ok (.iload_n 0, 1) := by decide +kernel
theorem dX4_isOfEye_1 : decode cX4_isOfEye 1 = .ok (.bipush 9, 2) := by decide +kernel
theorem dX4_isOfEye_3 : decode cX4_isOfEye 3 = .ok (.if_icmp .ge 16, 3) := by decide +kernel
theorem dX4_isOfEye_6 : decode cX4_isOfEye 6 = .ok (.iload_n 1, 1) := by decide +kernel
theorem dX4_isOfEye_7 : decode cX4_isOfEye 7 = .ok (.sipush (-300), 3) := by decide +kernel
theorem dX4_isOfEye_10 : decode cX4_isOfEye 10 = .ok (.sipush 300, 3) := by decide +kernel
theorem dX4_isOfEye_13 : decode cX4_isOfEye 13 = .ok (.invokestatic 49, 3) := by decide +kernel
theorem dX4_isOfEye_16 : decode cX4_isOfEye 16 = .ok (.goto 25, 3) := by decide +kernel
theorem dX4_isOfEye_19 : decode cX4_isOfEye 19 = .ok (.iload_n 0, 1) := by decide +kernel
theorem dX4_isOfEye_20 : decode cX4_isOfEye 20 = .ok (.bipush 12, 2) := by decide +kernel
theorem dX4_isOfEye_22 : decode cX4_isOfEye 22 = .ok (.if_icmp .ge 13, 3) := by decide +kernel
theorem dX4_isOfEye_25 : decode cX4_isOfEye 25 = .ok (.iload_n 1, 1) := by decide +kernel
theorem dX4_isOfEye_26 : decode cX4_isOfEye 26 = .ok (.iconst 0, 1) := by decide +kernel
theorem dX4_isOfEye_27 : decode cX4_isOfEye 27 = .ok (.bipush 9, 2) := by decide +kernel
theorem dX4_isOfEye_29 : decode cX4_isOfEye 29 = .ok (.invokestatic 49, 3) := by decide +kernel
theorem dX4_isOfEye_32 : decode cX4_isOfEye 32 = .ok (.goto 9, 3) := by decide +kernel
theorem dX4_isOfEye_35 : decode cX4_isOfEye 35 = .ok (.iload_n 1, 1) := by decide +kernel
theorem dX4_isOfEye_36 : decode cX4_isOfEye 36 = .ok (.iconst 0, 1) := by decide +kernel
theorem dX4_isOfEye_37 : decode cX4_isOfEye 37 = .ok (.iconst 1, 1) := by decide +kernel
theorem dX4_isOfEye_38 : decode cX4_isOfEye 38 = .ok (.invokestatic 49, 3) := by decide +kernel
theorem dX4_isOfEye_41 : decode cX4_isOfEye 41 = .ok (.ireturn, 1) := by decide +kernel
theorem dX4_exchanges_0 : decode cX4_exchanges 0 = .ok (.aload_n 0, 1) := by decide +kernel
theorem dX4_exchanges_1 : decode cX4_exchanges 1 = .ok (.getfield 7, 3) := by decide +kernel
theorem dX4_exchanges_4 : decode cX4_exchanges 4 = .ok (.iload_n 1, 1) := by decide +kernel
theorem dX4_exchanges_5 : decode cX4_exchanges 5 = .ok (.iaload, 1) := by decide +kernel
theorem dX4_exchanges_6 : decode cX4_exchanges 6 = .ok (.istore_n 3, 1) := by decide +kernel
theorem dX4_exchanges_7 : decode cX4_exchanges 7 = .ok (.aload_n 0, 1) := by decide +kernel
theorem dX4_exchanges_8 : decode cX4_exchanges 8 = .ok (.getfield 7, 3) := by decide +kernel
theorem dX4_exchanges_11 : decode cX4_exchanges 11 = .ok (.iload_n 1, 1) := by decide +kernel
theorem dX4_exchanges_12 : decode cX4_exchanges 12 = .ok (.iload_n 2, 1) := by decide +kernel
theorem dX4_exchanges_13 : decode cX4_exchanges 13 = .ok (.iastore, 1) := by decide +kernel
theorem dX4_exchanges_14 : decode cX4_exchanges 14 = .ok (.iload_n 3, 1) := by decide +kernel
theorem dX4_exchanges_15 : decode cX4_exchanges 15 = .ok (.ireturn, 1) := by decide +kernel
theorem dX4_eye_0 : decode cX4_eye 0 = .ok (.iload_n 1, 1) := by decide +kernel
theorem dX4_eye_1 : decode cX4_eye 1 = .ok (.invokestatic 84, 3) := by decide +kernel
theorem dX4_eye_4 : decode cX4_eye 4 = .ok (.ifCond .eq 21, 3) := by decide +kernel
theorem dX4_eye_7 : decode cX4_eye 7 = .ok (.iload_n 2, 1) := by decide +kernel
theorem dX4_eye_8 : decode cX4_eye 8 = .ok (.iconst 0, 1) := by decide +kernel
theorem dX4_eye_9 : decode cX4_eye 9 = .ok (.bipush 12, 2) := by decide +kernel
theorem dX4_eye_11 : decode cX4_eye 11 = .ok (.invokestatic 49, 3) := by decide +kernel
theorem dX4_eye_14 : decode cX4_eye 14 = .ok (.ifCond .eq 11, 3) := by decide +kernel
theorem dX4_eye_17 : decode cX4_eye 17 = .ok (.iload_n 2, 1) := by decide +kernel
theorem dX4_eye_18 : decode cX4_eye 18 = .ok (.iload_n 3, 1) := by decide +kernel
theorem dX4_eye_19 : decode cX4_eye 19 = .ok (.invokestatic 87, 3) := by decide +kernel
theorem dX4_eye_22 : decode cX4_eye 22 = .ok (.ifCond .ne 8, 3) := by decide +kernel
theorem dX4_eye_25 : decode cX4_eye 25 = .ok (.aload_n 0, 1) := by decide +kernel
theorem dX4_eye_26 : decode cX4_eye 26 = .ok (.invokevirtual 68, 3) := by decide +kernel
theorem dX4_eye_29 : decode cX4_eye 29 = .ok (.ireturn, 1) := by decide +kernel
theorem dX4_eye_30 : decode cX4_eye 30 = .ok (.aload_n 0, 1) := by decide +kernel
theorem dX4_eye_31 : decode cX4_eye 31 = .ok (.invokevirtual 74, 3) := by decide +kernel
theorem dX4_eye_34 : decode cX4_eye 34 = .ok (.aload_n 0, 1) := by decide +kernel
theorem dX4_eye_35 : decode cX4_eye 35 = .ok (.bipush 62, 2) := by decide +kernel
theorem dX4_eye_37 : decode cX4_eye 37 = .ok (.bipush 13, 2) := by decide +kernel
theorem dX4_eye_39 : decode cX4_eye 39 = .ok (.iload_n 1, 1) := by decide +kernel
theorem dX4_eye_40 : decode cX4_eye 40 = .ok (.imul, 1) := by decide +kernel
theorem dX4_eye_41 : decode cX4_eye 41 = .ok (.iadd, 1) := by decide +kernel
theorem dX4_eye_42 : decode cX4_eye 42 = .ok (.iload_n 2, 1) := by decide +kernel
theorem dX4_eye_43 : decode cX4_eye 43 = .ok (.iadd, 1) := by decide +kernel
theorem dX4_eye_44 : decode cX4_eye 44 = .ok (.iload_n 3, 1) := by decide +kernel
theorem dX4_eye_45 : decode cX4_eye 45 = .ok (.invokevirtual 91, 3) := by decide +kernel
theorem dX4_eye_48 : decode cX4_eye 48 = .ok (.ireturn, 1) := by decide +kernel
theorem dX4_sets_0 : decode cX4_sets 0 = .ok (.iload_n 1, 1) := by decide +kernel
theorem dX4_sets_1 : decode cX4_sets 1 = .ok (.iconst 0, 1) := by decide +kernel
theorem dX4_sets_2 : decode cX4_sets 2 = .ok (.iconst 2, 1) := by decide +kernel
theorem dX4_sets_3 : decode cX4_sets 3 = .ok (.invokestatic 49, 3) := by decide +kernel
theorem dX4_sets_6 : decode cX4_sets 6 = .ok (.ifCond .eq 10, 3) := by decide +kernel
theorem dX4_sets_9 : decode cX4_sets 9 = .ok (.iload_n 2, 1) := by decide +kernel
theorem dX4_sets_10 : decode cX4_sets 10 = .ok (.invokestatic 53, 3) := by decide +kernel
theorem dX4_sets_13 : decode cX4_sets 13 = .ok (.ifCond .ne 8, 3) := by decide +kernel
theorem dX4_sets_16 : decode cX4_sets 16 = .ok (.aload_n 0, 1) := by decide +kernel
theorem dX4_sets_17 : decode cX4_sets 17 = .ok (.invokevirtual 68, 3) := by decide +kernel
theorem dX4_sets_20 : decode cX4_sets 20 = .ok (.ireturn, 1) := by decide +kernel
theorem dX4_sets_21 : decode cX4_sets 21 = .ok (.aload_n 0, 1) := by decide +kernel
theorem dX4_sets_22 : decode cX4_sets 22 = .ok (.invokevirtual 74, 3) := by decide +kernel
theorem dX4_sets_25 : decode cX4_sets 25 = .ok (.aload_n 0, 1) := by decide +kernel
theorem dX4_sets_26 : decode cX4_sets 26 = .ok (.bipush 114, 2) := by decide +kernel
theorem dX4_sets_28 : decode cX4_sets 28 = .ok (.iload_n 1, 1) := by decide +kernel
theorem dX4_sets_29 : decode cX4_sets 29 = .ok (.iadd, 1) := by decide +kernel
theorem dX4_sets_30 : decode cX4_sets 30 = .ok (.iload_n 2, 1) := by decide +kernel
theorem dX4_sets_31 : decode cX4_sets 31 = .ok (.invokevirtual 91, 3) := by decide +kernel
theorem dX4_sets_34 : decode cX4_sets 34 = .ok (.ireturn, 1) := by decide +kernel
theorem dX4_fixesOne_0 : decode cX4_fixesOne 0 = .ok (.aload_n 0, 1) := by decide +kernel
theorem dX4_fixesOne_1 : decode cX4_fixesOne 1 = .ok (.getfield 7, 3) := by decide +kernel
theorem dX4_fixesOne_4 : decode cX4_fixesOne 4 = .ok (.bipush 61, 2) := by decide +kernel
theorem dX4_fixesOne_6 : decode cX4_fixesOne 6 = .ok (.aload_n 0, 1) := by decide +kernel
theorem dX4_fixesOne_7 : decode cX4_fixesOne 7 = .ok (.getfield 7, 3) := by decide +kernel
theorem dX4_fixesOne_10 : decode cX4_fixesOne 10 = .ok (.bipush 61, 2) := by decide +kernel
theorem dX4_fixesOne_12 : decode cX4_fixesOne 12 = .ok (.iaload, 1) := by decide +kernel
theorem dX4_fixesOne_13 : decode cX4_fixesOne 13 = .ok (.iconst 1, 1) := by decide +kernel
theorem dX4_fixesOne_14 : decode cX4_fixesOne 14 = .ok (.iload_n 1, 1) := by decide +kernel
theorem dX4_fixesOne_15 : decode cX4_fixesOne 15 = .ok (.ishl, 1) := by decide +kernel
theorem dX4_fixesOne_16 : decode cX4_fixesOne 16 = .ok (.iconst (-1), 1) := by decide +kernel
theorem dX4_fixesOne_17 : decode cX4_fixesOne 17 = .ok (.ixor, 1) := by decide +kernel
theorem dX4_fixesOne_18 : decode cX4_fixesOne 18 = .ok (.iand, 1) := by decide +kernel
theorem dX4_fixesOne_19 : decode cX4_fixesOne 19 = .ok (.iload_n 2, 1) := by decide +kernel
theorem dX4_fixesOne_20 : decode cX4_fixesOne 20 = .ok (.iload_n 1, 1) := by decide +kernel
theorem dX4_fixesOne_21 : decode cX4_fixesOne 21 = .ok (.ishl, 1) := by decide +kernel
theorem dX4_fixesOne_22 : decode cX4_fixesOne 22 = .ok (.ior, 1) := by decide +kernel
theorem dX4_fixesOne_23 : decode cX4_fixesOne 23 = .ok (.iastore, 1) := by decide +kernel
theorem dX4_fixesOne_24 : decode cX4_fixesOne 24 = .ok (.aload_n 0, 1) := by decide +kernel
theorem dX4_fixesOne_25 : decode cX4_fixesOne 25 = .ok (.getfield 7, 3) := by decide +kernel
theorem dX4_fixesOne_28 : decode cX4_fixesOne 28 = .ok (.bipush 61, 2) := by decide +kernel
theorem dX4_fixesOne_30 : decode cX4_fixesOne 30 = .ok (.iaload, 1) := by decide +kernel
theorem dX4_fixesOne_31 : decode cX4_fixesOne 31 = .ok (.invokestatic 95, 3) := by decide +kernel
theorem dX4_fixesOne_34 : decode cX4_fixesOne 34 = .ok (.ireturn, 1) := by decide +kernel
theorem dX4_fixes_0 : decode cX4_fixes 0 = .ok (.aload_n 0, 1) := by decide +kernel
theorem dX4_fixes_1 : decode cX4_fixes 1 = .ok (.iload_n 1, 1) := by decide +kernel
theorem dX4_fixes_2 : decode cX4_fixes 2 = .ok (.invokevirtual 81, 3) := by decide +kernel
theorem dX4_fixes_5 : decode cX4_fixes 5 = .ok (.ifCond .eq 12, 3) := by decide +kernel
theorem dX4_fixes_8 : decode cX4_fixes 8 = .ok (.iload_n 2, 1) := by decide +kernel
theorem dX4_fixes_9 : decode cX4_fixes 9 = .ok (.iconst 0, 1) := by decide +kernel
theorem dX4_fixes_10 : decode cX4_fixes 10 = .ok (.iconst 1, 1) := by decide +kernel
theorem dX4_fixes_11 : decode cX4_fixes 11 = .ok (.invokestatic 49, 3) := by decide +kernel
theorem dX4_fixes_14 : decode cX4_fixes 14 = .ok (.ifCond .ne 8, 3) := by decide +kernel
theorem dX4_fixes_17 : decode cX4_fixes 17 = .ok (.aload_n 0, 1) := by decide +kernel
theorem dX4_fixes_18 : decode cX4_fixes 18 = .ok (.invokevirtual 68, 3) := by decide +kernel
theorem dX4_fixes_21 : decode cX4_fixes 21 = .ok (.ireturn, 1) := by decide +kernel
theorem dX4_fixes_22 : decode cX4_fixes 22 = .ok (.aload_n 0, 1) := by decide +kernel
theorem dX4_fixes_23 : decode cX4_fixes 23 = .ok (.invokevirtual 74, 3) := by decide +kernel
theorem dX4_fixes_26 : decode cX4_fixes 26 = .ok (.aload_n 0, 1) := by decide +kernel
theorem dX4_fixes_27 : decode cX4_fixes 27 = .ok (.iload_n 1, 1) := by decide +kernel
theorem dX4_fixes_28 : decode cX4_fixes 28 = .ok (.iload_n 2, 1) := by decide +kernel
theorem dX4_fixes_29 : decode cX4_fixes 29 = .ok (.invokevirtual 98, 3) := by decide +kernel
theorem dX4_fixes_32 : decode cX4_fixes 32 = .ok (.ireturn, 1) := by decide +kernel
theorem dX4_shineAt_0 : decode cX4_shineAt 0 = .ok (.ldc 101, 2) := by decide +kernel
theorem dX4_shineAt_2 : decode cX4_shineAt 2 = .ok (.aload_n 0, 1) := by decide +kernel
theorem dX4_shineAt_3 : decode cX4_shineAt 3 = .ok (.getfield 7, 3) := by decide +kernel
theorem dX4_shineAt_6 : decode cX4_shineAt 6 = .ok (.iload_n 1, 1) := by decide +kernel
theorem dX4_shineAt_7 : decode cX4_shineAt 7 = .ok (.iaload, 1) := by decide +kernel
theorem dX4_shineAt_8 : decode cX4_shineAt 8 = .ok (.i2f, 1) := by decide +kernel
theorem dX4_shineAt_9 : decode cX4_shineAt 9 = .ok (.fmul, 1) := by decide +kernel
theorem dX4_shineAt_10 : decode cX4_shineAt 10 = .ok (.ldc 102, 2) := by decide +kernel
theorem dX4_shineAt_12 : decode cX4_shineAt 12 = .ok (.aload_n 0, 1) := by decide +kernel
theorem dX4_shineAt_13 : decode cX4_shineAt 13 = .ok (.getfield 7, 3) := by decide +kernel
theorem dX4_shineAt_16 : decode cX4_shineAt 16 = .ok (.iload_n 1, 1) := by decide +kernel
theorem dX4_shineAt_17 : decode cX4_shineAt 17 = .ok (.iconst 1, 1) := by decide +kernel
theorem dX4_shineAt_18 : decode cX4_shineAt 18 = .ok (.iadd, 1) := by decide +kernel
theorem dX4_shineAt_19 : decode cX4_shineAt 19 = .ok (.iaload, 1) := by decide +kernel
theorem dX4_shineAt_20 : decode cX4_shineAt 20 = .ok (.i2f, 1) := by decide +kernel
theorem dX4_shineAt_21 : decode cX4_shineAt 21 = .ok (.fmul, 1) := by decide +kernel
theorem dX4_shineAt_22 : decode cX4_shineAt 22 = .ok (.fadd, 1) := by decide +kernel
theorem dX4_shineAt_23 : decode cX4_shineAt 23 = .ok (.ldc 103, 2) := by decide +kernel
theorem dX4_shineAt_25 : decode cX4_shineAt 25 = .ok (.aload_n 0, 1) := by decide +kernel
theorem dX4_shineAt_26 : decode cX4_shineAt 26 = .ok (.getfield 7, 3) := by decide +kernel
theorem dX4_shineAt_29 : decode cX4_shineAt 29 = .ok (.iload_n 1, 1) := by decide +kernel
theorem dX4_shineAt_30 : decode cX4_shineAt 30 = .ok (.iconst 2, 1) := by decide +kernel
theorem dX4_shineAt_31 : decode cX4_shineAt 31 = .ok (.iadd, 1) := by decide +kernel
theorem dX4_shineAt_32 : decode cX4_shineAt 32 = .ok (.iaload, 1) := by decide +kernel
theorem dX4_shineAt_33 : decode cX4_shineAt 33 = .ok (.i2f, 1) := by decide +kernel
theorem dX4_shineAt_34 : decode cX4_shineAt 34 = .ok (.fmul, 1) := by decide +kernel
theorem dX4_shineAt_35 : decode cX4_shineAt 35 = .ok (.fadd, 1) := by decide +kernel
theorem dX4_shineAt_36 : decode cX4_shineAt 36 = .ok (.freturn, 1) := by decide +kernel
theorem dX4_isFitting_0 : decode cX4_isFitting 0 = .ok (.aload_n 0, 1) := by decide +kernel
theorem dX4_isFitting_1 : decode cX4_isFitting 1 = .ok (.aload_n 0, 1) := by decide +kernel
theorem dX4_isFitting_2 : decode cX4_isFitting 2 = .ok (.iload_n 1, 1) := by decide +kernel
theorem dX4_isFitting_3 : decode cX4_isFitting 3 = .ok (.invokevirtual 57, 3) := by decide +kernel
theorem dX4_isFitting_6 : decode cX4_isFitting 6 = .ok (.invokevirtual 104, 3) := by decide +kernel
theorem dX4_isFitting_9 : decode cX4_isFitting 9 = .ok (.fstore_n 2, 1) := by decide +kernel
theorem dX4_isFitting_10 : decode cX4_isFitting 10 = .ok (.fload_n 2, 1) := by decide +kernel
theorem dX4_isFitting_11 : decode cX4_isFitting 11 = .ok (.aload_n 0, 1) := by decide +kernel
theorem dX4_isFitting_12 : decode cX4_isFitting 12 = .ok (.bipush 117, 2) := by decide +kernel
theorem dX4_isFitting_14 : decode cX4_isFitting 14 = .ok (.invokevirtual 104, 3) := by decide +kernel
theorem dX4_isFitting_17 : decode cX4_isFitting 17 = .ok (.fsub, 1) := by decide +kernel
theorem dX4_isFitting_18 : decode cX4_isFitting 18 = .ok (.fstore_n 3, 1) := by decide +kernel
theorem dX4_isFitting_19 : decode cX4_isFitting 19 = .ok (.fload_n 3, 1) := by decide +kernel
theorem dX4_isFitting_20 : decode cX4_isFitting 20 = .ok (.fconst 0, 1) := by decide +kernel
theorem dX4_isFitting_21 : decode cX4_isFitting 21 = .ok (.fcmp .g, 1) := by decide +kernel
theorem dX4_isFitting_22 : decode cX4_isFitting 22 = .ok (.ifCond .ge 8, 3) := by decide +kernel
theorem dX4_isFitting_25 : decode cX4_isFitting 25 = .ok (.fload_n 3, 1) := by decide +kernel
theorem dX4_isFitting_26 : decode cX4_isFitting 26 = .ok (.fneg, 1) := by decide +kernel
theorem dX4_isFitting_27 : decode cX4_isFitting 27 = .ok (.goto 4, 3) := by decide +kernel
theorem dX4_isFitting_30 : decode cX4_isFitting 30 = .ok (.fload_n 3, 1) := by decide +kernel
theorem dX4_isFitting_31 : decode cX4_isFitting 31 = .ok (.fstore_n 3, 1) := by decide +kernel
theorem dX4_isFitting_32 : decode cX4_isFitting 32 = .ok (.fload_n 2, 1) := by decide +kernel
theorem dX4_isFitting_33 : decode cX4_isFitting 33 = .ok (.aload_n 0, 1) := by decide +kernel
theorem dX4_isFitting_34 : decode cX4_isFitting 34 = .ok (.getfield 7, 3) := by decide +kernel
theorem dX4_isFitting_37 : decode cX4_isFitting 37 = .ok (.bipush 114, 2) := by decide +kernel
theorem dX4_isFitting_39 : decode cX4_isFitting 39 = .ok (.iaload, 1) := by decide +kernel
theorem dX4_isFitting_40 : decode cX4_isFitting 40 = .ok (.i2f, 1) := by decide +kernel
theorem dX4_isFitting_41 : decode cX4_isFitting 41 = .ok (.fcmp .l, 1) := by decide +kernel
theorem dX4_isFitting_42 : decode cX4_isFitting 42 = .ok (.ifCond .lt 33, 3) := by decide +kernel
theorem dX4_isFitting_45 : decode cX4_isFitting 45 = .ok (.fload_n 2, 1) := by decide +kernel
theorem dX4_isFitting_46 : decode cX4_isFitting 46 = .ok (.aload_n 0, 1) := by decide +kernel
theorem dX4_isFitting_47 : decode cX4_isFitting 47 = .ok (.getfield 7, 3) := by decide +kernel
theorem dX4_isFitting_50 : decode cX4_isFitting 50 = .ok (.bipush 115, 2) := by decide +kernel
theorem dX4_isFitting_52 : decode cX4_isFitting 52 = .ok (.iaload, 1) := by decide +kernel
theorem dX4_isFitting_53 : decode cX4_isFitting 53 = .ok (.i2f, 1) := by decide +kernel
theorem dX4_isFitting_54 : decode cX4_isFitting 54 = .ok (.fcmp .g, 1) := by decide +kernel
theorem dX4_isFitting_55 : decode cX4_isFitting 55 = .ok (.ifCond .gt 20, 3) := by decide +kernel
theorem dX4_isFitting_58 : decode cX4_isFitting 58 = .ok (.fload_n 3, 1) := by decide +kernel
theorem dX4_isFitting_59 : decode cX4_isFitting 59 = .ok (.aload_n 0, 1) := by decide +kernel
theorem dX4_isFitting_60 : decode cX4_isFitting 60 = .ok (.getfield 7, 3) := by decide +kernel
theorem dX4_isFitting_63 : decode cX4_isFitting 63 = .ok (.bipush 116, 2) := by decide +kernel
theorem dX4_isFitting_65 : decode cX4_isFitting 65 = .ok (.iaload, 1) := by decide +kernel
theorem dX4_isFitting_66 : decode cX4_isFitting 66 = .ok (.i2f, 1) := by decide +kernel
theorem dX4_isFitting_67 : decode cX4_isFitting 67 = .ok (.fcmp .l, 1) := by decide +kernel
theorem dX4_isFitting_68 : decode cX4_isFitting 68 = .ok (.ifCond .lt 7, 3) := by decide +kernel
theorem dX4_isFitting_71 : decode cX4_isFitting 71 = .ok (.iconst 1, 1) := by decide +kernel
theorem dX4_isFitting_72 : decode cX4_isFitting 72 = .ok (.goto 4, 3) := by decide +kernel
theorem dX4_isFitting_75 : decode cX4_isFitting 75 = .ok (.iconst 0, 1) := by decide +kernel
theorem dX4_isFitting_76 : decode cX4_isFitting 76 = .ok (.ireturn, 1) := by decide +kernel
theorem dX4_placeOf_0 : decode cX4_placeOf 0 = .ok (.iconst (-1), 1) := by decide +kernel
theorem dX4_placeOf_1 : decode cX4_placeOf 1 = .ok (.istore_n 2, 1) := by decide +kernel
theorem dX4_placeOf_2 : decode cX4_placeOf 2 = .ok (.iconst 0, 1) := by decide +kernel
theorem dX4_placeOf_3 : decode cX4_placeOf 3 = .ok (.istore_n 3, 1) := by decide +kernel
theorem dX4_placeOf_4 : decode cX4_placeOf 4 = .ok (.iload_n 3, 1) := by decide +kernel
theorem dX4_placeOf_5 : decode cX4_placeOf 5 = .ok (.aload_n 0, 1) := by decide +kernel
theorem dX4_placeOf_6 : decode cX4_placeOf 6 = .ok (.getfield 7, 3) := by decide +kernel
theorem dX4_placeOf_9 : decode cX4_placeOf 9 = .ok (.bipush 120, 2) := by decide +kernel
theorem dX4_placeOf_11 : decode cX4_placeOf 11 = .ok (.iaload, 1) := by decide +kernel
theorem dX4_placeOf_12 : decode cX4_placeOf 12 = .ok (.if_icmp .ge 28, 3) := by decide +kernel
theorem dX4_placeOf_15 : decode cX4_placeOf 15 = .ok (.aload_n 0, 1) := by decide +kernel
theorem dX4_placeOf_16 : decode cX4_placeOf 16 = .ok (.getfield 7, 3) := by decide +kernel
theorem dX4_placeOf_19 : decode cX4_placeOf 19 = .ok (.bipush 121, 2) := by decide +kernel
theorem dX4_placeOf_21 : decode cX4_placeOf 21 = .ok (.iload_n 3, 1) := by decide +kernel
theorem dX4_placeOf_22 : decode cX4_placeOf 22 = .ok (.iadd, 1) := by decide +kernel
theorem dX4_placeOf_23 : decode cX4_placeOf 23 = .ok (.iaload, 1) := by decide +kernel
theorem dX4_placeOf_24 : decode cX4_placeOf 24 = .ok (.iload_n 1, 1) := by decide +kernel
theorem dX4_placeOf_25 : decode cX4_placeOf 25 = .ok (.if_icmp .ne 7, 3) := by decide +kernel
theorem dX4_placeOf_28 : decode cX4_placeOf 28 = .ok (.iload_n 3, 1) := by decide +kernel
theorem dX4_placeOf_29 : decode cX4_placeOf 29 = .ok (.goto 4, 3) := by decide +kernel
theorem dX4_placeOf_32 : decode cX4_placeOf 32 = .ok (.iload_n 2, 1) := by decide +kernel
theorem dX4_placeOf_33 : decode cX4_placeOf 33 = .ok (.istore_n 2, 1) := by decide +kernel
theorem dX4_placeOf_34 : decode cX4_placeOf 34 = .ok (.iinc 3 1, 3) := by decide +kernel
theorem dX4_placeOf_37 : decode cX4_placeOf 37 = .ok (.goto (-33), 3) := by decide +kernel
theorem dX4_placeOf_40 : decode cX4_placeOf 40 = .ok (.iload_n 2, 1) := by decide +kernel
theorem dX4_placeOf_41 : decode cX4_placeOf 41 = .ok (.ireturn, 1) := by decide +kernel
theorem dX4_ofColour_0 : decode cX4_ofColour 0 = .ok (.iload_n 2, 1) := by decide +kernel
theorem dX4_ofColour_1 : decode cX4_ofColour 1 = .ok (.tableswitch 59 3 5 #[27, 39, 53], 27) := by decide +kernel
theorem dX4_ofColour_28 : decode cX4_ofColour 28 = .ok (.aload_n 0, 1) := by decide +kernel
theorem dX4_ofColour_29 : decode cX4_ofColour 29 = .ok (.getfield 7, 3) := by decide +kernel
theorem dX4_ofColour_32 : decode cX4_ofColour 32 = .ok (.bipush 61, 2) := by decide +kernel
theorem dX4_ofColour_34 : decode cX4_ofColour 34 = .ok (.iaload, 1) := by decide +kernel
theorem dX4_ofColour_35 : decode cX4_ofColour 35 = .ok (.iload_n 1, 1) := by decide +kernel
theorem dX4_ofColour_36 : decode cX4_ofColour 36 = .ok (.ishr, 1) := by decide +kernel
theorem dX4_ofColour_37 : decode cX4_ofColour 37 = .ok (.iconst 1, 1) := by decide +kernel
theorem dX4_ofColour_38 : decode cX4_ofColour 38 = .ok (.iand, 1) := by decide +kernel
theorem dX4_ofColour_39 : decode cX4_ofColour 39 = .ok (.ireturn, 1) := by decide +kernel
theorem dX4_ofColour_40 : decode cX4_ofColour 40 = .ok (.aload_n 0, 1) := by decide +kernel
theorem dX4_ofColour_41 : decode cX4_ofColour 41 = .ok (.iload_n 1, 1) := by decide +kernel
theorem dX4_ofColour_42 : decode cX4_ofColour 42 = .ok (.invokevirtual 108, 3) := by decide +kernel
theorem dX4_ofColour_45 : decode cX4_ofColour 45 = .ok (.ifCond .eq 7, 3) := by decide +kernel
theorem dX4_ofColour_48 : decode cX4_ofColour 48 = .ok (.iconst 1, 1) := by decide +kernel
theorem dX4_ofColour_49 : decode cX4_ofColour 49 = .ok (.goto 4, 3) := by decide +kernel
theorem dX4_ofColour_52 : decode cX4_ofColour 52 = .ok (.iconst 0, 1) := by decide +kernel
theorem dX4_ofColour_53 : decode cX4_ofColour 53 = .ok (.ireturn, 1) := by decide +kernel
theorem dX4_ofColour_54 : decode cX4_ofColour 54 = .ok (.aload_n 0, 1) := by decide +kernel
theorem dX4_ofColour_55 : decode cX4_ofColour 55 = .ok (.iload_n 1, 1) := by decide +kernel
theorem dX4_ofColour_56 : decode cX4_ofColour 56 = .ok (.invokevirtual 111, 3) := by decide +kernel
theorem dX4_ofColour_59 : decode cX4_ofColour 59 = .ok (.ireturn, 1) := by decide +kernel
theorem dX4_ofColour_60 : decode cX4_ofColour 60 = .ok (.aload_n 0, 1) := by decide +kernel
theorem dX4_ofColour_61 : decode cX4_ofColour 61 = .ok (.getfield 7, 3) := by decide +kernel
theorem dX4_ofColour_64 : decode cX4_ofColour 64 = .ok (.aload_n 0, 1) := by decide +kernel
theorem dX4_ofColour_65 : decode cX4_ofColour 65 = .ok (.iload_n 1, 1) := by decide +kernel
theorem dX4_ofColour_66 : decode cX4_ofColour 66 = .ok (.invokevirtual 57, 3) := by decide +kernel
theorem dX4_ofColour_69 : decode cX4_ofColour 69 = .ok (.iload_n 2, 1) := by decide +kernel
theorem dX4_ofColour_70 : decode cX4_ofColour 70 = .ok (.iadd, 1) := by decide +kernel
theorem dX4_ofColour_71 : decode cX4_ofColour 71 = .ok (.iaload, 1) := by decide +kernel
theorem dX4_ofColour_72 : decode cX4_ofColour 72 = .ok (.ireturn, 1) := by decide +kernel
theorem dX4_of_0 : decode cX4_of 0 = .ok (.aload_n 0, 1) := by decide +kernel
theorem dX4_of_1 : decode cX4_of 1 = .ok (.iload_n 1, 1) := by decide +kernel
theorem dX4_of_2 : decode cX4_of 2 = .ok (.invokevirtual 81, 3) := by decide +kernel
theorem dX4_of_5 : decode cX4_of 5 = .ok (.ifCond .eq 21, 3) := by decide +kernel
theorem dX4_of_8 : decode cX4_of 8 = .ok (.iload_n 2, 1) := by decide +kernel
theorem dX4_of_9 : decode cX4_of 9 = .ok (.iconst 0, 1) := by decide +kernel
theorem dX4_of_10 : decode cX4_of 10 = .ok (.iconst 5, 1) := by decide +kernel
theorem dX4_of_11 : decode cX4_of 11 = .ok (.invokestatic 49, 3) := by decide +kernel
theorem dX4_of_14 : decode cX4_of 14 = .ok (.ifCond .eq 12, 3) := by decide +kernel
theorem dX4_of_17 : decode cX4_of 17 = .ok (.aload_n 0, 1) := by decide +kernel
theorem dX4_of_18 : decode cX4_of 18 = .ok (.iload_n 1, 1) := by decide +kernel
theorem dX4_of_19 : decode cX4_of 19 = .ok (.iload_n 2, 1) := by decide +kernel
theorem dX4_of_20 : decode cX4_of 20 = .ok (.invokevirtual 114, 3) := by decide +kernel
theorem dX4_of_23 : decode cX4_of 23 = .ok (.goto 7, 3) := by decide +kernel
theorem dX4_of_26 : decode cX4_of 26 = .ok (.aload_n 0, 1) := by decide +kernel
theorem dX4_of_27 : decode cX4_of 27 = .ok (.invokevirtual 68, 3) := by decide +kernel
theorem dX4_of_30 : decode cX4_of 30 = .ok (.ireturn, 1) := by decide +kernel
theorem dX4_look_0 : decode cX4_look 0 = .ok (.iload_n 1, 1) := by decide +kernel
theorem dX4_look_1 : decode cX4_look 1 = .ok (.invokestatic 84, 3) := by decide +kernel
theorem dX4_look_4 : decode cX4_look 4 = .ok (.ifCond .eq 30, 3) := by decide +kernel
theorem dX4_look_7 : decode cX4_look 7 = .ok (.iload_n 2, 1) := by decide +kernel
theorem dX4_look_8 : decode cX4_look 8 = .ok (.iconst 0, 1) := by decide +kernel
theorem dX4_look_9 : decode cX4_look 9 = .ok (.bipush 12, 2) := by decide +kernel
theorem dX4_look_11 : decode cX4_look 11 = .ok (.invokestatic 49, 3) := by decide +kernel
theorem dX4_look_14 : decode cX4_look 14 = .ok (.ifCond .eq 20, 3) := by decide +kernel
theorem dX4_look_17 : decode cX4_look 17 = .ok (.aload_n 0, 1) := by decide +kernel
theorem dX4_look_18 : decode cX4_look 18 = .ok (.getfield 7, 3) := by decide +kernel
theorem dX4_look_21 : decode cX4_look 21 = .ok (.bipush 62, 2) := by decide +kernel
theorem dX4_look_23 : decode cX4_look 23 = .ok (.bipush 13, 2) := by decide +kernel
theorem dX4_look_25 : decode cX4_look 25 = .ok (.iload_n 1, 1) := by decide +kernel
theorem dX4_look_26 : decode cX4_look 26 = .ok (.imul, 1) := by decide +kernel
theorem dX4_look_27 : decode cX4_look 27 = .ok (.iadd, 1) := by decide +kernel
theorem dX4_look_28 : decode cX4_look 28 = .ok (.iload_n 2, 1) := by decide +kernel
theorem dX4_look_29 : decode cX4_look 29 = .ok (.iadd, 1) := by decide +kernel
theorem dX4_look_30 : decode cX4_look 30 = .ok (.iaload, 1) := by decide +kernel
theorem dX4_look_31 : decode cX4_look 31 = .ok (.goto 7, 3) := by decide +kernel
theorem dX4_look_34 : decode cX4_look 34 = .ok (.aload_n 0, 1) := by decide +kernel
theorem dX4_look_35 : decode cX4_look 35 = .ok (.invokevirtual 68, 3) := by decide +kernel
theorem dX4_look_38 : decode cX4_look 38 = .ok (.ireturn, 1) := by decide +kernel
theorem dX4_light_0 : decode cX4_light 0 = .ok (.aload_n 0, 1) := by decide +kernel
theorem dX4_light_1 : decode cX4_light 1 = .ok (.iload_n 1, 1) := by decide +kernel
theorem dX4_light_2 : decode cX4_light 2 = .ok (.invokevirtual 81, 3) := by decide +kernel
theorem dX4_light_5 : decode cX4_light 5 = .ok (.ifCond .eq 18, 3) := by decide +kernel
theorem dX4_light_8 : decode cX4_light 8 = .ok (.aload_n 0, 1) := by decide +kernel
theorem dX4_light_9 : decode cX4_light 9 = .ok (.aload_n 0, 1) := by decide +kernel
theorem dX4_light_10 : decode cX4_light 10 = .ok (.iload_n 1, 1) := by decide +kernel
theorem dX4_light_11 : decode cX4_light 11 = .ok (.invokevirtual 57, 3) := by decide +kernel
theorem dX4_light_14 : decode cX4_light 14 = .ok (.invokevirtual 104, 3) := by decide +kernel
theorem dX4_light_17 : decode cX4_light 17 = .ok (.invokestatic 117, 3) := by decide +kernel
theorem dX4_light_20 : decode cX4_light 20 = .ok (.goto 7, 3) := by decide +kernel
theorem dX4_light_23 : decode cX4_light 23 = .ok (.aload_n 0, 1) := by decide +kernel
theorem dX4_light_24 : decode cX4_light 24 = .ok (.invokevirtual 68, 3) := by decide +kernel
theorem dX4_light_27 : decode cX4_light 27 = .ok (.ireturn, 1) := by decide +kernel
theorem dX4_sight_0 : decode cX4_sight 0 = .ok (.bipush 62, 2) := by decide +kernel
theorem dX4_sight_2 : decode cX4_sight 2 = .ok (.bipush 13, 2) := by decide +kernel
theorem dX4_sight_4 : decode cX4_sight 4 = .ok (.iload_n 1, 1) := by decide +kernel
theorem dX4_sight_5 : decode cX4_sight 5 = .ok (.imul, 1) := by decide +kernel
theorem dX4_sight_6 : decode cX4_sight 6 = .ok (.iadd, 1) := by decide +kernel
theorem dX4_sight_7 : decode cX4_sight 7 = .ok (.iconst 3, 1) := by decide +kernel
theorem dX4_sight_8 : decode cX4_sight 8 = .ok (.iload_n 3, 1) := by decide +kernel
theorem dX4_sight_9 : decode cX4_sight 9 = .ok (.imul, 1) := by decide +kernel
theorem dX4_sight_10 : decode cX4_sight 10 = .ok (.iadd, 1) := by decide +kernel
theorem dX4_sight_11 : decode cX4_sight 11 = .ok (.istore 4, 2) := by decide +kernel
theorem dX4_sight_13 : decode cX4_sight 13 = .ok (.aload_n 0, 1) := by decide +kernel
theorem dX4_sight_14 : decode cX4_sight 14 = .ok (.iload_n 2, 1) := by decide +kernel
theorem dX4_sight_15 : decode cX4_sight 15 = .ok (.invokevirtual 57, 3) := by decide +kernel
theorem dX4_sight_18 : decode cX4_sight 18 = .ok (.istore 5, 2) := by decide +kernel
theorem dX4_sight_20 : decode cX4_sight 20 = .ok (.aload_n 0, 1) := by decide +kernel
theorem dX4_sight_21 : decode cX4_sight 21 = .ok (.getfield 7, 3) := by decide +kernel
theorem dX4_sight_24 : decode cX4_sight 24 = .ok (.iload 4, 2) := by decide +kernel
theorem dX4_sight_26 : decode cX4_sight 26 = .ok (.iaload, 1) := by decide +kernel
theorem dX4_sight_27 : decode cX4_sight 27 = .ok (.i2f, 1) := by decide +kernel
theorem dX4_sight_28 : decode cX4_sight 28 = .ok (.ldc 121, 2) := by decide +kernel
theorem dX4_sight_30 : decode cX4_sight 30 = .ok (.fdiv, 1) := by decide +kernel
theorem dX4_sight_31 : decode cX4_sight 31 = .ok (.fstore 6, 2) := by decide +kernel
theorem dX4_sight_33 : decode cX4_sight 33 = .ok (.aload_n 0, 1) := by decide +kernel
theorem dX4_sight_34 : decode cX4_sight 34 = .ok (.getfield 7, 3) := by decide +kernel
theorem dX4_sight_37 : decode cX4_sight 37 = .ok (.iload 4, 2) := by decide +kernel
theorem dX4_sight_39 : decode cX4_sight 39 = .ok (.iconst 1, 1) := by decide +kernel
theorem dX4_sight_40 : decode cX4_sight 40 = .ok (.iadd, 1) := by decide +kernel
theorem dX4_sight_41 : decode cX4_sight 41 = .ok (.iaload, 1) := by decide +kernel
theorem dX4_sight_42 : decode cX4_sight 42 = .ok (.i2f, 1) := by decide +kernel
theorem dX4_sight_43 : decode cX4_sight 43 = .ok (.ldc 121, 2) := by decide +kernel
theorem dX4_sight_45 : decode cX4_sight 45 = .ok (.fdiv, 1) := by decide +kernel
theorem dX4_sight_46 : decode cX4_sight 46 = .ok (.fstore 7, 2) := by decide +kernel
theorem dX4_sight_48 : decode cX4_sight 48 = .ok (.aload_n 0, 1) := by decide +kernel
theorem dX4_sight_49 : decode cX4_sight 49 = .ok (.getfield 7, 3) := by decide +kernel
theorem dX4_sight_52 : decode cX4_sight 52 = .ok (.iload 4, 2) := by decide +kernel
theorem dX4_sight_54 : decode cX4_sight 54 = .ok (.iconst 2, 1) := by decide +kernel
theorem dX4_sight_55 : decode cX4_sight 55 = .ok (.iadd, 1) := by decide +kernel
theorem dX4_sight_56 : decode cX4_sight 56 = .ok (.iaload, 1) := by decide +kernel
theorem dX4_sight_57 : decode cX4_sight 57 = .ok (.i2f, 1) := by decide +kernel
theorem dX4_sight_58 : decode cX4_sight 58 = .ok (.ldc 121, 2) := by decide +kernel
theorem dX4_sight_60 : decode cX4_sight 60 = .ok (.fdiv, 1) := by decide +kernel
theorem dX4_sight_61 : decode cX4_sight 61 = .ok (.fstore 8, 2) := by decide +kernel
theorem dX4_sight_63 : decode cX4_sight 63 = .ok (.fload 6, 2) := by decide +kernel
theorem dX4_sight_65 : decode cX4_sight 65 = .ok (.aload_n 0, 1) := by decide +kernel
theorem dX4_sight_66 : decode cX4_sight 66 = .ok (.getfield 7, 3) := by decide +kernel
theorem dX4_sight_69 : decode cX4_sight 69 = .ok (.iload 5, 2) := by decide +kernel
theorem dX4_sight_71 : decode cX4_sight 71 = .ok (.iaload, 1) := by decide +kernel
theorem dX4_sight_72 : decode cX4_sight 72 = .ok (.i2f, 1) := by decide +kernel
theorem dX4_sight_73 : decode cX4_sight 73 = .ok (.fmul, 1) := by decide +kernel
theorem dX4_sight_74 : decode cX4_sight 74 = .ok (.fload 7, 2) := by decide +kernel
theorem dX4_sight_76 : decode cX4_sight 76 = .ok (.aload_n 0, 1) := by decide +kernel
theorem dX4_sight_77 : decode cX4_sight 77 = .ok (.getfield 7, 3) := by decide +kernel
theorem dX4_sight_80 : decode cX4_sight 80 = .ok (.iload 5, 2) := by decide +kernel
theorem dX4_sight_82 : decode cX4_sight 82 = .ok (.iconst 1, 1) := by decide +kernel
theorem dX4_sight_83 : decode cX4_sight 83 = .ok (.iadd, 1) := by decide +kernel
theorem dX4_sight_84 : decode cX4_sight 84 = .ok (.iaload, 1) := by decide +kernel
theorem dX4_sight_85 : decode cX4_sight 85 = .ok (.i2f, 1) := by decide +kernel
theorem dX4_sight_86 : decode cX4_sight 86 = .ok (.fmul, 1) := by decide +kernel
theorem dX4_sight_87 : decode cX4_sight 87 = .ok (.fadd, 1) := by decide +kernel
theorem dX4_sight_88 : decode cX4_sight 88 = .ok (.fload 8, 2) := by decide +kernel
theorem dX4_sight_90 : decode cX4_sight 90 = .ok (.aload_n 0, 1) := by decide +kernel
theorem dX4_sight_91 : decode cX4_sight 91 = .ok (.getfield 7, 3) := by decide +kernel
theorem dX4_sight_94 : decode cX4_sight 94 = .ok (.iload 5, 2) := by decide +kernel
theorem dX4_sight_96 : decode cX4_sight 96 = .ok (.iconst 2, 1) := by decide +kernel
theorem dX4_sight_97 : decode cX4_sight 97 = .ok (.iadd, 1) := by decide +kernel
theorem dX4_sight_98 : decode cX4_sight 98 = .ok (.iaload, 1) := by decide +kernel
theorem dX4_sight_99 : decode cX4_sight 99 = .ok (.i2f, 1) := by decide +kernel
theorem dX4_sight_100 : decode cX4_sight 100 = .ok (.fmul, 1) := by decide +kernel
theorem dX4_sight_101 : decode cX4_sight 101 = .ok (.fadd, 1) := by decide +kernel
theorem dX4_sight_102 : decode cX4_sight 102 = .ok (.freturn, 1) := by decide +kernel
theorem dX4_seen_0 : decode cX4_seen 0 = .ok (.iload_n 1, 1) := by decide +kernel
theorem dX4_seen_1 : decode cX4_seen 1 = .ok (.invokestatic 84, 3) := by decide +kernel
theorem dX4_seen_4 : decode cX4_seen 4 = .ok (.ifCond .eq 33, 3) := by decide +kernel
theorem dX4_seen_7 : decode cX4_seen 7 = .ok (.aload_n 0, 1) := by decide +kernel
theorem dX4_seen_8 : decode cX4_seen 8 = .ok (.iload_n 2, 1) := by decide +kernel
theorem dX4_seen_9 : decode cX4_seen 9 = .ok (.invokevirtual 81, 3) := by decide +kernel
theorem dX4_seen_12 : decode cX4_seen 12 = .ok (.ifCond .eq 25, 3) := by decide +kernel
theorem dX4_seen_15 : decode cX4_seen 15 = .ok (.iload_n 3, 1) := by decide +kernel
theorem dX4_seen_16 : decode cX4_seen 16 = .ok (.iconst 0, 1) := by decide +kernel
theorem dX4_seen_17 : decode cX4_seen 17 = .ok (.iconst 2, 1) := by decide +kernel
theorem dX4_seen_18 : decode cX4_seen 18 = .ok (.invokestatic 49, 3) := by decide +kernel
theorem dX4_seen_21 : decode cX4_seen 21 = .ok (.ifCond .eq 16, 3) := by decide +kernel
theorem dX4_seen_24 : decode cX4_seen 24 = .ok (.aload_n 0, 1) := by decide +kernel
theorem dX4_seen_25 : decode cX4_seen 25 = .ok (.iload_n 1, 1) := by decide +kernel
theorem dX4_seen_26 : decode cX4_seen 26 = .ok (.iload_n 2, 1) := by decide +kernel
theorem dX4_seen_27 : decode cX4_seen 27 = .ok (.iload_n 3, 1) := by decide +kernel
theorem dX4_seen_28 : decode cX4_seen 28 = .ok (.invokevirtual 122, 3) := by decide +kernel
theorem dX4_seen_31 : decode cX4_seen 31 = .ok (.invokestatic 117, 3) := by decide +kernel
theorem dX4_seen_34 : decode cX4_seen 34 = .ok (.goto 7, 3) := by decide +kernel
theorem dX4_seen_37 : decode cX4_seen 37 = .ok (.aload_n 0, 1) := by decide +kernel
theorem dX4_seen_38 : decode cX4_seen 38 = .ok (.invokevirtual 68, 3) := by decide +kernel
theorem dX4_seen_41 : decode cX4_seen 41 = .ok (.ireturn, 1) := by decide +kernel
theorem dX4_farFor_0 : decode cX4_farFor 0 = .ok (.bipush 62, 2) := by decide +kernel
theorem dX4_farFor_2 : decode cX4_farFor 2 = .ok (.bipush 13, 2) := by decide +kernel
theorem dX4_farFor_4 : decode cX4_farFor 4 = .ok (.iload_n 1, 1) := by decide +kernel
theorem dX4_farFor_5 : decode cX4_farFor 5 = .ok (.imul, 1) := by decide +kernel
theorem dX4_farFor_6 : decode cX4_farFor 6 = .ok (.iadd, 1) := by decide +kernel
theorem dX4_farFor_7 : decode cX4_farFor 7 = .ok (.bipush 9, 2) := by decide +kernel
theorem dX4_farFor_9 : decode cX4_farFor 9 = .ok (.iadd, 1) := by decide +kernel
theorem dX4_farFor_10 : decode cX4_farFor 10 = .ok (.istore 4, 2) := by decide +kernel
theorem dX4_farFor_12 : decode cX4_farFor 12 = .ok (.aload_n 0, 1) := by decide +kernel
theorem dX4_farFor_13 : decode cX4_farFor 13 = .ok (.iload_n 1, 1) := by decide +kernel
theorem dX4_farFor_14 : decode cX4_farFor 14 = .ok (.iload_n 2, 1) := by decide +kernel
theorem dX4_farFor_15 : decode cX4_farFor 15 = .ok (.iconst 0, 1) := by decide +kernel
theorem dX4_farFor_16 : decode cX4_farFor 16 = .ok (.invokevirtual 122, 3) := by decide +kernel
theorem dX4_farFor_19 : decode cX4_farFor 19 = .ok (.aload_n 0, 1) := by decide +kernel
theorem dX4_farFor_20 : decode cX4_farFor 20 = .ok (.iload_n 1, 1) := by decide +kernel
theorem dX4_farFor_21 : decode cX4_farFor 21 = .ok (.iload_n 3, 1) := by decide +kernel
theorem dX4_farFor_22 : decode cX4_farFor 22 = .ok (.iconst 0, 1) := by decide +kernel
theorem dX4_farFor_23 : decode cX4_farFor 23 = .ok (.invokevirtual 122, 3) := by decide +kernel
theorem dX4_farFor_26 : decode cX4_farFor 26 = .ok (.fsub, 1) := by decide +kernel
theorem dX4_farFor_27 : decode cX4_farFor 27 = .ok (.fstore 5, 2) := by decide +kernel
theorem dX4_farFor_29 : decode cX4_farFor 29 = .ok (.aload_n 0, 1) := by decide +kernel
theorem dX4_farFor_30 : decode cX4_farFor 30 = .ok (.iload_n 1, 1) := by decide +kernel
theorem dX4_farFor_31 : decode cX4_farFor 31 = .ok (.iload_n 2, 1) := by decide +kernel
theorem dX4_farFor_32 : decode cX4_farFor 32 = .ok (.iconst 1, 1) := by decide +kernel
theorem dX4_farFor_33 : decode cX4_farFor 33 = .ok (.invokevirtual 122, 3) := by decide +kernel
theorem dX4_farFor_36 : decode cX4_farFor 36 = .ok (.aload_n 0, 1) := by decide +kernel
theorem dX4_farFor_37 : decode cX4_farFor 37 = .ok (.iload_n 1, 1) := by decide +kernel
theorem dX4_farFor_38 : decode cX4_farFor 38 = .ok (.iload_n 3, 1) := by decide +kernel
theorem dX4_farFor_39 : decode cX4_farFor 39 = .ok (.iconst 1, 1) := by decide +kernel
theorem dX4_farFor_40 : decode cX4_farFor 40 = .ok (.invokevirtual 122, 3) := by decide +kernel
theorem dX4_farFor_43 : decode cX4_farFor 43 = .ok (.fsub, 1) := by decide +kernel
theorem dX4_farFor_44 : decode cX4_farFor 44 = .ok (.fstore 6, 2) := by decide +kernel
theorem dX4_farFor_46 : decode cX4_farFor 46 = .ok (.aload_n 0, 1) := by decide +kernel
theorem dX4_farFor_47 : decode cX4_farFor 47 = .ok (.iload_n 1, 1) := by decide +kernel
theorem dX4_farFor_48 : decode cX4_farFor 48 = .ok (.iload_n 2, 1) := by decide +kernel
theorem dX4_farFor_49 : decode cX4_farFor 49 = .ok (.iconst 2, 1) := by decide +kernel
theorem dX4_farFor_50 : decode cX4_farFor 50 = .ok (.invokevirtual 122, 3) := by decide +kernel
theorem dX4_farFor_53 : decode cX4_farFor 53 = .ok (.aload_n 0, 1) := by decide +kernel
theorem dX4_farFor_54 : decode cX4_farFor 54 = .ok (.iload_n 1, 1) := by decide +kernel
theorem dX4_farFor_55 : decode cX4_farFor 55 = .ok (.iload_n 3, 1) := by decide +kernel
theorem dX4_farFor_56 : decode cX4_farFor 56 = .ok (.iconst 2, 1) := by decide +kernel
theorem dX4_farFor_57 : decode cX4_farFor 57 = .ok (.invokevirtual 122, 3) := by decide +kernel
theorem dX4_farFor_60 : decode cX4_farFor 60 = .ok (.fsub, 1) := by decide +kernel
theorem dX4_farFor_61 : decode cX4_farFor 61 = .ok (.fstore 7, 2) := by decide +kernel
theorem dX4_farFor_63 : decode cX4_farFor 63 = .ok (.aload_n 0, 1) := by decide +kernel
theorem dX4_farFor_64 : decode cX4_farFor 64 = .ok (.getfield 7, 3) := by decide +kernel
theorem dX4_farFor_67 : decode cX4_farFor 67 = .ok (.iload 4, 2) := by decide +kernel
theorem dX4_farFor_69 : decode cX4_farFor 69 = .ok (.iaload, 1) := by decide +kernel
theorem dX4_farFor_70 : decode cX4_farFor 70 = .ok (.i2f, 1) := by decide +kernel
theorem dX4_farFor_71 : decode cX4_farFor 71 = .ok (.fload 5, 2) := by decide +kernel
theorem dX4_farFor_73 : decode cX4_farFor 73 = .ok (.fload 5, 2) := by decide +kernel
theorem dX4_farFor_75 : decode cX4_farFor 75 = .ok (.fmul, 1) := by decide +kernel
theorem dX4_farFor_76 : decode cX4_farFor 76 = .ok (.fmul, 1) := by decide +kernel
theorem dX4_farFor_77 : decode cX4_farFor 77 = .ok (.aload_n 0, 1) := by decide +kernel
theorem dX4_farFor_78 : decode cX4_farFor 78 = .ok (.getfield 7, 3) := by decide +kernel
theorem dX4_farFor_81 : decode cX4_farFor 81 = .ok (.iload 4, 2) := by decide +kernel
theorem dX4_farFor_83 : decode cX4_farFor 83 = .ok (.iconst 1, 1) := by decide +kernel
theorem dX4_farFor_84 : decode cX4_farFor 84 = .ok (.iadd, 1) := by decide +kernel
theorem dX4_farFor_85 : decode cX4_farFor 85 = .ok (.iaload, 1) := by decide +kernel
theorem dX4_farFor_86 : decode cX4_farFor 86 = .ok (.i2f, 1) := by decide +kernel
theorem dX4_farFor_87 : decode cX4_farFor 87 = .ok (.fload 6, 2) := by decide +kernel
theorem dX4_farFor_89 : decode cX4_farFor 89 = .ok (.fload 6, 2) := by decide +kernel
theorem dX4_farFor_91 : decode cX4_farFor 91 = .ok (.fmul, 1) := by decide +kernel
theorem dX4_farFor_92 : decode cX4_farFor 92 = .ok (.fmul, 1) := by decide +kernel
theorem dX4_farFor_93 : decode cX4_farFor 93 = .ok (.fadd, 1) := by decide +kernel
theorem dX4_farFor_94 : decode cX4_farFor 94 = .ok (.aload_n 0, 1) := by decide +kernel
theorem dX4_farFor_95 : decode cX4_farFor 95 = .ok (.getfield 7, 3) := by decide +kernel
theorem dX4_farFor_98 : decode cX4_farFor 98 = .ok (.iload 4, 2) := by decide +kernel
theorem dX4_farFor_100 : decode cX4_farFor 100 = .ok (.iconst 2, 1) := by decide +kernel
theorem dX4_farFor_101 : decode cX4_farFor 101 = .ok (.iadd, 1) := by decide +kernel
theorem dX4_farFor_102 : decode cX4_farFor 102 = .ok (.iaload, 1) := by decide +kernel
theorem dX4_farFor_103 : decode cX4_farFor 103 = .ok (.i2f, 1) := by decide +kernel
theorem dX4_farFor_104 : decode cX4_farFor 104 = .ok (.fload 7, 2) := by decide +kernel
theorem dX4_farFor_106 : decode cX4_farFor 106 = .ok (.fload 7, 2) := by decide +kernel
theorem dX4_farFor_108 : decode cX4_farFor 108 = .ok (.fmul, 1) := by decide +kernel
theorem dX4_farFor_109 : decode cX4_farFor 109 = .ok (.fmul, 1) := by decide +kernel
theorem dX4_farFor_110 : decode cX4_farFor 110 = .ok (.fadd, 1) := by decide +kernel
theorem dX4_farFor_111 : decode cX4_farFor 111 = .ok (.freturn, 1) := by decide +kernel
theorem dX4_distance_0 : decode cX4_distance 0 = .ok (.iload_n 1, 1) := by decide +kernel
theorem dX4_distance_1 : decode cX4_distance 1 = .ok (.invokestatic 84, 3) := by decide +kernel
theorem dX4_distance_4 : decode cX4_distance 4 = .ok (.ifCond .eq 32, 3) := by decide +kernel
theorem dX4_distance_7 : decode cX4_distance 7 = .ok (.aload_n 0, 1) := by decide +kernel
theorem dX4_distance_8 : decode cX4_distance 8 = .ok (.iload_n 2, 1) := by decide +kernel
theorem dX4_distance_9 : decode cX4_distance 9 = .ok (.invokevirtual 81, 3) := by decide +kernel
theorem dX4_distance_12 : decode cX4_distance 12 = .ok (.ifCond .eq 24, 3) := by decide +kernel
theorem dX4_distance_15 : decode cX4_distance 15 = .ok (.aload_n 0, 1) := by decide +kernel
theorem dX4_distance_16 : decode cX4_distance 16 = .ok (.iload_n 3, 1) := by decide +kernel
theorem dX4_distance_17 : decode cX4_distance 17 = .ok (.invokevirtual 81, 3) := by decide +kernel
theorem dX4_distance_20 : decode cX4_distance 20 = .ok (.ifCond .eq 16, 3) := by decide +kernel
theorem dX4_distance_23 : decode cX4_distance 23 = .ok (.aload_n 0, 1) := by decide +kernel
theorem dX4_distance_24 : decode cX4_distance 24 = .ok (.iload_n 1, 1) := by decide +kernel
theorem dX4_distance_25 : decode cX4_distance 25 = .ok (.iload_n 2, 1) := by decide +kernel
theorem dX4_distance_26 : decode cX4_distance 26 = .ok (.iload_n 3, 1) := by decide +kernel
theorem dX4_distance_27 : decode cX4_distance 27 = .ok (.invokevirtual 126, 3) := by decide +kernel
theorem dX4_distance_30 : decode cX4_distance 30 = .ok (.invokestatic 117, 3) := by decide +kernel
theorem dX4_distance_33 : decode cX4_distance 33 = .ok (.goto 7, 3) := by decide +kernel
theorem dX4_distance_36 : decode cX4_distance 36 = .ok (.aload_n 0, 1) := by decide +kernel
theorem dX4_distance_37 : decode cX4_distance 37 = .ok (.invokevirtual 68, 3) := by decide +kernel
theorem dX4_distance_40 : decode cX4_distance 40 = .ok (.ireturn, 1) := by decide +kernel
theorem dX4_apartOf_0 : decode cX4_apartOf 0 = .ok (.fconst 0, 1) := by decide +kernel
theorem dX4_apartOf_1 : decode cX4_apartOf 1 = .ok (.fstore_n 3, 1) := by decide +kernel
theorem dX4_apartOf_2 : decode cX4_apartOf 2 = .ok (.iconst 0, 1) := by decide +kernel
theorem dX4_apartOf_3 : decode cX4_apartOf 3 = .ok (.istore 4, 2) := by decide +kernel
theorem dX4_apartOf_5 : decode cX4_apartOf 5 = .ok (.iconst 0, 1) := by decide +kernel
theorem dX4_apartOf_6 : decode cX4_apartOf 6 = .ok (.istore 5, 2) := by decide +kernel
theorem dX4_apartOf_8 : decode cX4_apartOf 8 = .ok (.iload 5, 2) := by decide +kernel
theorem dX4_apartOf_10 : decode cX4_apartOf 10 = .ok (.iconst 4, 1) := by decide +kernel
theorem dX4_apartOf_11 : decode cX4_apartOf 11 = .ok (.if_icmp .ge 61, 3) := by decide +kernel
theorem dX4_apartOf_14 : decode cX4_apartOf 14 = .ok (.aload_n 0, 1) := by decide +kernel
theorem dX4_apartOf_15 : decode cX4_apartOf 15 = .ok (.getfield 7, 3) := by decide +kernel
theorem dX4_apartOf_18 : decode cX4_apartOf 18 = .ok (.bipush 62, 2) := by decide +kernel
theorem dX4_apartOf_20 : decode cX4_apartOf 20 = .ok (.bipush 13, 2) := by decide +kernel
theorem dX4_apartOf_22 : decode cX4_apartOf 22 = .ok (.iload 5, 2) := by decide +kernel
theorem dX4_apartOf_24 : decode cX4_apartOf 24 = .ok (.imul, 1) := by decide +kernel
theorem dX4_apartOf_25 : decode cX4_apartOf 25 = .ok (.iadd, 1) := by decide +kernel
theorem dX4_apartOf_26 : decode cX4_apartOf 26 = .ok (.bipush 12, 2) := by decide +kernel
theorem dX4_apartOf_28 : decode cX4_apartOf 28 = .ok (.iadd, 1) := by decide +kernel
theorem dX4_apartOf_29 : decode cX4_apartOf 29 = .ok (.iaload, 1) := by decide +kernel
theorem dX4_apartOf_30 : decode cX4_apartOf 30 = .ok (.iconst 1, 1) := by decide +kernel
theorem dX4_apartOf_31 : decode cX4_apartOf 31 = .ok (.if_icmp .ne 35, 3) := by decide +kernel
theorem dX4_apartOf_34 : decode cX4_apartOf 34 = .ok (.aload_n 0, 1) := by decide +kernel
theorem dX4_apartOf_35 : decode cX4_apartOf 35 = .ok (.iload 5, 2) := by decide +kernel
theorem dX4_apartOf_37 : decode cX4_apartOf 37 = .ok (.iload_n 1, 1) := by decide +kernel
theorem dX4_apartOf_38 : decode cX4_apartOf 38 = .ok (.iload_n 2, 1) := by decide +kernel
theorem dX4_apartOf_39 : decode cX4_apartOf 39 = .ok (.invokevirtual 126, 3) := by decide +kernel
theorem dX4_apartOf_42 : decode cX4_apartOf 42 = .ok (.fstore 6, 2) := by decide +kernel
theorem dX4_apartOf_44 : decode cX4_apartOf 44 = .ok (.iload 4, 2) := by decide +kernel
theorem dX4_apartOf_46 : decode cX4_apartOf 46 = .ok (.ifCond .eq 10, 3) := by decide +kernel
theorem dX4_apartOf_49 : decode cX4_apartOf 49 = .ok (.fload 6, 2) := by decide +kernel
theorem dX4_apartOf_51 : decode cX4_apartOf 51 = .ok (.fload_n 3, 1) := by decide +kernel
theorem dX4_apartOf_52 : decode cX4_apartOf 52 = .ok (.fcmp .g, 1) := by decide +kernel
theorem dX4_apartOf_53 : decode cX4_apartOf 53 = .ok (.ifCond .ge 8, 3) := by decide +kernel
theorem dX4_apartOf_56 : decode cX4_apartOf 56 = .ok (.fload 6, 2) := by decide +kernel
theorem dX4_apartOf_58 : decode cX4_apartOf 58 = .ok (.goto 4, 3) := by decide +kernel
theorem dX4_apartOf_61 : decode cX4_apartOf 61 = .ok (.fload_n 3, 1) := by decide +kernel
theorem dX4_apartOf_62 : decode cX4_apartOf 62 = .ok (.fstore_n 3, 1) := by decide +kernel
theorem dX4_apartOf_63 : decode cX4_apartOf 63 = .ok (.iconst 1, 1) := by decide +kernel
theorem dX4_apartOf_64 : decode cX4_apartOf 64 = .ok (.istore 4, 2) := by decide +kernel
theorem dX4_apartOf_66 : decode cX4_apartOf 66 = .ok (.iinc 5 1, 3) := by decide +kernel
theorem dX4_apartOf_69 : decode cX4_apartOf 69 = .ok (.goto (-61), 3) := by decide +kernel
theorem dX4_apartOf_72 : decode cX4_apartOf 72 = .ok (.fload_n 3, 1) := by decide +kernel
theorem dX4_apartOf_73 : decode cX4_apartOf 73 = .ok (.freturn, 1) := by decide +kernel
theorem dX4_apart_0 : decode cX4_apart 0 = .ok (.aload_n 0, 1) := by decide +kernel
theorem dX4_apart_1 : decode cX4_apart 1 = .ok (.iload_n 1, 1) := by decide +kernel
theorem dX4_apart_2 : decode cX4_apart 2 = .ok (.invokevirtual 81, 3) := by decide +kernel
theorem dX4_apart_5 : decode cX4_apart 5 = .ok (.ifCond .eq 23, 3) := by decide +kernel
theorem dX4_apart_8 : decode cX4_apart 8 = .ok (.aload_n 0, 1) := by decide +kernel
theorem dX4_apart_9 : decode cX4_apart 9 = .ok (.iload_n 2, 1) := by decide +kernel
theorem dX4_apart_10 : decode cX4_apart 10 = .ok (.invokevirtual 81, 3) := by decide +kernel
theorem dX4_apart_13 : decode cX4_apart 13 = .ok (.ifCond .eq 15, 3) := by decide +kernel
theorem dX4_apart_16 : decode cX4_apart 16 = .ok (.aload_n 0, 1) := by decide +kernel
theorem dX4_apart_17 : decode cX4_apart 17 = .ok (.iload_n 1, 1) := by decide +kernel
theorem dX4_apart_18 : decode cX4_apart 18 = .ok (.iload_n 2, 1) := by decide +kernel
theorem dX4_apart_19 : decode cX4_apart 19 = .ok (.invokevirtual 129, 3) := by decide +kernel
theorem dX4_apart_22 : decode cX4_apart 22 = .ok (.invokestatic 117, 3) := by decide +kernel
theorem dX4_apart_25 : decode cX4_apart 25 = .ok (.goto 7, 3) := by decide +kernel
theorem dX4_apart_28 : decode cX4_apart 28 = .ok (.aload_n 0, 1) := by decide +kernel
theorem dX4_apart_29 : decode cX4_apart 29 = .ok (.invokevirtual 68, 3) := by decide +kernel
theorem dX4_apart_32 : decode cX4_apart 32 = .ok (.ireturn, 1) := by decide +kernel
theorem dX4_laysFar_0 : decode cX4_laysFar 0 = .ok (.aload_n 0, 1) := by decide +kernel
theorem dX4_laysFar_1 : decode cX4_laysFar 1 = .ok (.iconst 0, 1) := by decide +kernel
theorem dX4_laysFar_2 : decode cX4_laysFar 2 = .ok (.putfield 133, 3) := by decide +kernel
theorem dX4_laysFar_5 : decode cX4_laysFar 5 = .ok (.iconst 0, 1) := by decide +kernel
theorem dX4_laysFar_6 : decode cX4_laysFar 6 = .ok (.istore_n 1, 1) := by decide +kernel
theorem dX4_laysFar_7 : decode cX4_laysFar 7 = .ok (.iload_n 1, 1) := by decide +kernel
theorem dX4_laysFar_8 : decode cX4_laysFar 8 = .ok (.aload_n 0, 1) := by decide +kernel
theorem dX4_laysFar_9 : decode cX4_laysFar 9 = .ok (.getfield 7, 3) := by decide +kernel
theorem dX4_laysFar_12 : decode cX4_laysFar 12 = .ok (.iconst 0, 1) := by decide +kernel
theorem dX4_laysFar_13 : decode cX4_laysFar 13 = .ok (.iaload, 1) := by decide +kernel
theorem dX4_laysFar_14 : decode cX4_laysFar 14 = .ok (.if_icmp .ge 85, 3) := by decide +kernel
theorem dX4_laysFar_17 : decode cX4_laysFar 17 = .ok (.aload_n 0, 1) := by decide +kernel
theorem dX4_laysFar_18 : decode cX4_laysFar 18 = .ok (.dup, 1) := by decide +kernel
theorem dX4_laysFar_19 : decode cX4_laysFar 19 = .ok (.getfield 133, 3) := by decide +kernel
theorem dX4_laysFar_22 : decode cX4_laysFar 22 = .ok (.aload_n 0, 1) := by decide +kernel
theorem dX4_laysFar_23 : decode cX4_laysFar 23 = .ok (.iload_n 1, 1) := by decide +kernel
theorem dX4_laysFar_24 : decode cX4_laysFar 24 = .ok (.invokevirtual 108, 3) := by decide +kernel
theorem dX4_laysFar_27 : decode cX4_laysFar 27 = .ok (.ifCond .eq 9, 3) := by decide +kernel
theorem dX4_laysFar_30 : decode cX4_laysFar 30 = .ok (.iconst 1, 1) := by decide +kernel
theorem dX4_laysFar_31 : decode cX4_laysFar 31 = .ok (.iload_n 1, 1) := by decide +kernel
theorem dX4_laysFar_32 : decode cX4_laysFar 32 = .ok (.ishl, 1) := by decide +kernel
theorem dX4_laysFar_33 : decode cX4_laysFar 33 = .ok (.goto 4, 3) := by decide +kernel
theorem dX4_laysFar_36 : decode cX4_laysFar 36 = .ok (.iconst 0, 1) := by decide +kernel
theorem dX4_laysFar_37 : decode cX4_laysFar 37 = .ok (.ior, 1) := by decide +kernel
theorem dX4_laysFar_38 : decode cX4_laysFar 38 = .ok (.putfield 133, 3) := by decide +kernel
theorem dX4_laysFar_41 : decode cX4_laysFar 41 = .ok (.iconst 0, 1) := by decide +kernel
theorem dX4_laysFar_42 : decode cX4_laysFar 42 = .ok (.istore_n 2, 1) := by decide +kernel
theorem dX4_laysFar_43 : decode cX4_laysFar 43 = .ok (.iload_n 2, 1) := by decide +kernel
theorem dX4_laysFar_44 : decode cX4_laysFar 44 = .ok (.iload_n 1, 1) := by decide +kernel
theorem dX4_laysFar_45 : decode cX4_laysFar 45 = .ok (.if_icmp .ge 48, 3) := by decide +kernel
theorem dX4_laysFar_48 : decode cX4_laysFar 48 = .ok (.aload_n 0, 1) := by decide +kernel
theorem dX4_laysFar_49 : decode cX4_laysFar 49 = .ok (.getfield 25, 3) := by decide +kernel
theorem dX4_laysFar_52 : decode cX4_laysFar 52 = .ok (.bipush 20, 2) := by decide +kernel
theorem dX4_laysFar_54 : decode cX4_laysFar 54 = .ok (.iload_n 1, 1) := by decide +kernel
theorem dX4_laysFar_55 : decode cX4_laysFar 55 = .ok (.imul, 1) := by decide +kernel
theorem dX4_laysFar_56 : decode cX4_laysFar 56 = .ok (.iload_n 2, 1) := by decide +kernel
theorem dX4_laysFar_57 : decode cX4_laysFar 57 = .ok (.iadd, 1) := by decide +kernel
theorem dX4_laysFar_58 : decode cX4_laysFar 58 = .ok (.aload_n 0, 1) := by decide +kernel
theorem dX4_laysFar_59 : decode cX4_laysFar 59 = .ok (.iload_n 1, 1) := by decide +kernel
theorem dX4_laysFar_60 : decode cX4_laysFar 60 = .ok (.iload_n 2, 1) := by decide +kernel
theorem dX4_laysFar_61 : decode cX4_laysFar 61 = .ok (.invokevirtual 129, 3) := by decide +kernel
theorem dX4_laysFar_64 : decode cX4_laysFar 64 = .ok (.fastore, 1) := by decide +kernel
theorem dX4_laysFar_65 : decode cX4_laysFar 65 = .ok (.aload_n 0, 1) := by decide +kernel
theorem dX4_laysFar_66 : decode cX4_laysFar 66 = .ok (.getfield 25, 3) := by decide +kernel
theorem dX4_laysFar_69 : decode cX4_laysFar 69 = .ok (.bipush 20, 2) := by decide +kernel
theorem dX4_laysFar_71 : decode cX4_laysFar 71 = .ok (.iload_n 2, 1) := by decide +kernel
theorem dX4_laysFar_72 : decode cX4_laysFar 72 = .ok (.imul, 1) := by decide +kernel
theorem dX4_laysFar_73 : decode cX4_laysFar 73 = .ok (.iload_n 1, 1) := by decide +kernel
theorem dX4_laysFar_74 : decode cX4_laysFar 74 = .ok (.iadd, 1) := by decide +kernel
theorem dX4_laysFar_75 : decode cX4_laysFar 75 = .ok (.aload_n 0, 1) := by decide +kernel
theorem dX4_laysFar_76 : decode cX4_laysFar 76 = .ok (.getfield 25, 3) := by decide +kernel
theorem dX4_laysFar_79 : decode cX4_laysFar 79 = .ok (.bipush 20, 2) := by decide +kernel
theorem dX4_laysFar_81 : decode cX4_laysFar 81 = .ok (.iload_n 1, 1) := by decide +kernel
theorem dX4_laysFar_82 : decode cX4_laysFar 82 = .ok (.imul, 1) := by decide +kernel
theorem dX4_laysFar_83 : decode cX4_laysFar 83 = .ok (.iload_n 2, 1) := by decide +kernel
theorem dX4_laysFar_84 : decode cX4_laysFar 84 = .ok (.iadd, 1) := by decide +kernel
theorem dX4_laysFar_85 : decode cX4_laysFar 85 = .ok (.faload, 1) := by decide +kernel
theorem dX4_laysFar_86 : decode cX4_laysFar 86 = .ok (.fastore, 1) := by decide +kernel
theorem dX4_laysFar_87 : decode cX4_laysFar 87 = .ok (.iinc 2 1, 3) := by decide +kernel
theorem dX4_laysFar_90 : decode cX4_laysFar 90 = .ok (.goto (-47), 3) := by decide +kernel
theorem dX4_laysFar_93 : decode cX4_laysFar 93 = .ok (.iinc 1 1, 3) := by decide +kernel
theorem dX4_laysFar_96 : decode cX4_laysFar 96 = .ok (.goto (-89), 3) := by decide +kernel
theorem dX4_laysFar_99 : decode cX4_laysFar 99 = .ok (.return_, 1) := by decide +kernel
theorem dX4_leastOf_0 : decode cX4_leastOf 0 = .ok (.fconst 0, 1) := by decide +kernel
theorem dX4_leastOf_1 : decode cX4_leastOf 1 = .ok (.fstore_n 2, 1) := by decide +kernel
theorem dX4_leastOf_2 : decode cX4_leastOf 2 = .ok (.iconst 0, 1) := by decide +kernel
theorem dX4_leastOf_3 : decode cX4_leastOf 3 = .ok (.istore_n 3, 1) := by decide +kernel
theorem dX4_leastOf_4 : decode cX4_leastOf 4 = .ok (.iconst 0, 1) := by decide +kernel
theorem dX4_leastOf_5 : decode cX4_leastOf 5 = .ok (.istore 4, 2) := by decide +kernel
theorem dX4_leastOf_7 : decode cX4_leastOf 7 = .ok (.iload 4, 2) := by decide +kernel
theorem dX4_leastOf_9 : decode cX4_leastOf 9 = .ok (.iload_n 1, 1) := by decide +kernel
theorem dX4_leastOf_10 : decode cX4_leastOf 10 = .ok (.if_icmp .ge 70, 3) := by decide +kernel
theorem dX4_leastOf_13 : decode cX4_leastOf 13 = .ok (.iconst 0, 1) := by decide +kernel
theorem dX4_leastOf_14 : decode cX4_leastOf 14 = .ok (.istore 5, 2) := by decide +kernel
theorem dX4_leastOf_16 : decode cX4_leastOf 16 = .ok (.iload 5, 2) := by decide +kernel
theorem dX4_leastOf_18 : decode cX4_leastOf 18 = .ok (.iload 4, 2) := by decide +kernel
theorem dX4_leastOf_20 : decode cX4_leastOf 20 = .ok (.if_icmp .ge 54, 3) := by decide +kernel
theorem dX4_leastOf_23 : decode cX4_leastOf 23 = .ok (.aload_n 0, 1) := by decide +kernel
theorem dX4_leastOf_24 : decode cX4_leastOf 24 = .ok (.getfield 25, 3) := by decide +kernel
theorem dX4_leastOf_27 : decode cX4_leastOf 27 = .ok (.bipush 20, 2) := by decide +kernel
theorem dX4_leastOf_29 : decode cX4_leastOf 29 = .ok (.aload_n 0, 1) := by decide +kernel
theorem dX4_leastOf_30 : decode cX4_leastOf 30 = .ok (.getfield 29, 3) := by decide +kernel
theorem dX4_leastOf_33 : decode cX4_leastOf 33 = .ok (.iload 4, 2) := by decide +kernel
theorem dX4_leastOf_35 : decode cX4_leastOf 35 = .ok (.iaload, 1) := by decide +kernel
theorem dX4_leastOf_36 : decode cX4_leastOf 36 = .ok (.imul, 1) := by decide +kernel
theorem dX4_leastOf_37 : decode cX4_leastOf 37 = .ok (.aload_n 0, 1) := by decide +kernel
theorem dX4_leastOf_38 : decode cX4_leastOf 38 = .ok (.getfield 29, 3) := by decide +kernel
theorem dX4_leastOf_41 : decode cX4_leastOf 41 = .ok (.iload 5, 2) := by decide +kernel
theorem dX4_leastOf_43 : decode cX4_leastOf 43 = .ok (.iaload, 1) := by decide +kernel
theorem dX4_leastOf_44 : decode cX4_leastOf 44 = .ok (.iadd, 1) := by decide +kernel
theorem dX4_leastOf_45 : decode cX4_leastOf 45 = .ok (.faload, 1) := by decide +kernel
theorem dX4_leastOf_46 : decode cX4_leastOf 46 = .ok (.fstore 6, 2) := by decide +kernel
theorem dX4_leastOf_48 : decode cX4_leastOf 48 = .ok (.iload_n 3, 1) := by decide +kernel
theorem dX4_leastOf_49 : decode cX4_leastOf 49 = .ok (.ifCond .eq 10, 3) := by decide +kernel
theorem dX4_leastOf_52 : decode cX4_leastOf 52 = .ok (.fload 6, 2) := by decide +kernel
theorem dX4_leastOf_54 : decode cX4_leastOf 54 = .ok (.fload_n 2, 1) := by decide +kernel
theorem dX4_leastOf_55 : decode cX4_leastOf 55 = .ok (.fcmp .g, 1) := by decide +kernel
theorem dX4_leastOf_56 : decode cX4_leastOf 56 = .ok (.ifCond .ge 8, 3) := by decide +kernel
theorem dX4_leastOf_59 : decode cX4_leastOf 59 = .ok (.fload 6, 2) := by decide +kernel
theorem dX4_leastOf_61 : decode cX4_leastOf 61 = .ok (.goto 4, 3) := by decide +kernel
theorem dX4_leastOf_64 : decode cX4_leastOf 64 = .ok (.fload_n 2, 1) := by decide +kernel
theorem dX4_leastOf_65 : decode cX4_leastOf 65 = .ok (.fstore_n 2, 1) := by decide +kernel
theorem dX4_leastOf_66 : decode cX4_leastOf 66 = .ok (.iconst 1, 1) := by decide +kernel
theorem dX4_leastOf_67 : decode cX4_leastOf 67 = .ok (.istore_n 3, 1) := by decide +kernel
theorem dX4_leastOf_68 : decode cX4_leastOf 68 = .ok (.iinc 5 1, 3) := by decide +kernel
theorem dX4_leastOf_71 : decode cX4_leastOf 71 = .ok (.goto (-55), 3) := by decide +kernel
theorem dX4_leastOf_74 : decode cX4_leastOf 74 = .ok (.iinc 4 1, 3) := by decide +kernel
theorem dX4_leastOf_77 : decode cX4_leastOf 77 = .ok (.goto (-70), 3) := by decide +kernel
theorem dX4_leastOf_80 : decode cX4_leastOf 80 = .ok (.fload_n 2, 1) := by decide +kernel
theorem dX4_leastOf_81 : decode cX4_leastOf 81 = .ok (.freturn, 1) := by decide +kernel
theorem dX4_takesPalette_0 : decode cX4_takesPalette 0 = .ok (.iconst 0, 1) := by decide +kernel
theorem dX4_takesPalette_1 : decode cX4_takesPalette 1 = .ok (.istore_n 1, 1) := by decide +kernel
theorem dX4_takesPalette_2 : decode cX4_takesPalette 2 = .ok (.iload_n 1, 1) := by decide +kernel
theorem dX4_takesPalette_3 : decode cX4_takesPalette 3 = .ok (.aload_n 0, 1) := by decide +kernel
theorem dX4_takesPalette_4 : decode cX4_takesPalette 4 = .ok (.getfield 7, 3) := by decide +kernel
theorem dX4_takesPalette_7 : decode cX4_takesPalette 7 = .ok (.bipush 120, 2) := by decide +kernel
theorem dX4_takesPalette_9 : decode cX4_takesPalette 9 = .ok (.iaload, 1) := by decide +kernel
theorem dX4_takesPalette_10 : decode cX4_takesPalette 10 = .ok (.if_icmp .ge 24, 3) := by decide +kernel
theorem dX4_takesPalette_13 : decode cX4_takesPalette 13 = .ok (.aload_n 0, 1) := by decide +kernel
theorem dX4_takesPalette_14 : decode cX4_takesPalette 14 = .ok (.getfield 29, 3) := by decide +kernel
theorem dX4_takesPalette_17 : decode cX4_takesPalette 17 = .ok (.iload_n 1, 1) := by decide +kernel
theorem dX4_takesPalette_18 : decode cX4_takesPalette 18 = .ok (.aload_n 0, 1) := by decide +kernel
theorem dX4_takesPalette_19 : decode cX4_takesPalette 19 = .ok (.getfield 7, 3) := by decide +kernel
theorem dX4_takesPalette_22 : decode cX4_takesPalette 22 = .ok (.bipush 121, 2) := by decide +kernel
theorem dX4_takesPalette_24 : decode cX4_takesPalette 24 = .ok (.iload_n 1, 1) := by decide +kernel
theorem dX4_takesPalette_25 : decode cX4_takesPalette 25 = .ok (.iadd, 1) := by decide +kernel
theorem dX4_takesPalette_26 : decode cX4_takesPalette 26 = .ok (.iaload, 1) := by decide +kernel
theorem dX4_takesPalette_27 : decode cX4_takesPalette 27 = .ok (.iastore, 1) := by decide +kernel
theorem dX4_takesPalette_28 : decode cX4_takesPalette 28 = .ok (.iinc 1 1, 3) := by decide +kernel
theorem dX4_takesPalette_31 : decode cX4_takesPalette 31 = .ok (.goto (-29), 3) := by decide +kernel
theorem dX4_takesPalette_34 : decode cX4_takesPalette 34 = .ok (.return_, 1) := by decide +kernel
theorem dX4_putsLast_0 : decode cX4_putsLast 0 = .ok (.aload_n 0, 1) := by decide +kernel
theorem dX4_putsLast_1 : decode cX4_putsLast 1 = .ok (.getfield 7, 3) := by decide +kernel
theorem dX4_putsLast_4 : decode cX4_putsLast 4 = .ok (.bipush 121, 2) := by decide +kernel
theorem dX4_putsLast_6 : decode cX4_putsLast 6 = .ok (.aload_n 0, 1) := by decide +kernel
theorem dX4_putsLast_7 : decode cX4_putsLast 7 = .ok (.getfield 7, 3) := by decide +kernel
theorem dX4_putsLast_10 : decode cX4_putsLast 10 = .ok (.bipush 120, 2) := by decide +kernel
theorem dX4_putsLast_12 : decode cX4_putsLast 12 = .ok (.iaload, 1) := by decide +kernel
theorem dX4_putsLast_13 : decode cX4_putsLast 13 = .ok (.iadd, 1) := by decide +kernel
theorem dX4_putsLast_14 : decode cX4_putsLast 14 = .ok (.iload_n 1, 1) := by decide +kernel
theorem dX4_putsLast_15 : decode cX4_putsLast 15 = .ok (.iastore, 1) := by decide +kernel
theorem dX4_putsLast_16 : decode cX4_putsLast 16 = .ok (.aload_n 0, 1) := by decide +kernel
theorem dX4_putsLast_17 : decode cX4_putsLast 17 = .ok (.getfield 7, 3) := by decide +kernel
theorem dX4_putsLast_20 : decode cX4_putsLast 20 = .ok (.bipush 120, 2) := by decide +kernel
theorem dX4_putsLast_22 : decode cX4_putsLast 22 = .ok (.dup2, 1) := by decide +kernel
theorem dX4_putsLast_23 : decode cX4_putsLast 23 = .ok (.iaload, 1) := by decide +kernel
theorem dX4_putsLast_24 : decode cX4_putsLast 24 = .ok (.iconst 1, 1) := by decide +kernel
theorem dX4_putsLast_25 : decode cX4_putsLast 25 = .ok (.iadd, 1) := by decide +kernel
theorem dX4_putsLast_26 : decode cX4_putsLast 26 = .ok (.iastore, 1) := by decide +kernel
theorem dX4_putsLast_27 : decode cX4_putsLast 27 = .ok (.return_, 1) := by decide +kernel
theorem dX4_lightest_0 : decode cX4_lightest 0 = .ok (.iconst (-1), 1) := by decide +kernel
theorem dX4_lightest_1 : decode cX4_lightest 1 = .ok (.istore_n 1, 1) := by decide +kernel
theorem dX4_lightest_2 : decode cX4_lightest 2 = .ok (.iconst 0, 1) := by decide +kernel
theorem dX4_lightest_3 : decode cX4_lightest 3 = .ok (.istore_n 2, 1) := by decide +kernel
theorem dX4_lightest_4 : decode cX4_lightest 4 = .ok (.iload_n 2, 1) := by decide +kernel
theorem dX4_lightest_5 : decode cX4_lightest 5 = .ok (.aload_n 0, 1) := by decide +kernel
theorem dX4_lightest_6 : decode cX4_lightest 6 = .ok (.getfield 7, 3) := by decide +kernel
theorem dX4_lightest_9 : decode cX4_lightest 9 = .ok (.iconst 0, 1) := by decide +kernel
theorem dX4_lightest_10 : decode cX4_lightest 10 = .ok (.iaload, 1) := by decide +kernel
theorem dX4_lightest_11 : decode cX4_lightest 11 = .ok (.if_icmp .ge 63, 3) := by decide +kernel
theorem dX4_lightest_14 : decode cX4_lightest 14 = .ok (.iload_n 1, 1) := by decide +kernel
theorem dX4_lightest_15 : decode cX4_lightest 15 = .ok (.iconst (-1), 1) := by decide +kernel
theorem dX4_lightest_16 : decode cX4_lightest 16 = .ok (.if_icmp .eq 25, 3) := by decide +kernel
theorem dX4_lightest_19 : decode cX4_lightest 19 = .ok (.aload_n 0, 1) := by decide +kernel
theorem dX4_lightest_20 : decode cX4_lightest 20 = .ok (.aload_n 0, 1) := by decide +kernel
theorem dX4_lightest_21 : decode cX4_lightest 21 = .ok (.iload_n 2, 1) := by decide +kernel
theorem dX4_lightest_22 : decode cX4_lightest 22 = .ok (.invokevirtual 57, 3) := by decide +kernel
theorem dX4_lightest_25 : decode cX4_lightest 25 = .ok (.invokevirtual 104, 3) := by decide +kernel
theorem dX4_lightest_28 : decode cX4_lightest 28 = .ok (.aload_n 0, 1) := by decide +kernel
theorem dX4_lightest_29 : decode cX4_lightest 29 = .ok (.aload_n 0, 1) := by decide +kernel
theorem dX4_lightest_30 : decode cX4_lightest 30 = .ok (.iload_n 1, 1) := by decide +kernel
theorem dX4_lightest_31 : decode cX4_lightest 31 = .ok (.invokevirtual 57, 3) := by decide +kernel
theorem dX4_lightest_34 : decode cX4_lightest 34 = .ok (.invokevirtual 104, 3) := by decide +kernel
theorem dX4_lightest_37 : decode cX4_lightest 37 = .ok (.fcmp .l, 1) := by decide +kernel
theorem dX4_lightest_38 : decode cX4_lightest 38 = .ok (.ifCond .le 7, 3) := by decide +kernel
theorem dX4_lightest_41 : decode cX4_lightest 41 = .ok (.iconst 1, 1) := by decide +kernel
theorem dX4_lightest_42 : decode cX4_lightest 42 = .ok (.goto 4, 3) := by decide +kernel
theorem dX4_lightest_45 : decode cX4_lightest 45 = .ok (.iconst 0, 1) := by decide +kernel
theorem dX4_lightest_46 : decode cX4_lightest 46 = .ok (.istore_n 3, 1) := by decide +kernel
theorem dX4_lightest_47 : decode cX4_lightest 47 = .ok (.aload_n 0, 1) := by decide +kernel
theorem dX4_lightest_48 : decode cX4_lightest 48 = .ok (.getfield 133, 3) := by decide +kernel
theorem dX4_lightest_51 : decode cX4_lightest 51 = .ok (.iload_n 2, 1) := by decide +kernel
theorem dX4_lightest_52 : decode cX4_lightest 52 = .ok (.invokestatic 136, 3) := by decide +kernel
theorem dX4_lightest_55 : decode cX4_lightest 55 = .ok (.ifCond .eq 11, 3) := by decide +kernel
theorem dX4_lightest_58 : decode cX4_lightest 58 = .ok (.iload_n 3, 1) := by decide +kernel
theorem dX4_lightest_59 : decode cX4_lightest 59 = .ok (.ifCond .eq 7, 3) := by decide +kernel
theorem dX4_lightest_62 : decode cX4_lightest 62 = .ok (.iload_n 2, 1) := by decide +kernel
theorem dX4_lightest_63 : decode cX4_lightest 63 = .ok (.goto 4, 3) := by decide +kernel
theorem dX4_lightest_66 : decode cX4_lightest 66 = .ok (.iload_n 1, 1) := by decide +kernel
theorem dX4_lightest_67 : decode cX4_lightest 67 = .ok (.istore_n 1, 1) := by decide +kernel
theorem dX4_lightest_68 : decode cX4_lightest 68 = .ok (.iinc 2 1, 3) := by decide +kernel
theorem dX4_lightest_71 : decode cX4_lightest 71 = .ok (.goto (-67), 3) := by decide +kernel
theorem dX4_lightest_74 : decode cX4_lightest 74 = .ok (.iload_n 1, 1) := by decide +kernel
theorem dX4_lightest_75 : decode cX4_lightest 75 = .ok (.ireturn, 1) := by decide +kernel
theorem dX4_nearestIn_0 : decode cX4_nearestIn 0 = .ok (.aload_n 0, 1) := by decide +kernel
theorem dX4_nearestIn_1 : decode cX4_nearestIn 1 = .ok (.getfield 25, 3) := by decide +kernel
theorem dX4_nearestIn_4 : decode cX4_nearestIn 4 = .ok (.bipush 20, 2) := by decide +kernel
theorem dX4_nearestIn_6 : decode cX4_nearestIn 6 = .ok (.iload_n 1, 1) := by decide +kernel
theorem dX4_nearestIn_7 : decode cX4_nearestIn 7 = .ok (.imul, 1) := by decide +kernel
theorem dX4_nearestIn_8 : decode cX4_nearestIn 8 = .ok (.aload_n 0, 1) := by decide +kernel
theorem dX4_nearestIn_9 : decode cX4_nearestIn 9 = .ok (.getfield 7, 3) := by decide +kernel
theorem dX4_nearestIn_12 : decode cX4_nearestIn 12 = .ok (.bipush 121, 2) := by decide +kernel
theorem dX4_nearestIn_14 : decode cX4_nearestIn 14 = .ok (.iaload, 1) := by decide +kernel
theorem dX4_nearestIn_15 : decode cX4_nearestIn 15 = .ok (.iadd, 1) := by decide +kernel
theorem dX4_nearestIn_16 : decode cX4_nearestIn 16 = .ok (.faload, 1) := by decide +kernel
theorem dX4_nearestIn_17 : decode cX4_nearestIn 17 = .ok (.fstore_n 2, 1) := by decide +kernel
theorem dX4_nearestIn_18 : decode cX4_nearestIn 18 = .ok (.iconst 1, 1) := by decide +kernel
theorem dX4_nearestIn_19 : decode cX4_nearestIn 19 = .ok (.istore_n 3, 1) := by decide +kernel
theorem dX4_nearestIn_20 : decode cX4_nearestIn 20 = .ok (.iload_n 3, 1) := by decide +kernel
theorem dX4_nearestIn_21 : decode cX4_nearestIn 21 = .ok (.aload_n 0, 1) := by decide +kernel
theorem dX4_nearestIn_22 : decode cX4_nearestIn 22 = .ok (.getfield 7, 3) := by decide +kernel
theorem dX4_nearestIn_25 : decode cX4_nearestIn 25 = .ok (.bipush 120, 2) := by decide +kernel
theorem dX4_nearestIn_27 : decode cX4_nearestIn 27 = .ok (.iaload, 1) := by decide +kernel
theorem dX4_nearestIn_28 : decode cX4_nearestIn 28 = .ok (.if_icmp .ge 44, 3) := by decide +kernel
theorem dX4_nearestIn_31 : decode cX4_nearestIn 31 = .ok (.aload_n 0, 1) := by decide +kernel
theorem dX4_nearestIn_32 : decode cX4_nearestIn 32 = .ok (.getfield 25, 3) := by decide +kernel
theorem dX4_nearestIn_35 : decode cX4_nearestIn 35 = .ok (.bipush 20, 2) := by decide +kernel
theorem dX4_nearestIn_37 : decode cX4_nearestIn 37 = .ok (.iload_n 1, 1) := by decide +kernel
theorem dX4_nearestIn_38 : decode cX4_nearestIn 38 = .ok (.imul, 1) := by decide +kernel
theorem dX4_nearestIn_39 : decode cX4_nearestIn 39 = .ok (.aload_n 0, 1) := by decide +kernel
theorem dX4_nearestIn_40 : decode cX4_nearestIn 40 = .ok (.getfield 7, 3) := by decide +kernel
theorem dX4_nearestIn_43 : decode cX4_nearestIn 43 = .ok (.bipush 121, 2) := by decide +kernel
theorem dX4_nearestIn_45 : decode cX4_nearestIn 45 = .ok (.iload_n 3, 1) := by decide +kernel
theorem dX4_nearestIn_46 : decode cX4_nearestIn 46 = .ok (.iadd, 1) := by decide +kernel
theorem dX4_nearestIn_47 : decode cX4_nearestIn 47 = .ok (.iaload, 1) := by decide +kernel
theorem dX4_nearestIn_48 : decode cX4_nearestIn 48 = .ok (.iadd, 1) := by decide +kernel
theorem dX4_nearestIn_49 : decode cX4_nearestIn 49 = .ok (.faload, 1) := by decide +kernel
theorem dX4_nearestIn_50 : decode cX4_nearestIn 50 = .ok (.fstore 4, 2) := by decide +kernel
theorem dX4_nearestIn_52 : decode cX4_nearestIn 52 = .ok (.fload 4, 2) := by decide +kernel
theorem dX4_nearestIn_54 : decode cX4_nearestIn 54 = .ok (.fload_n 2, 1) := by decide +kernel
theorem dX4_nearestIn_55 : decode cX4_nearestIn 55 = .ok (.fcmp .g, 1) := by decide +kernel
theorem dX4_nearestIn_56 : decode cX4_nearestIn 56 = .ok (.ifCond .ge 8, 3) := by decide +kernel
theorem dX4_nearestIn_59 : decode cX4_nearestIn 59 = .ok (.fload 4, 2) := by decide +kernel
theorem dX4_nearestIn_61 : decode cX4_nearestIn 61 = .ok (.goto 4, 3) := by decide +kernel
theorem dX4_nearestIn_64 : decode cX4_nearestIn 64 = .ok (.fload_n 2, 1) := by decide +kernel
theorem dX4_nearestIn_65 : decode cX4_nearestIn 65 = .ok (.fstore_n 2, 1) := by decide +kernel
theorem dX4_nearestIn_66 : decode cX4_nearestIn 66 = .ok (.iinc 3 1, 3) := by decide +kernel
theorem dX4_nearestIn_69 : decode cX4_nearestIn 69 = .ok (.goto (-49), 3) := by decide +kernel
theorem dX4_nearestIn_72 : decode cX4_nearestIn 72 = .ok (.fload_n 2, 1) := by decide +kernel
theorem dX4_nearestIn_73 : decode cX4_nearestIn 73 = .ok (.freturn, 1) := by decide +kernel
theorem dX4_farthest_0 : decode cX4_farthest 0 = .ok (.iconst (-1), 1) := by decide +kernel
theorem dX4_farthest_1 : decode cX4_farthest 1 = .ok (.istore_n 1, 1) := by decide +kernel
theorem dX4_farthest_2 : decode cX4_farthest 2 = .ok (.fconst 0, 1) := by decide +kernel
theorem dX4_farthest_3 : decode cX4_farthest 3 = .ok (.fstore_n 2, 1) := by decide +kernel
theorem dX4_farthest_4 : decode cX4_farthest 4 = .ok (.iconst 0, 1) := by decide +kernel
theorem dX4_farthest_5 : decode cX4_farthest 5 = .ok (.istore_n 3, 1) := by decide +kernel
theorem dX4_farthest_6 : decode cX4_farthest 6 = .ok (.iload_n 3, 1) := by decide +kernel
theorem dX4_farthest_7 : decode cX4_farthest 7 = .ok (.aload_n 0, 1) := by decide +kernel
theorem dX4_farthest_8 : decode cX4_farthest 8 = .ok (.getfield 7, 3) := by decide +kernel
theorem dX4_farthest_11 : decode cX4_farthest 11 = .ok (.iconst 0, 1) := by decide +kernel
theorem dX4_farthest_12 : decode cX4_farthest 12 = .ok (.iaload, 1) := by decide +kernel
theorem dX4_farthest_13 : decode cX4_farthest 13 = .ok (.if_icmp .ge 53, 3) := by decide +kernel
theorem dX4_farthest_16 : decode cX4_farthest 16 = .ok (.aload_n 0, 1) := by decide +kernel
theorem dX4_farthest_17 : decode cX4_farthest 17 = .ok (.getfield 133, 3) := by decide +kernel
theorem dX4_farthest_20 : decode cX4_farthest 20 = .ok (.iload_n 3, 1) := by decide +kernel
theorem dX4_farthest_21 : decode cX4_farthest 21 = .ok (.invokestatic 136, 3) := by decide +kernel
theorem dX4_farthest_24 : decode cX4_farthest 24 = .ok (.ifCond .eq 36, 3) := by decide +kernel
theorem dX4_farthest_27 : decode cX4_farthest 27 = .ok (.aload_n 0, 1) := by decide +kernel
theorem dX4_farthest_28 : decode cX4_farthest 28 = .ok (.iload_n 3, 1) := by decide +kernel
theorem dX4_farthest_29 : decode cX4_farthest 29 = .ok (.invokevirtual 111, 3) := by decide +kernel
theorem dX4_farthest_32 : decode cX4_farthest 32 = .ok (.iconst (-1), 1) := by decide +kernel
theorem dX4_farthest_33 : decode cX4_farthest 33 = .ok (.if_icmp .ne 27, 3) := by decide +kernel
theorem dX4_farthest_36 : decode cX4_farthest 36 = .ok (.aload_n 0, 1) := by decide +kernel
theorem dX4_farthest_37 : decode cX4_farthest 37 = .ok (.iload_n 3, 1) := by decide +kernel
theorem dX4_farthest_38 : decode cX4_farthest 38 = .ok (.invokevirtual 139, 3) := by decide +kernel
theorem dX4_farthest_41 : decode cX4_farthest 41 = .ok (.fstore 4, 2) := by decide +kernel
theorem dX4_farthest_43 : decode cX4_farthest 43 = .ok (.iload_n 1, 1) := by decide +kernel
theorem dX4_farthest_44 : decode cX4_farthest 44 = .ok (.iconst (-1), 1) := by decide +kernel
theorem dX4_farthest_45 : decode cX4_farthest 45 = .ok (.if_icmp .eq 10, 3) := by decide +kernel
theorem dX4_farthest_48 : decode cX4_farthest 48 = .ok (.fload 4, 2) := by decide +kernel
theorem dX4_farthest_50 : decode cX4_farthest 50 = .ok (.fload_n 2, 1) := by decide +kernel
theorem dX4_farthest_51 : decode cX4_farthest 51 = .ok (.fcmp .l, 1) := by decide +kernel
theorem dX4_farthest_52 : decode cX4_farthest 52 = .ok (.ifCond .le 8, 3) := by decide +kernel
theorem dX4_farthest_55 : decode cX4_farthest 55 = .ok (.iload_n 3, 1) := by decide +kernel
theorem dX4_farthest_56 : decode cX4_farthest 56 = .ok (.istore_n 1, 1) := by decide +kernel
theorem dX4_farthest_57 : decode cX4_farthest 57 = .ok (.fload 4, 2) := by decide +kernel
theorem dX4_farthest_59 : decode cX4_farthest 59 = .ok (.fstore_n 2, 1) := by decide +kernel
theorem dX4_farthest_60 : decode cX4_farthest 60 = .ok (.iinc 3 1, 3) := by decide +kernel
theorem dX4_farthest_63 : decode cX4_farthest 63 = .ok (.goto (-57), 3) := by decide +kernel
theorem dX4_farthest_66 : decode cX4_farthest 66 = .ok (.iload_n 1, 1) := by decide +kernel
theorem dX4_farthest_67 : decode cX4_farthest 67 = .ok (.ireturn, 1) := by decide +kernel
theorem dX4_fillsFor_0 : decode cX4_fillsFor 0 = .ok (.aload_n 0, 1) := by decide +kernel
theorem dX4_fillsFor_1 : decode cX4_fillsFor 1 = .ok (.invokevirtual 142, 3) := by decide +kernel
theorem dX4_fillsFor_4 : decode cX4_fillsFor 4 = .ok (.aload_n 0, 1) := by decide +kernel
theorem dX4_fillsFor_5 : decode cX4_fillsFor 5 = .ok (.getfield 7, 3) := by decide +kernel
theorem dX4_fillsFor_8 : decode cX4_fillsFor 8 = .ok (.bipush 120, 2) := by decide +kernel
theorem dX4_fillsFor_10 : decode cX4_fillsFor 10 = .ok (.iconst 0, 1) := by decide +kernel
theorem dX4_fillsFor_11 : decode cX4_fillsFor 11 = .ok (.iastore, 1) := by decide +kernel
theorem dX4_fillsFor_12 : decode cX4_fillsFor 12 = .ok (.iconst 0, 1) := by decide +kernel
theorem dX4_fillsFor_13 : decode cX4_fillsFor 13 = .ok (.istore_n 2, 1) := by decide +kernel
theorem dX4_fillsFor_14 : decode cX4_fillsFor 14 = .ok (.iload_n 2, 1) := by decide +kernel
theorem dX4_fillsFor_15 : decode cX4_fillsFor 15 = .ok (.aload_n 0, 1) := by decide +kernel
theorem dX4_fillsFor_16 : decode cX4_fillsFor 16 = .ok (.getfield 7, 3) := by decide +kernel
theorem dX4_fillsFor_19 : decode cX4_fillsFor 19 = .ok (.iconst 0, 1) := by decide +kernel
theorem dX4_fillsFor_20 : decode cX4_fillsFor 20 = .ok (.iaload, 1) := by decide +kernel
theorem dX4_fillsFor_21 : decode cX4_fillsFor 21 = .ok (.if_icmp .ge 28, 3) := by decide +kernel
theorem dX4_fillsFor_24 : decode cX4_fillsFor 24 = .ok (.aload_n 0, 1) := by decide +kernel
theorem dX4_fillsFor_25 : decode cX4_fillsFor 25 = .ok (.getfield 7, 3) := by decide +kernel
theorem dX4_fillsFor_28 : decode cX4_fillsFor 28 = .ok (.bipush 61, 2) := by decide +kernel
theorem dX4_fillsFor_30 : decode cX4_fillsFor 30 = .ok (.iaload, 1) := by decide +kernel
theorem dX4_fillsFor_31 : decode cX4_fillsFor 31 = .ok (.iload_n 2, 1) := by decide +kernel
theorem dX4_fillsFor_32 : decode cX4_fillsFor 32 = .ok (.invokestatic 136, 3) := by decide +kernel
theorem dX4_fillsFor_35 : decode cX4_fillsFor 35 = .ok (.ifCond .eq 8, 3) := by decide +kernel
theorem dX4_fillsFor_38 : decode cX4_fillsFor 38 = .ok (.aload_n 0, 1) := by decide +kernel
theorem dX4_fillsFor_39 : decode cX4_fillsFor 39 = .ok (.iload_n 2, 1) := by decide +kernel
theorem dX4_fillsFor_40 : decode cX4_fillsFor 40 = .ok (.invokevirtual 145, 3) := by decide +kernel
theorem dX4_fillsFor_43 : decode cX4_fillsFor 43 = .ok (.iinc 2 1, 3) := by decide +kernel
theorem dX4_fillsFor_46 : decode cX4_fillsFor 46 = .ok (.goto (-32), 3) := by decide +kernel
theorem dX4_fillsFor_49 : decode cX4_fillsFor 49 = .ok (.aload_n 0, 1) := by decide +kernel
theorem dX4_fillsFor_50 : decode cX4_fillsFor 50 = .ok (.getfield 7, 3) := by decide +kernel
theorem dX4_fillsFor_53 : decode cX4_fillsFor 53 = .ok (.bipush 120, 2) := by decide +kernel
theorem dX4_fillsFor_55 : decode cX4_fillsFor 55 = .ok (.iaload, 1) := by decide +kernel
theorem dX4_fillsFor_56 : decode cX4_fillsFor 56 = .ok (.ifCond .ne 10, 3) := by decide +kernel
theorem dX4_fillsFor_59 : decode cX4_fillsFor 59 = .ok (.aload_n 0, 1) := by decide +kernel
theorem dX4_fillsFor_60 : decode cX4_fillsFor 60 = .ok (.invokevirtual 149, 3) := by decide +kernel
theorem dX4_fillsFor_63 : decode cX4_fillsFor 63 = .ok (.goto 4, 3) := by decide +kernel
theorem dX4_fillsFor_66 : decode cX4_fillsFor 66 = .ok (.iconst (-1), 1) := by decide +kernel
theorem dX4_fillsFor_67 : decode cX4_fillsFor 67 = .ok (.istore_n 2, 1) := by decide +kernel
theorem dX4_fillsFor_68 : decode cX4_fillsFor 68 = .ok (.iload_n 2, 1) := by decide +kernel
end
section
theorem dX4_fillsFor_69 : decode cX4_fillsFor 69 = .ok (.iconst (-1), 1) := by decide +kernel
theorem dX4_fillsFor_70 : decode cX4_fillsFor 70 = .ok (.if_icmp .eq 8, 3) := by decide +kernel
theorem dX4_fillsFor_73 : decode cX4_fillsFor 73 = .ok (.aload_n 0, 1) := by decide +kernel
theorem dX4_fillsFor_74 : decode cX4_fillsFor 74 = .ok (.iload_n 2, 1) := by decide +kernel
theorem dX4_fillsFor_75 : decode cX4_fillsFor 75 = .ok (.invokevirtual 145, 3) := by decide +kernel
theorem dX4_fillsFor_78 : decode cX4_fillsFor 78 = .ok (.aload_n 0, 1) := by decide +kernel
theorem dX4_fillsFor_79 : decode cX4_fillsFor 79 = .ok (.getfield 7, 3) := by decide +kernel
theorem dX4_fillsFor_82 : decode cX4_fillsFor 82 = .ok (.bipush 120, 2) := by decide +kernel
theorem dX4_fillsFor_84 : decode cX4_fillsFor 84 = .ok (.iaload, 1) := by decide +kernel
theorem dX4_fillsFor_85 : decode cX4_fillsFor 85 = .ok (.ifCond .le 7, 3) := by decide +kernel
theorem dX4_fillsFor_88 : decode cX4_fillsFor 88 = .ok (.iconst 1, 1) := by decide +kernel
theorem dX4_fillsFor_89 : decode cX4_fillsFor 89 = .ok (.goto 4, 3) := by decide +kernel
theorem dX4_fillsFor_92 : decode cX4_fillsFor 92 = .ok (.iconst 0, 1) := by decide +kernel
theorem dX4_fillsFor_93 : decode cX4_fillsFor 93 = .ok (.istore_n 3, 1) := by decide +kernel
theorem dX4_fillsFor_94 : decode cX4_fillsFor 94 = .ok (.iload_n 3, 1) := by decide +kernel
theorem dX4_fillsFor_95 : decode cX4_fillsFor 95 = .ok (.ifCond .eq 42, 3) := by decide +kernel
theorem dX4_fillsFor_98 : decode cX4_fillsFor 98 = .ok (.aload_n 0, 1) := by decide +kernel
theorem dX4_fillsFor_99 : decode cX4_fillsFor 99 = .ok (.getfield 7, 3) := by decide +kernel
theorem dX4_fillsFor_102 : decode cX4_fillsFor 102 = .ok (.bipush 120, 2) := by decide +kernel
theorem dX4_fillsFor_104 : decode cX4_fillsFor 104 = .ok (.iaload, 1) := by decide +kernel
theorem dX4_fillsFor_105 : decode cX4_fillsFor 105 = .ok (.iload_n 1, 1) := by decide +kernel
theorem dX4_fillsFor_106 : decode cX4_fillsFor 106 = .ok (.if_icmp .ge 31, 3) := by decide +kernel
theorem dX4_fillsFor_109 : decode cX4_fillsFor 109 = .ok (.aload_n 0, 1) := by decide +kernel
theorem dX4_fillsFor_110 : decode cX4_fillsFor 110 = .ok (.invokevirtual 152, 3) := by decide +kernel
theorem dX4_fillsFor_113 : decode cX4_fillsFor 113 = .ok (.istore_n 2, 1) := by decide +kernel
theorem dX4_fillsFor_114 : decode cX4_fillsFor 114 = .ok (.iload_n 2, 1) := by decide +kernel
theorem dX4_fillsFor_115 : decode cX4_fillsFor 115 = .ok (.iconst (-1), 1) := by decide +kernel
theorem dX4_fillsFor_116 : decode cX4_fillsFor 116 = .ok (.if_icmp .eq 7, 3) := by decide +kernel
theorem dX4_fillsFor_119 : decode cX4_fillsFor 119 = .ok (.iconst 1, 1) := by decide +kernel
theorem dX4_fillsFor_120 : decode cX4_fillsFor 120 = .ok (.goto 4, 3) := by decide +kernel
theorem dX4_fillsFor_123 : decode cX4_fillsFor 123 = .ok (.iconst 0, 1) := by decide +kernel
theorem dX4_fillsFor_124 : decode cX4_fillsFor 124 = .ok (.istore_n 3, 1) := by decide +kernel
theorem dX4_fillsFor_125 : decode cX4_fillsFor 125 = .ok (.iload_n 3, 1) := by decide +kernel
theorem dX4_fillsFor_126 : decode cX4_fillsFor 126 = .ok (.ifCond .eq (-32), 3) := by decide +kernel
theorem dX4_fillsFor_129 : decode cX4_fillsFor 129 = .ok (.aload_n 0, 1) := by decide +kernel
theorem dX4_fillsFor_130 : decode cX4_fillsFor 130 = .ok (.iload_n 2, 1) := by decide +kernel
theorem dX4_fillsFor_131 : decode cX4_fillsFor 131 = .ok (.invokevirtual 145, 3) := by decide +kernel
theorem dX4_fillsFor_134 : decode cX4_fillsFor 134 = .ok (.goto (-40), 3) := by decide +kernel
theorem dX4_fillsFor_137 : decode cX4_fillsFor 137 = .ok (.aload_n 0, 1) := by decide +kernel
theorem dX4_fillsFor_138 : decode cX4_fillsFor 138 = .ok (.getfield 7, 3) := by decide +kernel
theorem dX4_fillsFor_141 : decode cX4_fillsFor 141 = .ok (.bipush 120, 2) := by decide +kernel
theorem dX4_fillsFor_143 : decode cX4_fillsFor 143 = .ok (.iaload, 1) := by decide +kernel
theorem dX4_fillsFor_144 : decode cX4_fillsFor 144 = .ok (.ireturn, 1) := by decide +kernel
theorem dX4_canFill_0 : decode cX4_canFill 0 = .ok (.aload_n 0, 1) := by decide +kernel
theorem dX4_canFill_1 : decode cX4_canFill 1 = .ok (.getfield 7, 3) := by decide +kernel
theorem dX4_canFill_4 : decode cX4_canFill 4 = .ok (.bipush 61, 2) := by decide +kernel
theorem dX4_canFill_6 : decode cX4_canFill 6 = .ok (.iaload, 1) := by decide +kernel
theorem dX4_canFill_7 : decode cX4_canFill 7 = .ok (.invokestatic 95, 3) := by decide +kernel
theorem dX4_canFill_10 : decode cX4_canFill 10 = .ok (.iload_n 1, 1) := by decide +kernel
theorem dX4_canFill_11 : decode cX4_canFill 11 = .ok (.if_icmp .gt 7, 3) := by decide +kernel
theorem dX4_canFill_14 : decode cX4_canFill 14 = .ok (.iconst 1, 1) := by decide +kernel
theorem dX4_canFill_15 : decode cX4_canFill 15 = .ok (.goto 4, 3) := by decide +kernel
theorem dX4_canFill_18 : decode cX4_canFill 18 = .ok (.iconst 0, 1) := by decide +kernel
theorem dX4_canFill_19 : decode cX4_canFill 19 = .ok (.ireturn, 1) := by decide +kernel
theorem dX4_fills_0 : decode cX4_fills 0 = .ok (.iload_n 1, 1) := by decide +kernel
theorem dX4_fills_1 : decode cX4_fills 1 = .ok (.iconst 1, 1) := by decide +kernel
theorem dX4_fills_2 : decode cX4_fills 2 = .ok (.bipush 8, 2) := by decide +kernel
theorem dX4_fills_4 : decode cX4_fills 4 = .ok (.invokestatic 49, 3) := by decide +kernel
theorem dX4_fills_7 : decode cX4_fills 7 = .ok (.ifCond .ne 8, 3) := by decide +kernel
theorem dX4_fills_10 : decode cX4_fills 10 = .ok (.aload_n 0, 1) := by decide +kernel
theorem dX4_fills_11 : decode cX4_fills 11 = .ok (.invokevirtual 68, 3) := by decide +kernel
theorem dX4_fills_14 : decode cX4_fills 14 = .ok (.ireturn, 1) := by decide +kernel
theorem dX4_fills_15 : decode cX4_fills 15 = .ok (.aload_n 0, 1) := by decide +kernel
theorem dX4_fills_16 : decode cX4_fills 16 = .ok (.iload_n 1, 1) := by decide +kernel
theorem dX4_fills_17 : decode cX4_fills 17 = .ok (.invokevirtual 155, 3) := by decide +kernel
theorem dX4_fills_20 : decode cX4_fills 20 = .ok (.ifCond .ne 8, 3) := by decide +kernel
theorem dX4_fills_23 : decode cX4_fills 23 = .ok (.aload_n 0, 1) := by decide +kernel
theorem dX4_fills_24 : decode cX4_fills 24 = .ok (.invokevirtual 45, 3) := by decide +kernel
theorem dX4_fills_27 : decode cX4_fills 27 = .ok (.ireturn, 1) := by decide +kernel
theorem dX4_fills_28 : decode cX4_fills 28 = .ok (.aload_n 0, 1) := by decide +kernel
theorem dX4_fills_29 : decode cX4_fills 29 = .ok (.invokevirtual 74, 3) := by decide +kernel
theorem dX4_fills_32 : decode cX4_fills 32 = .ok (.aload_n 0, 1) := by decide +kernel
theorem dX4_fills_33 : decode cX4_fills 33 = .ok (.iload_n 1, 1) := by decide +kernel
theorem dX4_fills_34 : decode cX4_fills 34 = .ok (.invokevirtual 158, 3) := by decide +kernel
theorem dX4_fills_37 : decode cX4_fills 37 = .ok (.ireturn, 1) := by decide +kernel
theorem dX4_isSwapped_0 : decode cX4_isSwapped 0 = .ok (.aload_n 0, 1) := by decide +kernel
theorem dX4_isSwapped_1 : decode cX4_isSwapped 1 = .ok (.invokevirtual 161, 3) := by decide +kernel
theorem dX4_isSwapped_4 : decode cX4_isSwapped 4 = .ok (.aload_n 0, 1) := by decide +kernel
theorem dX4_isSwapped_5 : decode cX4_isSwapped 5 = .ok (.aload_n 0, 1) := by decide +kernel
theorem dX4_isSwapped_6 : decode cX4_isSwapped 6 = .ok (.getfield 7, 3) := by decide +kernel
theorem dX4_isSwapped_9 : decode cX4_isSwapped 9 = .ok (.bipush 120, 2) := by decide +kernel
theorem dX4_isSwapped_11 : decode cX4_isSwapped 11 = .ok (.iaload, 1) := by decide +kernel
theorem dX4_isSwapped_12 : decode cX4_isSwapped 12 = .ok (.invokevirtual 164, 3) := by decide +kernel
theorem dX4_isSwapped_15 : decode cX4_isSwapped 15 = .ok (.fstore_n 1, 1) := by decide +kernel
theorem dX4_isSwapped_16 : decode cX4_isSwapped 16 = .ok (.iconst 0, 1) := by decide +kernel
theorem dX4_isSwapped_17 : decode cX4_isSwapped 17 = .ok (.istore_n 2, 1) := by decide +kernel
theorem dX4_isSwapped_18 : decode cX4_isSwapped 18 = .ok (.iload_n 2, 1) := by decide +kernel
theorem dX4_isSwapped_19 : decode cX4_isSwapped 19 = .ok (.aload_n 0, 1) := by decide +kernel
theorem dX4_isSwapped_20 : decode cX4_isSwapped 20 = .ok (.getfield 7, 3) := by decide +kernel
theorem dX4_isSwapped_23 : decode cX4_isSwapped 23 = .ok (.bipush 120, 2) := by decide +kernel
theorem dX4_isSwapped_25 : decode cX4_isSwapped 25 = .ok (.iaload, 1) := by decide +kernel
theorem dX4_isSwapped_26 : decode cX4_isSwapped 26 = .ok (.if_icmp .ge 128, 3) := by decide +kernel
theorem dX4_isSwapped_29 : decode cX4_isSwapped 29 = .ok (.aload_n 0, 1) := by decide +kernel
theorem dX4_isSwapped_30 : decode cX4_isSwapped 30 = .ok (.getfield 29, 3) := by decide +kernel
theorem dX4_isSwapped_33 : decode cX4_isSwapped 33 = .ok (.iload_n 2, 1) := by decide +kernel
theorem dX4_isSwapped_34 : decode cX4_isSwapped 34 = .ok (.iaload, 1) := by decide +kernel
theorem dX4_isSwapped_35 : decode cX4_isSwapped 35 = .ok (.istore_n 3, 1) := by decide +kernel
theorem dX4_isSwapped_36 : decode cX4_isSwapped 36 = .ok (.iconst 0, 1) := by decide +kernel
theorem dX4_isSwapped_37 : decode cX4_isSwapped 37 = .ok (.istore 4, 2) := by decide +kernel
theorem dX4_isSwapped_39 : decode cX4_isSwapped 39 = .ok (.iload 4, 2) := by decide +kernel
theorem dX4_isSwapped_41 : decode cX4_isSwapped 41 = .ok (.aload_n 0, 1) := by decide +kernel
theorem dX4_isSwapped_42 : decode cX4_isSwapped 42 = .ok (.getfield 7, 3) := by decide +kernel
theorem dX4_isSwapped_45 : decode cX4_isSwapped 45 = .ok (.iconst 0, 1) := by decide +kernel
theorem dX4_isSwapped_46 : decode cX4_isSwapped 46 = .ok (.iaload, 1) := by decide +kernel
theorem dX4_isSwapped_47 : decode cX4_isSwapped 47 = .ok (.if_icmp .ge 94, 3) := by decide +kernel
theorem dX4_isSwapped_50 : decode cX4_isSwapped 50 = .ok (.aload_n 0, 1) := by decide +kernel
theorem dX4_isSwapped_51 : decode cX4_isSwapped 51 = .ok (.getfield 7, 3) := by decide +kernel
theorem dX4_isSwapped_54 : decode cX4_isSwapped 54 = .ok (.bipush 61, 2) := by decide +kernel
theorem dX4_isSwapped_56 : decode cX4_isSwapped 56 = .ok (.iaload, 1) := by decide +kernel
theorem dX4_isSwapped_57 : decode cX4_isSwapped 57 = .ok (.iload_n 3, 1) := by decide +kernel
theorem dX4_isSwapped_58 : decode cX4_isSwapped 58 = .ok (.invokestatic 136, 3) := by decide +kernel
theorem dX4_isSwapped_61 : decode cX4_isSwapped 61 = .ok (.ifCond .ne 80, 3) := by decide +kernel
theorem dX4_isSwapped_64 : decode cX4_isSwapped 64 = .ok (.aload_n 0, 1) := by decide +kernel
theorem dX4_isSwapped_65 : decode cX4_isSwapped 65 = .ok (.getfield 29, 3) := by decide +kernel
theorem dX4_isSwapped_68 : decode cX4_isSwapped 68 = .ok (.iload_n 2, 1) := by decide +kernel
theorem dX4_isSwapped_69 : decode cX4_isSwapped 69 = .ok (.iload 4, 2) := by decide +kernel
theorem dX4_isSwapped_71 : decode cX4_isSwapped 71 = .ok (.iastore, 1) := by decide +kernel
theorem dX4_isSwapped_72 : decode cX4_isSwapped 72 = .ok (.aload_n 0, 1) := by decide +kernel
theorem dX4_isSwapped_73 : decode cX4_isSwapped 73 = .ok (.getfield 133, 3) := by decide +kernel
theorem dX4_isSwapped_76 : decode cX4_isSwapped 76 = .ok (.iload 4, 2) := by decide +kernel
theorem dX4_isSwapped_78 : decode cX4_isSwapped 78 = .ok (.invokestatic 136, 3) := by decide +kernel
theorem dX4_isSwapped_81 : decode cX4_isSwapped 81 = .ok (.ifCond .eq 17, 3) := by decide +kernel
theorem dX4_isSwapped_84 : decode cX4_isSwapped 84 = .ok (.aload_n 0, 1) := by decide +kernel
theorem dX4_isSwapped_85 : decode cX4_isSwapped 85 = .ok (.iload 4, 2) := by decide +kernel
theorem dX4_isSwapped_87 : decode cX4_isSwapped 87 = .ok (.invokevirtual 111, 3) := by decide +kernel
theorem dX4_isSwapped_90 : decode cX4_isSwapped 90 = .ok (.iconst (-1), 1) := by decide +kernel
theorem dX4_isSwapped_91 : decode cX4_isSwapped 91 = .ok (.if_icmp .ne 7, 3) := by decide +kernel
theorem dX4_isSwapped_94 : decode cX4_isSwapped 94 = .ok (.iconst 1, 1) := by decide +kernel
theorem dX4_isSwapped_95 : decode cX4_isSwapped 95 = .ok (.goto 4, 3) := by decide +kernel
theorem dX4_isSwapped_98 : decode cX4_isSwapped 98 = .ok (.iconst 0, 1) := by decide +kernel
theorem dX4_isSwapped_99 : decode cX4_isSwapped 99 = .ok (.istore 5, 2) := by decide +kernel
theorem dX4_isSwapped_101 : decode cX4_isSwapped 101 = .ok (.iload 5, 2) := by decide +kernel
theorem dX4_isSwapped_103 : decode cX4_isSwapped 103 = .ok (.ifCond .eq 32, 3) := by decide +kernel
theorem dX4_isSwapped_106 : decode cX4_isSwapped 106 = .ok (.aload_n 0, 1) := by decide +kernel
theorem dX4_isSwapped_107 : decode cX4_isSwapped 107 = .ok (.aload_n 0, 1) := by decide +kernel
theorem dX4_isSwapped_108 : decode cX4_isSwapped 108 = .ok (.getfield 7, 3) := by decide +kernel
theorem dX4_isSwapped_111 : decode cX4_isSwapped 111 = .ok (.bipush 120, 2) := by decide +kernel
theorem dX4_isSwapped_113 : decode cX4_isSwapped 113 = .ok (.iaload, 1) := by decide +kernel
theorem dX4_isSwapped_114 : decode cX4_isSwapped 114 = .ok (.invokevirtual 164, 3) := by decide +kernel
theorem dX4_isSwapped_117 : decode cX4_isSwapped 117 = .ok (.fload_n 1, 1) := by decide +kernel
theorem dX4_isSwapped_118 : decode cX4_isSwapped 118 = .ok (.fcmp .l, 1) := by decide +kernel
theorem dX4_isSwapped_119 : decode cX4_isSwapped 119 = .ok (.ifCond .le 16, 3) := by decide +kernel
theorem dX4_isSwapped_122 : decode cX4_isSwapped 122 = .ok (.aload_n 0, 1) := by decide +kernel
theorem dX4_isSwapped_123 : decode cX4_isSwapped 123 = .ok (.getfield 7, 3) := by decide +kernel
theorem dX4_isSwapped_126 : decode cX4_isSwapped 126 = .ok (.bipush 121, 2) := by decide +kernel
theorem dX4_isSwapped_128 : decode cX4_isSwapped 128 = .ok (.iload_n 2, 1) := by decide +kernel
theorem dX4_isSwapped_129 : decode cX4_isSwapped 129 = .ok (.iadd, 1) := by decide +kernel
theorem dX4_isSwapped_130 : decode cX4_isSwapped 130 = .ok (.iload 4, 2) := by decide +kernel
theorem dX4_isSwapped_132 : decode cX4_isSwapped 132 = .ok (.iastore, 1) := by decide +kernel
theorem dX4_isSwapped_133 : decode cX4_isSwapped 133 = .ok (.iconst 1, 1) := by decide +kernel
theorem dX4_isSwapped_134 : decode cX4_isSwapped 134 = .ok (.ireturn, 1) := by decide +kernel
theorem dX4_isSwapped_135 : decode cX4_isSwapped 135 = .ok (.iinc 4 1, 3) := by decide +kernel
theorem dX4_isSwapped_138 : decode cX4_isSwapped 138 = .ok (.goto (-99), 3) := by decide +kernel
theorem dX4_isSwapped_141 : decode cX4_isSwapped 141 = .ok (.aload_n 0, 1) := by decide +kernel
theorem dX4_isSwapped_142 : decode cX4_isSwapped 142 = .ok (.getfield 29, 3) := by decide +kernel
theorem dX4_isSwapped_145 : decode cX4_isSwapped 145 = .ok (.iload_n 2, 1) := by decide +kernel
theorem dX4_isSwapped_146 : decode cX4_isSwapped 146 = .ok (.iload_n 3, 1) := by decide +kernel
theorem dX4_isSwapped_147 : decode cX4_isSwapped 147 = .ok (.iastore, 1) := by decide +kernel
theorem dX4_isSwapped_148 : decode cX4_isSwapped 148 = .ok (.iinc 2 1, 3) := by decide +kernel
theorem dX4_isSwapped_151 : decode cX4_isSwapped 151 = .ok (.goto (-133), 3) := by decide +kernel
theorem dX4_isSwapped_154 : decode cX4_isSwapped 154 = .ok (.iconst 0, 1) := by decide +kernel
theorem dX4_isSwapped_155 : decode cX4_isSwapped 155 = .ok (.ireturn, 1) := by decide +kernel
theorem dX4_swapsAll_0 : decode cX4_swapsAll 0 = .ok (.aload_n 0, 1) := by decide +kernel
theorem dX4_swapsAll_1 : decode cX4_swapsAll 1 = .ok (.invokevirtual 142, 3) := by decide +kernel
theorem dX4_swapsAll_4 : decode cX4_swapsAll 4 = .ok (.iconst 0, 1) := by decide +kernel
theorem dX4_swapsAll_5 : decode cX4_swapsAll 5 = .ok (.istore_n 1, 1) := by decide +kernel
theorem dX4_swapsAll_6 : decode cX4_swapsAll 6 = .ok (.iload_n 1, 1) := by decide +kernel
theorem dX4_swapsAll_7 : decode cX4_swapsAll 7 = .ok (.bipush 60, 2) := by decide +kernel
theorem dX4_swapsAll_9 : decode cX4_swapsAll 9 = .ok (.if_icmp .ge 16, 3) := by decide +kernel
theorem dX4_swapsAll_12 : decode cX4_swapsAll 12 = .ok (.aload_n 0, 1) := by decide +kernel
theorem dX4_swapsAll_13 : decode cX4_swapsAll 13 = .ok (.invokevirtual 167, 3) := by decide +kernel
theorem dX4_swapsAll_16 : decode cX4_swapsAll 16 = .ok (.ifCond .eq 9, 3) := by decide +kernel
theorem dX4_swapsAll_19 : decode cX4_swapsAll 19 = .ok (.iinc 1 1, 3) := by decide +kernel
theorem dX4_swapsAll_22 : decode cX4_swapsAll 22 = .ok (.goto (-16), 3) := by decide +kernel
theorem dX4_swapsAll_25 : decode cX4_swapsAll 25 = .ok (.iload_n 1, 1) := by decide +kernel
theorem dX4_swapsAll_26 : decode cX4_swapsAll 26 = .ok (.ireturn, 1) := by decide +kernel
theorem dX4_swaps_0 : decode cX4_swaps 0 = .ok (.aload_n 0, 1) := by decide +kernel
theorem dX4_swaps_1 : decode cX4_swaps 1 = .ok (.invokevirtual 74, 3) := by decide +kernel
theorem dX4_swaps_4 : decode cX4_swaps 4 = .ok (.aload_n 0, 1) := by decide +kernel
theorem dX4_swaps_5 : decode cX4_swaps 5 = .ok (.invokevirtual 171, 3) := by decide +kernel
theorem dX4_swaps_8 : decode cX4_swaps 8 = .ok (.ireturn, 1) := by decide +kernel
theorem dX4_palette_0 : decode cX4_palette 0 = .ok (.iload_n 1, 1) := by decide +kernel
theorem dX4_palette_1 : decode cX4_palette 1 = .ok (.ifCond .ge 8, 3) := by decide +kernel
theorem dX4_palette_4 : decode cX4_palette 4 = .ok (.aload_n 0, 1) := by decide +kernel
theorem dX4_palette_5 : decode cX4_palette 5 = .ok (.invokevirtual 68, 3) := by decide +kernel
theorem dX4_palette_8 : decode cX4_palette 8 = .ok (.ireturn, 1) := by decide +kernel
theorem dX4_palette_9 : decode cX4_palette 9 = .ok (.iload_n 1, 1) := by decide +kernel
theorem dX4_palette_10 : decode cX4_palette 10 = .ok (.aload_n 0, 1) := by decide +kernel
theorem dX4_palette_11 : decode cX4_palette 11 = .ok (.getfield 7, 3) := by decide +kernel
theorem dX4_palette_14 : decode cX4_palette 14 = .ok (.bipush 120, 2) := by decide +kernel
theorem dX4_palette_16 : decode cX4_palette 16 = .ok (.iaload, 1) := by decide +kernel
theorem dX4_palette_17 : decode cX4_palette 17 = .ok (.if_icmp .ge 15, 3) := by decide +kernel
theorem dX4_palette_20 : decode cX4_palette 20 = .ok (.aload_n 0, 1) := by decide +kernel
theorem dX4_palette_21 : decode cX4_palette 21 = .ok (.getfield 7, 3) := by decide +kernel
theorem dX4_palette_24 : decode cX4_palette 24 = .ok (.bipush 121, 2) := by decide +kernel
theorem dX4_palette_26 : decode cX4_palette 26 = .ok (.iload_n 1, 1) := by decide +kernel
theorem dX4_palette_27 : decode cX4_palette 27 = .ok (.iadd, 1) := by decide +kernel
theorem dX4_palette_28 : decode cX4_palette 28 = .ok (.iaload, 1) := by decide +kernel
theorem dX4_palette_29 : decode cX4_palette 29 = .ok (.goto 4, 3) := by decide +kernel
theorem dX4_palette_32 : decode cX4_palette 32 = .ok (.iconst (-1), 1) := by decide +kernel
theorem dX4_palette_33 : decode cX4_palette 33 = .ok (.ireturn, 1) := by decide +kernel
theorem dX4_leastNow_0 : decode cX4_leastNow 0 = .ok (.aload_n 0, 1) := by decide +kernel
theorem dX4_leastNow_1 : decode cX4_leastNow 1 = .ok (.invokevirtual 142, 3) := by decide +kernel
theorem dX4_leastNow_4 : decode cX4_leastNow 4 = .ok (.aload_n 0, 1) := by decide +kernel
theorem dX4_leastNow_5 : decode cX4_leastNow 5 = .ok (.invokevirtual 161, 3) := by decide +kernel
theorem dX4_leastNow_8 : decode cX4_leastNow 8 = .ok (.aload_n 0, 1) := by decide +kernel
theorem dX4_leastNow_9 : decode cX4_leastNow 9 = .ok (.aload_n 0, 1) := by decide +kernel
theorem dX4_leastNow_10 : decode cX4_leastNow 10 = .ok (.getfield 7, 3) := by decide +kernel
theorem dX4_leastNow_13 : decode cX4_leastNow 13 = .ok (.bipush 120, 2) := by decide +kernel
theorem dX4_leastNow_15 : decode cX4_leastNow 15 = .ok (.iaload, 1) := by decide +kernel
theorem dX4_leastNow_16 : decode cX4_leastNow 16 = .ok (.invokevirtual 164, 3) := by decide +kernel
theorem dX4_leastNow_19 : decode cX4_leastNow 19 = .ok (.invokestatic 117, 3) := by decide +kernel
theorem dX4_leastNow_22 : decode cX4_leastNow 22 = .ok (.ireturn, 1) := by decide +kernel
theorem dX4_least_0 : decode cX4_least 0 = .ok (.aload_n 0, 1) := by decide +kernel
theorem dX4_least_1 : decode cX4_least 1 = .ok (.invokevirtual 174, 3) := by decide +kernel
theorem dX4_least_4 : decode cX4_least 4 = .ok (.ireturn, 1) := by decide +kernel
theorem dX4_nearestNow_0 : decode cX4_nearestNow 0 = .ok (.aload_n 0, 1) := by decide +kernel
theorem dX4_nearestNow_1 : decode cX4_nearestNow 1 = .ok (.invokevirtual 142, 3) := by decide +kernel
theorem dX4_nearestNow_4 : decode cX4_nearestNow 4 = .ok (.iconst (-1), 1) := by decide +kernel
theorem dX4_nearestNow_5 : decode cX4_nearestNow 5 = .ok (.istore_n 1, 1) := by decide +kernel
theorem dX4_nearestNow_6 : decode cX4_nearestNow 6 = .ok (.fconst 0, 1) := by decide +kernel
theorem dX4_nearestNow_7 : decode cX4_nearestNow 7 = .ok (.fstore_n 2, 1) := by decide +kernel
theorem dX4_nearestNow_8 : decode cX4_nearestNow 8 = .ok (.iconst 0, 1) := by decide +kernel
theorem dX4_nearestNow_9 : decode cX4_nearestNow 9 = .ok (.istore_n 3, 1) := by decide +kernel
theorem dX4_nearestNow_10 : decode cX4_nearestNow 10 = .ok (.iload_n 3, 1) := by decide +kernel
theorem dX4_nearestNow_11 : decode cX4_nearestNow 11 = .ok (.aload_n 0, 1) := by decide +kernel
theorem dX4_nearestNow_12 : decode cX4_nearestNow 12 = .ok (.getfield 7, 3) := by decide +kernel
theorem dX4_nearestNow_15 : decode cX4_nearestNow 15 = .ok (.bipush 120, 2) := by decide +kernel
theorem dX4_nearestNow_17 : decode cX4_nearestNow 17 = .ok (.iaload, 1) := by decide +kernel
theorem dX4_nearestNow_18 : decode cX4_nearestNow 18 = .ok (.if_icmp .ge 85, 3) := by decide +kernel
theorem dX4_nearestNow_21 : decode cX4_nearestNow 21 = .ok (.iload_n 3, 1) := by decide +kernel
theorem dX4_nearestNow_22 : decode cX4_nearestNow 22 = .ok (.iconst 1, 1) := by decide +kernel
theorem dX4_nearestNow_23 : decode cX4_nearestNow 23 = .ok (.iadd, 1) := by decide +kernel
theorem dX4_nearestNow_24 : decode cX4_nearestNow 24 = .ok (.istore 4, 2) := by decide +kernel
theorem dX4_nearestNow_26 : decode cX4_nearestNow 26 = .ok (.iload 4, 2) := by decide +kernel
theorem dX4_nearestNow_28 : decode cX4_nearestNow 28 = .ok (.aload_n 0, 1) := by decide +kernel
theorem dX4_nearestNow_29 : decode cX4_nearestNow 29 = .ok (.getfield 7, 3) := by decide +kernel
theorem dX4_nearestNow_32 : decode cX4_nearestNow 32 = .ok (.bipush 120, 2) := by decide +kernel
theorem dX4_nearestNow_34 : decode cX4_nearestNow 34 = .ok (.iaload, 1) := by decide +kernel
theorem dX4_nearestNow_35 : decode cX4_nearestNow 35 = .ok (.if_icmp .ge 62, 3) := by decide +kernel
theorem dX4_nearestNow_38 : decode cX4_nearestNow 38 = .ok (.aload_n 0, 1) := by decide +kernel
theorem dX4_nearestNow_39 : decode cX4_nearestNow 39 = .ok (.getfield 25, 3) := by decide +kernel
theorem dX4_nearestNow_42 : decode cX4_nearestNow 42 = .ok (.bipush 20, 2) := by decide +kernel
theorem dX4_nearestNow_44 : decode cX4_nearestNow 44 = .ok (.aload_n 0, 1) := by decide +kernel
theorem dX4_nearestNow_45 : decode cX4_nearestNow 45 = .ok (.getfield 7, 3) := by decide +kernel
theorem dX4_nearestNow_48 : decode cX4_nearestNow 48 = .ok (.bipush 121, 2) := by decide +kernel
theorem dX4_nearestNow_50 : decode cX4_nearestNow 50 = .ok (.iload_n 3, 1) := by decide +kernel
theorem dX4_nearestNow_51 : decode cX4_nearestNow 51 = .ok (.iadd, 1) := by decide +kernel
theorem dX4_nearestNow_52 : decode cX4_nearestNow 52 = .ok (.iaload, 1) := by decide +kernel
theorem dX4_nearestNow_53 : decode cX4_nearestNow 53 = .ok (.imul, 1) := by decide +kernel
theorem dX4_nearestNow_54 : decode cX4_nearestNow 54 = .ok (.aload_n 0, 1) := by decide +kernel
theorem dX4_nearestNow_55 : decode cX4_nearestNow 55 = .ok (.getfield 7, 3) := by decide +kernel
theorem dX4_nearestNow_58 : decode cX4_nearestNow 58 = .ok (.bipush 121, 2) := by decide +kernel
theorem dX4_nearestNow_60 : decode cX4_nearestNow 60 = .ok (.iload 4, 2) := by decide +kernel
theorem dX4_nearestNow_62 : decode cX4_nearestNow 62 = .ok (.iadd, 1) := by decide +kernel
theorem dX4_nearestNow_63 : decode cX4_nearestNow 63 = .ok (.iaload, 1) := by decide +kernel
theorem dX4_nearestNow_64 : decode cX4_nearestNow 64 = .ok (.iadd, 1) := by decide +kernel
theorem dX4_nearestNow_65 : decode cX4_nearestNow 65 = .ok (.faload, 1) := by decide +kernel
theorem dX4_nearestNow_66 : decode cX4_nearestNow 66 = .ok (.fstore 5, 2) := by decide +kernel
theorem dX4_nearestNow_68 : decode cX4_nearestNow 68 = .ok (.iload_n 1, 1) := by decide +kernel
theorem dX4_nearestNow_69 : decode cX4_nearestNow 69 = .ok (.iconst (-1), 1) := by decide +kernel
theorem dX4_nearestNow_70 : decode cX4_nearestNow 70 = .ok (.if_icmp .eq 10, 3) := by decide +kernel
theorem dX4_nearestNow_73 : decode cX4_nearestNow 73 = .ok (.fload 5, 2) := by decide +kernel
theorem dX4_nearestNow_75 : decode cX4_nearestNow 75 = .ok (.fload_n 2, 1) := by decide +kernel
theorem dX4_nearestNow_76 : decode cX4_nearestNow 76 = .ok (.fcmp .g, 1) := by decide +kernel
theorem dX4_nearestNow_77 : decode cX4_nearestNow 77 = .ok (.ifCond .ge 14, 3) := by decide +kernel
theorem dX4_nearestNow_80 : decode cX4_nearestNow 80 = .ok (.bipush 10, 2) := by decide +kernel
theorem dX4_nearestNow_82 : decode cX4_nearestNow 82 = .ok (.iload_n 3, 1) := by decide +kernel
theorem dX4_nearestNow_83 : decode cX4_nearestNow 83 = .ok (.imul, 1) := by decide +kernel
theorem dX4_nearestNow_84 : decode cX4_nearestNow 84 = .ok (.iload 4, 2) := by decide +kernel
theorem dX4_nearestNow_86 : decode cX4_nearestNow 86 = .ok (.iadd, 1) := by decide +kernel
theorem dX4_nearestNow_87 : decode cX4_nearestNow 87 = .ok (.istore_n 1, 1) := by decide +kernel
theorem dX4_nearestNow_88 : decode cX4_nearestNow 88 = .ok (.fload 5, 2) := by decide +kernel
theorem dX4_nearestNow_90 : decode cX4_nearestNow 90 = .ok (.fstore_n 2, 1) := by decide +kernel
theorem dX4_nearestNow_91 : decode cX4_nearestNow 91 = .ok (.iinc 4 1, 3) := by decide +kernel
theorem dX4_nearestNow_94 : decode cX4_nearestNow 94 = .ok (.goto (-68), 3) := by decide +kernel
theorem dX4_nearestNow_97 : decode cX4_nearestNow 97 = .ok (.iinc 3 1, 3) := by decide +kernel
theorem dX4_nearestNow_100 : decode cX4_nearestNow 100 = .ok (.goto (-90), 3) := by decide +kernel
theorem dX4_nearestNow_103 : decode cX4_nearestNow 103 = .ok (.iload_n 1, 1) := by decide +kernel
theorem dX4_nearestNow_104 : decode cX4_nearestNow 104 = .ok (.ireturn, 1) := by decide +kernel
theorem dX4_nearest_0 : decode cX4_nearest 0 = .ok (.aload_n 0, 1) := by decide +kernel
theorem dX4_nearest_1 : decode cX4_nearest 1 = .ok (.invokevirtual 177, 3) := by decide +kernel
theorem dX4_nearest_4 : decode cX4_nearest 4 = .ok (.ireturn, 1) := by decide +kernel
theorem dX4_isNext_0 : decode cX4_isNext 0 = .ok (.iload_n 1, 1) := by decide +kernel
theorem dX4_isNext_1 : decode cX4_isNext 1 = .ok (.iconst 1, 1) := by decide +kernel
theorem dX4_isNext_2 : decode cX4_isNext 2 = .ok (.isub, 1) := by decide +kernel
theorem dX4_isNext_3 : decode cX4_isNext 3 = .ok (.istore_n 2, 1) := by decide +kernel
theorem dX4_isNext_4 : decode cX4_isNext 4 = .ok (.iload_n 2, 1) := by decide +kernel
theorem dX4_isNext_5 : decode cX4_isNext 5 = .ok (.ifCond .lt 28, 3) := by decide +kernel
theorem dX4_isNext_8 : decode cX4_isNext 8 = .ok (.aload_n 0, 1) := by decide +kernel
theorem dX4_isNext_9 : decode cX4_isNext 9 = .ok (.getfield 29, 3) := by decide +kernel
theorem dX4_isNext_12 : decode cX4_isNext 12 = .ok (.iload_n 2, 1) := by decide +kernel
theorem dX4_isNext_13 : decode cX4_isNext 13 = .ok (.iaload, 1) := by decide +kernel
theorem dX4_isNext_14 : decode cX4_isNext 14 = .ok (.aload_n 0, 1) := by decide +kernel
theorem dX4_isNext_15 : decode cX4_isNext 15 = .ok (.getfield 7, 3) := by decide +kernel
theorem dX4_isNext_18 : decode cX4_isNext 18 = .ok (.iconst 0, 1) := by decide +kernel
theorem dX4_isNext_19 : decode cX4_isNext 19 = .ok (.iaload, 1) := by decide +kernel
theorem dX4_isNext_20 : decode cX4_isNext 20 = .ok (.iload_n 1, 1) := by decide +kernel
theorem dX4_isNext_21 : decode cX4_isNext 21 = .ok (.isub, 1) := by decide +kernel
theorem dX4_isNext_22 : decode cX4_isNext 22 = .ok (.iload_n 2, 1) := by decide +kernel
theorem dX4_isNext_23 : decode cX4_isNext 23 = .ok (.iadd, 1) := by decide +kernel
theorem dX4_isNext_24 : decode cX4_isNext 24 = .ok (.if_icmp .ne 9, 3) := by decide +kernel
theorem dX4_isNext_27 : decode cX4_isNext 27 = .ok (.iinc 2 (-1), 3) := by decide +kernel
theorem dX4_isNext_30 : decode cX4_isNext 30 = .ok (.goto (-26), 3) := by decide +kernel
theorem dX4_isNext_33 : decode cX4_isNext 33 = .ok (.iload_n 2, 1) := by decide +kernel
theorem dX4_isNext_34 : decode cX4_isNext 34 = .ok (.ifCond .ge 5, 3) := by decide +kernel
theorem dX4_isNext_37 : decode cX4_isNext 37 = .ok (.iconst 0, 1) := by decide +kernel
theorem dX4_isNext_38 : decode cX4_isNext 38 = .ok (.ireturn, 1) := by decide +kernel
theorem dX4_isNext_39 : decode cX4_isNext 39 = .ok (.aload_n 0, 1) := by decide +kernel
theorem dX4_isNext_40 : decode cX4_isNext 40 = .ok (.getfield 29, 3) := by decide +kernel
theorem dX4_isNext_43 : decode cX4_isNext 43 = .ok (.iload_n 2, 1) := by decide +kernel
theorem dX4_isNext_44 : decode cX4_isNext 44 = .ok (.dup2, 1) := by decide +kernel
theorem dX4_isNext_45 : decode cX4_isNext 45 = .ok (.iaload, 1) := by decide +kernel
theorem dX4_isNext_46 : decode cX4_isNext 46 = .ok (.iconst 1, 1) := by decide +kernel
theorem dX4_isNext_47 : decode cX4_isNext 47 = .ok (.iadd, 1) := by decide +kernel
theorem dX4_isNext_48 : decode cX4_isNext 48 = .ok (.iastore, 1) := by decide +kernel
theorem dX4_isNext_49 : decode cX4_isNext 49 = .ok (.iload_n 2, 1) := by decide +kernel
theorem dX4_isNext_50 : decode cX4_isNext 50 = .ok (.iconst 1, 1) := by decide +kernel
theorem dX4_isNext_51 : decode cX4_isNext 51 = .ok (.iadd, 1) := by decide +kernel
theorem dX4_isNext_52 : decode cX4_isNext 52 = .ok (.istore_n 3, 1) := by decide +kernel
theorem dX4_isNext_53 : decode cX4_isNext 53 = .ok (.iload_n 3, 1) := by decide +kernel
theorem dX4_isNext_54 : decode cX4_isNext 54 = .ok (.iload_n 1, 1) := by decide +kernel
theorem dX4_isNext_55 : decode cX4_isNext 55 = .ok (.if_icmp .ge 25, 3) := by decide +kernel
theorem dX4_isNext_58 : decode cX4_isNext 58 = .ok (.aload_n 0, 1) := by decide +kernel
theorem dX4_isNext_59 : decode cX4_isNext 59 = .ok (.getfield 29, 3) := by decide +kernel
theorem dX4_isNext_62 : decode cX4_isNext 62 = .ok (.iload_n 3, 1) := by decide +kernel
theorem dX4_isNext_63 : decode cX4_isNext 63 = .ok (.aload_n 0, 1) := by decide +kernel
theorem dX4_isNext_64 : decode cX4_isNext 64 = .ok (.getfield 29, 3) := by decide +kernel
theorem dX4_isNext_67 : decode cX4_isNext 67 = .ok (.iload_n 3, 1) := by decide +kernel
theorem dX4_isNext_68 : decode cX4_isNext 68 = .ok (.iconst 1, 1) := by decide +kernel
theorem dX4_isNext_69 : decode cX4_isNext 69 = .ok (.isub, 1) := by decide +kernel
theorem dX4_isNext_70 : decode cX4_isNext 70 = .ok (.iaload, 1) := by decide +kernel
theorem dX4_isNext_71 : decode cX4_isNext 71 = .ok (.iconst 1, 1) := by decide +kernel
theorem dX4_isNext_72 : decode cX4_isNext 72 = .ok (.iadd, 1) := by decide +kernel
theorem dX4_isNext_73 : decode cX4_isNext 73 = .ok (.iastore, 1) := by decide +kernel
theorem dX4_isNext_74 : decode cX4_isNext 74 = .ok (.iinc 3 1, 3) := by decide +kernel
theorem dX4_isNext_77 : decode cX4_isNext 77 = .ok (.goto (-24), 3) := by decide +kernel
theorem dX4_isNext_80 : decode cX4_isNext 80 = .ok (.iconst 1, 1) := by decide +kernel
theorem dX4_isNext_81 : decode cX4_isNext 81 = .ok (.ireturn, 1) := by decide +kernel
theorem dX4_setOf_0 : decode cX4_setOf 0 = .ok (.iconst 0, 1) := by decide +kernel
theorem dX4_setOf_1 : decode cX4_setOf 1 = .ok (.istore_n 2, 1) := by decide +kernel
theorem dX4_setOf_2 : decode cX4_setOf 2 = .ok (.iconst 0, 1) := by decide +kernel
theorem dX4_setOf_3 : decode cX4_setOf 3 = .ok (.istore_n 3, 1) := by decide +kernel
theorem dX4_setOf_4 : decode cX4_setOf 4 = .ok (.iload_n 3, 1) := by decide +kernel
theorem dX4_setOf_5 : decode cX4_setOf 5 = .ok (.iload_n 1, 1) := by decide +kernel
theorem dX4_setOf_6 : decode cX4_setOf 6 = .ok (.if_icmp .ge 20, 3) := by decide +kernel
theorem dX4_setOf_9 : decode cX4_setOf 9 = .ok (.iload_n 2, 1) := by decide +kernel
theorem dX4_setOf_10 : decode cX4_setOf 10 = .ok (.iconst 1, 1) := by decide +kernel
theorem dX4_setOf_11 : decode cX4_setOf 11 = .ok (.aload_n 0, 1) := by decide +kernel
theorem dX4_setOf_12 : decode cX4_setOf 12 = .ok (.getfield 29, 3) := by decide +kernel
theorem dX4_setOf_15 : decode cX4_setOf 15 = .ok (.iload_n 3, 1) := by decide +kernel
theorem dX4_setOf_16 : decode cX4_setOf 16 = .ok (.iaload, 1) := by decide +kernel
theorem dX4_setOf_17 : decode cX4_setOf 17 = .ok (.ishl, 1) := by decide +kernel
theorem dX4_setOf_18 : decode cX4_setOf 18 = .ok (.ior, 1) := by decide +kernel
theorem dX4_setOf_19 : decode cX4_setOf 19 = .ok (.istore_n 2, 1) := by decide +kernel
theorem dX4_setOf_20 : decode cX4_setOf 20 = .ok (.iinc 3 1, 3) := by decide +kernel
theorem dX4_setOf_23 : decode cX4_setOf 23 = .ok (.goto (-19), 3) := by decide +kernel
theorem dX4_setOf_26 : decode cX4_setOf 26 = .ok (.iload_n 2, 1) := by decide +kernel
theorem dX4_setOf_27 : decode cX4_setOf 27 = .ok (.ireturn, 1) := by decide +kernel
theorem dX4_bestOf_0 : decode cX4_bestOf 0 = .ok (.aload_n 0, 1) := by decide +kernel
theorem dX4_bestOf_1 : decode cX4_bestOf 1 = .ok (.invokevirtual 142, 3) := by decide +kernel
theorem dX4_bestOf_4 : decode cX4_bestOf 4 = .ok (.iconst (-1), 1) := by decide +kernel
theorem dX4_bestOf_5 : decode cX4_bestOf 5 = .ok (.istore_n 2, 1) := by decide +kernel
theorem dX4_bestOf_6 : decode cX4_bestOf 6 = .ok (.fconst 0, 1) := by decide +kernel
theorem dX4_bestOf_7 : decode cX4_bestOf 7 = .ok (.fstore_n 3, 1) := by decide +kernel
theorem dX4_bestOf_8 : decode cX4_bestOf 8 = .ok (.iconst 0, 1) := by decide +kernel
theorem dX4_bestOf_9 : decode cX4_bestOf 9 = .ok (.istore 4, 2) := by decide +kernel
theorem dX4_bestOf_11 : decode cX4_bestOf 11 = .ok (.iload 4, 2) := by decide +kernel
theorem dX4_bestOf_13 : decode cX4_bestOf 13 = .ok (.iload_n 1, 1) := by decide +kernel
theorem dX4_bestOf_14 : decode cX4_bestOf 14 = .ok (.if_icmp .ge 18, 3) := by decide +kernel
theorem dX4_bestOf_17 : decode cX4_bestOf 17 = .ok (.aload_n 0, 1) := by decide +kernel
theorem dX4_bestOf_18 : decode cX4_bestOf 18 = .ok (.getfield 29, 3) := by decide +kernel
theorem dX4_bestOf_21 : decode cX4_bestOf 21 = .ok (.iload 4, 2) := by decide +kernel
theorem dX4_bestOf_23 : decode cX4_bestOf 23 = .ok (.iload 4, 2) := by decide +kernel
theorem dX4_bestOf_25 : decode cX4_bestOf 25 = .ok (.iastore, 1) := by decide +kernel
theorem dX4_bestOf_26 : decode cX4_bestOf 26 = .ok (.iinc 4 1, 3) := by decide +kernel
theorem dX4_bestOf_29 : decode cX4_bestOf 29 = .ok (.goto (-18), 3) := by decide +kernel
theorem dX4_bestOf_32 : decode cX4_bestOf 32 = .ok (.aload_n 0, 1) := by decide +kernel
theorem dX4_bestOf_33 : decode cX4_bestOf 33 = .ok (.getfield 7, 3) := by decide +kernel
theorem dX4_bestOf_36 : decode cX4_bestOf 36 = .ok (.iconst 0, 1) := by decide +kernel
theorem dX4_bestOf_37 : decode cX4_bestOf 37 = .ok (.iaload, 1) := by decide +kernel
theorem dX4_bestOf_38 : decode cX4_bestOf 38 = .ok (.iload_n 1, 1) := by decide +kernel
theorem dX4_bestOf_39 : decode cX4_bestOf 39 = .ok (.if_icmp .lt 7, 3) := by decide +kernel
theorem dX4_bestOf_42 : decode cX4_bestOf 42 = .ok (.iconst 1, 1) := by decide +kernel
theorem dX4_bestOf_43 : decode cX4_bestOf 43 = .ok (.goto 4, 3) := by decide +kernel
theorem dX4_bestOf_46 : decode cX4_bestOf 46 = .ok (.iconst 0, 1) := by decide +kernel
theorem dX4_bestOf_47 : decode cX4_bestOf 47 = .ok (.istore 4, 2) := by decide +kernel
theorem dX4_bestOf_49 : decode cX4_bestOf 49 = .ok (.iload 4, 2) := by decide +kernel
theorem dX4_bestOf_51 : decode cX4_bestOf 51 = .ok (.ifCond .eq 105, 3) := by decide +kernel
theorem dX4_bestOf_54 : decode cX4_bestOf 54 = .ok (.aload_n 0, 1) := by decide +kernel
theorem dX4_bestOf_55 : decode cX4_bestOf 55 = .ok (.iload_n 1, 1) := by decide +kernel
theorem dX4_bestOf_56 : decode cX4_bestOf 56 = .ok (.invokevirtual 180, 3) := by decide +kernel
theorem dX4_bestOf_59 : decode cX4_bestOf 59 = .ok (.istore 5, 2) := by decide +kernel
theorem dX4_bestOf_61 : decode cX4_bestOf 61 = .ok (.aload_n 0, 1) := by decide +kernel
theorem dX4_bestOf_62 : decode cX4_bestOf 62 = .ok (.getfield 7, 3) := by decide +kernel
theorem dX4_bestOf_65 : decode cX4_bestOf 65 = .ok (.bipush 61, 2) := by decide +kernel
theorem dX4_bestOf_67 : decode cX4_bestOf 67 = .ok (.iaload, 1) := by decide +kernel
theorem dX4_bestOf_68 : decode cX4_bestOf 68 = .ok (.iload 5, 2) := by decide +kernel
theorem dX4_bestOf_70 : decode cX4_bestOf 70 = .ok (.iconst (-1), 1) := by decide +kernel
theorem dX4_bestOf_71 : decode cX4_bestOf 71 = .ok (.ixor, 1) := by decide +kernel
theorem dX4_bestOf_72 : decode cX4_bestOf 72 = .ok (.iand, 1) := by decide +kernel
theorem dX4_bestOf_73 : decode cX4_bestOf 73 = .ok (.ifCond .ne 27, 3) := by decide +kernel
theorem dX4_bestOf_76 : decode cX4_bestOf 76 = .ok (.iload 5, 2) := by decide +kernel
theorem dX4_bestOf_78 : decode cX4_bestOf 78 = .ok (.aload_n 0, 1) := by decide +kernel
theorem dX4_bestOf_79 : decode cX4_bestOf 79 = .ok (.getfield 7, 3) := by decide +kernel
theorem dX4_bestOf_82 : decode cX4_bestOf 82 = .ok (.bipush 61, 2) := by decide +kernel
theorem dX4_bestOf_84 : decode cX4_bestOf 84 = .ok (.iaload, 1) := by decide +kernel
theorem dX4_bestOf_85 : decode cX4_bestOf 85 = .ok (.aload_n 0, 1) := by decide +kernel
theorem dX4_bestOf_86 : decode cX4_bestOf 86 = .ok (.getfield 133, 3) := by decide +kernel
theorem dX4_bestOf_89 : decode cX4_bestOf 89 = .ok (.ior, 1) := by decide +kernel
theorem dX4_bestOf_90 : decode cX4_bestOf 90 = .ok (.iconst (-1), 1) := by decide +kernel
theorem dX4_bestOf_91 : decode cX4_bestOf 91 = .ok (.ixor, 1) := by decide +kernel
theorem dX4_bestOf_92 : decode cX4_bestOf 92 = .ok (.iand, 1) := by decide +kernel
theorem dX4_bestOf_93 : decode cX4_bestOf 93 = .ok (.ifCond .ne 7, 3) := by decide +kernel
theorem dX4_bestOf_96 : decode cX4_bestOf 96 = .ok (.iconst 1, 1) := by decide +kernel
theorem dX4_bestOf_97 : decode cX4_bestOf 97 = .ok (.goto 4, 3) := by decide +kernel
theorem dX4_bestOf_100 : decode cX4_bestOf 100 = .ok (.iconst 0, 1) := by decide +kernel
theorem dX4_bestOf_101 : decode cX4_bestOf 101 = .ok (.istore 6, 2) := by decide +kernel
theorem dX4_bestOf_103 : decode cX4_bestOf 103 = .ok (.aload_n 0, 1) := by decide +kernel
theorem dX4_bestOf_104 : decode cX4_bestOf 104 = .ok (.iload_n 1, 1) := by decide +kernel
theorem dX4_bestOf_105 : decode cX4_bestOf 105 = .ok (.invokevirtual 164, 3) := by decide +kernel
theorem dX4_bestOf_108 : decode cX4_bestOf 108 = .ok (.fstore 7, 2) := by decide +kernel
theorem dX4_bestOf_110 : decode cX4_bestOf 110 = .ok (.iload 6, 2) := by decide +kernel
theorem dX4_bestOf_112 : decode cX4_bestOf 112 = .ok (.ifCond .eq 34, 3) := by decide +kernel
theorem dX4_bestOf_115 : decode cX4_bestOf 115 = .ok (.iload_n 2, 1) := by decide +kernel
theorem dX4_bestOf_116 : decode cX4_bestOf 116 = .ok (.iconst (-1), 1) := by decide +kernel
theorem dX4_bestOf_117 : decode cX4_bestOf 117 = .ok (.if_icmp .eq 23, 3) := by decide +kernel
theorem dX4_bestOf_120 : decode cX4_bestOf 120 = .ok (.fload 7, 2) := by decide +kernel
theorem dX4_bestOf_122 : decode cX4_bestOf 122 = .ok (.fload_n 3, 1) := by decide +kernel
theorem dX4_bestOf_123 : decode cX4_bestOf 123 = .ok (.fcmp .l, 1) := by decide +kernel
theorem dX4_bestOf_124 : decode cX4_bestOf 124 = .ok (.ifCond .gt 16, 3) := by decide +kernel
theorem dX4_bestOf_127 : decode cX4_bestOf 127 = .ok (.fload 7, 2) := by decide +kernel
theorem dX4_bestOf_129 : decode cX4_bestOf 129 = .ok (.fload_n 3, 1) := by decide +kernel
theorem dX4_bestOf_130 : decode cX4_bestOf 130 = .ok (.fcmp .l, 1) := by decide +kernel
theorem dX4_bestOf_131 : decode cX4_bestOf 131 = .ok (.ifCond .ne 15, 3) := by decide +kernel
theorem dX4_bestOf_134 : decode cX4_bestOf 134 = .ok (.iload 5, 2) := by decide +kernel
theorem dX4_bestOf_136 : decode cX4_bestOf 136 = .ok (.iload_n 2, 1) := by decide +kernel
theorem dX4_bestOf_137 : decode cX4_bestOf 137 = .ok (.if_icmp .ge 9, 3) := by decide +kernel
theorem dX4_bestOf_140 : decode cX4_bestOf 140 = .ok (.iload 5, 2) := by decide +kernel
theorem dX4_bestOf_142 : decode cX4_bestOf 142 = .ok (.istore_n 2, 1) := by decide +kernel
theorem dX4_bestOf_143 : decode cX4_bestOf 143 = .ok (.fload 7, 2) := by decide +kernel
theorem dX4_bestOf_145 : decode cX4_bestOf 145 = .ok (.fstore_n 3, 1) := by decide +kernel
theorem dX4_bestOf_146 : decode cX4_bestOf 146 = .ok (.aload_n 0, 1) := by decide +kernel
theorem dX4_bestOf_147 : decode cX4_bestOf 147 = .ok (.iload_n 1, 1) := by decide +kernel
theorem dX4_bestOf_148 : decode cX4_bestOf 148 = .ok (.invokevirtual 183, 3) := by decide +kernel
theorem dX4_bestOf_151 : decode cX4_bestOf 151 = .ok (.istore 4, 2) := by decide +kernel
theorem dX4_bestOf_153 : decode cX4_bestOf 153 = .ok (.goto (-104), 3) := by decide +kernel
theorem dX4_bestOf_156 : decode cX4_bestOf 156 = .ok (.iload_n 2, 1) := by decide +kernel
theorem dX4_bestOf_157 : decode cX4_bestOf 157 = .ok (.ireturn, 1) := by decide +kernel
theorem dX4_best_0 : decode cX4_best 0 = .ok (.iload_n 1, 1) := by decide +kernel
theorem dX4_best_1 : decode cX4_best 1 = .ok (.iconst 1, 1) := by decide +kernel
theorem dX4_best_2 : decode cX4_best 2 = .ok (.iconst 4, 1) := by decide +kernel
theorem dX4_best_3 : decode cX4_best 3 = .ok (.invokestatic 49, 3) := by decide +kernel
theorem dX4_best_6 : decode cX4_best 6 = .ok (.ifCond .eq 11, 3) := by decide +kernel
theorem dX4_best_9 : decode cX4_best 9 = .ok (.aload_n 0, 1) := by decide +kernel
theorem dX4_best_10 : decode cX4_best 10 = .ok (.iload_n 1, 1) := by decide +kernel
theorem dX4_best_11 : decode cX4_best 11 = .ok (.invokevirtual 186, 3) := by decide +kernel
theorem dX4_best_14 : decode cX4_best 14 = .ok (.goto 7, 3) := by decide +kernel
theorem dX4_best_17 : decode cX4_best 17 = .ok (.aload_n 0, 1) := by decide +kernel
theorem dX4_best_18 : decode cX4_best 18 = .ok (.invokevirtual 68, 3) := by decide +kernel
theorem dX4_best_21 : decode cX4_best 21 = .ok (.ireturn, 1) := by decide +kernel
theorem dX4_mistaken_0 : decode cX4_mistaken 0 = .ok (.iload_n 1, 1) := by decide +kernel
theorem dX4_mistaken_1 : decode cX4_mistaken 1 = .ok (.invokestatic 84, 3) := by decide +kernel
theorem dX4_mistaken_4 : decode cX4_mistaken 4 = .ok (.ifCond .eq 14, 3) := by decide +kernel
theorem dX4_mistaken_7 : decode cX4_mistaken 7 = .ok (.iload_n 2, 1) := by decide +kernel
theorem dX4_mistaken_8 : decode cX4_mistaken 8 = .ok (.iconst 0, 1) := by decide +kernel
theorem dX4_mistaken_9 : decode cX4_mistaken 9 = .ok (.sipush 9999, 3) := by decide +kernel
theorem dX4_mistaken_12 : decode cX4_mistaken 12 = .ok (.invokestatic 49, 3) := by decide +kernel
theorem dX4_mistaken_15 : decode cX4_mistaken 15 = .ok (.ifCond .ne 8, 3) := by decide +kernel
theorem dX4_mistaken_18 : decode cX4_mistaken 18 = .ok (.aload_n 0, 1) := by decide +kernel
theorem dX4_mistaken_19 : decode cX4_mistaken 19 = .ok (.invokevirtual 68, 3) := by decide +kernel
theorem dX4_mistaken_22 : decode cX4_mistaken 22 = .ok (.ireturn, 1) := by decide +kernel
theorem dX4_mistaken_23 : decode cX4_mistaken 23 = .ok (.iconst 0, 1) := by decide +kernel
theorem dX4_mistaken_24 : decode cX4_mistaken 24 = .ok (.istore_n 3, 1) := by decide +kernel
theorem dX4_mistaken_25 : decode cX4_mistaken 25 = .ok (.iconst 0, 1) := by decide +kernel
theorem dX4_mistaken_26 : decode cX4_mistaken 26 = .ok (.istore 4, 2) := by decide +kernel
theorem dX4_mistaken_28 : decode cX4_mistaken 28 = .ok (.iload 4, 2) := by decide +kernel
theorem dX4_mistaken_30 : decode cX4_mistaken 30 = .ok (.aload_n 0, 1) := by decide +kernel
theorem dX4_mistaken_31 : decode cX4_mistaken 31 = .ok (.getfield 7, 3) := by decide +kernel
theorem dX4_mistaken_34 : decode cX4_mistaken 34 = .ok (.bipush 120, 2) := by decide +kernel
theorem dX4_mistaken_36 : decode cX4_mistaken 36 = .ok (.iaload, 1) := by decide +kernel
theorem dX4_mistaken_37 : decode cX4_mistaken 37 = .ok (.if_icmp .ge 72, 3) := by decide +kernel
theorem dX4_mistaken_40 : decode cX4_mistaken 40 = .ok (.iload 4, 2) := by decide +kernel
theorem dX4_mistaken_42 : decode cX4_mistaken 42 = .ok (.iconst 1, 1) := by decide +kernel
theorem dX4_mistaken_43 : decode cX4_mistaken 43 = .ok (.iadd, 1) := by decide +kernel
theorem dX4_mistaken_44 : decode cX4_mistaken 44 = .ok (.istore 5, 2) := by decide +kernel
theorem dX4_mistaken_46 : decode cX4_mistaken 46 = .ok (.iload 5, 2) := by decide +kernel
theorem dX4_mistaken_48 : decode cX4_mistaken 48 = .ok (.aload_n 0, 1) := by decide +kernel
theorem dX4_mistaken_49 : decode cX4_mistaken 49 = .ok (.getfield 7, 3) := by decide +kernel
theorem dX4_mistaken_52 : decode cX4_mistaken 52 = .ok (.bipush 120, 2) := by decide +kernel
theorem dX4_mistaken_54 : decode cX4_mistaken 54 = .ok (.iaload, 1) := by decide +kernel
theorem dX4_mistaken_55 : decode cX4_mistaken 55 = .ok (.if_icmp .ge 48, 3) := by decide +kernel
theorem dX4_mistaken_58 : decode cX4_mistaken 58 = .ok (.iload_n 3, 1) := by decide +kernel
theorem dX4_mistaken_59 : decode cX4_mistaken 59 = .ok (.aload_n 0, 1) := by decide +kernel
theorem dX4_mistaken_60 : decode cX4_mistaken 60 = .ok (.iload_n 1, 1) := by decide +kernel
theorem dX4_mistaken_61 : decode cX4_mistaken 61 = .ok (.aload_n 0, 1) := by decide +kernel
theorem dX4_mistaken_62 : decode cX4_mistaken 62 = .ok (.getfield 7, 3) := by decide +kernel
theorem dX4_mistaken_65 : decode cX4_mistaken 65 = .ok (.bipush 121, 2) := by decide +kernel
theorem dX4_mistaken_67 : decode cX4_mistaken 67 = .ok (.iload 4, 2) := by decide +kernel
theorem dX4_mistaken_69 : decode cX4_mistaken 69 = .ok (.iadd, 1) := by decide +kernel
theorem dX4_mistaken_70 : decode cX4_mistaken 70 = .ok (.iaload, 1) := by decide +kernel
theorem dX4_mistaken_71 : decode cX4_mistaken 71 = .ok (.aload_n 0, 1) := by decide +kernel
theorem dX4_mistaken_72 : decode cX4_mistaken 72 = .ok (.getfield 7, 3) := by decide +kernel
theorem dX4_mistaken_75 : decode cX4_mistaken 75 = .ok (.bipush 121, 2) := by decide +kernel
theorem dX4_mistaken_77 : decode cX4_mistaken 77 = .ok (.iload 5, 2) := by decide +kernel
theorem dX4_mistaken_79 : decode cX4_mistaken 79 = .ok (.iadd, 1) := by decide +kernel
theorem dX4_mistaken_80 : decode cX4_mistaken 80 = .ok (.iaload, 1) := by decide +kernel
theorem dX4_mistaken_81 : decode cX4_mistaken 81 = .ok (.invokevirtual 126, 3) := by decide +kernel
theorem dX4_mistaken_84 : decode cX4_mistaken 84 = .ok (.iload_n 2, 1) := by decide +kernel
theorem dX4_mistaken_85 : decode cX4_mistaken 85 = .ok (.i2f, 1) := by decide +kernel
theorem dX4_mistaken_86 : decode cX4_mistaken 86 = .ok (.fcmp .g, 1) := by decide +kernel
theorem dX4_mistaken_87 : decode cX4_mistaken 87 = .ok (.ifCond .ge 7, 3) := by decide +kernel
theorem dX4_mistaken_90 : decode cX4_mistaken 90 = .ok (.iconst 1, 1) := by decide +kernel
theorem dX4_mistaken_91 : decode cX4_mistaken 91 = .ok (.goto 4, 3) := by decide +kernel
theorem dX4_mistaken_94 : decode cX4_mistaken 94 = .ok (.iconst 0, 1) := by decide +kernel
theorem dX4_mistaken_95 : decode cX4_mistaken 95 = .ok (.iadd, 1) := by decide +kernel
theorem dX4_mistaken_96 : decode cX4_mistaken 96 = .ok (.istore_n 3, 1) := by decide +kernel
theorem dX4_mistaken_97 : decode cX4_mistaken 97 = .ok (.iinc 5 1, 3) := by decide +kernel
theorem dX4_mistaken_100 : decode cX4_mistaken 100 = .ok (.goto (-54), 3) := by decide +kernel
theorem dX4_mistaken_103 : decode cX4_mistaken 103 = .ok (.iinc 4 1, 3) := by decide +kernel
theorem dX4_mistaken_106 : decode cX4_mistaken 106 = .ok (.goto (-78), 3) := by decide +kernel
theorem dX4_mistaken_109 : decode cX4_mistaken 109 = .ok (.iload_n 3, 1) := by decide +kernel
theorem dX4_mistaken_110 : decode cX4_mistaken 110 = .ok (.ireturn, 1) := by decide +kernel
theorem dX4_countsSet_0 : decode cX4_countsSet 0 = .ok (.iconst 0, 1) := by decide +kernel
theorem dX4_countsSet_1 : decode cX4_countsSet 1 = .ok (.istore_n 1, 1) := by decide +kernel
theorem dX4_countsSet_2 : decode cX4_countsSet 2 = .ok (.iconst 0, 1) := by decide +kernel
theorem dX4_countsSet_3 : decode cX4_countsSet 3 = .ok (.istore_n 2, 1) := by decide +kernel
theorem dX4_countsSet_4 : decode cX4_countsSet 4 = .ok (.iload_n 2, 1) := by decide +kernel
theorem dX4_countsSet_5 : decode cX4_countsSet 5 = .ok (.iconst 4, 1) := by decide +kernel
theorem dX4_countsSet_6 : decode cX4_countsSet 6 = .ok (.if_icmp .ge 29, 3) := by decide +kernel
theorem dX4_countsSet_9 : decode cX4_countsSet 9 = .ok (.iload_n 1, 1) := by decide +kernel
theorem dX4_countsSet_10 : decode cX4_countsSet 10 = .ok (.aload_n 0, 1) := by decide +kernel
theorem dX4_countsSet_11 : decode cX4_countsSet 11 = .ok (.getfield 7, 3) := by decide +kernel
theorem dX4_countsSet_14 : decode cX4_countsSet 14 = .ok (.bipush 62, 2) := by decide +kernel
theorem dX4_countsSet_16 : decode cX4_countsSet 16 = .ok (.bipush 13, 2) := by decide +kernel
theorem dX4_countsSet_18 : decode cX4_countsSet 18 = .ok (.iload_n 2, 1) := by decide +kernel
theorem dX4_countsSet_19 : decode cX4_countsSet 19 = .ok (.imul, 1) := by decide +kernel
theorem dX4_countsSet_20 : decode cX4_countsSet 20 = .ok (.iadd, 1) := by decide +kernel
theorem dX4_countsSet_21 : decode cX4_countsSet 21 = .ok (.bipush 12, 2) := by decide +kernel
theorem dX4_countsSet_23 : decode cX4_countsSet 23 = .ok (.iadd, 1) := by decide +kernel
theorem dX4_countsSet_24 : decode cX4_countsSet 24 = .ok (.iaload, 1) := by decide +kernel
theorem dX4_countsSet_25 : decode cX4_countsSet 25 = .ok (.iload_n 2, 1) := by decide +kernel
theorem dX4_countsSet_26 : decode cX4_countsSet 26 = .ok (.ishl, 1) := by decide +kernel
theorem dX4_countsSet_27 : decode cX4_countsSet 27 = .ok (.ior, 1) := by decide +kernel
theorem dX4_countsSet_28 : decode cX4_countsSet 28 = .ok (.istore_n 1, 1) := by decide +kernel
theorem dX4_countsSet_29 : decode cX4_countsSet 29 = .ok (.iinc 2 1, 3) := by decide +kernel
theorem dX4_countsSet_32 : decode cX4_countsSet 32 = .ok (.goto (-28), 3) := by decide +kernel
theorem dX4_countsSet_35 : decode cX4_countsSet 35 = .ok (.iload_n 1, 1) := by decide +kernel
theorem dX4_countsSet_36 : decode cX4_countsSet 36 = .ok (.ireturn, 1) := by decide +kernel
theorem dX4_fittingMany_0 : decode cX4_fittingMany 0 = .ok (.iconst 0, 1) := by decide +kernel
theorem dX4_fittingMany_1 : decode cX4_fittingMany 1 = .ok (.istore_n 1, 1) := by decide +kernel
theorem dX4_fittingMany_2 : decode cX4_fittingMany 2 = .ok (.iconst 0, 1) := by decide +kernel
theorem dX4_fittingMany_3 : decode cX4_fittingMany 3 = .ok (.istore_n 2, 1) := by decide +kernel
theorem dX4_fittingMany_4 : decode cX4_fittingMany 4 = .ok (.iload_n 2, 1) := by decide +kernel
theorem dX4_fittingMany_5 : decode cX4_fittingMany 5 = .ok (.aload_n 0, 1) := by decide +kernel
theorem dX4_fittingMany_6 : decode cX4_fittingMany 6 = .ok (.getfield 7, 3) := by decide +kernel
theorem dX4_fittingMany_9 : decode cX4_fittingMany 9 = .ok (.iconst 0, 1) := by decide +kernel
theorem dX4_fittingMany_10 : decode cX4_fittingMany 10 = .ok (.iaload, 1) := by decide +kernel
theorem dX4_fittingMany_11 : decode cX4_fittingMany 11 = .ok (.if_icmp .ge 25, 3) := by decide +kernel
theorem dX4_fittingMany_14 : decode cX4_fittingMany 14 = .ok (.iload_n 1, 1) := by decide +kernel
theorem dX4_fittingMany_15 : decode cX4_fittingMany 15 = .ok (.aload_n 0, 1) := by decide +kernel
theorem dX4_fittingMany_16 : decode cX4_fittingMany 16 = .ok (.iload_n 2, 1) := by decide +kernel
theorem dX4_fittingMany_17 : decode cX4_fittingMany 17 = .ok (.invokevirtual 108, 3) := by decide +kernel
theorem dX4_fittingMany_20 : decode cX4_fittingMany 20 = .ok (.ifCond .eq 7, 3) := by decide +kernel
theorem dX4_fittingMany_23 : decode cX4_fittingMany 23 = .ok (.iconst 1, 1) := by decide +kernel
theorem dX4_fittingMany_24 : decode cX4_fittingMany 24 = .ok (.goto 4, 3) := by decide +kernel
theorem dX4_fittingMany_27 : decode cX4_fittingMany 27 = .ok (.iconst 0, 1) := by decide +kernel
theorem dX4_fittingMany_28 : decode cX4_fittingMany 28 = .ok (.iadd, 1) := by decide +kernel
theorem dX4_fittingMany_29 : decode cX4_fittingMany 29 = .ok (.istore_n 1, 1) := by decide +kernel
theorem dX4_fittingMany_30 : decode cX4_fittingMany 30 = .ok (.iinc 2 1, 3) := by decide +kernel
theorem dX4_fittingMany_33 : decode cX4_fittingMany 33 = .ok (.goto (-29), 3) := by decide +kernel
theorem dX4_fittingMany_36 : decode cX4_fittingMany 36 = .ok (.iload_n 1, 1) := by decide +kernel
theorem dX4_fittingMany_37 : decode cX4_fittingMany 37 = .ok (.ireturn, 1) := by decide +kernel
theorem dX4_countOf_0 : decode cX4_countOf 0 = .ok (.iload_n 1, 1) := by decide +kernel
theorem dX4_countOf_1 : decode cX4_countOf 1 = .ok (.tableswitch 68 0 4 #[35, 42, 47, 55, 63], 35) := by decide +kernel
theorem dX4_countOf_36 : decode cX4_countOf 36 = .ok (.aload_n 0, 1) := by decide +kernel
theorem dX4_countOf_37 : decode cX4_countOf 37 = .ok (.getfield 7, 3) := by decide +kernel
theorem dX4_countOf_40 : decode cX4_countOf 40 = .ok (.iconst 0, 1) := by decide +kernel
theorem dX4_countOf_41 : decode cX4_countOf 41 = .ok (.iaload, 1) := by decide +kernel
theorem dX4_countOf_42 : decode cX4_countOf 42 = .ok (.ireturn, 1) := by decide +kernel
theorem dX4_countOf_43 : decode cX4_countOf 43 = .ok (.aload_n 0, 1) := by decide +kernel
theorem dX4_countOf_44 : decode cX4_countOf 44 = .ok (.invokevirtual 189, 3) := by decide +kernel
theorem dX4_countOf_47 : decode cX4_countOf 47 = .ok (.ireturn, 1) := by decide +kernel
theorem dX4_countOf_48 : decode cX4_countOf 48 = .ok (.aload_n 0, 1) := by decide +kernel
theorem dX4_countOf_49 : decode cX4_countOf 49 = .ok (.getfield 7, 3) := by decide +kernel
theorem dX4_countOf_52 : decode cX4_countOf 52 = .ok (.bipush 61, 2) := by decide +kernel
theorem dX4_countOf_54 : decode cX4_countOf 54 = .ok (.iaload, 1) := by decide +kernel
theorem dX4_countOf_55 : decode cX4_countOf 55 = .ok (.ireturn, 1) := by decide +kernel
theorem dX4_countOf_56 : decode cX4_countOf 56 = .ok (.aload_n 0, 1) := by decide +kernel
theorem dX4_countOf_57 : decode cX4_countOf 57 = .ok (.getfield 7, 3) := by decide +kernel
theorem dX4_countOf_60 : decode cX4_countOf 60 = .ok (.bipush 120, 2) := by decide +kernel
theorem dX4_countOf_62 : decode cX4_countOf 62 = .ok (.iaload, 1) := by decide +kernel
theorem dX4_countOf_63 : decode cX4_countOf 63 = .ok (.ireturn, 1) := by decide +kernel
theorem dX4_countOf_64 : decode cX4_countOf 64 = .ok (.aload_n 0, 1) := by decide +kernel
theorem dX4_countOf_65 : decode cX4_countOf 65 = .ok (.invokevirtual 192, 3) := by decide +kernel
theorem dX4_countOf_68 : decode cX4_countOf 68 = .ok (.ireturn, 1) := by decide +kernel
theorem dX4_countOf_69 : decode cX4_countOf 69 = .ok (.aload_n 0, 1) := by decide +kernel
theorem dX4_countOf_70 : decode cX4_countOf 70 = .ok (.getfield 7, 3) := by decide +kernel
theorem dX4_countOf_73 : decode cX4_countOf 73 = .ok (.bipush 117, 2) := by decide +kernel
theorem dX4_countOf_75 : decode cX4_countOf 75 = .ok (.iload_n 1, 1) := by decide +kernel
theorem dX4_countOf_76 : decode cX4_countOf 76 = .ok (.iadd, 1) := by decide +kernel
theorem dX4_countOf_77 : decode cX4_countOf 77 = .ok (.iconst 5, 1) := by decide +kernel
theorem dX4_countOf_78 : decode cX4_countOf 78 = .ok (.isub, 1) := by decide +kernel
theorem dX4_countOf_79 : decode cX4_countOf 79 = .ok (.iaload, 1) := by decide +kernel
theorem dX4_countOf_80 : decode cX4_countOf 80 = .ok (.ireturn, 1) := by decide +kernel
theorem dX4_count_0 : decode cX4_count 0 = .ok (.iload_n 1, 1) := by decide +kernel
theorem dX4_count_1 : decode cX4_count 1 = .ok (.iconst 0, 1) := by decide +kernel
theorem dX4_count_2 : decode cX4_count 2 = .ok (.bipush 7, 2) := by decide +kernel
theorem dX4_count_4 : decode cX4_count 4 = .ok (.invokestatic 49, 3) := by decide +kernel
theorem dX4_count_7 : decode cX4_count 7 = .ok (.ifCond .eq 11, 3) := by decide +kernel
theorem dX4_count_10 : decode cX4_count 10 = .ok (.aload_n 0, 1) := by decide +kernel
theorem dX4_count_11 : decode cX4_count 11 = .ok (.iload_n 1, 1) := by decide +kernel
theorem dX4_count_12 : decode cX4_count 12 = .ok (.invokevirtual 195, 3) := by decide +kernel
theorem dX4_count_15 : decode cX4_count 15 = .ok (.goto 7, 3) := by decide +kernel
theorem dX4_count_18 : decode cX4_count 18 = .ok (.aload_n 0, 1) := by decide +kernel
theorem dX4_count_19 : decode cX4_count 19 = .ok (.invokevirtual 68, 3) := by decide +kernel
theorem dX4_count_22 : decode cX4_count 22 = .ok (.ireturn, 1) := by decide +kernel
theorem dX4_type_0 : decode cX4_type 0 = .ok (.iload_n 1, 1) := by decide +kernel
theorem dX4_type_1 : decode cX4_type 1 = .ok (.iconst 0, 1) := by decide +kernel
theorem dX4_type_2 : decode cX4_type 2 = .ok (.bipush 127, 2) := by decide +kernel
theorem dX4_type_4 : decode cX4_type 4 = .ok (.invokestatic 49, 3) := by decide +kernel
theorem dX4_type_7 : decode cX4_type 7 = .ok (.ifCond .ne 8, 3) := by decide +kernel
theorem dX4_type_10 : decode cX4_type 10 = .ok (.aload_n 0, 1) := by decide +kernel
theorem dX4_type_11 : decode cX4_type 11 = .ok (.invokevirtual 68, 3) := by decide +kernel
theorem dX4_type_14 : decode cX4_type 14 = .ok (.ireturn, 1) := by decide +kernel
theorem dX4_type_15 : decode cX4_type 15 = .ok (.aload_n 0, 1) := by decide +kernel
theorem dX4_type_16 : decode cX4_type 16 = .ok (.getfield 198, 3) := by decide +kernel
theorem dX4_type_19 : decode cX4_type 19 = .ok (.bipush 120, 2) := by decide +kernel
theorem dX4_type_21 : decode cX4_type 21 = .ok (.if_icmp .ne 8, 3) := by decide +kernel
theorem dX4_type_24 : decode cX4_type 24 = .ok (.aload_n 0, 1) := by decide +kernel
theorem dX4_type_25 : decode cX4_type 25 = .ok (.invokevirtual 71, 3) := by decide +kernel
theorem dX4_type_28 : decode cX4_type 28 = .ok (.ireturn, 1) := by decide +kernel
theorem dX4_type_29 : decode cX4_type 29 = .ok (.aload_n 0, 1) := by decide +kernel
theorem dX4_type_30 : decode cX4_type 30 = .ok (.getfield 22, 3) := by decide +kernel
theorem dX4_type_33 : decode cX4_type 33 = .ok (.aload_n 0, 1) := by decide +kernel
theorem dX4_type_34 : decode cX4_type 34 = .ok (.getfield 198, 3) := by decide +kernel
theorem dX4_type_37 : decode cX4_type 37 = .ok (.iload_n 1, 1) := by decide +kernel
theorem dX4_type_38 : decode cX4_type 38 = .ok (.iastore, 1) := by decide +kernel
theorem dX4_type_39 : decode cX4_type 39 = .ok (.aload_n 0, 1) := by decide +kernel
theorem dX4_type_40 : decode cX4_type 40 = .ok (.dup, 1) := by decide +kernel
theorem dX4_type_41 : decode cX4_type 41 = .ok (.getfield 198, 3) := by decide +kernel
theorem dX4_type_44 : decode cX4_type 44 = .ok (.iconst 1, 1) := by decide +kernel
theorem dX4_type_45 : decode cX4_type 45 = .ok (.iadd, 1) := by decide +kernel
theorem dX4_type_46 : decode cX4_type 46 = .ok (.putfield 198, 3) := by decide +kernel
theorem dX4_type_49 : decode cX4_type 49 = .ok (.aload_n 0, 1) := by decide +kernel
theorem dX4_type_50 : decode cX4_type 50 = .ok (.getfield 198, 3) := by decide +kernel
theorem dX4_type_53 : decode cX4_type 53 = .ok (.ireturn, 1) := by decide +kernel
theorem dX4_clear_0 : decode cX4_clear 0 = .ok (.aload_n 0, 1) := by decide +kernel
theorem dX4_clear_1 : decode cX4_clear 1 = .ok (.getfield 198, 3) := by decide +kernel
theorem dX4_clear_4 : decode cX4_clear 4 = .ok (.istore_n 1, 1) := by decide +kernel
theorem dX4_clear_5 : decode cX4_clear 5 = .ok (.aload_n 0, 1) := by decide +kernel
theorem dX4_clear_6 : decode cX4_clear 6 = .ok (.iconst 0, 1) := by decide +kernel
theorem dX4_clear_7 : decode cX4_clear 7 = .ok (.putfield 198, 3) := by decide +kernel
theorem dX4_clear_10 : decode cX4_clear 10 = .ok (.iload_n 1, 1) := by decide +kernel
theorem dX4_clear_11 : decode cX4_clear 11 = .ok (.ireturn, 1) := by decide +kernel
theorem dX4_isAt_0 : decode cX4_isAt 0 = .ok (.aload_n 0, 1) := by decide +kernel
theorem dX4_isAt_1 : decode cX4_isAt 1 = .ok (.getfield 201, 3) := by decide +kernel
theorem dX4_isAt_4 : decode cX4_isAt 4 = .ok (.aload_n 0, 1) := by decide +kernel
theorem dX4_isAt_5 : decode cX4_isAt 5 = .ok (.getfield 198, 3) := by decide +kernel
theorem dX4_isAt_8 : decode cX4_isAt 8 = .ok (.if_icmp .ge 24, 3) := by decide +kernel
theorem dX4_isAt_11 : decode cX4_isAt 11 = .ok (.aload_n 0, 1) := by decide +kernel
theorem dX4_isAt_12 : decode cX4_isAt 12 = .ok (.getfield 22, 3) := by decide +kernel
theorem dX4_isAt_15 : decode cX4_isAt 15 = .ok (.aload_n 0, 1) := by decide +kernel
theorem dX4_isAt_16 : decode cX4_isAt 16 = .ok (.getfield 201, 3) := by decide +kernel
theorem dX4_isAt_19 : decode cX4_isAt 19 = .ok (.iaload, 1) := by decide +kernel
theorem dX4_isAt_20 : decode cX4_isAt 20 = .ok (.iload_n 1, 1) := by decide +kernel
theorem dX4_isAt_21 : decode cX4_isAt 21 = .ok (.iload_n 2, 1) := by decide +kernel
theorem dX4_isAt_22 : decode cX4_isAt 22 = .ok (.invokestatic 49, 3) := by decide +kernel
theorem dX4_isAt_25 : decode cX4_isAt 25 = .ok (.ifCond .eq 7, 3) := by decide +kernel
theorem dX4_isAt_28 : decode cX4_isAt 28 = .ok (.iconst 1, 1) := by decide +kernel
theorem dX4_isAt_29 : decode cX4_isAt 29 = .ok (.goto 4, 3) := by decide +kernel
theorem dX4_isAt_32 : decode cX4_isAt 32 = .ok (.iconst 0, 1) := by decide +kernel
theorem dX4_isAt_33 : decode cX4_isAt 33 = .ok (.ireturn, 1) := by decide +kernel
theorem dX4_blanks_0 : decode cX4_blanks 0 = .ok (.aload_n 0, 1) := by decide +kernel
theorem dX4_blanks_1 : decode cX4_blanks 1 = .ok (.bipush 32, 2) := by decide +kernel
theorem dX4_blanks_3 : decode cX4_blanks 3 = .ok (.bipush 32, 2) := by decide +kernel
theorem dX4_blanks_5 : decode cX4_blanks 5 = .ok (.invokevirtual 204, 3) := by decide +kernel
theorem dX4_blanks_8 : decode cX4_blanks 8 = .ok (.ifCond .eq 16, 3) := by decide +kernel
theorem dX4_blanks_11 : decode cX4_blanks 11 = .ok (.aload_n 0, 1) := by decide +kernel
theorem dX4_blanks_12 : decode cX4_blanks 12 = .ok (.dup, 1) := by decide +kernel
theorem dX4_blanks_13 : decode cX4_blanks 13 = .ok (.getfield 201, 3) := by decide +kernel
theorem dX4_blanks_16 : decode cX4_blanks 16 = .ok (.iconst 1, 1) := by decide +kernel
theorem dX4_blanks_17 : decode cX4_blanks 17 = .ok (.iadd, 1) := by decide +kernel
theorem dX4_blanks_18 : decode cX4_blanks 18 = .ok (.putfield 201, 3) := by decide +kernel
theorem dX4_blanks_21 : decode cX4_blanks 21 = .ok (.goto (-21), 3) := by decide +kernel
theorem dX4_blanks_24 : decode cX4_blanks 24 = .ok (.return_, 1) := by decide +kernel
theorem dX4_fails_0 : decode cX4_fails 0 = .ok (.aload_n 0, 1) := by decide +kernel
theorem dX4_fails_1 : decode cX4_fails 1 = .ok (.iload_n 1, 1) := by decide +kernel
theorem dX4_fails_2 : decode cX4_fails 2 = .ok (.putfield 207, 3) := by decide +kernel
theorem dX4_fails_5 : decode cX4_fails 5 = .ok (.iconst 0, 1) := by decide +kernel
theorem dX4_fails_6 : decode cX4_fails 6 = .ok (.ireturn, 1) := by decide +kernel
theorem dX4_takesSix_0 : decode cX4_takesSix 0 = .ok (.aload_n 0, 1) := by decide +kernel
theorem dX4_takesSix_1 : decode cX4_takesSix 1 = .ok (.invokevirtual 210, 3) := by decide +kernel
theorem dX4_takesSix_4 : decode cX4_takesSix 4 = .ok (.iconst 0, 1) := by decide +kernel
theorem dX4_takesSix_5 : decode cX4_takesSix 5 = .ok (.istore_n 2, 1) := by decide +kernel
theorem dX4_takesSix_6 : decode cX4_takesSix 6 = .ok (.iconst 0, 1) := by decide +kernel
theorem dX4_takesSix_7 : decode cX4_takesSix 7 = .ok (.istore_n 3, 1) := by decide +kernel
theorem dX4_takesSix_8 : decode cX4_takesSix 8 = .ok (.iload_n 3, 1) := by decide +kernel
theorem dX4_takesSix_9 : decode cX4_takesSix 9 = .ok (.bipush 6, 2) := by decide +kernel
theorem dX4_takesSix_11 : decode cX4_takesSix 11 = .ok (.if_icmp .ge 82, 3) := by decide +kernel
theorem dX4_takesSix_14 : decode cX4_takesSix 14 = .ok (.aload_n 0, 1) := by decide +kernel
theorem dX4_takesSix_15 : decode cX4_takesSix 15 = .ok (.bipush 48, 2) := by decide +kernel
theorem dX4_takesSix_17 : decode cX4_takesSix 17 = .ok (.bipush 57, 2) := by decide +kernel
theorem dX4_takesSix_19 : decode cX4_takesSix 19 = .ok (.invokevirtual 204, 3) := by decide +kernel
theorem dX4_takesSix_22 : decode cX4_takesSix 22 = .ok (.istore 4, 2) := by decide +kernel
theorem dX4_takesSix_24 : decode cX4_takesSix 24 = .ok (.iload 4, 2) := by decide +kernel
theorem dX4_takesSix_26 : decode cX4_takesSix 26 = .ok (.ifCond .ne 23, 3) := by decide +kernel
theorem dX4_takesSix_29 : decode cX4_takesSix 29 = .ok (.aload_n 0, 1) := by decide +kernel
theorem dX4_takesSix_30 : decode cX4_takesSix 30 = .ok (.bipush 97, 2) := by decide +kernel
theorem dX4_takesSix_32 : decode cX4_takesSix 32 = .ok (.bipush 102, 2) := by decide +kernel
theorem dX4_takesSix_34 : decode cX4_takesSix 34 = .ok (.invokevirtual 204, 3) := by decide +kernel
theorem dX4_takesSix_37 : decode cX4_takesSix 37 = .ok (.ifCond .ne 12, 3) := by decide +kernel
theorem dX4_takesSix_40 : decode cX4_takesSix 40 = .ok (.aload_n 0, 1) := by decide +kernel
theorem dX4_takesSix_41 : decode cX4_takesSix 41 = .ok (.aload_n 0, 1) := by decide +kernel
theorem dX4_takesSix_42 : decode cX4_takesSix 42 = .ok (.getfield 201, 3) := by decide +kernel
theorem dX4_takesSix_45 : decode cX4_takesSix 45 = .ok (.invokevirtual 213, 3) := by decide +kernel
theorem dX4_takesSix_48 : decode cX4_takesSix 48 = .ok (.ireturn, 1) := by decide +kernel
theorem dX4_takesSix_49 : decode cX4_takesSix 49 = .ok (.bipush 16, 2) := by decide +kernel
theorem dX4_takesSix_51 : decode cX4_takesSix 51 = .ok (.iload_n 2, 1) := by decide +kernel
theorem dX4_takesSix_52 : decode cX4_takesSix 52 = .ok (.imul, 1) := by decide +kernel
theorem dX4_takesSix_53 : decode cX4_takesSix 53 = .ok (.aload_n 0, 1) := by decide +kernel
theorem dX4_takesSix_54 : decode cX4_takesSix 54 = .ok (.getfield 22, 3) := by decide +kernel
theorem dX4_takesSix_57 : decode cX4_takesSix 57 = .ok (.aload_n 0, 1) := by decide +kernel
theorem dX4_takesSix_58 : decode cX4_takesSix 58 = .ok (.getfield 201, 3) := by decide +kernel
theorem dX4_takesSix_61 : decode cX4_takesSix 61 = .ok (.iaload, 1) := by decide +kernel
theorem dX4_takesSix_62 : decode cX4_takesSix 62 = .ok (.iadd, 1) := by decide +kernel
theorem dX4_takesSix_63 : decode cX4_takesSix 63 = .ok (.iload 4, 2) := by decide +kernel
theorem dX4_takesSix_65 : decode cX4_takesSix 65 = .ok (.ifCond .eq 8, 3) := by decide +kernel
theorem dX4_takesSix_68 : decode cX4_takesSix 68 = .ok (.bipush 48, 2) := by decide +kernel
theorem dX4_takesSix_70 : decode cX4_takesSix 70 = .ok (.goto 5, 3) := by decide +kernel
theorem dX4_takesSix_73 : decode cX4_takesSix 73 = .ok (.bipush 87, 2) := by decide +kernel
theorem dX4_takesSix_75 : decode cX4_takesSix 75 = .ok (.isub, 1) := by decide +kernel
theorem dX4_takesSix_76 : decode cX4_takesSix 76 = .ok (.istore_n 2, 1) := by decide +kernel
theorem dX4_takesSix_77 : decode cX4_takesSix 77 = .ok (.aload_n 0, 1) := by decide +kernel
theorem dX4_takesSix_78 : decode cX4_takesSix 78 = .ok (.dup, 1) := by decide +kernel
theorem dX4_takesSix_79 : decode cX4_takesSix 79 = .ok (.getfield 201, 3) := by decide +kernel
theorem dX4_takesSix_82 : decode cX4_takesSix 82 = .ok (.iconst 1, 1) := by decide +kernel
theorem dX4_takesSix_83 : decode cX4_takesSix 83 = .ok (.iadd, 1) := by decide +kernel
theorem dX4_takesSix_84 : decode cX4_takesSix 84 = .ok (.putfield 201, 3) := by decide +kernel
theorem dX4_takesSix_87 : decode cX4_takesSix 87 = .ok (.iinc 3 1, 3) := by decide +kernel
theorem dX4_takesSix_90 : decode cX4_takesSix 90 = .ok (.goto (-82), 3) := by decide +kernel
theorem dX4_takesSix_93 : decode cX4_takesSix 93 = .ok (.aload_n 0, 1) := by decide +kernel
theorem dX4_takesSix_94 : decode cX4_takesSix 94 = .ok (.getfield 35, 3) := by decide +kernel
theorem dX4_takesSix_97 : decode cX4_takesSix 97 = .ok (.iload_n 1, 1) := by decide +kernel
theorem dX4_takesSix_98 : decode cX4_takesSix 98 = .ok (.iload_n 2, 1) := by decide +kernel
theorem dX4_takesSix_99 : decode cX4_takesSix 99 = .ok (.iastore, 1) := by decide +kernel
theorem dX4_takesSix_100 : decode cX4_takesSix 100 = .ok (.iconst 1, 1) := by decide +kernel
theorem dX4_takesSix_101 : decode cX4_takesSix 101 = .ok (.ireturn, 1) := by decide +kernel
theorem dX4_takesNumber_0 : decode cX4_takesNumber 0 = .ok (.aload_n 0, 1) := by decide +kernel
theorem dX4_takesNumber_1 : decode cX4_takesNumber 1 = .ok (.invokevirtual 210, 3) := by decide +kernel
theorem dX4_takesNumber_4 : decode cX4_takesNumber 4 = .ok (.aload_n 0, 1) := by decide +kernel
theorem dX4_takesNumber_5 : decode cX4_takesNumber 5 = .ok (.getfield 201, 3) := by decide +kernel
theorem dX4_takesNumber_8 : decode cX4_takesNumber 8 = .ok (.istore_n 2, 1) := by decide +kernel
theorem dX4_takesNumber_9 : decode cX4_takesNumber 9 = .ok (.iconst 0, 1) := by decide +kernel
theorem dX4_takesNumber_10 : decode cX4_takesNumber 10 = .ok (.istore_n 3, 1) := by decide +kernel
theorem dX4_takesNumber_11 : decode cX4_takesNumber 11 = .ok (.aload_n 0, 1) := by decide +kernel
theorem dX4_takesNumber_12 : decode cX4_takesNumber 12 = .ok (.bipush 48, 2) := by decide +kernel
theorem dX4_takesNumber_14 : decode cX4_takesNumber 14 = .ok (.bipush 57, 2) := by decide +kernel
theorem dX4_takesNumber_16 : decode cX4_takesNumber 16 = .ok (.invokevirtual 204, 3) := by decide +kernel
theorem dX4_takesNumber_19 : decode cX4_takesNumber 19 = .ok (.ifCond .eq 53, 3) := by decide +kernel
theorem dX4_takesNumber_22 : decode cX4_takesNumber 22 = .ok (.aload_n 0, 1) := by decide +kernel
theorem dX4_takesNumber_23 : decode cX4_takesNumber 23 = .ok (.getfield 201, 3) := by decide +kernel
theorem dX4_takesNumber_26 : decode cX4_takesNumber 26 = .ok (.iload_n 2, 1) := by decide +kernel
theorem dX4_takesNumber_27 : decode cX4_takesNumber 27 = .ok (.iconst 3, 1) := by decide +kernel
theorem dX4_takesNumber_28 : decode cX4_takesNumber 28 = .ok (.iadd, 1) := by decide +kernel
theorem dX4_takesNumber_29 : decode cX4_takesNumber 29 = .ok (.if_icmp .ne 12, 3) := by decide +kernel
theorem dX4_takesNumber_32 : decode cX4_takesNumber 32 = .ok (.aload_n 0, 1) := by decide +kernel
theorem dX4_takesNumber_33 : decode cX4_takesNumber 33 = .ok (.aload_n 0, 1) := by decide +kernel
theorem dX4_takesNumber_34 : decode cX4_takesNumber 34 = .ok (.getfield 201, 3) := by decide +kernel
theorem dX4_takesNumber_37 : decode cX4_takesNumber 37 = .ok (.invokevirtual 213, 3) := by decide +kernel
theorem dX4_takesNumber_40 : decode cX4_takesNumber 40 = .ok (.ireturn, 1) := by decide +kernel
theorem dX4_takesNumber_41 : decode cX4_takesNumber 41 = .ok (.bipush 10, 2) := by decide +kernel
theorem dX4_takesNumber_43 : decode cX4_takesNumber 43 = .ok (.iload_n 3, 1) := by decide +kernel
theorem dX4_takesNumber_44 : decode cX4_takesNumber 44 = .ok (.imul, 1) := by decide +kernel
theorem dX4_takesNumber_45 : decode cX4_takesNumber 45 = .ok (.aload_n 0, 1) := by decide +kernel
theorem dX4_takesNumber_46 : decode cX4_takesNumber 46 = .ok (.getfield 22, 3) := by decide +kernel
theorem dX4_takesNumber_49 : decode cX4_takesNumber 49 = .ok (.aload_n 0, 1) := by decide +kernel
theorem dX4_takesNumber_50 : decode cX4_takesNumber 50 = .ok (.getfield 201, 3) := by decide +kernel
theorem dX4_takesNumber_53 : decode cX4_takesNumber 53 = .ok (.iaload, 1) := by decide +kernel
theorem dX4_takesNumber_54 : decode cX4_takesNumber 54 = .ok (.iadd, 1) := by decide +kernel
theorem dX4_takesNumber_55 : decode cX4_takesNumber 55 = .ok (.bipush 48, 2) := by decide +kernel
theorem dX4_takesNumber_57 : decode cX4_takesNumber 57 = .ok (.isub, 1) := by decide +kernel
theorem dX4_takesNumber_58 : decode cX4_takesNumber 58 = .ok (.istore_n 3, 1) := by decide +kernel
theorem dX4_takesNumber_59 : decode cX4_takesNumber 59 = .ok (.aload_n 0, 1) := by decide +kernel
theorem dX4_takesNumber_60 : decode cX4_takesNumber 60 = .ok (.dup, 1) := by decide +kernel
theorem dX4_takesNumber_61 : decode cX4_takesNumber 61 = .ok (.getfield 201, 3) := by decide +kernel
theorem dX4_takesNumber_64 : decode cX4_takesNumber 64 = .ok (.iconst 1, 1) := by decide +kernel
theorem dX4_takesNumber_65 : decode cX4_takesNumber 65 = .ok (.iadd, 1) := by decide +kernel
theorem dX4_takesNumber_66 : decode cX4_takesNumber 66 = .ok (.putfield 201, 3) := by decide +kernel
theorem dX4_takesNumber_69 : decode cX4_takesNumber 69 = .ok (.goto (-58), 3) := by decide +kernel
theorem dX4_takesNumber_72 : decode cX4_takesNumber 72 = .ok (.aload_n 0, 1) := by decide +kernel
theorem dX4_takesNumber_73 : decode cX4_takesNumber 73 = .ok (.getfield 35, 3) := by decide +kernel
theorem dX4_takesNumber_76 : decode cX4_takesNumber 76 = .ok (.iload_n 1, 1) := by decide +kernel
theorem dX4_takesNumber_77 : decode cX4_takesNumber 77 = .ok (.iload_n 3, 1) := by decide +kernel
theorem dX4_takesNumber_78 : decode cX4_takesNumber 78 = .ok (.iastore, 1) := by decide +kernel
theorem dX4_takesNumber_79 : decode cX4_takesNumber 79 = .ok (.aload_n 0, 1) := by decide +kernel
theorem dX4_takesNumber_80 : decode cX4_takesNumber 80 = .ok (.getfield 201, 3) := by decide +kernel
theorem dX4_takesNumber_83 : decode cX4_takesNumber 83 = .ok (.iload_n 2, 1) := by decide +kernel
theorem dX4_takesNumber_84 : decode cX4_takesNumber 84 = .ok (.if_icmp .gt 14, 3) := by decide +kernel
theorem dX4_takesNumber_87 : decode cX4_takesNumber 87 = .ok (.aload_n 0, 1) := by decide +kernel
theorem dX4_takesNumber_88 : decode cX4_takesNumber 88 = .ok (.aload_n 0, 1) := by decide +kernel
theorem dX4_takesNumber_89 : decode cX4_takesNumber 89 = .ok (.getfield 201, 3) := by decide +kernel
theorem dX4_takesNumber_92 : decode cX4_takesNumber 92 = .ok (.invokevirtual 213, 3) := by decide +kernel
theorem dX4_takesNumber_95 : decode cX4_takesNumber 95 = .ok (.ifCond .eq 7, 3) := by decide +kernel
theorem dX4_takesNumber_98 : decode cX4_takesNumber 98 = .ok (.iconst 1, 1) := by decide +kernel
theorem dX4_takesNumber_99 : decode cX4_takesNumber 99 = .ok (.goto 4, 3) := by decide +kernel
theorem dX4_takesNumber_102 : decode cX4_takesNumber 102 = .ok (.iconst 0, 1) := by decide +kernel
theorem dX4_takesNumber_103 : decode cX4_takesNumber 103 = .ok (.ireturn, 1) := by decide +kernel
theorem dX4_takesNumbers_0 : decode cX4_takesNumbers 0 = .ok (.iconst 2, 1) := by decide +kernel
theorem dX4_takesNumbers_1 : decode cX4_takesNumbers 1 = .ok (.aload_n 0, 1) := by decide +kernel
theorem dX4_takesNumbers_2 : decode cX4_takesNumbers 2 = .ok (.getfield 216, 3) := by decide +kernel
theorem dX4_takesNumbers_5 : decode cX4_takesNumbers 5 = .ok (.imul, 1) := by decide +kernel
theorem dX4_takesNumbers_6 : decode cX4_takesNumbers 6 = .ok (.istore_n 2, 1) := by decide +kernel
theorem dX4_takesNumbers_7 : decode cX4_takesNumbers 7 = .ok (.iload_n 1, 1) := by decide +kernel
theorem dX4_takesNumbers_8 : decode cX4_takesNumbers 8 = .ok (.lookupswitch 80 #[(99, 44), (102, 56), (108, 56), (112, 50)], 44) := by decide +kernel
theorem dX4_takesNumbers_52 : decode cX4_takesNumbers 52 = .ok (.aload_n 0, 1) := by decide +kernel
theorem dX4_takesNumbers_53 : decode cX4_takesNumbers 53 = .ok (.iload_n 2, 1) := by decide +kernel
theorem dX4_takesNumbers_54 : decode cX4_takesNumbers 54 = .ok (.invokevirtual 219, 3) := by decide +kernel
theorem dX4_takesNumbers_57 : decode cX4_takesNumbers 57 = .ok (.ireturn, 1) := by decide +kernel
theorem dX4_takesNumbers_58 : decode cX4_takesNumbers 58 = .ok (.aload_n 0, 1) := by decide +kernel
theorem dX4_takesNumbers_59 : decode cX4_takesNumbers 59 = .ok (.iload_n 2, 1) := by decide +kernel
theorem dX4_takesNumbers_60 : decode cX4_takesNumbers 60 = .ok (.invokevirtual 222, 3) := by decide +kernel
theorem dX4_takesNumbers_63 : decode cX4_takesNumbers 63 = .ok (.ireturn, 1) := by decide +kernel
theorem dX4_takesNumbers_64 : decode cX4_takesNumbers 64 = .ok (.aload_n 0, 1) := by decide +kernel
theorem dX4_takesNumbers_65 : decode cX4_takesNumbers 65 = .ok (.iload_n 2, 1) := by decide +kernel
theorem dX4_takesNumbers_66 : decode cX4_takesNumbers 66 = .ok (.invokevirtual 222, 3) := by decide +kernel
theorem dX4_takesNumbers_69 : decode cX4_takesNumbers 69 = .ok (.ifCond .eq 17, 3) := by decide +kernel
theorem dX4_takesNumbers_72 : decode cX4_takesNumbers 72 = .ok (.aload_n 0, 1) := by decide +kernel
theorem dX4_takesNumbers_73 : decode cX4_takesNumbers 73 = .ok (.iload_n 2, 1) := by decide +kernel
theorem dX4_takesNumbers_74 : decode cX4_takesNumbers 74 = .ok (.iconst 1, 1) := by decide +kernel
theorem dX4_takesNumbers_75 : decode cX4_takesNumbers 75 = .ok (.iadd, 1) := by decide +kernel
theorem dX4_takesNumbers_76 : decode cX4_takesNumbers 76 = .ok (.invokevirtual 222, 3) := by decide +kernel
theorem dX4_takesNumbers_79 : decode cX4_takesNumbers 79 = .ok (.ifCond .eq 7, 3) := by decide +kernel
theorem dX4_takesNumbers_82 : decode cX4_takesNumbers 82 = .ok (.iconst 1, 1) := by decide +kernel
theorem dX4_takesNumbers_83 : decode cX4_takesNumbers 83 = .ok (.goto 4, 3) := by decide +kernel
theorem dX4_takesNumbers_86 : decode cX4_takesNumbers 86 = .ok (.iconst 0, 1) := by decide +kernel
theorem dX4_takesNumbers_87 : decode cX4_takesNumbers 87 = .ok (.ireturn, 1) := by decide +kernel
theorem dX4_takesNumbers_88 : decode cX4_takesNumbers 88 = .ok (.iconst 1, 1) := by decide +kernel
theorem dX4_takesNumbers_89 : decode cX4_takesNumbers 89 = .ok (.ireturn, 1) := by decide +kernel
theorem dX4_takesOrder_0 : decode cX4_takesOrder 0 = .ok (.aload_n 0, 1) := by decide +kernel
theorem dX4_takesOrder_1 : decode cX4_takesOrder 1 = .ok (.getfield 22, 3) := by decide +kernel
theorem dX4_takesOrder_4 : decode cX4_takesOrder 4 = .ok (.aload_n 0, 1) := by decide +kernel
theorem dX4_takesOrder_5 : decode cX4_takesOrder 5 = .ok (.getfield 201, 3) := by decide +kernel
theorem dX4_takesOrder_8 : decode cX4_takesOrder 8 = .ok (.iaload, 1) := by decide +kernel
theorem dX4_takesOrder_9 : decode cX4_takesOrder 9 = .ok (.istore_n 1, 1) := by decide +kernel
theorem dX4_takesOrder_10 : decode cX4_takesOrder 10 = .ok (.iload_n 1, 1) := by decide +kernel
theorem dX4_takesOrder_11 : decode cX4_takesOrder 11 = .ok (.bipush 99, 2) := by decide +kernel
theorem dX4_takesOrder_13 : decode cX4_takesOrder 13 = .ok (.if_icmp .eq 36, 3) := by decide +kernel
theorem dX4_takesOrder_16 : decode cX4_takesOrder 16 = .ok (.iload_n 1, 1) := by decide +kernel
theorem dX4_takesOrder_17 : decode cX4_takesOrder 17 = .ok (.bipush 102, 2) := by decide +kernel
theorem dX4_takesOrder_19 : decode cX4_takesOrder 19 = .ok (.if_icmp .eq 30, 3) := by decide +kernel
theorem dX4_takesOrder_22 : decode cX4_takesOrder 22 = .ok (.iload_n 1, 1) := by decide +kernel
theorem dX4_takesOrder_23 : decode cX4_takesOrder 23 = .ok (.bipush 108, 2) := by decide +kernel
theorem dX4_takesOrder_25 : decode cX4_takesOrder 25 = .ok (.if_icmp .eq 24, 3) := by decide +kernel
theorem dX4_takesOrder_28 : decode cX4_takesOrder 28 = .ok (.iload_n 1, 1) := by decide +kernel
theorem dX4_takesOrder_29 : decode cX4_takesOrder 29 = .ok (.bipush 112, 2) := by decide +kernel
theorem dX4_takesOrder_31 : decode cX4_takesOrder 31 = .ok (.if_icmp .eq 18, 3) := by decide +kernel
theorem dX4_takesOrder_34 : decode cX4_takesOrder 34 = .ok (.iload_n 1, 1) := by decide +kernel
theorem dX4_takesOrder_35 : decode cX4_takesOrder 35 = .ok (.bipush 115, 2) := by decide +kernel
theorem dX4_takesOrder_37 : decode cX4_takesOrder 37 = .ok (.if_icmp .eq 12, 3) := by decide +kernel
theorem dX4_takesOrder_40 : decode cX4_takesOrder 40 = .ok (.aload_n 0, 1) := by decide +kernel
theorem dX4_takesOrder_41 : decode cX4_takesOrder 41 = .ok (.aload_n 0, 1) := by decide +kernel
theorem dX4_takesOrder_42 : decode cX4_takesOrder 42 = .ok (.getfield 201, 3) := by decide +kernel
theorem dX4_takesOrder_45 : decode cX4_takesOrder 45 = .ok (.invokevirtual 213, 3) := by decide +kernel
theorem dX4_takesOrder_48 : decode cX4_takesOrder 48 = .ok (.ireturn, 1) := by decide +kernel
theorem dX4_takesOrder_49 : decode cX4_takesOrder 49 = .ok (.aload_n 0, 1) := by decide +kernel
theorem dX4_takesOrder_50 : decode cX4_takesOrder 50 = .ok (.getfield 32, 3) := by decide +kernel
theorem dX4_takesOrder_53 : decode cX4_takesOrder 53 = .ok (.aload_n 0, 1) := by decide +kernel
theorem dX4_takesOrder_54 : decode cX4_takesOrder 54 = .ok (.getfield 216, 3) := by decide +kernel
theorem dX4_takesOrder_57 : decode cX4_takesOrder 57 = .ok (.iload_n 1, 1) := by decide +kernel
theorem dX4_takesOrder_58 : decode cX4_takesOrder 58 = .ok (.iastore, 1) := by decide +kernel
theorem dX4_takesOrder_59 : decode cX4_takesOrder 59 = .ok (.aload_n 0, 1) := by decide +kernel
theorem dX4_takesOrder_60 : decode cX4_takesOrder 60 = .ok (.dup, 1) := by decide +kernel
theorem dX4_takesOrder_61 : decode cX4_takesOrder 61 = .ok (.getfield 201, 3) := by decide +kernel
theorem dX4_takesOrder_64 : decode cX4_takesOrder 64 = .ok (.iconst 1, 1) := by decide +kernel
theorem dX4_takesOrder_65 : decode cX4_takesOrder 65 = .ok (.iadd, 1) := by decide +kernel
theorem dX4_takesOrder_66 : decode cX4_takesOrder 66 = .ok (.putfield 201, 3) := by decide +kernel
theorem dX4_takesOrder_69 : decode cX4_takesOrder 69 = .ok (.aload_n 0, 1) := by decide +kernel
theorem dX4_takesOrder_70 : decode cX4_takesOrder 70 = .ok (.iload_n 1, 1) := by decide +kernel
theorem dX4_takesOrder_71 : decode cX4_takesOrder 71 = .ok (.invokevirtual 225, 3) := by decide +kernel
theorem dX4_takesOrder_74 : decode cX4_takesOrder 74 = .ok (.ifCond .ne 5, 3) := by decide +kernel
theorem dX4_takesOrder_77 : decode cX4_takesOrder 77 = .ok (.iconst 0, 1) := by decide +kernel
theorem dX4_takesOrder_78 : decode cX4_takesOrder 78 = .ok (.ireturn, 1) := by decide +kernel
theorem dX4_takesOrder_79 : decode cX4_takesOrder 79 = .ok (.aload_n 0, 1) := by decide +kernel
theorem dX4_takesOrder_80 : decode cX4_takesOrder 80 = .ok (.invokevirtual 210, 3) := by decide +kernel
theorem dX4_takesOrder_83 : decode cX4_takesOrder 83 = .ok (.aload_n 0, 1) := by decide +kernel
theorem dX4_takesOrder_84 : decode cX4_takesOrder 84 = .ok (.bipush 59, 2) := by decide +kernel
theorem dX4_takesOrder_86 : decode cX4_takesOrder 86 = .ok (.bipush 59, 2) := by decide +kernel
theorem dX4_takesOrder_88 : decode cX4_takesOrder 88 = .ok (.invokevirtual 204, 3) := by decide +kernel
theorem dX4_takesOrder_91 : decode cX4_takesOrder 91 = .ok (.ifCond .ne 12, 3) := by decide +kernel
theorem dX4_takesOrder_94 : decode cX4_takesOrder 94 = .ok (.aload_n 0, 1) := by decide +kernel
theorem dX4_takesOrder_95 : decode cX4_takesOrder 95 = .ok (.aload_n 0, 1) := by decide +kernel
theorem dX4_takesOrder_96 : decode cX4_takesOrder 96 = .ok (.getfield 201, 3) := by decide +kernel
theorem dX4_takesOrder_99 : decode cX4_takesOrder 99 = .ok (.invokevirtual 213, 3) := by decide +kernel
theorem dX4_takesOrder_102 : decode cX4_takesOrder 102 = .ok (.ireturn, 1) := by decide +kernel
theorem dX4_takesOrder_103 : decode cX4_takesOrder 103 = .ok (.aload_n 0, 1) := by decide +kernel
theorem dX4_takesOrder_104 : decode cX4_takesOrder 104 = .ok (.dup, 1) := by decide +kernel
theorem dX4_takesOrder_105 : decode cX4_takesOrder 105 = .ok (.getfield 201, 3) := by decide +kernel
theorem dX4_takesOrder_108 : decode cX4_takesOrder 108 = .ok (.iconst 1, 1) := by decide +kernel
theorem dX4_takesOrder_109 : decode cX4_takesOrder 109 = .ok (.iadd, 1) := by decide +kernel
theorem dX4_takesOrder_110 : decode cX4_takesOrder 110 = .ok (.putfield 201, 3) := by decide +kernel
theorem dX4_takesOrder_113 : decode cX4_takesOrder 113 = .ok (.aload_n 0, 1) := by decide +kernel
theorem dX4_takesOrder_114 : decode cX4_takesOrder 114 = .ok (.dup, 1) := by decide +kernel
theorem dX4_takesOrder_115 : decode cX4_takesOrder 115 = .ok (.getfield 216, 3) := by decide +kernel
theorem dX4_takesOrder_118 : decode cX4_takesOrder 118 = .ok (.iconst 1, 1) := by decide +kernel
theorem dX4_takesOrder_119 : decode cX4_takesOrder 119 = .ok (.iadd, 1) := by decide +kernel
theorem dX4_takesOrder_120 : decode cX4_takesOrder 120 = .ok (.putfield 216, 3) := by decide +kernel
theorem dX4_takesOrder_123 : decode cX4_takesOrder 123 = .ok (.iconst 1, 1) := by decide +kernel
theorem dX4_takesOrder_124 : decode cX4_takesOrder 124 = .ok (.ireturn, 1) := by decide +kernel
theorem dX4_isRead_0 : decode cX4_isRead 0 = .ok (.aload_n 0, 1) := by decide +kernel
theorem dX4_isRead_1 : decode cX4_isRead 1 = .ok (.iconst 0, 1) := by decide +kernel
theorem dX4_isRead_2 : decode cX4_isRead 2 = .ok (.putfield 201, 3) := by decide +kernel
theorem dX4_isRead_5 : decode cX4_isRead 5 = .ok (.aload_n 0, 1) := by decide +kernel
theorem dX4_isRead_6 : decode cX4_isRead 6 = .ok (.iconst 0, 1) := by decide +kernel
theorem dX4_isRead_7 : decode cX4_isRead 7 = .ok (.putfield 216, 3) := by decide +kernel
theorem dX4_isRead_10 : decode cX4_isRead 10 = .ok (.aload_n 0, 1) := by decide +kernel
theorem dX4_isRead_11 : decode cX4_isRead 11 = .ok (.invokevirtual 210, 3) := by decide +kernel
theorem dX4_isRead_14 : decode cX4_isRead 14 = .ok (.aload_n 0, 1) := by decide +kernel
theorem dX4_isRead_15 : decode cX4_isRead 15 = .ok (.getfield 201, 3) := by decide +kernel
theorem dX4_isRead_18 : decode cX4_isRead 18 = .ok (.aload_n 0, 1) := by decide +kernel
theorem dX4_isRead_19 : decode cX4_isRead 19 = .ok (.getfield 198, 3) := by decide +kernel
theorem dX4_isRead_22 : decode cX4_isRead 22 = .ok (.if_icmp .ge 19, 3) := by decide +kernel
theorem dX4_isRead_25 : decode cX4_isRead 25 = .ok (.aload_n 0, 1) := by decide +kernel
theorem dX4_isRead_26 : decode cX4_isRead 26 = .ok (.invokevirtual 228, 3) := by decide +kernel
theorem dX4_isRead_29 : decode cX4_isRead 29 = .ok (.ifCond .ne 5, 3) := by decide +kernel
theorem dX4_isRead_32 : decode cX4_isRead 32 = .ok (.iconst 0, 1) := by decide +kernel
theorem dX4_isRead_33 : decode cX4_isRead 33 = .ok (.ireturn, 1) := by decide +kernel
theorem dX4_isRead_34 : decode cX4_isRead 34 = .ok (.aload_n 0, 1) := by decide +kernel
theorem dX4_isRead_35 : decode cX4_isRead 35 = .ok (.invokevirtual 210, 3) := by decide +kernel
theorem dX4_isRead_38 : decode cX4_isRead 38 = .ok (.goto (-24), 3) := by decide +kernel
theorem dX4_isRead_41 : decode cX4_isRead 41 = .ok (.aload_n 0, 1) := by decide +kernel
theorem dX4_isRead_42 : decode cX4_isRead 42 = .ok (.getfield 216, 3) := by decide +kernel
theorem dX4_isRead_45 : decode cX4_isRead 45 = .ok (.ifCond .gt 14, 3) := by decide +kernel
theorem dX4_isRead_48 : decode cX4_isRead 48 = .ok (.aload_n 0, 1) := by decide +kernel
theorem dX4_isRead_49 : decode cX4_isRead 49 = .ok (.aload_n 0, 1) := by decide +kernel
theorem dX4_isRead_50 : decode cX4_isRead 50 = .ok (.getfield 198, 3) := by decide +kernel
theorem dX4_isRead_53 : decode cX4_isRead 53 = .ok (.invokevirtual 213, 3) := by decide +kernel
theorem dX4_isRead_56 : decode cX4_isRead 56 = .ok (.ifCond .eq 7, 3) := by decide +kernel
theorem dX4_isRead_59 : decode cX4_isRead 59 = .ok (.iconst 1, 1) := by decide +kernel
theorem dX4_isRead_60 : decode cX4_isRead 60 = .ok (.goto 4, 3) := by decide +kernel
theorem dX4_isRead_63 : decode cX4_isRead 63 = .ok (.iconst 0, 1) := by decide +kernel
theorem dX4_isRead_64 : decode cX4_isRead 64 = .ok (.ireturn, 1) := by decide +kernel
theorem dX4_comesTold_0 : decode cX4_comesTold 0 = .ok (.aload_n 0, 1) := by decide +kernel
theorem dX4_comesTold_1 : decode cX4_comesTold 1 = .ok (.getfield 7, 3) := by decide +kernel
theorem dX4_comesTold_4 : decode cX4_comesTold 4 = .ok (.iconst 0, 1) := by decide +kernel
theorem dX4_comesTold_5 : decode cX4_comesTold 5 = .ok (.iaload, 1) := by decide +kernel
theorem dX4_comesTold_6 : decode cX4_comesTold 6 = .ok (.bipush 20, 2) := by decide +kernel
theorem dX4_comesTold_8 : decode cX4_comesTold 8 = .ok (.if_icmp .ge 31, 3) := by decide +kernel
theorem dX4_comesTold_11 : decode cX4_comesTold 11 = .ok (.aload_n 0, 1) := by decide +kernel
theorem dX4_comesTold_12 : decode cX4_comesTold 12 = .ok (.iload_n 1, 1) := by decide +kernel
theorem dX4_comesTold_13 : decode cX4_comesTold 13 = .ok (.bipush 16, 2) := by decide +kernel
theorem dX4_comesTold_15 : decode cX4_comesTold 15 = .ok (.ishr, 1) := by decide +kernel
theorem dX4_comesTold_16 : decode cX4_comesTold 16 = .ok (.iload_n 1, 1) := by decide +kernel
theorem dX4_comesTold_17 : decode cX4_comesTold 17 = .ok (.bipush 8, 2) := by decide +kernel
theorem dX4_comesTold_19 : decode cX4_comesTold 19 = .ok (.ishr, 1) := by decide +kernel
theorem dX4_comesTold_20 : decode cX4_comesTold 20 = .ok (.sipush 255, 3) := by decide +kernel
theorem dX4_comesTold_23 : decode cX4_comesTold 23 = .ok (.iand, 1) := by decide +kernel
theorem dX4_comesTold_24 : decode cX4_comesTold 24 = .ok (.iload_n 1, 1) := by decide +kernel
theorem dX4_comesTold_25 : decode cX4_comesTold 25 = .ok (.sipush 255, 3) := by decide +kernel
theorem dX4_comesTold_28 : decode cX4_comesTold 28 = .ok (.iand, 1) := by decide +kernel
theorem dX4_comesTold_29 : decode cX4_comesTold 29 = .ok (.invokevirtual 77, 3) := by decide +kernel
theorem dX4_comesTold_32 : decode cX4_comesTold 32 = .ok (.ifCond .lt 7, 3) := by decide +kernel
theorem dX4_comesTold_35 : decode cX4_comesTold 35 = .ok (.iconst 1, 1) := by decide +kernel
theorem dX4_comesTold_36 : decode cX4_comesTold 36 = .ok (.goto 4, 3) := by decide +kernel
theorem dX4_comesTold_39 : decode cX4_comesTold 39 = .ok (.iconst 0, 1) := by decide +kernel
theorem dX4_comesTold_40 : decode cX4_comesTold 40 = .ok (.ireturn, 1) := by decide +kernel
theorem dX4_limits_0 : decode cX4_limits 0 = .ok (.iload_n 1, 1) := by decide +kernel
theorem dX4_limits_1 : decode cX4_limits 1 = .ok (.invokestatic 53, 3) := by decide +kernel
theorem dX4_limits_4 : decode cX4_limits 4 = .ok (.ifCond .eq 10, 3) := by decide +kernel
theorem dX4_limits_7 : decode cX4_limits 7 = .ok (.iload_n 2, 1) := by decide +kernel
theorem dX4_limits_8 : decode cX4_limits 8 = .ok (.invokestatic 53, 3) := by decide +kernel
theorem dX4_limits_11 : decode cX4_limits 11 = .ok (.ifCond .ne 5, 3) := by decide +kernel
theorem dX4_limits_14 : decode cX4_limits 14 = .ok (.iconst 0, 1) := by decide +kernel
theorem dX4_limits_15 : decode cX4_limits 15 = .ok (.ireturn, 1) := by decide +kernel
theorem dX4_limits_16 : decode cX4_limits 16 = .ok (.aload_n 0, 1) := by decide +kernel
theorem dX4_limits_17 : decode cX4_limits 17 = .ok (.getfield 7, 3) := by decide +kernel
theorem dX4_limits_20 : decode cX4_limits 20 = .ok (.bipush 114, 2) := by decide +kernel
theorem dX4_limits_22 : decode cX4_limits 22 = .ok (.iload_n 1, 1) := by decide +kernel
theorem dX4_limits_23 : decode cX4_limits 23 = .ok (.iastore, 1) := by decide +kernel
theorem dX4_limits_24 : decode cX4_limits 24 = .ok (.aload_n 0, 1) := by decide +kernel
theorem dX4_limits_25 : decode cX4_limits 25 = .ok (.getfield 7, 3) := by decide +kernel
theorem dX4_limits_28 : decode cX4_limits 28 = .ok (.bipush 115, 2) := by decide +kernel
theorem dX4_limits_30 : decode cX4_limits 30 = .ok (.iload_n 2, 1) := by decide +kernel
theorem dX4_limits_31 : decode cX4_limits 31 = .ok (.iastore, 1) := by decide +kernel
theorem dX4_limits_32 : decode cX4_limits 32 = .ok (.iconst 1, 1) := by decide +kernel
theorem dX4_limits_33 : decode cX4_limits 33 = .ok (.ireturn, 1) := by decide +kernel
theorem dX4_obeys_0 : decode cX4_obeys 0 = .ok (.aload_n 0, 1) := by decide +kernel
theorem dX4_obeys_1 : decode cX4_obeys 1 = .ok (.getfield 35, 3) := by decide +kernel
theorem dX4_obeys_4 : decode cX4_obeys 4 = .ok (.iconst 2, 1) := by decide +kernel
theorem dX4_obeys_5 : decode cX4_obeys 5 = .ok (.iload_n 1, 1) := by decide +kernel
theorem dX4_obeys_6 : decode cX4_obeys 6 = .ok (.imul, 1) := by decide +kernel
theorem dX4_obeys_7 : decode cX4_obeys 7 = .ok (.iaload, 1) := by decide +kernel
theorem dX4_obeys_8 : decode cX4_obeys 8 = .ok (.istore_n 2, 1) := by decide +kernel
theorem dX4_obeys_9 : decode cX4_obeys 9 = .ok (.aload_n 0, 1) := by decide +kernel
theorem dX4_obeys_10 : decode cX4_obeys 10 = .ok (.getfield 32, 3) := by decide +kernel
theorem dX4_obeys_13 : decode cX4_obeys 13 = .ok (.iload_n 1, 1) := by decide +kernel
theorem dX4_obeys_14 : decode cX4_obeys 14 = .ok (.iaload, 1) := by decide +kernel
theorem dX4_obeys_15 : decode cX4_obeys 15 = .ok (.lookupswitch 145 #[(99, 41), (102, 47), (108, 97), (112, 113)], 41) := by decide +kernel
theorem dX4_obeys_56 : decode cX4_obeys 56 = .ok (.aload_n 0, 1) := by decide +kernel
theorem dX4_obeys_57 : decode cX4_obeys 57 = .ok (.iload_n 2, 1) := by decide +kernel
theorem dX4_obeys_58 : decode cX4_obeys 58 = .ok (.invokevirtual 231, 3) := by decide +kernel
theorem dX4_obeys_61 : decode cX4_obeys 61 = .ok (.ireturn, 1) := by decide +kernel
theorem dX4_obeys_62 : decode cX4_obeys 62 = .ok (.aload_n 0, 1) := by decide +kernel
theorem dX4_obeys_63 : decode cX4_obeys 63 = .ok (.iload_n 2, 1) := by decide +kernel
theorem dX4_obeys_64 : decode cX4_obeys 64 = .ok (.invokevirtual 81, 3) := by decide +kernel
theorem dX4_obeys_67 : decode cX4_obeys 67 = .ok (.ifCond .eq 43, 3) := by decide +kernel
theorem dX4_obeys_70 : decode cX4_obeys 70 = .ok (.aload_n 0, 1) := by decide +kernel
theorem dX4_obeys_71 : decode cX4_obeys 71 = .ok (.getfield 35, 3) := by decide +kernel
theorem dX4_obeys_74 : decode cX4_obeys 74 = .ok (.iconst 2, 1) := by decide +kernel
theorem dX4_obeys_75 : decode cX4_obeys 75 = .ok (.iload_n 1, 1) := by decide +kernel
theorem dX4_obeys_76 : decode cX4_obeys 76 = .ok (.imul, 1) := by decide +kernel
theorem dX4_obeys_77 : decode cX4_obeys 77 = .ok (.iconst 1, 1) := by decide +kernel
theorem dX4_obeys_78 : decode cX4_obeys 78 = .ok (.iadd, 1) := by decide +kernel
theorem dX4_obeys_79 : decode cX4_obeys 79 = .ok (.iaload, 1) := by decide +kernel
theorem dX4_obeys_80 : decode cX4_obeys 80 = .ok (.iconst 0, 1) := by decide +kernel
theorem dX4_obeys_81 : decode cX4_obeys 81 = .ok (.iconst 1, 1) := by decide +kernel
theorem dX4_obeys_82 : decode cX4_obeys 82 = .ok (.invokestatic 49, 3) := by decide +kernel
theorem dX4_obeys_85 : decode cX4_obeys 85 = .ok (.ifCond .eq 25, 3) := by decide +kernel
theorem dX4_obeys_88 : decode cX4_obeys 88 = .ok (.aload_n 0, 1) := by decide +kernel
theorem dX4_obeys_89 : decode cX4_obeys 89 = .ok (.iload_n 2, 1) := by decide +kernel
theorem dX4_obeys_90 : decode cX4_obeys 90 = .ok (.aload_n 0, 1) := by decide +kernel
theorem dX4_obeys_91 : decode cX4_obeys 91 = .ok (.getfield 35, 3) := by decide +kernel
theorem dX4_obeys_94 : decode cX4_obeys 94 = .ok (.iconst 2, 1) := by decide +kernel
theorem dX4_obeys_95 : decode cX4_obeys 95 = .ok (.iload_n 1, 1) := by decide +kernel
theorem dX4_obeys_96 : decode cX4_obeys 96 = .ok (.imul, 1) := by decide +kernel
theorem dX4_obeys_97 : decode cX4_obeys 97 = .ok (.iconst 1, 1) := by decide +kernel
theorem dX4_obeys_98 : decode cX4_obeys 98 = .ok (.iadd, 1) := by decide +kernel
theorem dX4_obeys_99 : decode cX4_obeys 99 = .ok (.iaload, 1) := by decide +kernel
theorem dX4_obeys_100 : decode cX4_obeys 100 = .ok (.invokevirtual 98, 3) := by decide +kernel
theorem dX4_obeys_103 : decode cX4_obeys 103 = .ok (.ifCond .lt 7, 3) := by decide +kernel
theorem dX4_obeys_106 : decode cX4_obeys 106 = .ok (.iconst 1, 1) := by decide +kernel
theorem dX4_obeys_107 : decode cX4_obeys 107 = .ok (.goto 4, 3) := by decide +kernel
theorem dX4_obeys_110 : decode cX4_obeys 110 = .ok (.iconst 0, 1) := by decide +kernel
theorem dX4_obeys_111 : decode cX4_obeys 111 = .ok (.ireturn, 1) := by decide +kernel
theorem dX4_obeys_112 : decode cX4_obeys 112 = .ok (.aload_n 0, 1) := by decide +kernel
theorem dX4_obeys_113 : decode cX4_obeys 113 = .ok (.iload_n 2, 1) := by decide +kernel
theorem dX4_obeys_114 : decode cX4_obeys 114 = .ok (.aload_n 0, 1) := by decide +kernel
theorem dX4_obeys_115 : decode cX4_obeys 115 = .ok (.getfield 35, 3) := by decide +kernel
theorem dX4_obeys_118 : decode cX4_obeys 118 = .ok (.iconst 2, 1) := by decide +kernel
theorem dX4_obeys_119 : decode cX4_obeys 119 = .ok (.iload_n 1, 1) := by decide +kernel
theorem dX4_obeys_120 : decode cX4_obeys 120 = .ok (.imul, 1) := by decide +kernel
theorem dX4_obeys_121 : decode cX4_obeys 121 = .ok (.iconst 1, 1) := by decide +kernel
theorem dX4_obeys_122 : decode cX4_obeys 122 = .ok (.iadd, 1) := by decide +kernel
theorem dX4_obeys_123 : decode cX4_obeys 123 = .ok (.iaload, 1) := by decide +kernel
theorem dX4_obeys_124 : decode cX4_obeys 124 = .ok (.invokevirtual 234, 3) := by decide +kernel
theorem dX4_obeys_127 : decode cX4_obeys 127 = .ok (.ireturn, 1) := by decide +kernel
theorem dX4_obeys_128 : decode cX4_obeys 128 = .ok (.iload_n 2, 1) := by decide +kernel
theorem dX4_obeys_129 : decode cX4_obeys 129 = .ok (.iconst 1, 1) := by decide +kernel
theorem dX4_obeys_130 : decode cX4_obeys 130 = .ok (.bipush 8, 2) := by decide +kernel
theorem dX4_obeys_132 : decode cX4_obeys 132 = .ok (.invokestatic 49, 3) := by decide +kernel
theorem dX4_obeys_135 : decode cX4_obeys 135 = .ok (.ifCond .eq 23, 3) := by decide +kernel
theorem dX4_obeys_138 : decode cX4_obeys 138 = .ok (.aload_n 0, 1) := by decide +kernel
theorem dX4_obeys_139 : decode cX4_obeys 139 = .ok (.iload_n 2, 1) := by decide +kernel
theorem dX4_obeys_140 : decode cX4_obeys 140 = .ok (.invokevirtual 155, 3) := by decide +kernel
theorem dX4_obeys_143 : decode cX4_obeys 143 = .ok (.ifCond .eq 15, 3) := by decide +kernel
theorem dX4_obeys_146 : decode cX4_obeys 146 = .ok (.aload_n 0, 1) := by decide +kernel
theorem dX4_obeys_147 : decode cX4_obeys 147 = .ok (.iload_n 2, 1) := by decide +kernel
theorem dX4_obeys_148 : decode cX4_obeys 148 = .ok (.invokevirtual 158, 3) := by decide +kernel
theorem dX4_obeys_151 : decode cX4_obeys 151 = .ok (.ifCond .lt 7, 3) := by decide +kernel
theorem dX4_obeys_154 : decode cX4_obeys 154 = .ok (.iconst 1, 1) := by decide +kernel
theorem dX4_obeys_155 : decode cX4_obeys 155 = .ok (.goto 4, 3) := by decide +kernel
theorem dX4_obeys_158 : decode cX4_obeys 158 = .ok (.iconst 0, 1) := by decide +kernel
theorem dX4_obeys_159 : decode cX4_obeys 159 = .ok (.ireturn, 1) := by decide +kernel
theorem dX4_obeys_160 : decode cX4_obeys 160 = .ok (.aload_n 0, 1) := by decide +kernel
theorem dX4_obeys_161 : decode cX4_obeys 161 = .ok (.invokevirtual 171, 3) := by decide +kernel
theorem dX4_obeys_164 : decode cX4_obeys 164 = .ok (.ifCond .lt 7, 3) := by decide +kernel
theorem dX4_obeys_167 : decode cX4_obeys 167 = .ok (.iconst 1, 1) := by decide +kernel
theorem dX4_obeys_168 : decode cX4_obeys 168 = .ok (.goto 4, 3) := by decide +kernel
theorem dX4_obeys_171 : decode cX4_obeys 171 = .ok (.iconst 0, 1) := by decide +kernel
theorem dX4_obeys_172 : decode cX4_obeys 172 = .ok (.ireturn, 1) := by decide +kernel
theorem dX4_turns_0 : decode cX4_turns 0 = .ok (.iconst 0, 1) := by decide +kernel
theorem dX4_turns_1 : decode cX4_turns 1 = .ok (.istore_n 1, 1) := by decide +kernel
theorem dX4_turns_2 : decode cX4_turns 2 = .ok (.iload_n 1, 1) := by decide +kernel
theorem dX4_turns_3 : decode cX4_turns 3 = .ok (.sipush 129, 3) := by decide +kernel
theorem dX4_turns_6 : decode cX4_turns 6 = .ok (.if_icmp .ge 35, 3) := by decide +kernel
theorem dX4_turns_9 : decode cX4_turns 9 = .ok (.aload_n 0, 1) := by decide +kernel
theorem dX4_turns_10 : decode cX4_turns 10 = .ok (.getfield 7, 3) := by decide +kernel
theorem dX4_turns_13 : decode cX4_turns 13 = .ok (.iload_n 1, 1) := by decide +kernel
theorem dX4_turns_14 : decode cX4_turns 14 = .ok (.iaload, 1) := by decide +kernel
theorem dX4_turns_15 : decode cX4_turns 15 = .ok (.istore_n 2, 1) := by decide +kernel
theorem dX4_turns_16 : decode cX4_turns 16 = .ok (.aload_n 0, 1) := by decide +kernel
theorem dX4_turns_17 : decode cX4_turns 17 = .ok (.getfield 7, 3) := by decide +kernel
theorem dX4_turns_20 : decode cX4_turns 20 = .ok (.iload_n 1, 1) := by decide +kernel
theorem dX4_turns_21 : decode cX4_turns 21 = .ok (.aload_n 0, 1) := by decide +kernel
theorem dX4_turns_22 : decode cX4_turns 22 = .ok (.getfield 13, 3) := by decide +kernel
theorem dX4_turns_25 : decode cX4_turns 25 = .ok (.iload_n 1, 1) := by decide +kernel
theorem dX4_turns_26 : decode cX4_turns 26 = .ok (.iaload, 1) := by decide +kernel
theorem dX4_turns_27 : decode cX4_turns 27 = .ok (.iastore, 1) := by decide +kernel
theorem dX4_turns_28 : decode cX4_turns 28 = .ok (.aload_n 0, 1) := by decide +kernel
theorem dX4_turns_29 : decode cX4_turns 29 = .ok (.getfield 13, 3) := by decide +kernel
theorem dX4_turns_32 : decode cX4_turns 32 = .ok (.iload_n 1, 1) := by decide +kernel
theorem dX4_turns_33 : decode cX4_turns 33 = .ok (.iload_n 2, 1) := by decide +kernel
theorem dX4_turns_34 : decode cX4_turns 34 = .ok (.iastore, 1) := by decide +kernel
theorem dX4_turns_35 : decode cX4_turns 35 = .ok (.iinc 1 1, 3) := by decide +kernel
theorem dX4_turns_38 : decode cX4_turns 38 = .ok (.goto (-36), 3) := by decide +kernel
theorem dX4_turns_41 : decode cX4_turns 41 = .ok (.return_, 1) := by decide +kernel
theorem dX4_does_0 : decode cX4_does 0 = .ok (.aload_n 0, 1) := by decide +kernel
theorem dX4_does_1 : decode cX4_does 1 = .ok (.invokevirtual 237, 3) := by decide +kernel
theorem dX4_does_4 : decode cX4_does 4 = .ok (.ifCond .ne 11, 3) := by decide +kernel
theorem dX4_does_7 : decode cX4_does 7 = .ok (.bipush (-10), 2) := by decide +kernel
theorem dX4_does_9 : decode cX4_does 9 = .ok (.aload_n 0, 1) := by decide +kernel
theorem dX4_does_10 : decode cX4_does 10 = .ok (.getfield 207, 3) := by decide +kernel
theorem dX4_does_13 : decode cX4_does 13 = .ok (.isub, 1) := by decide +kernel
theorem dX4_does_14 : decode cX4_does 14 = .ok (.ireturn, 1) := by decide +kernel
theorem dX4_does_15 : decode cX4_does 15 = .ok (.iconst 0, 1) := by decide +kernel
theorem dX4_does_16 : decode cX4_does 16 = .ok (.istore_n 1, 1) := by decide +kernel
theorem dX4_does_17 : decode cX4_does 17 = .ok (.iload_n 1, 1) := by decide +kernel
theorem dX4_does_18 : decode cX4_does 18 = .ok (.sipush 129, 3) := by decide +kernel
theorem dX4_does_21 : decode cX4_does 21 = .ok (.if_icmp .ge 21, 3) := by decide +kernel
theorem dX4_does_24 : decode cX4_does 24 = .ok (.aload_n 0, 1) := by decide +kernel
theorem dX4_does_25 : decode cX4_does 25 = .ok (.getfield 13, 3) := by decide +kernel
theorem dX4_does_28 : decode cX4_does 28 = .ok (.iload_n 1, 1) := by decide +kernel
theorem dX4_does_29 : decode cX4_does 29 = .ok (.aload_n 0, 1) := by decide +kernel
theorem dX4_does_30 : decode cX4_does 30 = .ok (.getfield 7, 3) := by decide +kernel
theorem dX4_does_33 : decode cX4_does 33 = .ok (.iload_n 1, 1) := by decide +kernel
theorem dX4_does_34 : decode cX4_does 34 = .ok (.iaload, 1) := by decide +kernel
theorem dX4_does_35 : decode cX4_does 35 = .ok (.iastore, 1) := by decide +kernel
theorem dX4_does_36 : decode cX4_does 36 = .ok (.iinc 1 1, 3) := by decide +kernel
theorem dX4_does_39 : decode cX4_does 39 = .ok (.goto (-22), 3) := by decide +kernel
theorem dX4_does_42 : decode cX4_does 42 = .ok (.iconst 0, 1) := by decide +kernel
theorem dX4_does_43 : decode cX4_does 43 = .ok (.istore_n 1, 1) := by decide +kernel
theorem dX4_does_44 : decode cX4_does 44 = .ok (.iload_n 1, 1) := by decide +kernel
theorem dX4_does_45 : decode cX4_does 45 = .ok (.aload_n 0, 1) := by decide +kernel
theorem dX4_does_46 : decode cX4_does 46 = .ok (.getfield 216, 3) := by decide +kernel
theorem dX4_does_49 : decode cX4_does 49 = .ok (.if_icmp .ge 27, 3) := by decide +kernel
theorem dX4_does_52 : decode cX4_does 52 = .ok (.aload_n 0, 1) := by decide +kernel
theorem dX4_does_53 : decode cX4_does 53 = .ok (.iload_n 1, 1) := by decide +kernel
theorem dX4_does_54 : decode cX4_does 54 = .ok (.invokevirtual 240, 3) := by decide +kernel
theorem dX4_does_57 : decode cX4_does 57 = .ok (.ifCond .ne 13, 3) := by decide +kernel
theorem dX4_does_60 : decode cX4_does 60 = .ok (.aload_n 0, 1) := by decide +kernel
theorem dX4_does_61 : decode cX4_does 61 = .ok (.invokevirtual 243, 3) := by decide +kernel
theorem dX4_does_64 : decode cX4_does 64 = .ok (.sipush (-1000), 3) := by decide +kernel
theorem dX4_does_67 : decode cX4_does 67 = .ok (.iload_n 1, 1) := by decide +kernel
theorem dX4_does_68 : decode cX4_does 68 = .ok (.isub, 1) := by decide +kernel
theorem dX4_does_69 : decode cX4_does 69 = .ok (.ireturn, 1) := by decide +kernel
theorem dX4_does_70 : decode cX4_does 70 = .ok (.iinc 1 1, 3) := by decide +kernel
theorem dX4_does_73 : decode cX4_does 73 = .ok (.goto (-29), 3) := by decide +kernel
theorem dX4_does_76 : decode cX4_does 76 = .ok (.aload_n 0, 1) := by decide +kernel
theorem dX4_does_77 : decode cX4_does 77 = .ok (.invokevirtual 243, 3) := by decide +kernel
theorem dX4_does_80 : decode cX4_does 80 = .ok (.aload_n 0, 1) := by decide +kernel
theorem dX4_does_81 : decode cX4_does 81 = .ok (.invokevirtual 74, 3) := by decide +kernel
theorem dX4_does_84 : decode cX4_does 84 = .ok (.aload_n 0, 1) := by decide +kernel
theorem dX4_does_85 : decode cX4_does 85 = .ok (.invokevirtual 243, 3) := by decide +kernel
theorem dX4_does_88 : decode cX4_does 88 = .ok (.aload_n 0, 1) := by decide +kernel
theorem dX4_does_89 : decode cX4_does 89 = .ok (.getfield 216, 3) := by decide +kernel
theorem dX4_does_92 : decode cX4_does 92 = .ok (.ireturn, 1) := by decide +kernel
theorem dX4_toldOf_0 : decode cX4_toldOf 0 = .ok (.iload_n 1, 1) := by decide +kernel
theorem dX4_toldOf_1 : decode cX4_toldOf 1 = .ok (.iconst 3, 1) := by decide +kernel
theorem dX4_toldOf_2 : decode cX4_toldOf 2 = .ok (.if_icmp .ge 12, 3) := by decide +kernel
theorem dX4_toldOf_5 : decode cX4_toldOf 5 = .ok (.aload_n 0, 1) := by decide +kernel
theorem dX4_toldOf_6 : decode cX4_toldOf 6 = .ok (.getfield 19, 3) := by decide +kernel
theorem dX4_toldOf_9 : decode cX4_toldOf 9 = .ok (.iload_n 1, 1) := by decide +kernel
theorem dX4_toldOf_10 : decode cX4_toldOf 10 = .ok (.iaload, 1) := by decide +kernel
theorem dX4_toldOf_11 : decode cX4_toldOf 11 = .ok (.goto 40, 3) := by decide +kernel
theorem dX4_toldOf_14 : decode cX4_toldOf 14 = .ok (.iload_n 1, 1) := by decide +kernel
theorem dX4_toldOf_15 : decode cX4_toldOf 15 = .ok (.bipush 6, 2) := by decide +kernel
theorem dX4_toldOf_17 : decode cX4_toldOf 17 = .ok (.if_icmp .ge 17, 3) := by decide +kernel
theorem dX4_toldOf_20 : decode cX4_toldOf 20 = .ok (.aload_n 0, 1) := by decide +kernel
theorem dX4_toldOf_21 : decode cX4_toldOf 21 = .ok (.getfield 7, 3) := by decide +kernel
theorem dX4_toldOf_24 : decode cX4_toldOf 24 = .ok (.bipush 114, 2) := by decide +kernel
theorem dX4_toldOf_26 : decode cX4_toldOf 26 = .ok (.iload_n 1, 1) := by decide +kernel
theorem dX4_toldOf_27 : decode cX4_toldOf 27 = .ok (.iadd, 1) := by decide +kernel
theorem dX4_toldOf_28 : decode cX4_toldOf 28 = .ok (.iconst 3, 1) := by decide +kernel
theorem dX4_toldOf_29 : decode cX4_toldOf 29 = .ok (.isub, 1) := by decide +kernel
theorem dX4_toldOf_30 : decode cX4_toldOf 30 = .ok (.iaload, 1) := by decide +kernel
theorem dX4_toldOf_31 : decode cX4_toldOf 31 = .ok (.goto 20, 3) := by decide +kernel
theorem dX4_toldOf_34 : decode cX4_toldOf 34 = .ok (.iload_n 1, 1) := by decide +kernel
theorem dX4_toldOf_35 : decode cX4_toldOf 35 = .ok (.bipush 6, 2) := by decide +kernel
theorem dX4_toldOf_37 : decode cX4_toldOf 37 = .ok (.if_icmp .ne 10, 3) := by decide +kernel
theorem dX4_toldOf_40 : decode cX4_toldOf 40 = .ok (.aload_n 0, 1) := by decide +kernel
theorem dX4_toldOf_41 : decode cX4_toldOf 41 = .ok (.getfield 198, 3) := by decide +kernel
theorem dX4_toldOf_44 : decode cX4_toldOf 44 = .ok (.goto 7, 3) := by decide +kernel
theorem dX4_toldOf_47 : decode cX4_toldOf 47 = .ok (.aload_n 0, 1) := by decide +kernel
theorem dX4_toldOf_48 : decode cX4_toldOf 48 = .ok (.getfield 41, 3) := by decide +kernel
theorem dX4_toldOf_51 : decode cX4_toldOf 51 = .ok (.ireturn, 1) := by decide +kernel
theorem dX4_told_0 : decode cX4_told 0 = .ok (.iload_n 1, 1) := by decide +kernel
theorem dX4_told_1 : decode cX4_told 1 = .ok (.iconst 0, 1) := by decide +kernel
theorem dX4_told_2 : decode cX4_told 2 = .ok (.bipush 7, 2) := by decide +kernel
theorem dX4_told_4 : decode cX4_told 4 = .ok (.invokestatic 49, 3) := by decide +kernel
theorem dX4_told_7 : decode cX4_told 7 = .ok (.ifCond .eq 11, 3) := by decide +kernel
theorem dX4_told_10 : decode cX4_told 10 = .ok (.aload_n 0, 1) := by decide +kernel
theorem dX4_told_11 : decode cX4_told 11 = .ok (.iload_n 1, 1) := by decide +kernel
theorem dX4_told_12 : decode cX4_told 12 = .ok (.invokevirtual 246, 3) := by decide +kernel
theorem dX4_told_15 : decode cX4_told 15 = .ok (.goto 7, 3) := by decide +kernel
theorem dX4_told_18 : decode cX4_told 18 = .ok (.aload_n 0, 1) := by decide +kernel
theorem dX4_told_19 : decode cX4_told 19 = .ok (.invokevirtual 68, 3) := by decide +kernel
theorem dX4_told_22 : decode cX4_told 22 = .ok (.ireturn, 1) := by decide +kernel
theorem dX4_mix_0 : decode cX4_mix 0 = .ok (.aload_n 0, 1) := by decide +kernel
theorem dX4_mix_1 : decode cX4_mix 1 = .ok (.ldc2_w 249, 3) := by decide +kernel
theorem dX4_mix_4 : decode cX4_mix 4 = .ok (.aload_n 0, 1) := by decide +kernel
theorem dX4_mix_5 : decode cX4_mix 5 = .ok (.getfield 251, 3) := by decide +kernel
theorem dX4_mix_8 : decode cX4_mix 8 = .ok (.lmul, 1) := by decide +kernel
theorem dX4_mix_9 : decode cX4_mix 9 = .ok (.lload_n 1, 1) := by decide +kernel
theorem dX4_mix_10 : decode cX4_mix 10 = .ok (.ladd, 1) := by decide +kernel
theorem dX4_mix_11 : decode cX4_mix 11 = .ok (.putfield 251, 3) := by decide +kernel
theorem dX4_mix_14 : decode cX4_mix 14 = .ok (.return_, 1) := by decide +kernel
theorem dX4_digest_0 : decode cX4_digest 0 = .ok (.aload_n 0, 1) := by decide +kernel
theorem dX4_digest_1 : decode cX4_digest 1 = .ok (.ldc2_w 255, 3) := by decide +kernel
theorem dX4_digest_4 : decode cX4_digest 4 = .ok (.putfield 251, 3) := by decide +kernel
theorem dX4_digest_7 : decode cX4_digest 7 = .ok (.iconst 0, 1) := by decide +kernel
theorem dX4_digest_8 : decode cX4_digest 8 = .ok (.istore_n 1, 1) := by decide +kernel
theorem dX4_digest_9 : decode cX4_digest 9 = .ok (.iload_n 1, 1) := by decide +kernel
theorem dX4_digest_10 : decode cX4_digest 10 = .ok (.bipush 8, 2) := by decide +kernel
theorem dX4_digest_12 : decode cX4_digest 12 = .ok (.if_icmp .ge 19, 3) := by decide +kernel
theorem dX4_digest_15 : decode cX4_digest 15 = .ok (.aload_n 0, 1) := by decide +kernel
theorem dX4_digest_16 : decode cX4_digest 16 = .ok (.aload_n 0, 1) := by decide +kernel
theorem dX4_digest_17 : decode cX4_digest 17 = .ok (.iload_n 1, 1) := by decide +kernel
theorem dX4_digest_18 : decode cX4_digest 18 = .ok (.invokevirtual 246, 3) := by decide +kernel
theorem dX4_digest_21 : decode cX4_digest 21 = .ok (.i2l, 1) := by decide +kernel
theorem dX4_digest_22 : decode cX4_digest 22 = .ok (.invokevirtual 257, 3) := by decide +kernel
theorem dX4_digest_25 : decode cX4_digest 25 = .ok (.iinc 1 1, 3) := by decide +kernel
theorem dX4_digest_28 : decode cX4_digest 28 = .ok (.goto (-19), 3) := by decide +kernel
theorem dX4_digest_31 : decode cX4_digest 31 = .ok (.iconst 0, 1) := by decide +kernel
theorem dX4_digest_32 : decode cX4_digest 32 = .ok (.istore_n 1, 1) := by decide +kernel
theorem dX4_digest_33 : decode cX4_digest 33 = .ok (.iload_n 1, 1) := by decide +kernel
theorem dX4_digest_34 : decode cX4_digest 34 = .ok (.bipush 8, 2) := by decide +kernel
theorem dX4_digest_36 : decode cX4_digest 36 = .ok (.if_icmp .ge 19, 3) := by decide +kernel
theorem dX4_digest_39 : decode cX4_digest 39 = .ok (.aload_n 0, 1) := by decide +kernel
theorem dX4_digest_40 : decode cX4_digest 40 = .ok (.aload_n 0, 1) := by decide +kernel
theorem dX4_digest_41 : decode cX4_digest 41 = .ok (.iload_n 1, 1) := by decide +kernel
theorem dX4_digest_42 : decode cX4_digest 42 = .ok (.invokevirtual 195, 3) := by decide +kernel
theorem dX4_digest_45 : decode cX4_digest 45 = .ok (.i2l, 1) := by decide +kernel
theorem dX4_digest_46 : decode cX4_digest 46 = .ok (.invokevirtual 257, 3) := by decide +kernel
theorem dX4_digest_49 : decode cX4_digest 49 = .ok (.iinc 1 1, 3) := by decide +kernel
theorem dX4_digest_52 : decode cX4_digest 52 = .ok (.goto (-19), 3) := by decide +kernel
theorem dX4_digest_55 : decode cX4_digest 55 = .ok (.iconst 0, 1) := by decide +kernel
theorem dX4_digest_56 : decode cX4_digest 56 = .ok (.istore_n 1, 1) := by decide +kernel
theorem dX4_digest_57 : decode cX4_digest 57 = .ok (.iload_n 1, 1) := by decide +kernel
theorem dX4_digest_58 : decode cX4_digest 58 = .ok (.aload_n 0, 1) := by decide +kernel
theorem dX4_digest_59 : decode cX4_digest 59 = .ok (.getfield 7, 3) := by decide +kernel
theorem dX4_digest_62 : decode cX4_digest 62 = .ok (.iconst 0, 1) := by decide +kernel
theorem dX4_digest_63 : decode cX4_digest 63 = .ok (.iaload, 1) := by decide +kernel
theorem dX4_digest_64 : decode cX4_digest 64 = .ok (.if_icmp .ge 51, 3) := by decide +kernel
theorem dX4_digest_67 : decode cX4_digest 67 = .ok (.iconst 0, 1) := by decide +kernel
theorem dX4_digest_68 : decode cX4_digest 68 = .ok (.istore_n 2, 1) := by decide +kernel
theorem dX4_digest_69 : decode cX4_digest 69 = .ok (.iload_n 2, 1) := by decide +kernel
theorem dX4_digest_70 : decode cX4_digest 70 = .ok (.bipush 6, 2) := by decide +kernel
theorem dX4_digest_72 : decode cX4_digest 72 = .ok (.if_icmp .ge 20, 3) := by decide +kernel
theorem dX4_digest_75 : decode cX4_digest 75 = .ok (.aload_n 0, 1) := by decide +kernel
theorem dX4_digest_76 : decode cX4_digest 76 = .ok (.aload_n 0, 1) := by decide +kernel
theorem dX4_digest_77 : decode cX4_digest 77 = .ok (.iload_n 1, 1) := by decide +kernel
theorem dX4_digest_78 : decode cX4_digest 78 = .ok (.iload_n 2, 1) := by decide +kernel
theorem dX4_digest_79 : decode cX4_digest 79 = .ok (.invokevirtual 114, 3) := by decide +kernel
theorem dX4_digest_82 : decode cX4_digest 82 = .ok (.i2l, 1) := by decide +kernel
theorem dX4_digest_83 : decode cX4_digest 83 = .ok (.invokevirtual 257, 3) := by decide +kernel
theorem dX4_digest_86 : decode cX4_digest 86 = .ok (.iinc 2 1, 3) := by decide +kernel
theorem dX4_digest_89 : decode cX4_digest 89 = .ok (.goto (-20), 3) := by decide +kernel
theorem dX4_digest_92 : decode cX4_digest 92 = .ok (.aload_n 0, 1) := by decide +kernel
theorem dX4_digest_93 : decode cX4_digest 93 = .ok (.aload_n 0, 1) := by decide +kernel
theorem dX4_digest_94 : decode cX4_digest 94 = .ok (.aload_n 0, 1) := by decide +kernel
theorem dX4_digest_95 : decode cX4_digest 95 = .ok (.iload_n 1, 1) := by decide +kernel
theorem dX4_digest_96 : decode cX4_digest 96 = .ok (.invokevirtual 57, 3) := by decide +kernel
theorem dX4_digest_99 : decode cX4_digest 99 = .ok (.invokevirtual 104, 3) := by decide +kernel
theorem dX4_digest_102 : decode cX4_digest 102 = .ok (.invokestatic 117, 3) := by decide +kernel
theorem dX4_digest_105 : decode cX4_digest 105 = .ok (.i2l, 1) := by decide +kernel
theorem dX4_digest_106 : decode cX4_digest 106 = .ok (.invokevirtual 257, 3) := by decide +kernel
theorem dX4_digest_109 : decode cX4_digest 109 = .ok (.iinc 1 1, 3) := by decide +kernel
theorem dX4_digest_112 : decode cX4_digest 112 = .ok (.goto (-55), 3) := by decide +kernel
theorem dX4_digest_115 : decode cX4_digest 115 = .ok (.iconst 0, 1) := by decide +kernel
theorem dX4_digest_116 : decode cX4_digest 116 = .ok (.istore_n 1, 1) := by decide +kernel
theorem dX4_digest_117 : decode cX4_digest 117 = .ok (.iload_n 1, 1) := by decide +kernel
theorem dX4_digest_118 : decode cX4_digest 118 = .ok (.bipush 52, 2) := by decide +kernel
theorem dX4_digest_120 : decode cX4_digest 120 = .ok (.if_icmp .ge 23, 3) := by decide +kernel
theorem dX4_digest_123 : decode cX4_digest 123 = .ok (.aload_n 0, 1) := by decide +kernel
theorem dX4_digest_124 : decode cX4_digest 124 = .ok (.aload_n 0, 1) := by decide +kernel
theorem dX4_digest_125 : decode cX4_digest 125 = .ok (.getfield 7, 3) := by decide +kernel
theorem dX4_digest_128 : decode cX4_digest 128 = .ok (.bipush 62, 2) := by decide +kernel
theorem dX4_digest_130 : decode cX4_digest 130 = .ok (.iload_n 1, 1) := by decide +kernel
theorem dX4_digest_131 : decode cX4_digest 131 = .ok (.iadd, 1) := by decide +kernel
theorem dX4_digest_132 : decode cX4_digest 132 = .ok (.iaload, 1) := by decide +kernel
theorem dX4_digest_133 : decode cX4_digest 133 = .ok (.i2l, 1) := by decide +kernel
theorem dX4_digest_134 : decode cX4_digest 134 = .ok (.invokevirtual 257, 3) := by decide +kernel
theorem dX4_digest_137 : decode cX4_digest 137 = .ok (.iinc 1 1, 3) := by decide +kernel
theorem dX4_digest_140 : decode cX4_digest 140 = .ok (.goto (-23), 3) := by decide +kernel
theorem dX4_digest_143 : decode cX4_digest 143 = .ok (.iconst 0, 1) := by decide +kernel
theorem dX4_digest_144 : decode cX4_digest 144 = .ok (.istore_n 1, 1) := by decide +kernel
theorem dX4_digest_145 : decode cX4_digest 145 = .ok (.iload_n 1, 1) := by decide +kernel
theorem dX4_digest_146 : decode cX4_digest 146 = .ok (.aload_n 0, 1) := by decide +kernel
theorem dX4_digest_147 : decode cX4_digest 147 = .ok (.getfield 7, 3) := by decide +kernel
theorem dX4_digest_150 : decode cX4_digest 150 = .ok (.bipush 120, 2) := by decide +kernel
theorem dX4_digest_152 : decode cX4_digest 152 = .ok (.iaload, 1) := by decide +kernel
theorem dX4_digest_153 : decode cX4_digest 153 = .ok (.if_icmp .ge 23, 3) := by decide +kernel
theorem dX4_digest_156 : decode cX4_digest 156 = .ok (.aload_n 0, 1) := by decide +kernel
theorem dX4_digest_157 : decode cX4_digest 157 = .ok (.aload_n 0, 1) := by decide +kernel
theorem dX4_digest_158 : decode cX4_digest 158 = .ok (.getfield 7, 3) := by decide +kernel
theorem dX4_digest_161 : decode cX4_digest 161 = .ok (.bipush 121, 2) := by decide +kernel
theorem dX4_digest_163 : decode cX4_digest 163 = .ok (.iload_n 1, 1) := by decide +kernel
theorem dX4_digest_164 : decode cX4_digest 164 = .ok (.iadd, 1) := by decide +kernel
theorem dX4_digest_165 : decode cX4_digest 165 = .ok (.iaload, 1) := by decide +kernel
theorem dX4_digest_166 : decode cX4_digest 166 = .ok (.i2l, 1) := by decide +kernel
theorem dX4_digest_167 : decode cX4_digest 167 = .ok (.invokevirtual 257, 3) := by decide +kernel
theorem dX4_digest_170 : decode cX4_digest 170 = .ok (.iinc 1 1, 3) := by decide +kernel
theorem dX4_digest_173 : decode cX4_digest 173 = .ok (.goto (-28), 3) := by decide +kernel
theorem dX4_digest_176 : decode cX4_digest 176 = .ok (.aload_n 0, 1) := by decide +kernel
theorem dX4_digest_177 : decode cX4_digest 177 = .ok (.aload_n 0, 1) := by decide +kernel
theorem dX4_digest_178 : decode cX4_digest 178 = .ok (.invokevirtual 174, 3) := by decide +kernel
theorem dX4_digest_181 : decode cX4_digest 181 = .ok (.i2l, 1) := by decide +kernel
theorem dX4_digest_182 : decode cX4_digest 182 = .ok (.invokevirtual 257, 3) := by decide +kernel
theorem dX4_digest_185 : decode cX4_digest 185 = .ok (.aload_n 0, 1) := by decide +kernel
theorem dX4_digest_186 : decode cX4_digest 186 = .ok (.aload_n 0, 1) := by decide +kernel
theorem dX4_digest_187 : decode cX4_digest 187 = .ok (.invokevirtual 177, 3) := by decide +kernel
theorem dX4_digest_190 : decode cX4_digest 190 = .ok (.i2l, 1) := by decide +kernel
theorem dX4_digest_191 : decode cX4_digest 191 = .ok (.invokevirtual 257, 3) := by decide +kernel
theorem dX4_digest_194 : decode cX4_digest 194 = .ok (.aload_n 0, 1) := by decide +kernel
theorem dX4_digest_195 : decode cX4_digest 195 = .ok (.getfield 251, 3) := by decide +kernel
theorem dX4_digest_198 : decode cX4_digest 198 = .ok (.lreturn, 1) := by decide +kernel
end
section
theorem dL_law_0 : decode cL_law 0 = .ok (.new 7, 3) := by decide +kernel
theorem dL_law_3 : decode cL_law 3 = .ok (.dup, 1) := by decide +kernel
theorem dL_law_4 : decode cL_law 4 = .ok (.invokespecial 9, 3) := by decide +kernel
theorem dL_law_7 : decode cL_law 7 = .ok (.astore_n 1, 1) := by decide +kernel
theorem dL_law_8 : decode cL_law 8 = .ok (.new 10, 3) := by decide +kernel
theorem dL_law_11 : decode cL_law 11 = .ok (.dup, 1) := by decide +kernel
theorem dL_law_12 : decode cL_law 12 = .ok (.invokespecial 12, 3) := by decide +kernel
theorem dL_law_15 : decode cL_law 15 = .ok (.astore_n 2, 1) := by decide +kernel
theorem dL_law_16 : decode cL_law 16 = .ok (.iconst 0, 1) := by decide +kernel
theorem dL_law_17 : decode cL_law 17 = .ok (.istore_n 3, 1) := by decide +kernel
theorem dL_law_18 : decode cL_law 18 = .ok (.iload_n 3, 1) := by decide +kernel
theorem dL_law_19 : decode cL_law 19 = .ok (.aload_n 0, 1) := by decide +kernel
theorem dL_law_20 : decode cL_law 20 = .ok (.arraylength, 1) := by decide +kernel
theorem dL_law_21 : decode cL_law 21 = .ok (.iconst 5, 1) := by decide +kernel
theorem dL_law_22 : decode cL_law 22 = .ok (.isub, 1) := by decide +kernel
theorem dL_law_23 : decode cL_law 23 = .ok (.if_icmp .gt 854, 3) := by decide +kernel
theorem dL_law_26 : decode cL_law 26 = .ok (.aload_n 0, 1) := by decide +kernel
theorem dL_law_27 : decode cL_law 27 = .ok (.iload_n 3, 1) := by decide +kernel
theorem dL_law_28 : decode cL_law 28 = .ok (.iaload, 1) := by decide +kernel
theorem dL_law_29 : decode cL_law 29 = .ok (.bipush 31, 2) := by decide +kernel
theorem dL_law_31 : decode cL_law 31 = .ok (.iand, 1) := by decide +kernel
theorem dL_law_32 : decode cL_law 32 = .ok (.tableswitch 839 0 25 #[120, 163, 216, 259, 302, 335, 368, 401, 434, 457, 500, 543, 576, 599, 612, 635, 648, 661, 684, 717, 740, 763, 776, 789, 802, 825], 120) := by decide +kernel
theorem dL_law_152 : decode cL_law 152 = .ok (.aload_n 1, 1) := by decide +kernel
theorem dL_law_153 : decode cL_law 153 = .ok (.aload_n 0, 1) := by decide +kernel
theorem dL_law_154 : decode cL_law 154 = .ok (.iload_n 3, 1) := by decide +kernel
theorem dL_law_155 : decode cL_law 155 = .ok (.iconst 1, 1) := by decide +kernel
theorem dL_law_156 : decode cL_law 156 = .ok (.iadd, 1) := by decide +kernel
theorem dL_law_157 : decode cL_law 157 = .ok (.iaload, 1) := by decide +kernel
theorem dL_law_158 : decode cL_law 158 = .ok (.aload_n 0, 1) := by decide +kernel
theorem dL_law_159 : decode cL_law 159 = .ok (.iload_n 3, 1) := by decide +kernel
theorem dL_law_160 : decode cL_law 160 = .ok (.iconst 2, 1) := by decide +kernel
theorem dL_law_161 : decode cL_law 161 = .ok (.iadd, 1) := by decide +kernel
theorem dL_law_162 : decode cL_law 162 = .ok (.iaload, 1) := by decide +kernel
theorem dL_law_163 : decode cL_law 163 = .ok (.aload_n 0, 1) := by decide +kernel
theorem dL_law_164 : decode cL_law 164 = .ok (.iload_n 3, 1) := by decide +kernel
theorem dL_law_165 : decode cL_law 165 = .ok (.iconst 3, 1) := by decide +kernel
theorem dL_law_166 : decode cL_law 166 = .ok (.iadd, 1) := by decide +kernel
theorem dL_law_167 : decode cL_law 167 = .ok (.iaload, 1) := by decide +kernel
theorem dL_law_168 : decode cL_law 168 = .ok (.invokevirtual 13, 3) := by decide +kernel
theorem dL_law_171 : decode cL_law 171 = .ok (.aload_n 2, 1) := by decide +kernel
theorem dL_law_172 : decode cL_law 172 = .ok (.aload_n 0, 1) := by decide +kernel
theorem dL_law_173 : decode cL_law 173 = .ok (.iload_n 3, 1) := by decide +kernel
theorem dL_law_174 : decode cL_law 174 = .ok (.iconst 1, 1) := by decide +kernel
theorem dL_law_175 : decode cL_law 175 = .ok (.iadd, 1) := by decide +kernel
theorem dL_law_176 : decode cL_law 176 = .ok (.iaload, 1) := by decide +kernel
theorem dL_law_177 : decode cL_law 177 = .ok (.aload_n 0, 1) := by decide +kernel
theorem dL_law_178 : decode cL_law 178 = .ok (.iload_n 3, 1) := by decide +kernel
theorem dL_law_179 : decode cL_law 179 = .ok (.iconst 2, 1) := by decide +kernel
theorem dL_law_180 : decode cL_law 180 = .ok (.iadd, 1) := by decide +kernel
theorem dL_law_181 : decode cL_law 181 = .ok (.iaload, 1) := by decide +kernel
theorem dL_law_182 : decode cL_law 182 = .ok (.aload_n 0, 1) := by decide +kernel
theorem dL_law_183 : decode cL_law 183 = .ok (.iload_n 3, 1) := by decide +kernel
theorem dL_law_184 : decode cL_law 184 = .ok (.iconst 3, 1) := by decide +kernel
theorem dL_law_185 : decode cL_law 185 = .ok (.iadd, 1) := by decide +kernel
theorem dL_law_186 : decode cL_law 186 = .ok (.iaload, 1) := by decide +kernel
theorem dL_law_187 : decode cL_law 187 = .ok (.invokevirtual 17, 3) := by decide +kernel
theorem dL_law_190 : decode cL_law 190 = .ok (.if_icmp .eq 681, 3) := by decide +kernel
theorem dL_law_193 : decode cL_law 193 = .ok (.iconst 0, 1) := by decide +kernel
theorem dL_law_194 : decode cL_law 194 = .ok (.ireturn, 1) := by decide +kernel
theorem dL_law_195 : decode cL_law 195 = .ok (.aload_n 1, 1) := by decide +kernel
theorem dL_law_196 : decode cL_law 196 = .ok (.aload_n 0, 1) := by decide +kernel
theorem dL_law_197 : decode cL_law 197 = .ok (.iload_n 3, 1) := by decide +kernel
theorem dL_law_198 : decode cL_law 198 = .ok (.iconst 1, 1) := by decide +kernel
theorem dL_law_199 : decode cL_law 199 = .ok (.iadd, 1) := by decide +kernel
theorem dL_law_200 : decode cL_law 200 = .ok (.iaload, 1) := by decide +kernel
theorem dL_law_201 : decode cL_law 201 = .ok (.aload_n 0, 1) := by decide +kernel
theorem dL_law_202 : decode cL_law 202 = .ok (.iload_n 3, 1) := by decide +kernel
theorem dL_law_203 : decode cL_law 203 = .ok (.iconst 2, 1) := by decide +kernel
theorem dL_law_204 : decode cL_law 204 = .ok (.iadd, 1) := by decide +kernel
theorem dL_law_205 : decode cL_law 205 = .ok (.iaload, 1) := by decide +kernel
theorem dL_law_206 : decode cL_law 206 = .ok (.aload_n 0, 1) := by decide +kernel
theorem dL_law_207 : decode cL_law 207 = .ok (.iload_n 3, 1) := by decide +kernel
theorem dL_law_208 : decode cL_law 208 = .ok (.iconst 3, 1) := by decide +kernel
theorem dL_law_209 : decode cL_law 209 = .ok (.iadd, 1) := by decide +kernel
theorem dL_law_210 : decode cL_law 210 = .ok (.iaload, 1) := by decide +kernel
theorem dL_law_211 : decode cL_law 211 = .ok (.aload_n 0, 1) := by decide +kernel
theorem dL_law_212 : decode cL_law 212 = .ok (.iload_n 3, 1) := by decide +kernel
theorem dL_law_213 : decode cL_law 213 = .ok (.iconst 4, 1) := by decide +kernel
theorem dL_law_214 : decode cL_law 214 = .ok (.iadd, 1) := by decide +kernel
theorem dL_law_215 : decode cL_law 215 = .ok (.iaload, 1) := by decide +kernel
theorem dL_law_216 : decode cL_law 216 = .ok (.invokevirtual 18, 3) := by decide +kernel
theorem dL_law_219 : decode cL_law 219 = .ok (.aload_n 2, 1) := by decide +kernel
theorem dL_law_220 : decode cL_law 220 = .ok (.aload_n 0, 1) := by decide +kernel
theorem dL_law_221 : decode cL_law 221 = .ok (.iload_n 3, 1) := by decide +kernel
theorem dL_law_222 : decode cL_law 222 = .ok (.iconst 1, 1) := by decide +kernel
theorem dL_law_223 : decode cL_law 223 = .ok (.iadd, 1) := by decide +kernel
theorem dL_law_224 : decode cL_law 224 = .ok (.iaload, 1) := by decide +kernel
theorem dL_law_225 : decode cL_law 225 = .ok (.aload_n 0, 1) := by decide +kernel
theorem dL_law_226 : decode cL_law 226 = .ok (.iload_n 3, 1) := by decide +kernel
theorem dL_law_227 : decode cL_law 227 = .ok (.iconst 2, 1) := by decide +kernel
theorem dL_law_228 : decode cL_law 228 = .ok (.iadd, 1) := by decide +kernel
theorem dL_law_229 : decode cL_law 229 = .ok (.iaload, 1) := by decide +kernel
theorem dL_law_230 : decode cL_law 230 = .ok (.aload_n 0, 1) := by decide +kernel
theorem dL_law_231 : decode cL_law 231 = .ok (.iload_n 3, 1) := by decide +kernel
theorem dL_law_232 : decode cL_law 232 = .ok (.iconst 3, 1) := by decide +kernel
theorem dL_law_233 : decode cL_law 233 = .ok (.iadd, 1) := by decide +kernel
theorem dL_law_234 : decode cL_law 234 = .ok (.iaload, 1) := by decide +kernel
theorem dL_law_235 : decode cL_law 235 = .ok (.aload_n 0, 1) := by decide +kernel
theorem dL_law_236 : decode cL_law 236 = .ok (.iload_n 3, 1) := by decide +kernel
theorem dL_law_237 : decode cL_law 237 = .ok (.iconst 4, 1) := by decide +kernel
theorem dL_law_238 : decode cL_law 238 = .ok (.iadd, 1) := by decide +kernel
theorem dL_law_239 : decode cL_law 239 = .ok (.iaload, 1) := by decide +kernel
theorem dL_law_240 : decode cL_law 240 = .ok (.invokevirtual 22, 3) := by decide +kernel
theorem dL_law_243 : decode cL_law 243 = .ok (.if_icmp .eq 628, 3) := by decide +kernel
theorem dL_law_246 : decode cL_law 246 = .ok (.iconst 0, 1) := by decide +kernel
theorem dL_law_247 : decode cL_law 247 = .ok (.ireturn, 1) := by decide +kernel
theorem dL_law_248 : decode cL_law 248 = .ok (.aload_n 1, 1) := by decide +kernel
theorem dL_law_249 : decode cL_law 249 = .ok (.aload_n 0, 1) := by decide +kernel
theorem dL_law_250 : decode cL_law 250 = .ok (.iload_n 3, 1) := by decide +kernel
theorem dL_law_251 : decode cL_law 251 = .ok (.iconst 1, 1) := by decide +kernel
theorem dL_law_252 : decode cL_law 252 = .ok (.iadd, 1) := by decide +kernel
theorem dL_law_253 : decode cL_law 253 = .ok (.iaload, 1) := by decide +kernel
theorem dL_law_254 : decode cL_law 254 = .ok (.aload_n 0, 1) := by decide +kernel
theorem dL_law_255 : decode cL_law 255 = .ok (.iload_n 3, 1) := by decide +kernel
theorem dL_law_256 : decode cL_law 256 = .ok (.iconst 2, 1) := by decide +kernel
theorem dL_law_257 : decode cL_law 257 = .ok (.iadd, 1) := by decide +kernel
theorem dL_law_258 : decode cL_law 258 = .ok (.iaload, 1) := by decide +kernel
theorem dL_law_259 : decode cL_law 259 = .ok (.aload_n 0, 1) := by decide +kernel
theorem dL_law_260 : decode cL_law 260 = .ok (.iload_n 3, 1) := by decide +kernel
theorem dL_law_261 : decode cL_law 261 = .ok (.iconst 3, 1) := by decide +kernel
theorem dL_law_262 : decode cL_law 262 = .ok (.iadd, 1) := by decide +kernel
theorem dL_law_263 : decode cL_law 263 = .ok (.iaload, 1) := by decide +kernel
theorem dL_law_264 : decode cL_law 264 = .ok (.invokevirtual 23, 3) := by decide +kernel
theorem dL_law_267 : decode cL_law 267 = .ok (.aload_n 2, 1) := by decide +kernel
theorem dL_law_268 : decode cL_law 268 = .ok (.aload_n 0, 1) := by decide +kernel
theorem dL_law_269 : decode cL_law 269 = .ok (.iload_n 3, 1) := by decide +kernel
theorem dL_law_270 : decode cL_law 270 = .ok (.iconst 1, 1) := by decide +kernel
theorem dL_law_271 : decode cL_law 271 = .ok (.iadd, 1) := by decide +kernel
theorem dL_law_272 : decode cL_law 272 = .ok (.iaload, 1) := by decide +kernel
theorem dL_law_273 : decode cL_law 273 = .ok (.aload_n 0, 1) := by decide +kernel
theorem dL_law_274 : decode cL_law 274 = .ok (.iload_n 3, 1) := by decide +kernel
theorem dL_law_275 : decode cL_law 275 = .ok (.iconst 2, 1) := by decide +kernel
theorem dL_law_276 : decode cL_law 276 = .ok (.iadd, 1) := by decide +kernel
theorem dL_law_277 : decode cL_law 277 = .ok (.iaload, 1) := by decide +kernel
theorem dL_law_278 : decode cL_law 278 = .ok (.aload_n 0, 1) := by decide +kernel
theorem dL_law_279 : decode cL_law 279 = .ok (.iload_n 3, 1) := by decide +kernel
theorem dL_law_280 : decode cL_law 280 = .ok (.iconst 3, 1) := by decide +kernel
theorem dL_law_281 : decode cL_law 281 = .ok (.iadd, 1) := by decide +kernel
theorem dL_law_282 : decode cL_law 282 = .ok (.iaload, 1) := by decide +kernel
theorem dL_law_283 : decode cL_law 283 = .ok (.invokevirtual 26, 3) := by decide +kernel
theorem dL_law_286 : decode cL_law 286 = .ok (.if_icmp .eq 585, 3) := by decide +kernel
theorem dL_law_289 : decode cL_law 289 = .ok (.iconst 0, 1) := by decide +kernel
theorem dL_law_290 : decode cL_law 290 = .ok (.ireturn, 1) := by decide +kernel
theorem dL_law_291 : decode cL_law 291 = .ok (.aload_n 1, 1) := by decide +kernel
theorem dL_law_292 : decode cL_law 292 = .ok (.aload_n 0, 1) := by decide +kernel
theorem dL_law_293 : decode cL_law 293 = .ok (.iload_n 3, 1) := by decide +kernel
theorem dL_law_294 : decode cL_law 294 = .ok (.iconst 1, 1) := by decide +kernel
theorem dL_law_295 : decode cL_law 295 = .ok (.iadd, 1) := by decide +kernel
theorem dL_law_296 : decode cL_law 296 = .ok (.iaload, 1) := by decide +kernel
theorem dL_law_297 : decode cL_law 297 = .ok (.aload_n 0, 1) := by decide +kernel
theorem dL_law_298 : decode cL_law 298 = .ok (.iload_n 3, 1) := by decide +kernel
theorem dL_law_299 : decode cL_law 299 = .ok (.iconst 2, 1) := by decide +kernel
theorem dL_law_300 : decode cL_law 300 = .ok (.iadd, 1) := by decide +kernel
theorem dL_law_301 : decode cL_law 301 = .ok (.iaload, 1) := by decide +kernel
theorem dL_law_302 : decode cL_law 302 = .ok (.aload_n 0, 1) := by decide +kernel
theorem dL_law_303 : decode cL_law 303 = .ok (.iload_n 3, 1) := by decide +kernel
theorem dL_law_304 : decode cL_law 304 = .ok (.iconst 3, 1) := by decide +kernel
theorem dL_law_305 : decode cL_law 305 = .ok (.iadd, 1) := by decide +kernel
theorem dL_law_306 : decode cL_law 306 = .ok (.iaload, 1) := by decide +kernel
theorem dL_law_307 : decode cL_law 307 = .ok (.invokevirtual 27, 3) := by decide +kernel
theorem dL_law_310 : decode cL_law 310 = .ok (.aload_n 2, 1) := by decide +kernel
theorem dL_law_311 : decode cL_law 311 = .ok (.aload_n 0, 1) := by decide +kernel
theorem dL_law_312 : decode cL_law 312 = .ok (.iload_n 3, 1) := by decide +kernel
theorem dL_law_313 : decode cL_law 313 = .ok (.iconst 1, 1) := by decide +kernel
theorem dL_law_314 : decode cL_law 314 = .ok (.iadd, 1) := by decide +kernel
theorem dL_law_315 : decode cL_law 315 = .ok (.iaload, 1) := by decide +kernel
theorem dL_law_316 : decode cL_law 316 = .ok (.aload_n 0, 1) := by decide +kernel
theorem dL_law_317 : decode cL_law 317 = .ok (.iload_n 3, 1) := by decide +kernel
theorem dL_law_318 : decode cL_law 318 = .ok (.iconst 2, 1) := by decide +kernel
theorem dL_law_319 : decode cL_law 319 = .ok (.iadd, 1) := by decide +kernel
theorem dL_law_320 : decode cL_law 320 = .ok (.iaload, 1) := by decide +kernel
theorem dL_law_321 : decode cL_law 321 = .ok (.aload_n 0, 1) := by decide +kernel
theorem dL_law_322 : decode cL_law 322 = .ok (.iload_n 3, 1) := by decide +kernel
theorem dL_law_323 : decode cL_law 323 = .ok (.iconst 3, 1) := by decide +kernel
theorem dL_law_324 : decode cL_law 324 = .ok (.iadd, 1) := by decide +kernel
theorem dL_law_325 : decode cL_law 325 = .ok (.iaload, 1) := by decide +kernel
theorem dL_law_326 : decode cL_law 326 = .ok (.invokevirtual 30, 3) := by decide +kernel
theorem dL_law_329 : decode cL_law 329 = .ok (.if_icmp .eq 542, 3) := by decide +kernel
theorem dL_law_332 : decode cL_law 332 = .ok (.iconst 0, 1) := by decide +kernel
theorem dL_law_333 : decode cL_law 333 = .ok (.ireturn, 1) := by decide +kernel
theorem dL_law_334 : decode cL_law 334 = .ok (.aload_n 1, 1) := by decide +kernel
theorem dL_law_335 : decode cL_law 335 = .ok (.aload_n 0, 1) := by decide +kernel
theorem dL_law_336 : decode cL_law 336 = .ok (.iload_n 3, 1) := by decide +kernel
theorem dL_law_337 : decode cL_law 337 = .ok (.iconst 1, 1) := by decide +kernel
theorem dL_law_338 : decode cL_law 338 = .ok (.iadd, 1) := by decide +kernel
theorem dL_law_339 : decode cL_law 339 = .ok (.iaload, 1) := by decide +kernel
theorem dL_law_340 : decode cL_law 340 = .ok (.aload_n 0, 1) := by decide +kernel
theorem dL_law_341 : decode cL_law 341 = .ok (.iload_n 3, 1) := by decide +kernel
theorem dL_law_342 : decode cL_law 342 = .ok (.iconst 2, 1) := by decide +kernel
theorem dL_law_343 : decode cL_law 343 = .ok (.iadd, 1) := by decide +kernel
theorem dL_law_344 : decode cL_law 344 = .ok (.iaload, 1) := by decide +kernel
theorem dL_law_345 : decode cL_law 345 = .ok (.invokevirtual 31, 3) := by decide +kernel
theorem dL_law_348 : decode cL_law 348 = .ok (.aload_n 2, 1) := by decide +kernel
theorem dL_law_349 : decode cL_law 349 = .ok (.aload_n 0, 1) := by decide +kernel
theorem dL_law_350 : decode cL_law 350 = .ok (.iload_n 3, 1) := by decide +kernel
theorem dL_law_351 : decode cL_law 351 = .ok (.iconst 1, 1) := by decide +kernel
theorem dL_law_352 : decode cL_law 352 = .ok (.iadd, 1) := by decide +kernel
theorem dL_law_353 : decode cL_law 353 = .ok (.iaload, 1) := by decide +kernel
theorem dL_law_354 : decode cL_law 354 = .ok (.aload_n 0, 1) := by decide +kernel
theorem dL_law_355 : decode cL_law 355 = .ok (.iload_n 3, 1) := by decide +kernel
theorem dL_law_356 : decode cL_law 356 = .ok (.iconst 2, 1) := by decide +kernel
theorem dL_law_357 : decode cL_law 357 = .ok (.iadd, 1) := by decide +kernel
theorem dL_law_358 : decode cL_law 358 = .ok (.iaload, 1) := by decide +kernel
theorem dL_law_359 : decode cL_law 359 = .ok (.invokevirtual 35, 3) := by decide +kernel
theorem dL_law_362 : decode cL_law 362 = .ok (.if_icmp .eq 509, 3) := by decide +kernel
theorem dL_law_365 : decode cL_law 365 = .ok (.iconst 0, 1) := by decide +kernel
theorem dL_law_366 : decode cL_law 366 = .ok (.ireturn, 1) := by decide +kernel
theorem dL_law_367 : decode cL_law 367 = .ok (.aload_n 1, 1) := by decide +kernel
theorem dL_law_368 : decode cL_law 368 = .ok (.aload_n 0, 1) := by decide +kernel
theorem dL_law_369 : decode cL_law 369 = .ok (.iload_n 3, 1) := by decide +kernel
theorem dL_law_370 : decode cL_law 370 = .ok (.iconst 1, 1) := by decide +kernel
theorem dL_law_371 : decode cL_law 371 = .ok (.iadd, 1) := by decide +kernel
theorem dL_law_372 : decode cL_law 372 = .ok (.iaload, 1) := by decide +kernel
theorem dL_law_373 : decode cL_law 373 = .ok (.aload_n 0, 1) := by decide +kernel
theorem dL_law_374 : decode cL_law 374 = .ok (.iload_n 3, 1) := by decide +kernel
theorem dL_law_375 : decode cL_law 375 = .ok (.iconst 2, 1) := by decide +kernel
theorem dL_law_376 : decode cL_law 376 = .ok (.iadd, 1) := by decide +kernel
theorem dL_law_377 : decode cL_law 377 = .ok (.iaload, 1) := by decide +kernel
theorem dL_law_378 : decode cL_law 378 = .ok (.invokevirtual 36, 3) := by decide +kernel
theorem dL_law_381 : decode cL_law 381 = .ok (.aload_n 2, 1) := by decide +kernel
theorem dL_law_382 : decode cL_law 382 = .ok (.aload_n 0, 1) := by decide +kernel
theorem dL_law_383 : decode cL_law 383 = .ok (.iload_n 3, 1) := by decide +kernel
theorem dL_law_384 : decode cL_law 384 = .ok (.iconst 1, 1) := by decide +kernel
theorem dL_law_385 : decode cL_law 385 = .ok (.iadd, 1) := by decide +kernel
theorem dL_law_386 : decode cL_law 386 = .ok (.iaload, 1) := by decide +kernel
theorem dL_law_387 : decode cL_law 387 = .ok (.aload_n 0, 1) := by decide +kernel
theorem dL_law_388 : decode cL_law 388 = .ok (.iload_n 3, 1) := by decide +kernel
theorem dL_law_389 : decode cL_law 389 = .ok (.iconst 2, 1) := by decide +kernel
theorem dL_law_390 : decode cL_law 390 = .ok (.iadd, 1) := by decide +kernel
theorem dL_law_391 : decode cL_law 391 = .ok (.iaload, 1) := by decide +kernel
theorem dL_law_392 : decode cL_law 392 = .ok (.invokevirtual 39, 3) := by decide +kernel
theorem dL_law_395 : decode cL_law 395 = .ok (.if_icmp .eq 476, 3) := by decide +kernel
theorem dL_law_398 : decode cL_law 398 = .ok (.iconst 0, 1) := by decide +kernel
theorem dL_law_399 : decode cL_law 399 = .ok (.ireturn, 1) := by decide +kernel
theorem dL_law_400 : decode cL_law 400 = .ok (.aload_n 1, 1) := by decide +kernel
theorem dL_law_401 : decode cL_law 401 = .ok (.aload_n 0, 1) := by decide +kernel
theorem dL_law_402 : decode cL_law 402 = .ok (.iload_n 3, 1) := by decide +kernel
theorem dL_law_403 : decode cL_law 403 = .ok (.iconst 1, 1) := by decide +kernel
theorem dL_law_404 : decode cL_law 404 = .ok (.iadd, 1) := by decide +kernel
theorem dL_law_405 : decode cL_law 405 = .ok (.iaload, 1) := by decide +kernel
theorem dL_law_406 : decode cL_law 406 = .ok (.aload_n 0, 1) := by decide +kernel
theorem dL_law_407 : decode cL_law 407 = .ok (.iload_n 3, 1) := by decide +kernel
theorem dL_law_408 : decode cL_law 408 = .ok (.iconst 2, 1) := by decide +kernel
theorem dL_law_409 : decode cL_law 409 = .ok (.iadd, 1) := by decide +kernel
theorem dL_law_410 : decode cL_law 410 = .ok (.iaload, 1) := by decide +kernel
theorem dL_law_411 : decode cL_law 411 = .ok (.invokevirtual 40, 3) := by decide +kernel
theorem dL_law_414 : decode cL_law 414 = .ok (.aload_n 2, 1) := by decide +kernel
theorem dL_law_415 : decode cL_law 415 = .ok (.aload_n 0, 1) := by decide +kernel
theorem dL_law_416 : decode cL_law 416 = .ok (.iload_n 3, 1) := by decide +kernel
theorem dL_law_417 : decode cL_law 417 = .ok (.iconst 1, 1) := by decide +kernel
theorem dL_law_418 : decode cL_law 418 = .ok (.iadd, 1) := by decide +kernel
theorem dL_law_419 : decode cL_law 419 = .ok (.iaload, 1) := by decide +kernel
theorem dL_law_420 : decode cL_law 420 = .ok (.aload_n 0, 1) := by decide +kernel
theorem dL_law_421 : decode cL_law 421 = .ok (.iload_n 3, 1) := by decide +kernel
theorem dL_law_422 : decode cL_law 422 = .ok (.iconst 2, 1) := by decide +kernel
theorem dL_law_423 : decode cL_law 423 = .ok (.iadd, 1) := by decide +kernel
theorem dL_law_424 : decode cL_law 424 = .ok (.iaload, 1) := by decide +kernel
theorem dL_law_425 : decode cL_law 425 = .ok (.invokevirtual 43, 3) := by decide +kernel
theorem dL_law_428 : decode cL_law 428 = .ok (.if_icmp .eq 443, 3) := by decide +kernel
theorem dL_law_431 : decode cL_law 431 = .ok (.iconst 0, 1) := by decide +kernel
theorem dL_law_432 : decode cL_law 432 = .ok (.ireturn, 1) := by decide +kernel
theorem dL_law_433 : decode cL_law 433 = .ok (.aload_n 1, 1) := by decide +kernel
theorem dL_law_434 : decode cL_law 434 = .ok (.aload_n 0, 1) := by decide +kernel
theorem dL_law_435 : decode cL_law 435 = .ok (.iload_n 3, 1) := by decide +kernel
theorem dL_law_436 : decode cL_law 436 = .ok (.iconst 1, 1) := by decide +kernel
theorem dL_law_437 : decode cL_law 437 = .ok (.iadd, 1) := by decide +kernel
theorem dL_law_438 : decode cL_law 438 = .ok (.iaload, 1) := by decide +kernel
theorem dL_law_439 : decode cL_law 439 = .ok (.aload_n 0, 1) := by decide +kernel
theorem dL_law_440 : decode cL_law 440 = .ok (.iload_n 3, 1) := by decide +kernel
theorem dL_law_441 : decode cL_law 441 = .ok (.iconst 2, 1) := by decide +kernel
theorem dL_law_442 : decode cL_law 442 = .ok (.iadd, 1) := by decide +kernel
theorem dL_law_443 : decode cL_law 443 = .ok (.iaload, 1) := by decide +kernel
theorem dL_law_444 : decode cL_law 444 = .ok (.invokevirtual 44, 3) := by decide +kernel
theorem dL_law_447 : decode cL_law 447 = .ok (.aload_n 2, 1) := by decide +kernel
theorem dL_law_448 : decode cL_law 448 = .ok (.aload_n 0, 1) := by decide +kernel
theorem dL_law_449 : decode cL_law 449 = .ok (.iload_n 3, 1) := by decide +kernel
theorem dL_law_450 : decode cL_law 450 = .ok (.iconst 1, 1) := by decide +kernel
theorem dL_law_451 : decode cL_law 451 = .ok (.iadd, 1) := by decide +kernel
theorem dL_law_452 : decode cL_law 452 = .ok (.iaload, 1) := by decide +kernel
theorem dL_law_453 : decode cL_law 453 = .ok (.aload_n 0, 1) := by decide +kernel
theorem dL_law_454 : decode cL_law 454 = .ok (.iload_n 3, 1) := by decide +kernel
theorem dL_law_455 : decode cL_law 455 = .ok (.iconst 2, 1) := by decide +kernel
theorem dL_law_456 : decode cL_law 456 = .ok (.iadd, 1) := by decide +kernel
theorem dL_law_457 : decode cL_law 457 = .ok (.iaload, 1) := by decide +kernel
theorem dL_law_458 : decode cL_law 458 = .ok (.invokevirtual 47, 3) := by decide +kernel
theorem dL_law_461 : decode cL_law 461 = .ok (.if_icmp .eq 410, 3) := by decide +kernel
theorem dL_law_464 : decode cL_law 464 = .ok (.iconst 0, 1) := by decide +kernel
theorem dL_law_465 : decode cL_law 465 = .ok (.ireturn, 1) := by decide +kernel
theorem dL_law_466 : decode cL_law 466 = .ok (.aload_n 1, 1) := by decide +kernel
theorem dL_law_467 : decode cL_law 467 = .ok (.aload_n 0, 1) := by decide +kernel
theorem dL_law_468 : decode cL_law 468 = .ok (.iload_n 3, 1) := by decide +kernel
theorem dL_law_469 : decode cL_law 469 = .ok (.iconst 1, 1) := by decide +kernel
theorem dL_law_470 : decode cL_law 470 = .ok (.iadd, 1) := by decide +kernel
theorem dL_law_471 : decode cL_law 471 = .ok (.iaload, 1) := by decide +kernel
theorem dL_law_472 : decode cL_law 472 = .ok (.invokevirtual 48, 3) := by decide +kernel
theorem dL_law_475 : decode cL_law 475 = .ok (.aload_n 2, 1) := by decide +kernel
theorem dL_law_476 : decode cL_law 476 = .ok (.aload_n 0, 1) := by decide +kernel
theorem dL_law_477 : decode cL_law 477 = .ok (.iload_n 3, 1) := by decide +kernel
theorem dL_law_478 : decode cL_law 478 = .ok (.iconst 1, 1) := by decide +kernel
theorem dL_law_479 : decode cL_law 479 = .ok (.iadd, 1) := by decide +kernel
theorem dL_law_480 : decode cL_law 480 = .ok (.iaload, 1) := by decide +kernel
theorem dL_law_481 : decode cL_law 481 = .ok (.invokevirtual 52, 3) := by decide +kernel
theorem dL_law_484 : decode cL_law 484 = .ok (.if_icmp .eq 387, 3) := by decide +kernel
theorem dL_law_487 : decode cL_law 487 = .ok (.iconst 0, 1) := by decide +kernel
theorem dL_law_488 : decode cL_law 488 = .ok (.ireturn, 1) := by decide +kernel
theorem dL_law_489 : decode cL_law 489 = .ok (.aload_n 1, 1) := by decide +kernel
theorem dL_law_490 : decode cL_law 490 = .ok (.aload_n 0, 1) := by decide +kernel
theorem dL_law_491 : decode cL_law 491 = .ok (.iload_n 3, 1) := by decide +kernel
theorem dL_law_492 : decode cL_law 492 = .ok (.iconst 1, 1) := by decide +kernel
theorem dL_law_493 : decode cL_law 493 = .ok (.iadd, 1) := by decide +kernel
theorem dL_law_494 : decode cL_law 494 = .ok (.iaload, 1) := by decide +kernel
theorem dL_law_495 : decode cL_law 495 = .ok (.aload_n 0, 1) := by decide +kernel
theorem dL_law_496 : decode cL_law 496 = .ok (.iload_n 3, 1) := by decide +kernel
theorem dL_law_497 : decode cL_law 497 = .ok (.iconst 2, 1) := by decide +kernel
theorem dL_law_498 : decode cL_law 498 = .ok (.iadd, 1) := by decide +kernel
theorem dL_law_499 : decode cL_law 499 = .ok (.iaload, 1) := by decide +kernel
theorem dL_law_500 : decode cL_law 500 = .ok (.aload_n 0, 1) := by decide +kernel
theorem dL_law_501 : decode cL_law 501 = .ok (.iload_n 3, 1) := by decide +kernel
theorem dL_law_502 : decode cL_law 502 = .ok (.iconst 3, 1) := by decide +kernel
theorem dL_law_503 : decode cL_law 503 = .ok (.iadd, 1) := by decide +kernel
theorem dL_law_504 : decode cL_law 504 = .ok (.iaload, 1) := by decide +kernel
theorem dL_law_505 : decode cL_law 505 = .ok (.invokevirtual 53, 3) := by decide +kernel
theorem dL_law_508 : decode cL_law 508 = .ok (.aload_n 2, 1) := by decide +kernel
theorem dL_law_509 : decode cL_law 509 = .ok (.aload_n 0, 1) := by decide +kernel
theorem dL_law_510 : decode cL_law 510 = .ok (.iload_n 3, 1) := by decide +kernel
theorem dL_law_511 : decode cL_law 511 = .ok (.iconst 1, 1) := by decide +kernel
theorem dL_law_512 : decode cL_law 512 = .ok (.iadd, 1) := by decide +kernel
theorem dL_law_513 : decode cL_law 513 = .ok (.iaload, 1) := by decide +kernel
theorem dL_law_514 : decode cL_law 514 = .ok (.aload_n 0, 1) := by decide +kernel
theorem dL_law_515 : decode cL_law 515 = .ok (.iload_n 3, 1) := by decide +kernel
theorem dL_law_516 : decode cL_law 516 = .ok (.iconst 2, 1) := by decide +kernel
theorem dL_law_517 : decode cL_law 517 = .ok (.iadd, 1) := by decide +kernel
theorem dL_law_518 : decode cL_law 518 = .ok (.iaload, 1) := by decide +kernel
theorem dL_law_519 : decode cL_law 519 = .ok (.aload_n 0, 1) := by decide +kernel
theorem dL_law_520 : decode cL_law 520 = .ok (.iload_n 3, 1) := by decide +kernel
theorem dL_law_521 : decode cL_law 521 = .ok (.iconst 3, 1) := by decide +kernel
theorem dL_law_522 : decode cL_law 522 = .ok (.iadd, 1) := by decide +kernel
theorem dL_law_523 : decode cL_law 523 = .ok (.iaload, 1) := by decide +kernel
theorem dL_law_524 : decode cL_law 524 = .ok (.invokevirtual 56, 3) := by decide +kernel
theorem dL_law_527 : decode cL_law 527 = .ok (.if_icmp .eq 344, 3) := by decide +kernel
theorem dL_law_530 : decode cL_law 530 = .ok (.iconst 0, 1) := by decide +kernel
theorem dL_law_531 : decode cL_law 531 = .ok (.ireturn, 1) := by decide +kernel
theorem dL_law_532 : decode cL_law 532 = .ok (.aload_n 1, 1) := by decide +kernel
theorem dL_law_533 : decode cL_law 533 = .ok (.aload_n 0, 1) := by decide +kernel
theorem dL_law_534 : decode cL_law 534 = .ok (.iload_n 3, 1) := by decide +kernel
theorem dL_law_535 : decode cL_law 535 = .ok (.iconst 1, 1) := by decide +kernel
theorem dL_law_536 : decode cL_law 536 = .ok (.iadd, 1) := by decide +kernel
theorem dL_law_537 : decode cL_law 537 = .ok (.iaload, 1) := by decide +kernel
theorem dL_law_538 : decode cL_law 538 = .ok (.aload_n 0, 1) := by decide +kernel
theorem dL_law_539 : decode cL_law 539 = .ok (.iload_n 3, 1) := by decide +kernel
theorem dL_law_540 : decode cL_law 540 = .ok (.iconst 2, 1) := by decide +kernel
theorem dL_law_541 : decode cL_law 541 = .ok (.iadd, 1) := by decide +kernel
theorem dL_law_542 : decode cL_law 542 = .ok (.iaload, 1) := by decide +kernel
theorem dL_law_543 : decode cL_law 543 = .ok (.aload_n 0, 1) := by decide +kernel
theorem dL_law_544 : decode cL_law 544 = .ok (.iload_n 3, 1) := by decide +kernel
theorem dL_law_545 : decode cL_law 545 = .ok (.iconst 3, 1) := by decide +kernel
theorem dL_law_546 : decode cL_law 546 = .ok (.iadd, 1) := by decide +kernel
theorem dL_law_547 : decode cL_law 547 = .ok (.iaload, 1) := by decide +kernel
theorem dL_law_548 : decode cL_law 548 = .ok (.invokevirtual 57, 3) := by decide +kernel
theorem dL_law_551 : decode cL_law 551 = .ok (.aload_n 2, 1) := by decide +kernel
theorem dL_law_552 : decode cL_law 552 = .ok (.aload_n 0, 1) := by decide +kernel
theorem dL_law_553 : decode cL_law 553 = .ok (.iload_n 3, 1) := by decide +kernel
theorem dL_law_554 : decode cL_law 554 = .ok (.iconst 1, 1) := by decide +kernel
theorem dL_law_555 : decode cL_law 555 = .ok (.iadd, 1) := by decide +kernel
theorem dL_law_556 : decode cL_law 556 = .ok (.iaload, 1) := by decide +kernel
theorem dL_law_557 : decode cL_law 557 = .ok (.aload_n 0, 1) := by decide +kernel
theorem dL_law_558 : decode cL_law 558 = .ok (.iload_n 3, 1) := by decide +kernel
theorem dL_law_559 : decode cL_law 559 = .ok (.iconst 2, 1) := by decide +kernel
theorem dL_law_560 : decode cL_law 560 = .ok (.iadd, 1) := by decide +kernel
theorem dL_law_561 : decode cL_law 561 = .ok (.iaload, 1) := by decide +kernel
theorem dL_law_562 : decode cL_law 562 = .ok (.aload_n 0, 1) := by decide +kernel
theorem dL_law_563 : decode cL_law 563 = .ok (.iload_n 3, 1) := by decide +kernel
theorem dL_law_564 : decode cL_law 564 = .ok (.iconst 3, 1) := by decide +kernel
theorem dL_law_565 : decode cL_law 565 = .ok (.iadd, 1) := by decide +kernel
theorem dL_law_566 : decode cL_law 566 = .ok (.iaload, 1) := by decide +kernel
theorem dL_law_567 : decode cL_law 567 = .ok (.invokevirtual 60, 3) := by decide +kernel
theorem dL_law_570 : decode cL_law 570 = .ok (.if_icmp .eq 301, 3) := by decide +kernel
theorem dL_law_573 : decode cL_law 573 = .ok (.iconst 0, 1) := by decide +kernel
theorem dL_law_574 : decode cL_law 574 = .ok (.ireturn, 1) := by decide +kernel
theorem dL_law_575 : decode cL_law 575 = .ok (.aload_n 1, 1) := by decide +kernel
theorem dL_law_576 : decode cL_law 576 = .ok (.aload_n 0, 1) := by decide +kernel
theorem dL_law_577 : decode cL_law 577 = .ok (.iload_n 3, 1) := by decide +kernel
theorem dL_law_578 : decode cL_law 578 = .ok (.iconst 1, 1) := by decide +kernel
theorem dL_law_579 : decode cL_law 579 = .ok (.iadd, 1) := by decide +kernel
theorem dL_law_580 : decode cL_law 580 = .ok (.iaload, 1) := by decide +kernel
theorem dL_law_581 : decode cL_law 581 = .ok (.aload_n 0, 1) := by decide +kernel
theorem dL_law_582 : decode cL_law 582 = .ok (.iload_n 3, 1) := by decide +kernel
theorem dL_law_583 : decode cL_law 583 = .ok (.iconst 2, 1) := by decide +kernel
theorem dL_law_584 : decode cL_law 584 = .ok (.iadd, 1) := by decide +kernel
theorem dL_law_585 : decode cL_law 585 = .ok (.iaload, 1) := by decide +kernel
theorem dL_law_586 : decode cL_law 586 = .ok (.invokevirtual 61, 3) := by decide +kernel
theorem dL_law_589 : decode cL_law 589 = .ok (.aload_n 2, 1) := by decide +kernel
theorem dL_law_590 : decode cL_law 590 = .ok (.aload_n 0, 1) := by decide +kernel
theorem dL_law_591 : decode cL_law 591 = .ok (.iload_n 3, 1) := by decide +kernel
theorem dL_law_592 : decode cL_law 592 = .ok (.iconst 1, 1) := by decide +kernel
theorem dL_law_593 : decode cL_law 593 = .ok (.iadd, 1) := by decide +kernel
theorem dL_law_594 : decode cL_law 594 = .ok (.iaload, 1) := by decide +kernel
theorem dL_law_595 : decode cL_law 595 = .ok (.aload_n 0, 1) := by decide +kernel
theorem dL_law_596 : decode cL_law 596 = .ok (.iload_n 3, 1) := by decide +kernel
theorem dL_law_597 : decode cL_law 597 = .ok (.iconst 2, 1) := by decide +kernel
theorem dL_law_598 : decode cL_law 598 = .ok (.iadd, 1) := by decide +kernel
theorem dL_law_599 : decode cL_law 599 = .ok (.iaload, 1) := by decide +kernel
theorem dL_law_600 : decode cL_law 600 = .ok (.invokevirtual 64, 3) := by decide +kernel
theorem dL_law_603 : decode cL_law 603 = .ok (.if_icmp .eq 268, 3) := by decide +kernel
theorem dL_law_606 : decode cL_law 606 = .ok (.iconst 0, 1) := by decide +kernel
theorem dL_law_607 : decode cL_law 607 = .ok (.ireturn, 1) := by decide +kernel
theorem dL_law_608 : decode cL_law 608 = .ok (.aload_n 1, 1) := by decide +kernel
theorem dL_law_609 : decode cL_law 609 = .ok (.aload_n 0, 1) := by decide +kernel
theorem dL_law_610 : decode cL_law 610 = .ok (.iload_n 3, 1) := by decide +kernel
theorem dL_law_611 : decode cL_law 611 = .ok (.iconst 1, 1) := by decide +kernel
theorem dL_law_612 : decode cL_law 612 = .ok (.iadd, 1) := by decide +kernel
theorem dL_law_613 : decode cL_law 613 = .ok (.iaload, 1) := by decide +kernel
theorem dL_law_614 : decode cL_law 614 = .ok (.invokevirtual 65, 3) := by decide +kernel
theorem dL_law_617 : decode cL_law 617 = .ok (.aload_n 2, 1) := by decide +kernel
theorem dL_law_618 : decode cL_law 618 = .ok (.aload_n 0, 1) := by decide +kernel
theorem dL_law_619 : decode cL_law 619 = .ok (.iload_n 3, 1) := by decide +kernel
theorem dL_law_620 : decode cL_law 620 = .ok (.iconst 1, 1) := by decide +kernel
theorem dL_law_621 : decode cL_law 621 = .ok (.iadd, 1) := by decide +kernel
theorem dL_law_622 : decode cL_law 622 = .ok (.iaload, 1) := by decide +kernel
theorem dL_law_623 : decode cL_law 623 = .ok (.invokevirtual 68, 3) := by decide +kernel
theorem dL_law_626 : decode cL_law 626 = .ok (.if_icmp .eq 245, 3) := by decide +kernel
theorem dL_law_629 : decode cL_law 629 = .ok (.iconst 0, 1) := by decide +kernel
theorem dL_law_630 : decode cL_law 630 = .ok (.ireturn, 1) := by decide +kernel
theorem dL_law_631 : decode cL_law 631 = .ok (.aload_n 1, 1) := by decide +kernel
theorem dL_law_632 : decode cL_law 632 = .ok (.invokevirtual 69, 3) := by decide +kernel
theorem dL_law_635 : decode cL_law 635 = .ok (.aload_n 2, 1) := by decide +kernel
theorem dL_law_636 : decode cL_law 636 = .ok (.invokevirtual 73, 3) := by decide +kernel
theorem dL_law_639 : decode cL_law 639 = .ok (.if_icmp .eq 232, 3) := by decide +kernel
theorem dL_law_642 : decode cL_law 642 = .ok (.iconst 0, 1) := by decide +kernel
theorem dL_law_643 : decode cL_law 643 = .ok (.ireturn, 1) := by decide +kernel
theorem dL_law_644 : decode cL_law 644 = .ok (.aload_n 1, 1) := by decide +kernel
theorem dL_law_645 : decode cL_law 645 = .ok (.aload_n 0, 1) := by decide +kernel
theorem dL_law_646 : decode cL_law 646 = .ok (.iload_n 3, 1) := by decide +kernel
theorem dL_law_647 : decode cL_law 647 = .ok (.iconst 1, 1) := by decide +kernel
theorem dL_law_648 : decode cL_law 648 = .ok (.iadd, 1) := by decide +kernel
theorem dL_law_649 : decode cL_law 649 = .ok (.iaload, 1) := by decide +kernel
theorem dL_law_650 : decode cL_law 650 = .ok (.invokevirtual 74, 3) := by decide +kernel
theorem dL_law_653 : decode cL_law 653 = .ok (.aload_n 2, 1) := by decide +kernel
theorem dL_law_654 : decode cL_law 654 = .ok (.aload_n 0, 1) := by decide +kernel
theorem dL_law_655 : decode cL_law 655 = .ok (.iload_n 3, 1) := by decide +kernel
theorem dL_law_656 : decode cL_law 656 = .ok (.iconst 1, 1) := by decide +kernel
theorem dL_law_657 : decode cL_law 657 = .ok (.iadd, 1) := by decide +kernel
theorem dL_law_658 : decode cL_law 658 = .ok (.iaload, 1) := by decide +kernel
theorem dL_law_659 : decode cL_law 659 = .ok (.invokevirtual 77, 3) := by decide +kernel
theorem dL_law_662 : decode cL_law 662 = .ok (.if_icmp .eq 209, 3) := by decide +kernel
theorem dL_law_665 : decode cL_law 665 = .ok (.iconst 0, 1) := by decide +kernel
theorem dL_law_666 : decode cL_law 666 = .ok (.ireturn, 1) := by decide +kernel
theorem dL_law_667 : decode cL_law 667 = .ok (.aload_n 1, 1) := by decide +kernel
theorem dL_law_668 : decode cL_law 668 = .ok (.invokevirtual 78, 3) := by decide +kernel
theorem dL_law_671 : decode cL_law 671 = .ok (.aload_n 2, 1) := by decide +kernel
theorem dL_law_672 : decode cL_law 672 = .ok (.invokevirtual 81, 3) := by decide +kernel
theorem dL_law_675 : decode cL_law 675 = .ok (.if_icmp .eq 196, 3) := by decide +kernel
theorem dL_law_678 : decode cL_law 678 = .ok (.iconst 0, 1) := by decide +kernel
theorem dL_law_679 : decode cL_law 679 = .ok (.ireturn, 1) := by decide +kernel
theorem dL_law_680 : decode cL_law 680 = .ok (.aload_n 1, 1) := by decide +kernel
theorem dL_law_681 : decode cL_law 681 = .ok (.invokevirtual 82, 3) := by decide +kernel
theorem dL_law_684 : decode cL_law 684 = .ok (.aload_n 2, 1) := by decide +kernel
theorem dL_law_685 : decode cL_law 685 = .ok (.invokevirtual 85, 3) := by decide +kernel
theorem dL_law_688 : decode cL_law 688 = .ok (.if_icmp .eq 183, 3) := by decide +kernel
theorem dL_law_691 : decode cL_law 691 = .ok (.iconst 0, 1) := by decide +kernel
theorem dL_law_692 : decode cL_law 692 = .ok (.ireturn, 1) := by decide +kernel
theorem dL_law_693 : decode cL_law 693 = .ok (.aload_n 1, 1) := by decide +kernel
theorem dL_law_694 : decode cL_law 694 = .ok (.aload_n 0, 1) := by decide +kernel
theorem dL_law_695 : decode cL_law 695 = .ok (.iload_n 3, 1) := by decide +kernel
theorem dL_law_696 : decode cL_law 696 = .ok (.iconst 1, 1) := by decide +kernel
theorem dL_law_697 : decode cL_law 697 = .ok (.iadd, 1) := by decide +kernel
theorem dL_law_698 : decode cL_law 698 = .ok (.iaload, 1) := by decide +kernel
theorem dL_law_699 : decode cL_law 699 = .ok (.invokevirtual 86, 3) := by decide +kernel
theorem dL_law_702 : decode cL_law 702 = .ok (.aload_n 2, 1) := by decide +kernel
theorem dL_law_703 : decode cL_law 703 = .ok (.aload_n 0, 1) := by decide +kernel
theorem dL_law_704 : decode cL_law 704 = .ok (.iload_n 3, 1) := by decide +kernel
theorem dL_law_705 : decode cL_law 705 = .ok (.iconst 1, 1) := by decide +kernel
theorem dL_law_706 : decode cL_law 706 = .ok (.iadd, 1) := by decide +kernel
theorem dL_law_707 : decode cL_law 707 = .ok (.iaload, 1) := by decide +kernel
theorem dL_law_708 : decode cL_law 708 = .ok (.invokevirtual 89, 3) := by decide +kernel
theorem dL_law_711 : decode cL_law 711 = .ok (.if_icmp .eq 160, 3) := by decide +kernel
theorem dL_law_714 : decode cL_law 714 = .ok (.iconst 0, 1) := by decide +kernel
theorem dL_law_715 : decode cL_law 715 = .ok (.ireturn, 1) := by decide +kernel
theorem dL_law_716 : decode cL_law 716 = .ok (.aload_n 1, 1) := by decide +kernel
theorem dL_law_717 : decode cL_law 717 = .ok (.aload_n 0, 1) := by decide +kernel
theorem dL_law_718 : decode cL_law 718 = .ok (.iload_n 3, 1) := by decide +kernel
theorem dL_law_719 : decode cL_law 719 = .ok (.iconst 1, 1) := by decide +kernel
theorem dL_law_720 : decode cL_law 720 = .ok (.iadd, 1) := by decide +kernel
theorem dL_law_721 : decode cL_law 721 = .ok (.iaload, 1) := by decide +kernel
theorem dL_law_722 : decode cL_law 722 = .ok (.aload_n 0, 1) := by decide +kernel
theorem dL_law_723 : decode cL_law 723 = .ok (.iload_n 3, 1) := by decide +kernel
theorem dL_law_724 : decode cL_law 724 = .ok (.iconst 2, 1) := by decide +kernel
theorem dL_law_725 : decode cL_law 725 = .ok (.iadd, 1) := by decide +kernel
theorem dL_law_726 : decode cL_law 726 = .ok (.iaload, 1) := by decide +kernel
theorem dL_law_727 : decode cL_law 727 = .ok (.invokevirtual 90, 3) := by decide +kernel
theorem dL_law_730 : decode cL_law 730 = .ok (.aload_n 2, 1) := by decide +kernel
theorem dL_law_731 : decode cL_law 731 = .ok (.aload_n 0, 1) := by decide +kernel
theorem dL_law_732 : decode cL_law 732 = .ok (.iload_n 3, 1) := by decide +kernel
theorem dL_law_733 : decode cL_law 733 = .ok (.iconst 1, 1) := by decide +kernel
theorem dL_law_734 : decode cL_law 734 = .ok (.iadd, 1) := by decide +kernel
theorem dL_law_735 : decode cL_law 735 = .ok (.iaload, 1) := by decide +kernel
theorem dL_law_736 : decode cL_law 736 = .ok (.aload_n 0, 1) := by decide +kernel
theorem dL_law_737 : decode cL_law 737 = .ok (.iload_n 3, 1) := by decide +kernel
theorem dL_law_738 : decode cL_law 738 = .ok (.iconst 2, 1) := by decide +kernel
theorem dL_law_739 : decode cL_law 739 = .ok (.iadd, 1) := by decide +kernel
theorem dL_law_740 : decode cL_law 740 = .ok (.iaload, 1) := by decide +kernel
theorem dL_law_741 : decode cL_law 741 = .ok (.invokevirtual 93, 3) := by decide +kernel
theorem dL_law_744 : decode cL_law 744 = .ok (.if_icmp .eq 127, 3) := by decide +kernel
theorem dL_law_747 : decode cL_law 747 = .ok (.iconst 0, 1) := by decide +kernel
theorem dL_law_748 : decode cL_law 748 = .ok (.ireturn, 1) := by decide +kernel
theorem dL_law_749 : decode cL_law 749 = .ok (.aload_n 1, 1) := by decide +kernel
theorem dL_law_750 : decode cL_law 750 = .ok (.aload_n 0, 1) := by decide +kernel
theorem dL_law_751 : decode cL_law 751 = .ok (.iload_n 3, 1) := by decide +kernel
theorem dL_law_752 : decode cL_law 752 = .ok (.iconst 1, 1) := by decide +kernel
theorem dL_law_753 : decode cL_law 753 = .ok (.iadd, 1) := by decide +kernel
theorem dL_law_754 : decode cL_law 754 = .ok (.iaload, 1) := by decide +kernel
theorem dL_law_755 : decode cL_law 755 = .ok (.invokevirtual 94, 3) := by decide +kernel
theorem dL_law_758 : decode cL_law 758 = .ok (.aload_n 2, 1) := by decide +kernel
theorem dL_law_759 : decode cL_law 759 = .ok (.aload_n 0, 1) := by decide +kernel
theorem dL_law_760 : decode cL_law 760 = .ok (.iload_n 3, 1) := by decide +kernel
theorem dL_law_761 : decode cL_law 761 = .ok (.iconst 1, 1) := by decide +kernel
theorem dL_law_762 : decode cL_law 762 = .ok (.iadd, 1) := by decide +kernel
theorem dL_law_763 : decode cL_law 763 = .ok (.iaload, 1) := by decide +kernel
theorem dL_law_764 : decode cL_law 764 = .ok (.invokevirtual 97, 3) := by decide +kernel
theorem dL_law_767 : decode cL_law 767 = .ok (.if_icmp .eq 104, 3) := by decide +kernel
theorem dL_law_770 : decode cL_law 770 = .ok (.iconst 0, 1) := by decide +kernel
theorem dL_law_771 : decode cL_law 771 = .ok (.ireturn, 1) := by decide +kernel
theorem dL_law_772 : decode cL_law 772 = .ok (.aload_n 1, 1) := by decide +kernel
theorem dL_law_773 : decode cL_law 773 = .ok (.aload_n 0, 1) := by decide +kernel
theorem dL_law_774 : decode cL_law 774 = .ok (.iload_n 3, 1) := by decide +kernel
theorem dL_law_775 : decode cL_law 775 = .ok (.iconst 1, 1) := by decide +kernel
theorem dL_law_776 : decode cL_law 776 = .ok (.iadd, 1) := by decide +kernel
theorem dL_law_777 : decode cL_law 777 = .ok (.iaload, 1) := by decide +kernel
theorem dL_law_778 : decode cL_law 778 = .ok (.invokevirtual 98, 3) := by decide +kernel
theorem dL_law_781 : decode cL_law 781 = .ok (.aload_n 2, 1) := by decide +kernel
theorem dL_law_782 : decode cL_law 782 = .ok (.aload_n 0, 1) := by decide +kernel
theorem dL_law_783 : decode cL_law 783 = .ok (.iload_n 3, 1) := by decide +kernel
theorem dL_law_784 : decode cL_law 784 = .ok (.iconst 1, 1) := by decide +kernel
theorem dL_law_785 : decode cL_law 785 = .ok (.iadd, 1) := by decide +kernel
theorem dL_law_786 : decode cL_law 786 = .ok (.iaload, 1) := by decide +kernel
theorem dL_law_787 : decode cL_law 787 = .ok (.invokevirtual 101, 3) := by decide +kernel
theorem dL_law_790 : decode cL_law 790 = .ok (.if_icmp .eq 81, 3) := by decide +kernel
theorem dL_law_793 : decode cL_law 793 = .ok (.iconst 0, 1) := by decide +kernel
theorem dL_law_794 : decode cL_law 794 = .ok (.ireturn, 1) := by decide +kernel
theorem dL_law_795 : decode cL_law 795 = .ok (.aload_n 1, 1) := by decide +kernel
theorem dL_law_796 : decode cL_law 796 = .ok (.invokevirtual 102, 3) := by decide +kernel
theorem dL_law_799 : decode cL_law 799 = .ok (.aload_n 2, 1) := by decide +kernel
theorem dL_law_800 : decode cL_law 800 = .ok (.invokevirtual 105, 3) := by decide +kernel
theorem dL_law_803 : decode cL_law 803 = .ok (.if_icmp .eq 68, 3) := by decide +kernel
theorem dL_law_806 : decode cL_law 806 = .ok (.iconst 0, 1) := by decide +kernel
theorem dL_law_807 : decode cL_law 807 = .ok (.ireturn, 1) := by decide +kernel
theorem dL_law_808 : decode cL_law 808 = .ok (.aload_n 1, 1) := by decide +kernel
theorem dL_law_809 : decode cL_law 809 = .ok (.invokevirtual 106, 3) := by decide +kernel
theorem dL_law_812 : decode cL_law 812 = .ok (.aload_n 2, 1) := by decide +kernel
theorem dL_law_813 : decode cL_law 813 = .ok (.invokevirtual 109, 3) := by decide +kernel
theorem dL_law_816 : decode cL_law 816 = .ok (.if_icmp .eq 55, 3) := by decide +kernel
theorem dL_law_819 : decode cL_law 819 = .ok (.iconst 0, 1) := by decide +kernel
theorem dL_law_820 : decode cL_law 820 = .ok (.ireturn, 1) := by decide +kernel
theorem dL_law_821 : decode cL_law 821 = .ok (.aload_n 1, 1) := by decide +kernel
theorem dL_law_822 : decode cL_law 822 = .ok (.invokevirtual 110, 3) := by decide +kernel
theorem dL_law_825 : decode cL_law 825 = .ok (.aload_n 2, 1) := by decide +kernel
theorem dL_law_826 : decode cL_law 826 = .ok (.invokevirtual 113, 3) := by decide +kernel
theorem dL_law_829 : decode cL_law 829 = .ok (.if_icmp .eq 42, 3) := by decide +kernel
theorem dL_law_832 : decode cL_law 832 = .ok (.iconst 0, 1) := by decide +kernel
theorem dL_law_833 : decode cL_law 833 = .ok (.ireturn, 1) := by decide +kernel
theorem dL_law_834 : decode cL_law 834 = .ok (.aload_n 1, 1) := by decide +kernel
theorem dL_law_835 : decode cL_law 835 = .ok (.aload_n 0, 1) := by decide +kernel
theorem dL_law_836 : decode cL_law 836 = .ok (.iload_n 3, 1) := by decide +kernel
theorem dL_law_837 : decode cL_law 837 = .ok (.iconst 1, 1) := by decide +kernel
theorem dL_law_838 : decode cL_law 838 = .ok (.iadd, 1) := by decide +kernel
theorem dL_law_839 : decode cL_law 839 = .ok (.iaload, 1) := by decide +kernel
theorem dL_law_840 : decode cL_law 840 = .ok (.invokevirtual 114, 3) := by decide +kernel
theorem dL_law_843 : decode cL_law 843 = .ok (.aload_n 2, 1) := by decide +kernel
theorem dL_law_844 : decode cL_law 844 = .ok (.aload_n 0, 1) := by decide +kernel
theorem dL_law_845 : decode cL_law 845 = .ok (.iload_n 3, 1) := by decide +kernel
theorem dL_law_846 : decode cL_law 846 = .ok (.iconst 1, 1) := by decide +kernel
theorem dL_law_847 : decode cL_law 847 = .ok (.iadd, 1) := by decide +kernel
theorem dL_law_848 : decode cL_law 848 = .ok (.iaload, 1) := by decide +kernel
theorem dL_law_849 : decode cL_law 849 = .ok (.invokevirtual 117, 3) := by decide +kernel
theorem dL_law_852 : decode cL_law 852 = .ok (.if_icmp .eq 19, 3) := by decide +kernel
theorem dL_law_855 : decode cL_law 855 = .ok (.iconst 0, 1) := by decide +kernel
theorem dL_law_856 : decode cL_law 856 = .ok (.ireturn, 1) := by decide +kernel
theorem dL_law_857 : decode cL_law 857 = .ok (.aload_n 1, 1) := by decide +kernel
theorem dL_law_858 : decode cL_law 858 = .ok (.invokevirtual 118, 3) := by decide +kernel
theorem dL_law_861 : decode cL_law 861 = .ok (.aload_n 2, 1) := by decide +kernel
theorem dL_law_862 : decode cL_law 862 = .ok (.invokevirtual 122, 3) := by decide +kernel
theorem dL_law_865 : decode cL_law 865 = .ok (.lcmp, 1) := by decide +kernel
theorem dL_law_866 : decode cL_law 866 = .ok (.ifCond .eq 5, 3) := by decide +kernel
theorem dL_law_869 : decode cL_law 869 = .ok (.iconst 0, 1) := by decide +kernel
theorem dL_law_870 : decode cL_law 870 = .ok (.ireturn, 1) := by decide +kernel
theorem dL_law_871 : decode cL_law 871 = .ok (.iinc 3 5, 3) := by decide +kernel
theorem dL_law_874 : decode cL_law 874 = .ok (.goto (-856), 3) := by decide +kernel
theorem dL_law_877 : decode cL_law 877 = .ok (.iconst 1, 1) := by decide +kernel
theorem dL_law_878 : decode cL_law 878 = .ok (.ireturn, 1) := by decide +kernel
end
section
theorem dJ6_bitCount_0f7a4_0 : decode cJ6_bitCount_0f7a4 0 = .ok (.iload_n 0, 1) := by decide +kernel
theorem dJ6_bitCount_0f7a4_1 : decode cJ6_bitCount_0f7a4 1 = .ok (.iload_n 0, 1) := by decide +kernel
theorem dJ6_bitCount_0f7a4_2 : decode cJ6_bitCount_0f7a4 2 = .ok (.iconst 1, 1) := by decide +kernel
theorem dJ6_bitCount_0f7a4_3 : decode cJ6_bitCount_0f7a4 3 = .ok (.iushr, 1) := by decide +kernel
theorem dJ6_bitCount_0f7a4_4 : decode cJ6_bitCount_0f7a4 4 = .ok (.ldc_w 265, 3) := by decide +kernel
theorem dJ6_bitCount_0f7a4_7 : decode cJ6_bitCount_0f7a4 7 = .ok (.iand, 1) := by decide +kernel
theorem dJ6_bitCount_0f7a4_8 : decode cJ6_bitCount_0f7a4 8 = .ok (.isub, 1) := by decide +kernel
theorem dJ6_bitCount_0f7a4_9 : decode cJ6_bitCount_0f7a4 9 = .ok (.istore_n 0, 1) := by decide +kernel
theorem dJ6_bitCount_0f7a4_10 : decode cJ6_bitCount_0f7a4 10 = .ok (.iload_n 0, 1) := by decide +kernel
theorem dJ6_bitCount_0f7a4_11 : decode cJ6_bitCount_0f7a4 11 = .ok (.ldc_w 266, 3) := by decide +kernel
theorem dJ6_bitCount_0f7a4_14 : decode cJ6_bitCount_0f7a4 14 = .ok (.iand, 1) := by decide +kernel
theorem dJ6_bitCount_0f7a4_15 : decode cJ6_bitCount_0f7a4 15 = .ok (.iload_n 0, 1) := by decide +kernel
theorem dJ6_bitCount_0f7a4_16 : decode cJ6_bitCount_0f7a4 16 = .ok (.iconst 2, 1) := by decide +kernel
theorem dJ6_bitCount_0f7a4_17 : decode cJ6_bitCount_0f7a4 17 = .ok (.iushr, 1) := by decide +kernel
theorem dJ6_bitCount_0f7a4_18 : decode cJ6_bitCount_0f7a4 18 = .ok (.ldc_w 266, 3) := by decide +kernel
theorem dJ6_bitCount_0f7a4_21 : decode cJ6_bitCount_0f7a4 21 = .ok (.iand, 1) := by decide +kernel
theorem dJ6_bitCount_0f7a4_22 : decode cJ6_bitCount_0f7a4 22 = .ok (.iadd, 1) := by decide +kernel
theorem dJ6_bitCount_0f7a4_23 : decode cJ6_bitCount_0f7a4 23 = .ok (.istore_n 0, 1) := by decide +kernel
theorem dJ6_bitCount_0f7a4_24 : decode cJ6_bitCount_0f7a4 24 = .ok (.iload_n 0, 1) := by decide +kernel
theorem dJ6_bitCount_0f7a4_25 : decode cJ6_bitCount_0f7a4 25 = .ok (.iload_n 0, 1) := by decide +kernel
theorem dJ6_bitCount_0f7a4_26 : decode cJ6_bitCount_0f7a4 26 = .ok (.iconst 4, 1) := by decide +kernel
theorem dJ6_bitCount_0f7a4_27 : decode cJ6_bitCount_0f7a4 27 = .ok (.iushr, 1) := by decide +kernel
theorem dJ6_bitCount_0f7a4_28 : decode cJ6_bitCount_0f7a4 28 = .ok (.iadd, 1) := by decide +kernel
theorem dJ6_bitCount_0f7a4_29 : decode cJ6_bitCount_0f7a4 29 = .ok (.ldc_w 267, 3) := by decide +kernel
theorem dJ6_bitCount_0f7a4_32 : decode cJ6_bitCount_0f7a4 32 = .ok (.iand, 1) := by decide +kernel
theorem dJ6_bitCount_0f7a4_33 : decode cJ6_bitCount_0f7a4 33 = .ok (.istore_n 0, 1) := by decide +kernel
theorem dJ6_bitCount_0f7a4_34 : decode cJ6_bitCount_0f7a4 34 = .ok (.iload_n 0, 1) := by decide +kernel
theorem dJ6_bitCount_0f7a4_35 : decode cJ6_bitCount_0f7a4 35 = .ok (.iload_n 0, 1) := by decide +kernel
theorem dJ6_bitCount_0f7a4_36 : decode cJ6_bitCount_0f7a4 36 = .ok (.bipush 8, 2) := by decide +kernel
theorem dJ6_bitCount_0f7a4_38 : decode cJ6_bitCount_0f7a4 38 = .ok (.iushr, 1) := by decide +kernel
theorem dJ6_bitCount_0f7a4_39 : decode cJ6_bitCount_0f7a4 39 = .ok (.iadd, 1) := by decide +kernel
theorem dJ6_bitCount_0f7a4_40 : decode cJ6_bitCount_0f7a4 40 = .ok (.istore_n 0, 1) := by decide +kernel
theorem dJ6_bitCount_0f7a4_41 : decode cJ6_bitCount_0f7a4 41 = .ok (.iload_n 0, 1) := by decide +kernel
theorem dJ6_bitCount_0f7a4_42 : decode cJ6_bitCount_0f7a4 42 = .ok (.iload_n 0, 1) := by decide +kernel
theorem dJ6_bitCount_0f7a4_43 : decode cJ6_bitCount_0f7a4 43 = .ok (.bipush 16, 2) := by decide +kernel
theorem dJ6_bitCount_0f7a4_45 : decode cJ6_bitCount_0f7a4 45 = .ok (.iushr, 1) := by decide +kernel
theorem dJ6_bitCount_0f7a4_46 : decode cJ6_bitCount_0f7a4 46 = .ok (.iadd, 1) := by decide +kernel
theorem dJ6_bitCount_0f7a4_47 : decode cJ6_bitCount_0f7a4 47 = .ok (.istore_n 0, 1) := by decide +kernel
theorem dJ6_bitCount_0f7a4_48 : decode cJ6_bitCount_0f7a4 48 = .ok (.iload_n 0, 1) := by decide +kernel
theorem dJ6_bitCount_0f7a4_49 : decode cJ6_bitCount_0f7a4 49 = .ok (.bipush 63, 2) := by decide +kernel
theorem dJ6_bitCount_0f7a4_51 : decode cJ6_bitCount_0f7a4 51 = .ok (.iand, 1) := by decide +kernel
theorem dJ6_bitCount_0f7a4_52 : decode cJ6_bitCount_0f7a4 52 = .ok (.ireturn, 1) := by decide +kernel
end
section
theorem dJ7_fill_53178_0 : decode cJ7_fill_53178 0 = .ok (.iconst 0, 1) := by decide +kernel
theorem dJ7_fill_53178_1 : decode cJ7_fill_53178 1 = .ok (.istore_n 2, 1) := by decide +kernel
theorem dJ7_fill_53178_2 : decode cJ7_fill_53178 2 = .ok (.aload_n 0, 1) := by decide +kernel
theorem dJ7_fill_53178_3 : decode cJ7_fill_53178 3 = .ok (.arraylength, 1) := by decide +kernel
theorem dJ7_fill_53178_4 : decode cJ7_fill_53178 4 = .ok (.istore_n 3, 1) := by decide +kernel
theorem dJ7_fill_53178_5 : decode cJ7_fill_53178 5 = .ok (.iload_n 2, 1) := by decide +kernel
theorem dJ7_fill_53178_6 : decode cJ7_fill_53178 6 = .ok (.iload_n 3, 1) := by decide +kernel
theorem dJ7_fill_53178_7 : decode cJ7_fill_53178 7 = .ok (.if_icmp .ge 13, 3) := by decide +kernel
theorem dJ7_fill_53178_10 : decode cJ7_fill_53178 10 = .ok (.aload_n 0, 1) := by decide +kernel
theorem dJ7_fill_53178_11 : decode cJ7_fill_53178 11 = .ok (.iload_n 2, 1) := by decide +kernel
theorem dJ7_fill_53178_12 : decode cJ7_fill_53178 12 = .ok (.iload_n 1, 1) := by decide +kernel
theorem dJ7_fill_53178_13 : decode cJ7_fill_53178 13 = .ok (.iastore, 1) := by decide +kernel
theorem dJ7_fill_53178_14 : decode cJ7_fill_53178 14 = .ok (.iinc 2 1, 3) := by decide +kernel
theorem dJ7_fill_53178_17 : decode cJ7_fill_53178 17 = .ok (.goto (-12), 3) := by decide +kernel
theorem dJ7_fill_53178_20 : decode cJ7_fill_53178 20 = .ok (.return_, 1) := by decide +kernel
end
section
/-! The heap as a function of its contents: ints of objects, int arrays, float arrays, the array of references, the one long-/
abbrev xZ : Type := (Nat → Nat → Int32) × (Nat → Nat → Int32) × (Nat → Nat → UInt32) × (Nat → Nat → Option Nat) × Int64
def up2 (f : Nat → Nat → Int32) (a j : Nat) (v : Int32) : Nat → Nat → Int32 := fun x y => if x = a then (if y = j then v else f x y) else f x y
def sI (Z : xZ) (a j : Nat) (v : Int32) : xZ := (up2 Z.1 a j v, Z.2)
def sA (Z : xZ) (a : Nat) (f : Nat → Int32) : xZ := (Z.1, va_up Z.2.1 a f, Z.2.2)
def sF (Z : xZ) (a : Nat) (f : Nat → UInt32) : xZ := (Z.1, Z.2.1, va_up Z.2.2.1 a f, Z.2.2.2)
def sR (Z : xZ) (a : Nat) (f : Nat → Option Nat) : xZ := (Z.1, Z.2.1, Z.2.2.1, va_up Z.2.2.2.1 a f, Z.2.2.2.2)
def sJ (Z : xZ) (x : Int64) : xZ := (Z.1, Z.2.1, Z.2.2.1, Z.2.2.2.1, x)
def HP (Z : xZ) : xH := [
  .inr (3, [.ref 1, .ref 7, .int (Z.1 0 2), .ref 44, .ref 45, .ref 50]),
  .inr (1, [.int (Z.1 1 0), .ref 2, .ref 3, .ref 4, .ref 5, .int (Z.1 1 5), .ref 6, .int (Z.1 1 7)]),
  .inl (60, .inl (Z.2.1 2)),
  .inl (3, .inl (Z.2.1 3)),
  .inl (52, .inl (Z.2.1 4)),
  .inl (3, .inl (Z.2.1 5)),
  .inl (8, .inl (Z.2.1 6)),
  .inl (6, .inr (.inr (.inr (.inr (Z.2.2.2.1 7))))),
  .inr (1, [.int (Z.1 8 0), .ref 9, .ref 10, .ref 11, .ref 12, .int (Z.1 8 5), .ref 13, .int (Z.1 8 7)]),
  .inl (60, .inl (Z.2.1 9)),
  .inl (3, .inl (Z.2.1 10)),
  .inl (52, .inl (Z.2.1 11)),
  .inl (3, .inl (Z.2.1 12)),
  .inl (8, .inl (Z.2.1 13)),
  .inr (1, [.int (Z.1 14 0), .ref 15, .ref 16, .ref 17, .ref 18, .int (Z.1 14 5), .ref 19, .int (Z.1 14 7)]),
  .inl (60, .inl (Z.2.1 15)),
  .inl (3, .inl (Z.2.1 16)),
  .inl (52, .inl (Z.2.1 17)),
  .inl (3, .inl (Z.2.1 18)),
  .inl (8, .inl (Z.2.1 19)),
  .inr (1, [.int (Z.1 20 0), .ref 21, .ref 22, .ref 23, .ref 24, .int (Z.1 20 5), .ref 25, .int (Z.1 20 7)]),
  .inl (60, .inl (Z.2.1 21)),
  .inl (3, .inl (Z.2.1 22)),
  .inl (52, .inl (Z.2.1 23)),
  .inl (3, .inl (Z.2.1 24)),
  .inl (8, .inl (Z.2.1 25)),
  .inr (1, [.int (Z.1 26 0), .ref 27, .ref 28, .ref 29, .ref 30, .int (Z.1 26 5), .ref 31, .int (Z.1 26 7)]),
  .inl (60, .inl (Z.2.1 27)),
  .inl (3, .inl (Z.2.1 28)),
  .inl (52, .inl (Z.2.1 29)),
  .inl (3, .inl (Z.2.1 30)),
  .inl (8, .inl (Z.2.1 31)),
  .inr (1, [.int (Z.1 32 0), .ref 33, .ref 34, .ref 35, .ref 36, .int (Z.1 32 5), .ref 37, .int (Z.1 32 7)]),
  .inl (60, .inl (Z.2.1 33)),
  .inl (3, .inl (Z.2.1 34)),
  .inl (52, .inl (Z.2.1 35)),
  .inl (3, .inl (Z.2.1 36)),
  .inl (8, .inl (Z.2.1 37)),
  .inr (1, [.int (Z.1 38 0), .ref 39, .ref 40, .ref 41, .ref 42, .int (Z.1 38 5), .ref 43, .int (Z.1 38 7)]),
  .inl (60, .inl (Z.2.1 39)),
  .inl (3, .inl (Z.2.1 40)),
  .inl (52, .inl (Z.2.1 41)),
  .inl (3, .inl (Z.2.1 42)),
  .inl (8, .inl (Z.2.1 43)),
  .inl (3, .inl (Z.2.1 44)),
  .inr (2, [.ref 46, .int (Z.1 45 1), .int (Z.1 45 2), .int (Z.1 45 3), .ref 47, .ref 48, .ref 49]),
  .inl (120, .inl (Z.2.1 46)),
  .inl (60, .inl (Z.2.1 47)),
  .inl (60, .inl (Z.2.1 48)),
  .inl (60, .inl (Z.2.1 49)),
  .inr (0, [.ref 51, .ref 52]),
  .inl (400, .inr (.inr (.inl (Z.2.2.1 51)))),
  .inl (4, .inl (Z.2.1 52)),
  .inr (4, [.ref 54, .ref 55, .ref 56, .int (Z.1 53 3), .ref 57, .ref 58, .int (Z.1 53 6), .ref 59, .int (Z.1 53 8), .ref 60, .ref 61, .ref 62, .int (Z.1 53 12), .int (Z.1 53 13), .int (Z.1 53 14), .long Z.2.2.2.2]),
  .inl (129, .inl (Z.2.1 54)),
  .inl (129, .inl (Z.2.1 55)),
  .inl (645, .inl (Z.2.1 56)),
  .inl (3, .inl (Z.2.1 57)),
  .inl (120, .inl (Z.2.1 58)),
  .inl (400, .inr (.inr (.inl (Z.2.2.1 59)))),
  .inl (8, .inl (Z.2.1 60)),
  .inl (60, .inl (Z.2.1 61)),
  .inl (120, .inl (Z.2.1 62))]
def b2i (b : Bool) : Int32 := bif b then 1 else 0
theorem b2i_0 {b : Bool} : b2i b = 0 ↔ b = false := by cases b <;> decide
theorem b2i_1 {b : Bool} : b2i b = 1 ↔ b = true := by cases b <;> decide
theorem xnar_b (b : Bool) : xnar (some .boolean) (some (.int (b2i b))) := by cases b <;> rfl
theorem na {a b : Int32} {m n : Nat} (h1 : a = nI m) (h2 : b = nI n) : a + b = nI (m + n) := by rw [h1, h2, nI_add]
theorem nm {a b : Int32} {m n : Nat} (h1 : a = nI m) (h2 : b = nI n) : a * b = nI (m * n) := by rw [h1, h2, pk_mul]
theorem ns {a b : Int32} {m n : Nat} (h1 : a = nI m) (h2 : b = nI n) (h : n ≤ m) : a - b = nI (m - n) := by rw [h1, h2, pk_sub h]
section XRowsN
variable {M : xM} {d mc ms pc : Nat} {L : xL} {st : List Value} {h : xH} {Post : Option Value → xH → Prop}
theorem XW.if_eqB (t f : Nat) {b : Bool} {off : Int} (hd : decode M.2.1 pc = .ok (.ifCond .eq off, 3)) (ht : (pc : Int) + off = (t : Int)) (hp : pc + 3 = f) (kt : b = false → XW M d mc ms t L st h Post) (kf : b = true → XW M d mc ms f L st h Post) : XW M d mc ms pc L (.int (b2i b) :: st) h Post :=
  XW.if_eq t f hd ht hp (fun c => kt (b2i_0.mp c)) (fun c => kf (by cases b with | false => exact absurd rfl c | true => rfl))
theorem XW.if_neB (t f : Nat) {b : Bool} {off : Int} (hd : decode M.2.1 pc = .ok (.ifCond .ne off, 3)) (ht : (pc : Int) + off = (t : Int)) (hp : pc + 3 = f) (kt : b = true → XW M d mc ms t L st h Post) (kf : b = false → XW M d mc ms f L st h Post) : XW M d mc ms pc L (.int (b2i b) :: st) h Post :=
  XW.if_ne t f hd ht hp (fun c => kt (by cases b with | false => exact absurd rfl c | true => rfl)) (fun c => kf (b2i_0.mp c))
theorem XW.icmp_geN (t f : Nat) (a b : Nat) {x y : Int32} {off : Int} (hd : decode M.2.1 pc = .ok (.if_icmp .ge off, 3)) (ht : (pc : Int) + off = (t : Int)) (hp : pc + 3 = f) (hx : x = nI a) (hy : y = nI b) (ha : a < 2 ^ 31) (hb : b < 2 ^ 31) (kt : b ≤ a → XW M d mc ms t L st h Post) (kf : a < b → XW M d mc ms f L st h Post) : XW M d mc ms pc L (.int y :: .int x :: st) h Post := by
  subst hx; subst hy
  exact XW.icmp_ge t f hd ht hp (fun c => kt ((nI_leI hb ha).mp c)) (fun c => kf (Nat.lt_of_not_le (fun q => c ((nI_leI hb ha).mpr q))))
theorem XW.icmp_gtN (t f : Nat) (a b : Nat) {x y : Int32} {off : Int} (hd : decode M.2.1 pc = .ok (.if_icmp .gt off, 3)) (ht : (pc : Int) + off = (t : Int)) (hp : pc + 3 = f) (hx : x = nI a) (hy : y = nI b) (ha : a < 2 ^ 31) (hb : b < 2 ^ 31) (kt : b < a → XW M d mc ms t L st h Post) (kf : a ≤ b → XW M d mc ms f L st h Post) : XW M d mc ms pc L (.int y :: .int x :: st) h Post := by
  subst hx; subst hy
  exact XW.icmp_gt t f hd ht hp (fun c => kt ((nI_ltI hb ha).mp c)) (fun c => kf (Nat.le_of_not_lt (fun q => c ((nI_ltI hb ha).mpr q))))
theorem XW.icmp_ltN (t f : Nat) (a b : Nat) {x y : Int32} {off : Int} (hd : decode M.2.1 pc = .ok (.if_icmp .lt off, 3)) (ht : (pc : Int) + off = (t : Int)) (hp : pc + 3 = f) (hx : x = nI a) (hy : y = nI b) (ha : a < 2 ^ 31) (hb : b < 2 ^ 31) (kt : a < b → XW M d mc ms t L st h Post) (kf : b ≤ a → XW M d mc ms f L st h Post) : XW M d mc ms pc L (.int y :: .int x :: st) h Post := by
  subst hx; subst hy
  exact XW.icmp_lt t f hd ht hp (fun c => kt ((nI_ltI ha hb).mp c)) (fun c => kf (Nat.le_of_not_lt (fun q => c ((nI_ltI ha hb).mpr q))))
theorem XW.icmp_leN (t f : Nat) (a b : Nat) {x y : Int32} {off : Int} (hd : decode M.2.1 pc = .ok (.if_icmp .le off, 3)) (ht : (pc : Int) + off = (t : Int)) (hp : pc + 3 = f) (hx : x = nI a) (hy : y = nI b) (ha : a < 2 ^ 31) (hb : b < 2 ^ 31) (kt : a ≤ b → XW M d mc ms t L st h Post) (kf : b < a → XW M d mc ms f L st h Post) : XW M d mc ms pc L (.int y :: .int x :: st) h Post := by
  subst hx; subst hy
  exact XW.icmp_le t f hd ht hp (fun c => kt ((nI_leI ha hb).mp c)) (fun c => kf (Nat.lt_of_not_le (fun q => c ((nI_leI ha hb).mpr q))))
theorem XW.icmp_eqN (t f : Nat) (a b : Nat) {x y : Int32} {off : Int} (hd : decode M.2.1 pc = .ok (.if_icmp .eq off, 3)) (ht : (pc : Int) + off = (t : Int)) (hp : pc + 3 = f) (hx : x = nI a) (hy : y = nI b) (ha : a < 2 ^ 31) (hb : b < 2 ^ 31) (kt : a = b → XW M d mc ms t L st h Post) (kf : ¬ a = b → XW M d mc ms f L st h Post) : XW M d mc ms pc L (.int y :: .int x :: st) h Post := by
  subst hx; subst hy
  exact XW.icmp_eq t f hd ht hp (fun c => kt ((nI_eq ha hb).mp c)) (fun c => kf (fun q => c ((nI_eq ha hb).mpr q)))
theorem XW.icmp_neN (t f : Nat) (a b : Nat) {x y : Int32} {off : Int} (hd : decode M.2.1 pc = .ok (.if_icmp .ne off, 3)) (ht : (pc : Int) + off = (t : Int)) (hp : pc + 3 = f) (hx : x = nI a) (hy : y = nI b) (ha : a < 2 ^ 31) (hb : b < 2 ^ 31) (kt : ¬ a = b → XW M d mc ms t L st h Post) (kf : a = b → XW M d mc ms f L st h Post) : XW M d mc ms pc L (.int y :: .int x :: st) h Post := by
  subst hx; subst hy
  exact XW.icmp_ne t f hd ht hp (fun c => kt (fun q => c ((nI_eq ha hb).mpr q))) (fun c => kf ((nI_eq ha hb).mp c))
end XRowsN
end
section
/-! Leaves: static methods-/
def inF (v a b : Int32) : Bool := decide (a ≤ v) && decide (v ≤ b)
theorem inF_t {v a b : Int32} (h1 : ¬ v < a) (h2 : ¬ b < v) : inF v a b = true := by
  unfold inF; simp only [Bool.and_eq_true, decide_eq_true_eq]; exact ⟨Int32.not_lt.mp h1, Int32.not_lt.mp h2⟩
theorem inF_f1 {v a b : Int32} (h1 : v < a) : inF v a b = false := by
  unfold inF; rw [Bool.and_eq_false_iff]; exact Or.inl (decide_eq_false (Int32.not_le.mpr h1))
theorem inF_f2 {v a b : Int32} (h1 : b < v) : inF v a b = false := by
  unfold inF; rw [Bool.and_eq_false_iff]; exact Or.inr (decide_eq_false (Int32.not_le.mpr h1))
theorem inF_iff {v a b : Int32} : inF v a b = true ↔ a ≤ v ∧ v ≤ b := by
  unfold inF; simp only [Bool.and_eq_true, decide_eq_true_eq]
theorem pT {X : Bool} (e : X = true) : some (Value.int 1) = some (.int (b2i X)) := by rw [e]; rfl
theorem pF {X : Bool} (e : X = false) : some (Value.int 0) = some (.int (b2i X)) := by rw [e]; rfl
theorem pE {a b : Int32} (e : a = b) : some (Value.int a) = some (.int b) := by rw [e]
theorem pG {a b : UInt32} (e : a = b) : some (Value.float a) = some (.float b) := by rw [e]
set_option maxHeartbeats 4000000 in
set_option maxRecDepth 100000 in
theorem c_isWithin (x y z : Int32) (h : xH) : XC mX3_isWithin 0 0 0 [.int x, .int y, .int z] (h) (fun r h' => r = some (.int (b2i (inF x y z))) ∧ h' = h) := by
  show XW mX3_isWithin 0 0 0 0 [some (.int x), some (.int y), some (.int z)] [] (h) _
  refine XW.iload_n 1 dX3_isWithin_0 rfl rfl ?_
  refine XW.iload_n 2 dX3_isWithin_1 rfl rfl ?_
  refine XW.icmp_lt 14 5 dX3_isWithin_2 (by decide) rfl (fun c_2 => ?_) (fun c_2 => ?_)
  · have e0 := inF_f1 (b := z) c_2
    refine XW.iconst 15 dX3_isWithin_14 (v := 0) (by decide) rfl ?_
    exact XW.iret dX3_isWithin_15 rfl (⟨pF e0, rfl⟩)
  · refine XW.iload_n 6 dX3_isWithin_5 rfl rfl ?_
    refine XW.iload_n 7 dX3_isWithin_6 rfl rfl ?_
    refine XW.icmp_gt 14 10 dX3_isWithin_7 (by decide) rfl (fun c_7 => ?_) (fun c_7 => ?_)
    · have e0 := inF_f2 (a := y) c_7
      refine XW.iconst 15 dX3_isWithin_14 (v := 0) (by decide) rfl ?_
      exact XW.iret dX3_isWithin_15 rfl (⟨pF e0, rfl⟩)
    · refine XW.iconst 11 dX3_isWithin_10 (v := 1) (by decide) rfl ?_
      refine XW.goto 15 dX3_isWithin_11 (by decide) ?_
      exact XW.iret dX3_isWithin_15 rfl (⟨pT (inF_t c_2 c_7), rfl⟩)
set_option maxHeartbeats 4000000 in
set_option maxRecDepth 100000 in
theorem c_in_ (x y z : Int32) (h : xH) : XC mX4_in 0 0 0 [.int x, .int y, .int z] (h) (fun r h' => r = some (.int (b2i (inF x y z))) ∧ h' = h) := by
  show XW mX4_in 0 0 0 0 [some (.int x), some (.int y), some (.int z)] [] (h) _
  refine XW.iload_n 1 dX4_in_0 rfl rfl ?_
  refine XW.iload_n 2 dX4_in_1 rfl rfl ?_
  refine XW.icmp_lt 14 5 dX4_in_2 (by decide) rfl (fun c_2 => ?_) (fun c_2 => ?_)
  · have e0 := inF_f1 (b := z) c_2
    refine XW.iconst 15 dX4_in_14 (v := 0) (by decide) rfl ?_
    exact XW.iret dX4_in_15 rfl (⟨pF e0, rfl⟩)
  · refine XW.iload_n 6 dX4_in_5 rfl rfl ?_
    refine XW.iload_n 7 dX4_in_6 rfl rfl ?_
    refine XW.icmp_gt 14 10 dX4_in_7 (by decide) rfl (fun c_7 => ?_) (fun c_7 => ?_)
    · have e0 := inF_f2 (a := y) c_7
      refine XW.iconst 15 dX4_in_14 (v := 0) (by decide) rfl ?_
      exact XW.iret dX4_in_15 rfl (⟨pF e0, rfl⟩)
    · refine XW.iconst 11 dX4_in_10 (v := 1) (by decide) rfl ?_
      refine XW.goto 15 dX4_in_11 (by decide) ?_
      exact XW.iret dX4_in_15 rfl (⟨pT (inF_t c_2 c_7), rfl⟩)
def c299 : UInt32 := 1050220167
def c587 : UInt32 := 1058424226
def c114 : UInt32 := 1038710997
def c100 : UInt32 := 1120403456
/-- LIGHT of three numbers -/
def lightF (r g b : Int32) : UInt32 := FP.fadd (FP.fadd (FP.fmul 1050220167 (FP.i2f r)) (FP.fmul 1058424226 (FP.i2f g))) (FP.fmul 1038710997 (FP.i2f b))
def lightN (r g b : Int32) : Prop := vf_n32 (FP.fmul 1050220167 (FP.i2f r)) ∧ vf_n32 (FP.fmul 1058424226 (FP.i2f g)) ∧ vf_n32 (FP.fadd (FP.fmul 1050220167 (FP.i2f r)) (FP.fmul 1058424226 (FP.i2f g))) ∧ vf_n32 (FP.fmul 1038710997 (FP.i2f b)) ∧ vf_n32 (lightF r g b)
theorem nj {x : Int32} {m n : Nat} (h : x = nI m) (e : m = n) : x = nI n := by rw [h, e]
def eyeNumF (k v : Int32) : Bool := inF k 0 12 && (if k = 12 then inF v 0 1 else if 9 ≤ k then inF v 0 9 else inF v (-300) 300)
def rgbF (r g b : Int32) : Bool := inF r 0 255 && inF g 0 255 && inF b 0 255
set_option maxHeartbeats 4000000 in
set_option maxRecDepth 100000 in
theorem c_isEye (x : Int32) (h : xH) : XC mX3_isEye 1 0 0 [.int x] (h) (fun r h' => r = some (.int (b2i (inF x 0 3))) ∧ h' = h) := by
  show XW mX3_isEye 1 0 0 0 [some (.int x)] [] (h) _
  refine XW.iload_n 1 dX3_isEye_0 rfl rfl ?_
  refine XW.iconst 2 dX3_isEye_1 (v := 0) (by decide) rfl ?_
  refine XW.iconst 3 dX3_isEye_2 (v := 3) (by decide) rfl ?_
  refine XW.callS 6 (vs := [.int x, .int 0, .int 3]) (rest := []) (mcr := 0) (msr := 0) c3_97 dX3_isEye_3 rfl (by decide) (Nat.le_of_ble_eq_true rfl) rfl rfl (Nat.le_of_ble_eq_true rfl) rfl (c_isWithin _ _ _ _) (fun r h1 hq => ?_)
  obtain ⟨rfl, rfl⟩ := hq
  exact XW.iret dX3_isEye_6 (xnar_b _) (⟨rfl, rfl⟩)
set_option maxHeartbeats 4000000 in
set_option maxRecDepth 100000 in
theorem k_isEye (x : Int32) (h : xH) : XC mX4_isEye 1 0 0 [.int x] (h) (fun r h' => r = some (.int (b2i (inF x 0 3))) ∧ h' = h) := by
  show XW mX4_isEye 1 0 0 0 [some (.int x)] [] (h) _
  refine XW.iload_n 1 dX4_isEye_0 rfl rfl ?_
  refine XW.iconst 2 dX4_isEye_1 (v := 0) (by decide) rfl ?_
  refine XW.iconst 3 dX4_isEye_2 (v := 3) (by decide) rfl ?_
  refine XW.callS 6 (vs := [.int x, .int 0, .int 3]) (rest := []) (mcr := 0) (msr := 0) c4_49 dX4_isEye_3 rfl (by decide) (Nat.le_of_ble_eq_true rfl) rfl rfl (Nat.le_of_ble_eq_true rfl) rfl (c_in_ _ _ _ _) (fun r h1 hq => ?_)
  obtain ⟨rfl, rfl⟩ := hq
  exact XW.iret dX4_isEye_6 (xnar_b _) (⟨rfl, rfl⟩)
set_option maxHeartbeats 4000000 in
set_option maxRecDepth 100000 in
theorem k_isPart (x : Int32) (h : xH) : XC mX4_isPart 1 0 0 [.int x] (h) (fun r h' => r = some (.int (b2i (inF x 0 255))) ∧ h' = h) := by
  show XW mX4_isPart 1 0 0 0 [some (.int x)] [] (h) _
  refine XW.iload_n 1 dX4_isPart_0 rfl rfl ?_
  refine XW.iconst 2 dX4_isPart_1 (v := 0) (by decide) rfl ?_
  refine XW.sipush 5 dX4_isPart_2 (v := 255) (by decide) rfl ?_
  refine XW.callS 8 (vs := [.int x, .int 0, .int 255]) (rest := []) (mcr := 0) (msr := 0) c4_49 dX4_isPart_5 rfl (by decide) (Nat.le_of_ble_eq_true rfl) rfl rfl (Nat.le_of_ble_eq_true rfl) rfl (c_in_ _ _ _ _) (fun r h1 hq => ?_)
  obtain ⟨rfl, rfl⟩ := hq
  exact XW.iret dX4_isPart_8 (xnar_b _) (⟨rfl, rfl⟩)
set_option maxHeartbeats 4000000 in
set_option maxRecDepth 100000 in
theorem c_isRgb (x y z : Int32) (h : xH) : XC mX3_isRgb 1 0 0 [.int x, .int y, .int z] (h) (fun r h' => r = some (.int (b2i (rgbF x y z))) ∧ h' = h) := by
  show XW mX3_isRgb 1 0 0 0 [some (.int x), some (.int y), some (.int z)] [] (h) _
  refine XW.iload_n 1 dX3_isRgb_0 rfl rfl ?_
  refine XW.iconst 2 dX3_isRgb_1 (v := 0) (by decide) rfl ?_
  refine XW.sipush 5 dX3_isRgb_2 (v := 255) (by decide) rfl ?_
  refine XW.callS 8 (vs := [.int x, .int 0, .int 255]) (rest := []) (mcr := 0) (msr := 0) c3_97 dX3_isRgb_5 rfl (by decide) (Nat.le_of_ble_eq_true rfl) rfl rfl (Nat.le_of_ble_eq_true rfl) rfl (c_isWithin _ _ _ _) (fun r h1 hq => ?_)
  obtain ⟨rfl, rfl⟩ := hq
  refine XW.if_eqB 37 11 dX3_isRgb_8 (by decide) rfl (fun c_8 => ?_) (fun c_8 => ?_)
  · refine XW.iconst 38 dX3_isRgb_37 (v := 0) (by decide) rfl ?_
    exact XW.iret dX3_isRgb_38 rfl (⟨pF (by simp [rgbF, *]), rfl⟩)
  · refine XW.iload_n 12 dX3_isRgb_11 rfl rfl ?_
    refine XW.iconst 13 dX3_isRgb_12 (v := 0) (by decide) rfl ?_
    refine XW.sipush 16 dX3_isRgb_13 (v := 255) (by decide) rfl ?_
    refine XW.callS 19 (vs := [.int y, .int 0, .int 255]) (rest := []) (mcr := 0) (msr := 0) c3_97 dX3_isRgb_16 rfl (by decide) (Nat.le_of_ble_eq_true rfl) rfl rfl (Nat.le_of_ble_eq_true rfl) rfl (c_isWithin _ _ _ _) (fun r h1 hq => ?_)
    obtain ⟨rfl, rfl⟩ := hq
    refine XW.if_eqB 37 22 dX3_isRgb_19 (by decide) rfl (fun c_19 => ?_) (fun c_19 => ?_)
    · refine XW.iconst 38 dX3_isRgb_37 (v := 0) (by decide) rfl ?_
      exact XW.iret dX3_isRgb_38 rfl (⟨pF (by simp [rgbF, *]), rfl⟩)
    · refine XW.iload_n 23 dX3_isRgb_22 rfl rfl ?_
      refine XW.iconst 24 dX3_isRgb_23 (v := 0) (by decide) rfl ?_
      refine XW.sipush 27 dX3_isRgb_24 (v := 255) (by decide) rfl ?_
      refine XW.callS 30 (vs := [.int z, .int 0, .int 255]) (rest := []) (mcr := 0) (msr := 0) c3_97 dX3_isRgb_27 rfl (by decide) (Nat.le_of_ble_eq_true rfl) rfl rfl (Nat.le_of_ble_eq_true rfl) rfl (c_isWithin _ _ _ _) (fun r h1 hq => ?_)
      obtain ⟨rfl, rfl⟩ := hq
      refine XW.if_eqB 37 33 dX3_isRgb_30 (by decide) rfl (fun c_30 => ?_) (fun c_30 => ?_)
      · refine XW.iconst 38 dX3_isRgb_37 (v := 0) (by decide) rfl ?_
        exact XW.iret dX3_isRgb_38 rfl (⟨pF (by simp [rgbF, *]), rfl⟩)
      · refine XW.iconst 34 dX3_isRgb_33 (v := 1) (by decide) rfl ?_
        refine XW.goto 38 dX3_isRgb_34 (by decide) ?_
        exact XW.iret dX3_isRgb_38 rfl (⟨pT (by simp [rgbF, *]), rfl⟩)
set_option maxHeartbeats 4000000 in
set_option maxRecDepth 100000 in
theorem k_areParts (x y z : Int32) (h : xH) : XC mX4_areParts 2 0 0 [.int x, .int y, .int z] (h) (fun r h' => r = some (.int (b2i (rgbF x y z))) ∧ h' = h) := by
  show XW mX4_areParts 2 0 0 0 [some (.int x), some (.int y), some (.int z)] [] (h) _
  refine XW.iload_n 1 dX4_areParts_0 rfl rfl ?_
  refine XW.callS 4 (vs := [.int x]) (rest := []) (mcr := 0) (msr := 0) c4_53 dX4_areParts_1 rfl (by decide) (Nat.le_of_ble_eq_true rfl) rfl rfl (Nat.le_of_ble_eq_true rfl) rfl (k_isPart _ _) (fun r h1 hq => ?_)
  obtain ⟨rfl, rfl⟩ := hq
  refine XW.if_eqB 25 7 dX4_areParts_4 (by decide) rfl (fun c_4 => ?_) (fun c_4 => ?_)
  · refine XW.iconst 26 dX4_areParts_25 (v := 0) (by decide) rfl ?_
    exact XW.iret dX4_areParts_26 rfl (⟨pF (by simp [rgbF, *]), rfl⟩)
  · refine XW.iload_n 8 dX4_areParts_7 rfl rfl ?_
    refine XW.callS 11 (vs := [.int y]) (rest := []) (mcr := 0) (msr := 0) c4_53 dX4_areParts_8 rfl (by decide) (Nat.le_of_ble_eq_true rfl) rfl rfl (Nat.le_of_ble_eq_true rfl) rfl (k_isPart _ _) (fun r h1 hq => ?_)
    obtain ⟨rfl, rfl⟩ := hq
    refine XW.if_eqB 25 14 dX4_areParts_11 (by decide) rfl (fun c_11 => ?_) (fun c_11 => ?_)
    · refine XW.iconst 26 dX4_areParts_25 (v := 0) (by decide) rfl ?_
      exact XW.iret dX4_areParts_26 rfl (⟨pF (by simp [rgbF, *]), rfl⟩)
    · refine XW.iload_n 15 dX4_areParts_14 rfl rfl ?_
      refine XW.callS 18 (vs := [.int z]) (rest := []) (mcr := 0) (msr := 0) c4_53 dX4_areParts_15 rfl (by decide) (Nat.le_of_ble_eq_true rfl) rfl rfl (Nat.le_of_ble_eq_true rfl) rfl (k_isPart _ _) (fun r h1 hq => ?_)
      obtain ⟨rfl, rfl⟩ := hq
      refine XW.if_eqB 25 21 dX4_areParts_18 (by decide) rfl (fun c_18 => ?_) (fun c_18 => ?_)
      · refine XW.iconst 26 dX4_areParts_25 (v := 0) (by decide) rfl ?_
        exact XW.iret dX4_areParts_26 rfl (⟨pF (by simp [rgbF, *]), rfl⟩)
      · refine XW.iconst 22 dX4_areParts_21 (v := 1) (by decide) rfl ?_
        refine XW.goto 26 dX4_areParts_22 (by decide) ?_
        exact XW.iret dX4_areParts_26 rfl (⟨pT (by simp [rgbF, *]), rfl⟩)
theorem eyeNumF_t {k v : Int32} (h : inF k 0 12 = true) : eyeNumF k v = (if k = 12 then inF v 0 1 else if 9 ≤ k then inF v 0 9 else inF v (-300) 300) := by unfold eyeNumF; rw [h]; rfl
def ofEyeF (k v : Int32) : Bool := if 9 ≤ k then (if 12 ≤ k then inF v 0 1 else inF v 0 9) else inF v (-300) 300
theorem ofEyeF_eq {k v : Int32} (h : inF k 0 12 = true) : eyeNumF k v = ofEyeF k v := by
  rw [eyeNumF_t h]
  have h2 := (inF_iff.mp h).2
  unfold ofEyeF
  by_cases e : k = 12
  · subst e; simp
  · have : ¬ 12 ≤ k := fun q => e (Int32.le_antisymm h2 q)
    simp [e, this]
set_option maxHeartbeats 4000000 in
set_option maxRecDepth 100000 in
theorem c_isEyeNumber (k v : Int32) (h : xH) : XC mX3_isEyeNumber 1 0 0 [.int k, .int v] (h) (fun r h' => r = some (.int (b2i (eyeNumF k v))) ∧ h' = h) := by
  show XW mX3_isEyeNumber 1 0 0 0 [some (.int k), some (.int v)] [] (h) _
  refine XW.iload_n 1 dX3_isEyeNumber_0 rfl rfl ?_
  refine XW.iconst 2 dX3_isEyeNumber_1 (v := 0) (by decide) rfl ?_
  refine XW.bipush 4 dX3_isEyeNumber_2 (v := 12) (by decide) rfl ?_
  refine XW.callS 7 (vs := [.int k, .int 0, .int 12]) (rest := []) (mcr := 0) (msr := 0) c3_97 dX3_isEyeNumber_4 rfl (by decide) (Nat.le_of_ble_eq_true rfl) rfl rfl (Nat.le_of_ble_eq_true rfl) rfl (c_isWithin _ _ _ _) (fun r h1 hq => ?_)
  obtain ⟨rfl, rfl⟩ := hq
  refine XW.if_neB 12 10 dX3_isEyeNumber_7 (by decide) rfl (fun c_7 => ?_) (fun c_7 => ?_)
  · refine XW.iload_n 13 dX3_isEyeNumber_12 rfl rfl ?_
    refine XW.bipush 15 dX3_isEyeNumber_13 (v := 12) (by decide) rfl ?_
    refine XW.icmp_ne 25 18 dX3_isEyeNumber_15 (by decide) rfl (fun c_15 => ?_) (fun c_15 => ?_)
    · refine XW.iload_n 26 dX3_isEyeNumber_25 rfl rfl ?_
      refine XW.bipush 28 dX3_isEyeNumber_26 (v := 9) (by decide) rfl ?_
      refine XW.icmp_lt 41 31 dX3_isEyeNumber_28 (by decide) rfl (fun c_28 => ?_) (fun c_28 => ?_)
      · refine XW.iload_n 42 dX3_isEyeNumber_41 rfl rfl ?_
        refine XW.sipush 45 dX3_isEyeNumber_42 (v := -300) (by decide) rfl ?_
        refine XW.sipush 48 dX3_isEyeNumber_45 (v := 300) (by decide) rfl ?_
        refine XW.callS 51 (vs := [.int v, .int (-300), .int 300]) (rest := []) (mcr := 0) (msr := 0) c3_97 dX3_isEyeNumber_48 rfl (by decide) (Nat.le_of_ble_eq_true rfl) rfl rfl (Nat.le_of_ble_eq_true rfl) rfl (c_isWithin _ _ _ _) (fun r h1 hq => ?_)
        obtain ⟨rfl, rfl⟩ := hq
        exact XW.iret dX3_isEyeNumber_51 (xnar_b _) (⟨by rw [eyeNumF_t c_7, if_neg c_15, if_neg (Int32.not_le.mpr c_28)], rfl⟩)
      · refine XW.iload_n 32 dX3_isEyeNumber_31 rfl rfl ?_
        refine XW.iconst 33 dX3_isEyeNumber_32 (v := 0) (by decide) rfl ?_
        refine XW.bipush 35 dX3_isEyeNumber_33 (v := 9) (by decide) rfl ?_
        refine XW.callS 38 (vs := [.int v, .int 0, .int 9]) (rest := []) (mcr := 0) (msr := 0) c3_97 dX3_isEyeNumber_35 rfl (by decide) (Nat.le_of_ble_eq_true rfl) rfl rfl (Nat.le_of_ble_eq_true rfl) rfl (c_isWithin _ _ _ _) (fun r h1 hq => ?_)
        obtain ⟨rfl, rfl⟩ := hq
        refine XW.goto 51 dX3_isEyeNumber_38 (by decide) ?_
        exact XW.iret dX3_isEyeNumber_51 (xnar_b _) (⟨by rw [eyeNumF_t c_7, if_neg c_15, if_pos (Int32.not_lt.mp c_28)], rfl⟩)
    · refine XW.iload_n 19 dX3_isEyeNumber_18 rfl rfl ?_
      refine XW.iconst 20 dX3_isEyeNumber_19 (v := 0) (by decide) rfl ?_
      refine XW.iconst 21 dX3_isEyeNumber_20 (v := 1) (by decide) rfl ?_
      refine XW.callS 24 (vs := [.int v, .int 0, .int 1]) (rest := []) (mcr := 0) (msr := 0) c3_97 dX3_isEyeNumber_21 rfl (by decide) (Nat.le_of_ble_eq_true rfl) rfl rfl (Nat.le_of_ble_eq_true rfl) rfl (c_isWithin _ _ _ _) (fun r h1 hq => ?_)
      obtain ⟨rfl, rfl⟩ := hq
      exact XW.iret dX3_isEyeNumber_24 (xnar_b _) (⟨by rw [eyeNumF_t c_7, if_pos c_15], rfl⟩)
  · refine XW.iconst 11 dX3_isEyeNumber_10 (v := 0) (by decide) rfl ?_
    exact XW.iret dX3_isEyeNumber_11 rfl (⟨pF (by simp [eyeNumF, *]), rfl⟩)
set_option maxHeartbeats 4000000 in
set_option maxRecDepth 100000 in
theorem k_isOfEye (k v : Int32) (h : xH) : XC mX4_isOfEye 1 0 0 [.int k, .int v] (h) (fun r h' => r = some (.int (b2i (ofEyeF k v))) ∧ h' = h) := by
  show XW mX4_isOfEye 1 0 0 0 [some (.int k), some (.int v)] [] (h) _
  refine XW.iload_n 1 dX4_isOfEye_0 rfl rfl ?_
  refine XW.bipush 3 dX4_isOfEye_1 (v := 9) (by decide) rfl ?_
  refine XW.icmp_ge 19 6 dX4_isOfEye_3 (by decide) rfl (fun c_3 => ?_) (fun c_3 => ?_)
  · refine XW.iload_n 20 dX4_isOfEye_19 rfl rfl ?_
    refine XW.bipush 22 dX4_isOfEye_20 (v := 12) (by decide) rfl ?_
    refine XW.icmp_ge 35 25 dX4_isOfEye_22 (by decide) rfl (fun c_22 => ?_) (fun c_22 => ?_)
    · refine XW.iload_n 36 dX4_isOfEye_35 rfl rfl ?_
      refine XW.iconst 37 dX4_isOfEye_36 (v := 0) (by decide) rfl ?_
      refine XW.iconst 38 dX4_isOfEye_37 (v := 1) (by decide) rfl ?_
      refine XW.callS 41 (vs := [.int v, .int 0, .int 1]) (rest := []) (mcr := 0) (msr := 0) c4_49 dX4_isOfEye_38 rfl (by decide) (Nat.le_of_ble_eq_true rfl) rfl rfl (Nat.le_of_ble_eq_true rfl) rfl (c_in_ _ _ _ _) (fun r h1 hq => ?_)
      obtain ⟨rfl, rfl⟩ := hq
      exact XW.iret dX4_isOfEye_41 (xnar_b _) (⟨by unfold ofEyeF; rw [if_pos c_3, if_pos c_22], rfl⟩)
    · refine XW.iload_n 26 dX4_isOfEye_25 rfl rfl ?_
      refine XW.iconst 27 dX4_isOfEye_26 (v := 0) (by decide) rfl ?_
      refine XW.bipush 29 dX4_isOfEye_27 (v := 9) (by decide) rfl ?_
      refine XW.callS 32 (vs := [.int v, .int 0, .int 9]) (rest := []) (mcr := 0) (msr := 0) c4_49 dX4_isOfEye_29 rfl (by decide) (Nat.le_of_ble_eq_true rfl) rfl rfl (Nat.le_of_ble_eq_true rfl) rfl (c_in_ _ _ _ _) (fun r h1 hq => ?_)
      obtain ⟨rfl, rfl⟩ := hq
      refine XW.goto 41 dX4_isOfEye_32 (by decide) ?_
      exact XW.iret dX4_isOfEye_41 (xnar_b _) (⟨by unfold ofEyeF; rw [if_pos c_3, if_neg c_22], rfl⟩)
  · refine XW.iload_n 7 dX4_isOfEye_6 rfl rfl ?_
    refine XW.sipush 10 dX4_isOfEye_7 (v := -300) (by decide) rfl ?_
    refine XW.sipush 13 dX4_isOfEye_10 (v := 300) (by decide) rfl ?_
    refine XW.callS 16 (vs := [.int v, .int (-300), .int 300]) (rest := []) (mcr := 0) (msr := 0) c4_49 dX4_isOfEye_13 rfl (by decide) (Nat.le_of_ble_eq_true rfl) rfl rfl (Nat.le_of_ble_eq_true rfl) rfl (c_in_ _ _ _ _) (fun r h1 hq => ?_)
    obtain ⟨rfl, rfl⟩ := hq
    refine XW.goto 41 dX4_isOfEye_16 (by decide) ?_
    exact XW.iret dX4_isOfEye_41 (xnar_b _) (⟨by unfold ofEyeF; rw [if_neg c_3], rfl⟩)
set_option maxHeartbeats 4000000 in
set_option maxRecDepth 100000 in
theorem c_redOf (x : Int32) (h : xH) : XC mX3_redOf 0 0 0 [.int x] (h) (fun r h' => r = some (.int ((x >>> ((16 : Int32) &&& 31)) &&& 255)) ∧ h' = h) := by
  show XW mX3_redOf 0 0 0 0 [some (.int x)] [] (h) _
  refine XW.iload_n 1 dX3_redOf_0 rfl rfl ?_
  refine XW.bipush 3 dX3_redOf_1 (v := 16) (by decide) rfl ?_
  refine XW.ishr 4 dX3_redOf_3 rfl ?_
  refine XW.sipush 7 dX3_redOf_4 (v := 255) (by decide) rfl ?_
  refine XW.iand 8 dX3_redOf_7 rfl ?_
  exact XW.iret dX3_redOf_8 rfl (⟨rfl, rfl⟩)
set_option maxHeartbeats 4000000 in
set_option maxRecDepth 100000 in
theorem c_greenOf (x : Int32) (h : xH) : XC mX3_greenOf 0 0 0 [.int x] (h) (fun r h' => r = some (.int ((x >>> ((8 : Int32) &&& 31)) &&& 255)) ∧ h' = h) := by
  show XW mX3_greenOf 0 0 0 0 [some (.int x)] [] (h) _
  refine XW.iload_n 1 dX3_greenOf_0 rfl rfl ?_
  refine XW.bipush 3 dX3_greenOf_1 (v := 8) (by decide) rfl ?_
  refine XW.ishr 4 dX3_greenOf_3 rfl ?_
  refine XW.sipush 7 dX3_greenOf_4 (v := 255) (by decide) rfl ?_
  refine XW.iand 8 dX3_greenOf_7 rfl ?_
  exact XW.iret dX3_greenOf_8 rfl (⟨rfl, rfl⟩)
set_option maxHeartbeats 4000000 in
set_option maxRecDepth 100000 in
theorem c_blueOf (x : Int32) (h : xH) : XC mX3_blueOf 0 0 0 [.int x] (h) (fun r h' => r = some (.int (x &&& 255)) ∧ h' = h) := by
  show XW mX3_blueOf 0 0 0 0 [some (.int x)] [] (h) _
  refine XW.iload_n 1 dX3_blueOf_0 rfl rfl ?_
  refine XW.sipush 4 dX3_blueOf_1 (v := 255) (by decide) rfl ?_
  refine XW.iand 5 dX3_blueOf_4 rfl ?_
  exact XW.iret dX3_blueOf_5 rfl (⟨rfl, rfl⟩)
def bitB (x k : Int32) : Bool := decide (x >>> (k &&& 31) &&& 1 = 1)
set_option maxHeartbeats 4000000 in
set_option maxRecDepth 100000 in
theorem k_has (x k : Int32) (h : xH) : XC mX4_has 0 0 0 [.int x, .int k] (h) (fun r h' => r = some (.int (b2i (bitB x k))) ∧ h' = h) := by
  show XW mX4_has 0 0 0 0 [some (.int x), some (.int k)] [] (h) _
  refine XW.iload_n 1 dX4_has_0 rfl rfl ?_
  refine XW.iload_n 2 dX4_has_1 rfl rfl ?_
  refine XW.ishr 3 dX4_has_2 rfl ?_
  refine XW.iconst 4 dX4_has_3 (v := 1) (by decide) rfl ?_
  refine XW.iand 5 dX4_has_4 rfl ?_
  refine XW.iconst 6 dX4_has_5 (v := 1) (by decide) rfl ?_
  refine XW.icmp_ne 13 9 dX4_has_6 (by decide) rfl (fun c_6 => ?_) (fun c_6 => ?_)
  · refine XW.iconst 14 dX4_has_13 (v := 0) (by decide) rfl ?_
    exact XW.iret dX4_has_14 rfl (⟨pF (by simp [bitB, *]), rfl⟩)
  · refine XW.iconst 10 dX4_has_9 (v := 1) (by decide) rfl ?_
    refine XW.goto 14 dX4_has_10 (by decide) ?_
    exact XW.iret dX4_has_14 rfl (⟨pT (by simp [bitB, *]), rfl⟩)
end
section
/-! Floats: what is used of them -/
/-- a number of sign 0, finite -/
def NF (x : UInt32) : Prop := x.toNat < 0x7f800000
def cmpU (x y : UInt32) : Int32 := if x < y then -1 else if x = y then 0 else 1
theorem fl_cmp {x y : UInt32} (hx : NF x) (hy : NF y) (op : CmpOp) : Op.cmpValue (FP.fcmp x y) op = cmpU x y := sorry
theorem cmpU_lt {x y : UInt32} : cmpU x y < 0 ↔ x < y := by
  unfold cmpU; split
  · rename_i h; simp [h]
  · rename_i h; split
    · simp [h]
    · simp [h]
theorem cmpU_gt {x y : UInt32} : 0 < cmpU x y ↔ y < x := by
  unfold cmpU; split
  · rename_i h; constructor
    · intro q; exact absurd q (by decide)
    · intro q; exact absurd q (UInt32.not_lt.mpr (UInt32.le_of_lt h))
  · rename_i h; split
    · rename_i e; subst e; simp
    · rename_i e; constructor
      · intro _; exact UInt32.lt_of_le_of_ne (UInt32.not_lt.mp h) (fun q => e q.symm)
      · intro _; decide
theorem cmpU_ge {x y : UInt32} : 0 ≤ cmpU x y ↔ y ≤ x := by
  rw [← Int32.not_lt, cmpU_lt, UInt32.not_lt]
theorem cmpU_le {x y : UInt32} : cmpU x y ≤ 0 ↔ x ≤ y := by
  rw [← Int32.not_lt, cmpU_gt, UInt32.not_lt]
theorem NF_0 : NF FP.fconst0 := by unfold NF; decide
def absF (s : UInt32) : UInt32 := if 0 ≤ Op.cmpValue (FP.fcmp s FP.fconst0) .g then s else FP.fneg s
def gapN (s : UInt32) (g : Int32) : Bool := decide (Op.cmpValue (FP.fcmp (absF s) (FP.i2f g)) .l < 0)
/-- whether a COLOUR FITS: its light, the ground's, LOW, HIGH, GAP -/
def fitF (own gl : UInt32) (lo hi gap : Int32) : Bool := !decide (own < FP.i2f lo) && (!decide (FP.i2f hi < own) && !gapN (FP.fsub own gl) gap)
/-- SEEN in a row -/
def seenF (x y z r g b : Int32) : UInt32 := FP.fadd (FP.fadd (FP.fmul (FP.fdiv (FP.i2f x) 1120403456) (FP.i2f r)) (FP.fmul (FP.fdiv (FP.i2f y) 1120403456) (FP.i2f g))) (FP.fmul (FP.fdiv (FP.i2f z) 1120403456) (FP.i2f b))
def seenN (x y z r g b : Int32) : Prop := vf_n32 (FP.fdiv (FP.i2f x) 1120403456) ∧ vf_n32 (FP.fdiv (FP.i2f y) 1120403456) ∧ vf_n32 (FP.fdiv (FP.i2f z) 1120403456) ∧ vf_n32 (FP.fmul (FP.fdiv (FP.i2f x) 1120403456) (FP.i2f r)) ∧ vf_n32 (FP.fmul (FP.fdiv (FP.i2f y) 1120403456) (FP.i2f g)) ∧ vf_n32 (FP.fadd (FP.fmul (FP.fdiv (FP.i2f x) 1120403456) (FP.i2f r)) (FP.fmul (FP.fdiv (FP.i2f y) 1120403456) (FP.i2f g))) ∧ vf_n32 (FP.fmul (FP.fdiv (FP.i2f z) 1120403456) (FP.i2f b)) ∧ vf_n32 (seenF x y z r g b)
/-- a TABLE's number, a WEIGHT, a part of a colour -/
abbrev isT (x : Int32) : Prop := inF x (-300) 300 = true
abbrev isW (x : Int32) : Prop := inF x 0 9 = true
abbrev isP (x : Int32) : Prop := inF x 0 255 = true
theorem fl_part {r : Int32} (h : isP r) : NF (FP.i2f r) := sorry
theorem fl_light {r g b : Int32} (hr : isP r) (hg : isP g) (hb : isP b) : lightN r g b ∧ NF (lightF r g b) := sorry
theorem fl_off {r g b r2 g2 b2 : Int32} (hr : isP r) (hg : isP g) (hb : isP b) (hr2 : isP r2) (hg2 : isP g2) (hb2 : isP b2) : vf_n32 (FP.fsub (lightF r g b) (lightF r2 g2 b2)) := sorry
theorem fl_seen {x y z r g b : Int32} (hx : isT x) (hy : isT y) (hz : isT z) (hr : isP r) (hg : isP g) (hb : isP b) : seenN x y z r g b := sorry
/-- a thing SEEN: a float that comes of numbers as told -/
def isS (s : UInt32) : Prop := ∃ x y z r g b : Int32, isT x ∧ isT y ∧ isT z ∧ isP r ∧ isP g ∧ isP b ∧ s = seenF x y z r g b
/-- DISTANCE out of what is SEEN -/
def farF (w0 w1 w2 : Int32) (a0 b0 a1 b1 a2 b2 : UInt32) : UInt32 := FP.fadd (FP.fadd (FP.fmul (FP.i2f w0) (FP.fmul (FP.fsub a0 b0) (FP.fsub a0 b0))) (FP.fmul (FP.i2f w1) (FP.fmul (FP.fsub a1 b1) (FP.fsub a1 b1)))) (FP.fmul (FP.i2f w2) (FP.fmul (FP.fsub a2 b2) (FP.fsub a2 b2)))
def farN (w0 w1 w2 : Int32) (a0 b0 a1 b1 a2 b2 : UInt32) : Prop := vf_n32 (FP.fsub a0 b0) ∧ vf_n32 (FP.fsub a1 b1) ∧ vf_n32 (FP.fsub a2 b2) ∧ vf_n32 (FP.fmul (FP.fsub a0 b0) (FP.fsub a0 b0)) ∧ vf_n32 (FP.fmul (FP.fsub a1 b1) (FP.fsub a1 b1)) ∧ vf_n32 (FP.fmul (FP.fsub a2 b2) (FP.fsub a2 b2)) ∧ vf_n32 (FP.fmul (FP.i2f w0) (FP.fmul (FP.fsub a0 b0) (FP.fsub a0 b0))) ∧ vf_n32 (FP.fmul (FP.i2f w1) (FP.fmul (FP.fsub a1 b1) (FP.fsub a1 b1))) ∧ vf_n32 (FP.fadd (FP.fmul (FP.i2f w0) (FP.fmul (FP.fsub a0 b0) (FP.fsub a0 b0))) (FP.fmul (FP.i2f w1) (FP.fmul (FP.fsub a1 b1) (FP.fsub a1 b1)))) ∧ vf_n32 (FP.fmul (FP.i2f w2) (FP.fmul (FP.fsub a2 b2) (FP.fsub a2 b2))) ∧ vf_n32 (farF w0 w1 w2 a0 b0 a1 b1 a2 b2)
theorem fl_far {w0 w1 w2 : Int32} {a0 b0 a1 b1 a2 b2 : UInt32} (h0 : isW w0) (h1 : isW w1) (h2 : isW w2) (ha0 : isS a0) (hb0 : isS b0) (ha1 : isS a1) (hb1 : isS b1) (ha2 : isS a2) (hb2 : isS b2) : farN w0 w1 w2 a0 b0 a1 b1 a2 b2 ∧ NF (farF w0 w1 w2 a0 b0 a1 b1 a2 b2) := sorry
/-- the numbers of a scene are as told: parts, tables, weights, limits -/
def okS (rgb gr ey lm : Nat → Int32) : Prop := (∀ k, k < 60 → isP (rgb k)) ∧ (∀ k, k < 3 → isP (gr k)) ∧ (∀ e k, e < 4 → k < 9 → isT (ey (13 * e + k))) ∧ (∀ e k, e < 4 → k < 3 → isW (ey (13 * e + 9 + k))) ∧ (∀ e, e < 4 → ey (13 * e + 12) = 0 ∨ ey (13 * e + 12) = 1) ∧ ∀ k, k < 3 → isP (lm k)
def lightC (rgb : Nat → Int32) (k : Nat) : UInt32 := lightF (rgb k) (rgb (k + 1)) (rgb (k + 2))
def sawF (ey rgb : Nat → Int32) (e i k : Nat) : UInt32 := seenF (ey (13 * e + 3 * k)) (ey (13 * e + 3 * k + 1)) (ey (13 * e + 3 * k + 2)) (rgb (3 * i)) (rgb (3 * i + 1)) (rgb (3 * i + 2))
def distF (ey rgb : Nat → Int32) (e i j : Nat) : UInt32 := farF (ey (13 * e + 9)) (ey (13 * e + 9 + 1)) (ey (13 * e + 9 + 2)) (sawF ey rgb e i 0) (sawF ey rgb e j 0) (sawF ey rgb e i 1) (sawF ey rgb e j 1) (sawF ey rgb e i 2) (sawF ey rgb e j 2)
def fitC (rgb gr lm : Nat → Int32) (i : Nat) : Bool := fitF (lightC rgb (3 * i)) (lightC gr 0) (lm 0) (lm 1) (lm 2)
section Ok
variable {rgb gr ey lm : Nat → Int32}
theorem ok_light (ok : okS rgb gr ey lm) {k : Nat} (hk : k + 2 < 60) : lightN (rgb k) (rgb (k + 1)) (rgb (k + 2)) ∧ NF (lightC rgb k) := fl_light (ok.1 k (by omega)) (ok.1 _ (by omega)) (ok.1 _ (by omega))
theorem ok_ground (ok : okS rgb gr ey lm) : lightN (gr 0) (gr 1) (gr 2) ∧ NF (lightC gr 0) := fl_light (ok.2.1 0 (by omega)) (ok.2.1 1 (by omega)) (ok.2.1 2 (by omega))
theorem ok_off (ok : okS rgb gr ey lm) {k : Nat} (hk : k + 2 < 60) : vf_n32 (FP.fsub (lightC rgb k) (lightC gr 0)) := fl_off (ok.1 k (by omega)) (ok.1 _ (by omega)) (ok.1 _ (by omega)) (ok.2.1 0 (by omega)) (ok.2.1 1 (by omega)) (ok.2.1 2 (by omega))
theorem ok_seen (ok : okS rgb gr ey lm) {e i k : Nat} (he : e < 4) (hi : i < 20) (hk : k < 3) : seenN (ey (13 * e + 3 * k)) (ey (13 * e + 3 * k + 1)) (ey (13 * e + 3 * k + 2)) (rgb (3 * i)) (rgb (3 * i + 1)) (rgb (3 * i + 2)) :=
  fl_seen (ok.2.2.1 e (3 * k) he (by omega)) (ok.2.2.1 e (3 * k + 1) he (by omega)) (ok.2.2.1 e (3 * k + 2) he (by omega)) (ok.1 _ (by omega)) (ok.1 _ (by omega)) (ok.1 _ (by omega))
theorem ok_saw (ok : okS rgb gr ey lm) {e i k : Nat} (he : e < 4) (hi : i < 20) (hk : k < 3) : isS (sawF ey rgb e i k) :=
  ⟨_, _, _, _, _, _, ok.2.2.1 e (3 * k) he (by omega), ok.2.2.1 e (3 * k + 1) he (by omega), ok.2.2.1 e (3 * k + 2) he (by omega), ok.1 _ (by omega), ok.1 _ (by omega), ok.1 _ (by omega), rfl⟩
theorem ok_far (ok : okS rgb gr ey lm) {e i j : Nat} (he : e < 4) (hi : i < 20) (hj : j < 20) : farN (ey (13 * e + 9)) (ey (13 * e + 9 + 1)) (ey (13 * e + 9 + 2)) (sawF ey rgb e i 0) (sawF ey rgb e j 0) (sawF ey rgb e i 1) (sawF ey rgb e j 1) (sawF ey rgb e i 2) (sawF ey rgb e j 2) ∧ NF (distF ey rgb e i j) :=
  fl_far (ok.2.2.2.1 e 0 he (by omega)) (ok.2.2.2.1 e 1 he (by omega)) (ok.2.2.2.1 e 2 he (by omega)) (ok_saw ok he hi (by omega)) (ok_saw ok he hj (by omega)) (ok_saw ok he hi (by omega)) (ok_saw ok he hj (by omega)) (ok_saw ok he hi (by omega)) (ok_saw ok he hj (by omega))
theorem ok_dist (ok : okS rgb gr ey lm) {e i j : Nat} (he : e < 4) (hi : i < 20) (hj : j < 20) : NF (distF ey rgb e i j) := (ok_far ok he hi hj).2
theorem ok_lim (ok : okS rgb gr ey lm) {k : Nat} (hk : k < 3) : NF (FP.i2f (lm k)) := fl_part (ok.2.2.2.2.2 k hk)
end Ok
section XRowsU
variable {M : xM} {d mc ms pc : Nat} {L : xL} {st : List Value} {h : xH} {Post : Option Value → xH → Prop}
theorem XW.fcmpU (pc' : Nat) {x y : UInt32} {op : CmpOp} (hd : decode M.2.1 pc = .ok (.fcmp op, 1)) (hx : NF x) (hy : NF y) (hp : pc + 1 = pc') (k : XW M d mc ms pc' L (.int (cmpU x y) :: st) h Post) : XW M d mc ms pc L (.float y :: .float x :: st) h Post :=
  XW.fcmp pc' hd hp (by rw [fl_cmp hx hy]; exact k)
theorem XW.if_ltU (t f : Nat) {x y : UInt32} {off : Int} (hd : decode M.2.1 pc = .ok (.ifCond .lt off, 3)) (ht : (pc : Int) + off = (t : Int)) (hp : pc + 3 = f) (kt : x < y → XW M d mc ms t L st h Post) (kf : ¬ x < y → XW M d mc ms f L st h Post) : XW M d mc ms pc L (.int (cmpU x y) :: st) h Post :=
  XW.if_lt t f hd ht hp (fun c => kt (cmpU_lt.mp c)) (fun c => kf (fun q => c (cmpU_lt.mpr q)))
theorem XW.if_geU (t f : Nat) {x y : UInt32} {off : Int} (hd : decode M.2.1 pc = .ok (.ifCond .ge off, 3)) (ht : (pc : Int) + off = (t : Int)) (hp : pc + 3 = f) (kt : ¬ x < y → XW M d mc ms t L st h Post) (kf : x < y → XW M d mc ms f L st h Post) : XW M d mc ms pc L (.int (cmpU x y) :: st) h Post :=
  XW.if_ge t f hd ht hp (fun c => kt (UInt32.not_lt.mpr (cmpU_ge.mp c))) (fun c => kf (UInt32.not_le.mp (fun q => c (cmpU_ge.mpr q))))
theorem XW.if_gtU (t f : Nat) {x y : UInt32} {off : Int} (hd : decode M.2.1 pc = .ok (.ifCond .gt off, 3)) (ht : (pc : Int) + off = (t : Int)) (hp : pc + 3 = f) (kt : y < x → XW M d mc ms t L st h Post) (kf : ¬ y < x → XW M d mc ms f L st h Post) : XW M d mc ms pc L (.int (cmpU x y) :: st) h Post :=
  XW.if_gt t f hd ht hp (fun c => kt (cmpU_gt.mp c)) (fun c => kf (fun q => c (cmpU_gt.mpr q)))
theorem XW.if_leU (t f : Nat) {x y : UInt32} {off : Int} (hd : decode M.2.1 pc = .ok (.ifCond .le off, 3)) (ht : (pc : Int) + off = (t : Int)) (hp : pc + 3 = f) (kt : ¬ y < x → XW M d mc ms t L st h Post) (kf : y < x → XW M d mc ms f L st h Post) : XW M d mc ms pc L (.int (cmpU x y) :: st) h Post :=
  XW.if_le t f hd ht hp (fun c => kt (UInt32.not_lt.mpr (cmpU_le.mp c))) (fun c => kf (UInt32.not_le.mp (fun q => c (cmpU_le.mpr q))))
theorem XW.if_neU (t f : Nat) {x y : UInt32} {off : Int} (hd : decode M.2.1 pc = .ok (.ifCond .ne off, 3)) (ht : (pc : Int) + off = (t : Int)) (hp : pc + 3 = f) (kt : ¬ x = y → XW M d mc ms t L st h Post) (kf : x = y → XW M d mc ms f L st h Post) : XW M d mc ms pc L (.int (cmpU x y) :: st) h Post := by
  have e0 : cmpU x y = 0 ↔ x = y := by
    unfold cmpU
    by_cases e : x = y
    · subst e; simp
    · simp only [e, if_false, iff_false]
      split <;> decide
  exact XW.if_ne t f hd ht hp (fun c => kt (fun q => c (e0.mpr q))) (fun c => kf (e0.mp c))
end XRowsU
end
section
/-! The class: scenes, what is read-/
set_option maxHeartbeats 4000000 in
set_option maxRecDepth 100000 in
theorem c_lightAt {h : xH} {a n k : Nat} {f : Nat → Int32} {x : Int32} (ha : h[a]? = some (.inl (n, .inl f))) (hx : x = nI k) (hk : k + 2 < n) (hn : n < 1000) (hL : lightN (f k) (f (k + 1)) (f (k + 2))) : XC mX1_lightAt 0 0 0 [.ref a, .int x] (h) (fun r h' => r = some (.float (lightC f k)) ∧ h' = h) := by
  show XW mX1_lightAt 0 0 0 0 [some (.ref a), some (.int x)] [] (h) _
  obtain ⟨e1, e2, e3, e4, e5⟩ := hL
  refine XW.ldcf 2 k1_71 dX1_lightAt_0 rfl ?_
  refine XW.aload_n 3 dX1_lightAt_2 rfl rfl ?_
  refine XW.iload_n 4 dX1_lightAt_3 rfl rfl ?_
  refine XW.iald 5 k dX1_lightAt_4 ha hx (by omega) (by omega) rfl ?_
  refine XW.i2f 6 dX1_lightAt_5 rfl ?_
  refine XW.fmul 7 dX1_lightAt_6 (by assumption) rfl ?_
  refine XW.ldcf 9 k1_72 dX1_lightAt_7 rfl ?_
  refine XW.aload_n 10 dX1_lightAt_9 rfl rfl ?_
  refine XW.iload_n 11 dX1_lightAt_10 rfl rfl ?_
  refine XW.iconst 12 dX1_lightAt_11 (v := 1) (by decide) rfl ?_
  refine XW.iadd 13 dX1_lightAt_12 rfl ?_
  refine XW.iald 14 (k + 1) dX1_lightAt_13 ha (na hx rfl) (by omega) (by omega) rfl ?_
  refine XW.i2f 15 dX1_lightAt_14 rfl ?_
  refine XW.fmul 16 dX1_lightAt_15 (by assumption) rfl ?_
  refine XW.fadd 17 dX1_lightAt_16 (by assumption) rfl ?_
  refine XW.ldcf 19 k1_73 dX1_lightAt_17 rfl ?_
  refine XW.aload_n 20 dX1_lightAt_19 rfl rfl ?_
  refine XW.iload_n 21 dX1_lightAt_20 rfl rfl ?_
  refine XW.iconst 22 dX1_lightAt_21 (v := 2) (by decide) rfl ?_
  refine XW.iadd 23 dX1_lightAt_22 rfl ?_
  refine XW.iald 24 (k + 2) dX1_lightAt_23 ha (na hx rfl) (by omega) (by omega) rfl ?_
  refine XW.i2f 25 dX1_lightAt_24 rfl ?_
  refine XW.fmul 26 dX1_lightAt_25 (by assumption) rfl ?_
  refine XW.fadd 27 dX1_lightAt_26 e5 rfl ?_
  exact XW.fret dX1_lightAt_27 trivial (⟨rfl, rfl⟩)
set_option maxHeartbeats 4000000 in
set_option maxRecDepth 100000 in
theorem c_lightOf {Z : xZ} {x : Int32} {i : Nat} (hx : x = nI i) (hi : i < 20) (ok : okS (Z.2.1 2) (Z.2.1 3) (Z.2.1 4) (Z.2.1 5)) : XC mX1_lightOf 1 0 0 [.ref 1, .int x] (HP Z) (fun r h' => r = some (.float (lightC (Z.2.1 2) (3 * i))) ∧ h' = HP Z) := by
  show XW mX1_lightOf 1 0 0 0 [some (.ref 1), some (.int x)] [] (HP Z) _
  refine XW.aload_n 1 dX1_lightOf_0 rfl rfl ?_
  refine XW.getf 4 (v := .ref 2) f1_15 dX1_lightOf_1 rfl rfl rfl ?_
  refine XW.iconst 5 dX1_lightOf_4 (v := 3) (by decide) rfl ?_
  refine XW.iload_n 6 dX1_lightOf_5 rfl rfl ?_
  refine XW.imul 7 dX1_lightOf_6 rfl ?_
  refine XW.callS 10 (vs := [.ref 2, .int (3 * x)]) (rest := []) (mcr := 0) (msr := 0) c1_67 dX1_lightOf_7 rfl (by decide) (Nat.le_of_ble_eq_true rfl) rfl rfl (Nat.le_of_ble_eq_true rfl) rfl (c_lightAt (k := 3 * i) rfl (nm rfl hx) (by omega) (by omega) (ok_light ok (by omega)).1) (fun r h1 hq => ?_)
  obtain ⟨rfl, rfl⟩ := hq
  exact XW.fret dX1_lightOf_10 trivial (⟨rfl, rfl⟩)
theorem fitC_1 {rgb gr lm : Nat → Int32} {i : Nat} (h : lightC rgb (3 * i) < FP.i2f (lm 0)) : fitC rgb gr lm i = false := by unfold fitC fitF; simp [h]
theorem fitC_2 {rgb gr lm : Nat → Int32} {i : Nat} (h : FP.i2f (lm 1) < lightC rgb (3 * i)) : fitC rgb gr lm i = false := by unfold fitC fitF; simp [h]
theorem fitC_3 {rgb gr lm : Nat → Int32} {i : Nat} {s : UInt32} (h1 : ¬ lightC rgb (3 * i) < FP.i2f (lm 0)) (h2 : ¬ FP.i2f (lm 1) < lightC rgb (3 * i)) (hs : absF (FP.fsub (lightC rgb (3 * i)) (lightC gr 0)) = s) (h3 : Op.cmpValue (FP.fcmp s (FP.i2f (lm 2))) .l < 0) : fitC rgb gr lm i = false := by unfold fitC fitF gapN; subst hs; simp [h3]
theorem fitC_4 {rgb gr lm : Nat → Int32} {i : Nat} {s : UInt32} (h1 : ¬ lightC rgb (3 * i) < FP.i2f (lm 0)) (h2 : ¬ FP.i2f (lm 1) < lightC rgb (3 * i)) (hs : absF (FP.fsub (lightC rgb (3 * i)) (lightC gr 0)) = s) (h3 : ¬ Op.cmpValue (FP.fcmp s (FP.i2f (lm 2))) .l < 0) : fitC rgb gr lm i = true := by unfold fitC fitF gapN; subst hs; simp only [decide_eq_false h1, decide_eq_false h2, decide_eq_false h3]; rfl
theorem absF_t {s : UInt32} (h : 0 ≤ Op.cmpValue (FP.fcmp s FP.fconst0) .g) : absF s = s := if_pos h
theorem absF_f {s : UInt32} (h : ¬ 0 ≤ Op.cmpValue (FP.fcmp s FP.fconst0) .g) : absF s = FP.fneg s := if_neg h
set_option maxHeartbeats 4000000 in
set_option maxRecDepth 100000 in
theorem c_isFit {Z : xZ} {x : Int32} {i : Nat} (hx : x = nI i) (hi : i < 20) (ok : okS (Z.2.1 2) (Z.2.1 3) (Z.2.1 4) (Z.2.1 5)) : XC mX1_isFit 2 0 0 [.ref 1, .int x] (HP Z) (fun r h' => r = some (.int (b2i (fitC (Z.2.1 2) (Z.2.1 3) (Z.2.1 5) i))) ∧ h' = HP Z) := by
  show XW mX1_isFit 2 0 0 0 [some (.ref 1), some (.int x), none, none, none] [] (HP Z) _
  refine XW.aload_n 1 dX1_isFit_0 rfl rfl ?_
  refine XW.iload_n 2 dX1_isFit_1 rfl rfl ?_
  refine XW.callV 5 (vs := [.int x]) (rest := []) (mcr := 0) (msr := 0) c1_63 dX1_isFit_2 rfl rfl (by decide) (Nat.le_of_ble_eq_true rfl) rfl rfl (Nat.le_of_ble_eq_true rfl) rfl (c_lightOf (i := i) hx (by omega) ok) (fun r h1 hq => ?_)
  obtain ⟨rfl, rfl⟩ := hq
  refine XW.fstore_n 6 (L' := [some (.ref 1), some (.int x), some (.float (lightC (Z.2.1 2) (3 * i))), none, none]) dX1_isFit_5 (by decide) rfl rfl rfl ?_
  refine XW.fload_n 7 dX1_isFit_6 rfl rfl ?_
  refine XW.aload_n 8 dX1_isFit_7 rfl rfl ?_
  refine XW.getf 11 (v := .ref 5) f1_31 dX1_isFit_8 rfl rfl rfl ?_
  refine XW.iconst 12 dX1_isFit_11 (v := 0) (by decide) rfl ?_
  refine XW.iald 13 0 dX1_isFit_12 rfl rfl (by omega) (by decide) rfl ?_
  refine XW.i2f 14 dX1_isFit_13 rfl ?_
  refine XW.fcmpU 15 dX1_isFit_14 ((ok_light ok (by omega)).2) (ok_lim ok (by omega)) rfl ?_
  refine XW.if_ltU 30 18 dX1_isFit_15 (by decide) rfl (fun c_15 => ?_) (fun c_15 => ?_)
  · have e0 := fitC_1 (gr := Z.2.1 3) c_15
    refine XW.iconst 31 dX1_isFit_30 (v := 0) (by decide) rfl ?_
    exact XW.iret dX1_isFit_31 rfl (⟨pF e0, rfl⟩)
  · refine XW.fload_n 19 dX1_isFit_18 rfl rfl ?_
    refine XW.aload_n 20 dX1_isFit_19 rfl rfl ?_
    refine XW.getf 23 (v := .ref 5) f1_31 dX1_isFit_20 rfl rfl rfl ?_
    refine XW.iconst 24 dX1_isFit_23 (v := 1) (by decide) rfl ?_
    refine XW.iald 25 1 dX1_isFit_24 rfl rfl (by omega) (by decide) rfl ?_
    refine XW.i2f 26 dX1_isFit_25 rfl ?_
    refine XW.fcmpU 27 dX1_isFit_26 ((ok_light ok (by omega)).2) (ok_lim ok (by omega)) rfl ?_
    refine XW.if_leU 32 30 dX1_isFit_27 (by decide) rfl (fun c_27 => ?_) (fun c_27 => ?_)
    · refine XW.fload_n 33 dX1_isFit_32 rfl rfl ?_
      refine XW.aload_n 34 dX1_isFit_33 rfl rfl ?_
      refine XW.getf 37 (v := .ref 3) f1_19 dX1_isFit_34 rfl rfl rfl ?_
      refine XW.iconst 38 dX1_isFit_37 (v := 0) (by decide) rfl ?_
      refine XW.callS 41 (vs := [.ref 3, .int 0]) (rest := [.float (lightC (Z.2.1 2) (3 * i))]) (mcr := 0) (msr := 0) c1_67 dX1_isFit_38 rfl (by decide) (Nat.le_of_ble_eq_true rfl) rfl rfl (Nat.le_of_ble_eq_true rfl) rfl (c_lightAt (k := 0) rfl rfl (by omega) (by omega) (ok_ground ok).1) (fun r h1 hq => ?_)
      obtain ⟨rfl, rfl⟩ := hq
      refine XW.fsub 42 dX1_isFit_41 (ok_off ok (by omega)) rfl ?_
      refine XW.fstore_n 43 (L' := [some (.ref 1), some (.int x), some (.float (lightC (Z.2.1 2) (3 * i))), some (.float (FP.fsub (lightC (Z.2.1 2) (3 * i)) (lightC (Z.2.1 3) 0))), none]) dX1_isFit_42 (by decide) rfl rfl rfl ?_
      refine XW.fload_n 44 dX1_isFit_43 rfl rfl ?_
      refine XW.fconst0 45 dX1_isFit_44 rfl ?_
      refine XW.fcmp 46 dX1_isFit_45 rfl ?_
      refine XW.if_ge 54 49 dX1_isFit_46 (by decide) rfl (fun c_46 => ?_) (fun c_46 => ?_)
      · have e1 := absF_t c_46
        refine XW.fload_n 55 dX1_isFit_54 rfl rfl ?_
        refine XW.fstore 57 (L' := [some (.ref 1), some (.int x), some (.float (lightC (Z.2.1 2) (3 * i))), some (.float (FP.fsub (lightC (Z.2.1 2) (3 * i)) (lightC (Z.2.1 3) 0))), some (.float (FP.fsub (lightC (Z.2.1 2) (3 * i)) (lightC (Z.2.1 3) 0)))]) dX1_isFit_55 (by decide) rfl rfl rfl ?_
        refine XW.fload 59 dX1_isFit_57 rfl rfl ?_
        refine XW.aload_n 60 dX1_isFit_59 rfl rfl ?_
        refine XW.getf 63 (v := .ref 5) f1_31 dX1_isFit_60 rfl rfl rfl ?_
        refine XW.iconst 64 dX1_isFit_63 (v := 2) (by decide) rfl ?_
        refine XW.iald 65 2 dX1_isFit_64 rfl rfl (by omega) (by decide) rfl ?_
        refine XW.i2f 66 dX1_isFit_65 rfl ?_
        refine XW.fcmp 67 dX1_isFit_66 rfl ?_
        refine XW.if_lt 74 70 dX1_isFit_67 (by decide) rfl (fun c_67 => ?_) (fun c_67 => ?_)
        · refine XW.iconst 75 dX1_isFit_74 (v := 0) (by decide) rfl ?_
          exact XW.iret dX1_isFit_75 rfl (⟨pF (fitC_3 c_15 c_27 e1 c_67), rfl⟩)
        · refine XW.iconst 71 dX1_isFit_70 (v := 1) (by decide) rfl ?_
          refine XW.goto 75 dX1_isFit_71 (by decide) ?_
          exact XW.iret dX1_isFit_75 rfl (⟨pT (fitC_4 c_15 c_27 e1 c_67), rfl⟩)
      · have e1 := absF_f c_46
        refine XW.fload_n 50 dX1_isFit_49 rfl rfl ?_
        refine XW.fneg 51 dX1_isFit_50 rfl ?_
        refine XW.goto 55 dX1_isFit_51 (by decide) ?_
        refine XW.fstore 57 (L' := [some (.ref 1), some (.int x), some (.float (lightC (Z.2.1 2) (3 * i))), some (.float (FP.fsub (lightC (Z.2.1 2) (3 * i)) (lightC (Z.2.1 3) 0))), some (.float (FP.fneg (FP.fsub (lightC (Z.2.1 2) (3 * i)) (lightC (Z.2.1 3) 0))))]) dX1_isFit_55 (by decide) rfl rfl rfl ?_
        refine XW.fload 59 dX1_isFit_57 rfl rfl ?_
        refine XW.aload_n 60 dX1_isFit_59 rfl rfl ?_
        refine XW.getf 63 (v := .ref 5) f1_31 dX1_isFit_60 rfl rfl rfl ?_
        refine XW.iconst 64 dX1_isFit_63 (v := 2) (by decide) rfl ?_
        refine XW.iald 65 2 dX1_isFit_64 rfl rfl (by omega) (by decide) rfl ?_
        refine XW.i2f 66 dX1_isFit_65 rfl ?_
        refine XW.fcmp 67 dX1_isFit_66 rfl ?_
        refine XW.if_lt 74 70 dX1_isFit_67 (by decide) rfl (fun c_67 => ?_) (fun c_67 => ?_)
        · refine XW.iconst 75 dX1_isFit_74 (v := 0) (by decide) rfl ?_
          exact XW.iret dX1_isFit_75 rfl (⟨pF (fitC_3 c_15 c_27 e1 c_67), rfl⟩)
        · refine XW.iconst 71 dX1_isFit_70 (v := 1) (by decide) rfl ?_
          refine XW.goto 75 dX1_isFit_71 (by decide) ?_
          exact XW.iret dX1_isFit_75 rfl (⟨pT (fitC_4 c_15 c_27 e1 c_67), rfl⟩)
    · have e0 := fitC_2 (gr := Z.2.1 3) c_27
      refine XW.iconst 31 dX1_isFit_30 (v := 0) (by decide) rfl ?_
      exact XW.iret dX1_isFit_31 rfl (⟨pF e0, rfl⟩)
set_option maxHeartbeats 4000000 in
set_option maxRecDepth 100000 in
theorem c_seenBy {Z : xZ} {xe xi xk : Int32} {e i k : Nat} (he : xe = nI e) (hi : xi = nI i) (hk : xk = nI k) (e4 : e < 4) (i20 : i < 20) (k3 : k < 3) (ok : okS (Z.2.1 2) (Z.2.1 3) (Z.2.1 4) (Z.2.1 5)) : XC mX1_seenBy 0 0 0 [.ref 1, .int xe, .int xi, .int xk] (HP Z) (fun r h' => r = some (.float (sawF (Z.2.1 4) (Z.2.1 2) e i k)) ∧ h' = HP Z) := by
  show XW mX1_seenBy 0 0 0 0 [some (.ref 1), some (.int xe), some (.int xi), some (.int xk), none, none, none, none] [] (HP Z) _
  obtain ⟨q1, q2, q3, q4, q5, q6, q7, q8⟩ := ok_seen ok e4 i20 k3
  refine XW.bipush 2 dX1_seenBy_0 (v := 13) (by decide) rfl ?_
  refine XW.iload_n 3 dX1_seenBy_2 rfl rfl ?_
  refine XW.imul 4 dX1_seenBy_3 rfl ?_
  refine XW.iconst 5 dX1_seenBy_4 (v := 3) (by decide) rfl ?_
  refine XW.iload_n 6 dX1_seenBy_5 rfl rfl ?_
  refine XW.imul 7 dX1_seenBy_6 rfl ?_
  refine XW.iadd 8 dX1_seenBy_7 rfl ?_
  refine XW.istore 10 (L' := [some (.ref 1), some (.int xe), some (.int xi), some (.int xk), some (.int ((13 * xe) + (3 * xk))), none, none, none]) dX1_seenBy_8 (by decide) rfl rfl rfl ?_
  refine XW.aload_n 11 dX1_seenBy_10 rfl rfl ?_
  refine XW.getf 14 (v := .ref 4) f1_28 dX1_seenBy_11 rfl rfl rfl ?_
  refine XW.iload 16 dX1_seenBy_14 rfl rfl ?_
  refine XW.iald 17 ((13 * e) + (3 * k)) dX1_seenBy_16 rfl (na (nm rfl he) (nm rfl hk)) (by omega) (by decide) rfl ?_
  refine XW.i2f 18 dX1_seenBy_17 rfl ?_
  refine XW.ldcf 20 k1_74 dX1_seenBy_18 rfl ?_
  refine XW.fdiv 21 dX1_seenBy_20 (by assumption) rfl ?_
  refine XW.fstore 23 (L' := [some (.ref 1), some (.int xe), some (.int xi), some (.int xk), some (.int ((13 * xe) + (3 * xk))), some (.float (FP.fdiv (FP.i2f (Z.2.1 4 ((13 * e) + (3 * k)))) 1120403456)), none, none]) dX1_seenBy_21 (by decide) rfl rfl rfl ?_
  refine XW.aload_n 24 dX1_seenBy_23 rfl rfl ?_
  refine XW.getf 27 (v := .ref 4) f1_28 dX1_seenBy_24 rfl rfl rfl ?_
  refine XW.iload 29 dX1_seenBy_27 rfl rfl ?_
  refine XW.iconst 30 dX1_seenBy_29 (v := 1) (by decide) rfl ?_
  refine XW.iadd 31 dX1_seenBy_30 rfl ?_
  refine XW.iald 32 (((13 * e) + (3 * k)) + 1) dX1_seenBy_31 rfl (na (na (nm rfl he) (nm rfl hk)) rfl) (by omega) (by decide) rfl ?_
  refine XW.i2f 33 dX1_seenBy_32 rfl ?_
  refine XW.ldcf 35 k1_74 dX1_seenBy_33 rfl ?_
  refine XW.fdiv 36 dX1_seenBy_35 (by assumption) rfl ?_
  refine XW.fstore 38 (L' := [some (.ref 1), some (.int xe), some (.int xi), some (.int xk), some (.int ((13 * xe) + (3 * xk))), some (.float (FP.fdiv (FP.i2f (Z.2.1 4 ((13 * e) + (3 * k)))) 1120403456)), some (.float (FP.fdiv (FP.i2f (Z.2.1 4 (((13 * e) + (3 * k)) + 1))) 1120403456)), none]) dX1_seenBy_36 (by decide) rfl rfl rfl ?_
  refine XW.aload_n 39 dX1_seenBy_38 rfl rfl ?_
  refine XW.getf 42 (v := .ref 4) f1_28 dX1_seenBy_39 rfl rfl rfl ?_
  refine XW.iload 44 dX1_seenBy_42 rfl rfl ?_
  refine XW.iconst 45 dX1_seenBy_44 (v := 2) (by decide) rfl ?_
  refine XW.iadd 46 dX1_seenBy_45 rfl ?_
  refine XW.iald 47 (((13 * e) + (3 * k)) + 2) dX1_seenBy_46 rfl (na (na (nm rfl he) (nm rfl hk)) rfl) (by omega) (by decide) rfl ?_
  refine XW.i2f 48 dX1_seenBy_47 rfl ?_
  refine XW.ldcf 50 k1_74 dX1_seenBy_48 rfl ?_
  refine XW.fdiv 51 dX1_seenBy_50 (by assumption) rfl ?_
  refine XW.fstore 53 (L' := [some (.ref 1), some (.int xe), some (.int xi), some (.int xk), some (.int ((13 * xe) + (3 * xk))), some (.float (FP.fdiv (FP.i2f (Z.2.1 4 ((13 * e) + (3 * k)))) 1120403456)), some (.float (FP.fdiv (FP.i2f (Z.2.1 4 (((13 * e) + (3 * k)) + 1))) 1120403456)), some (.float (FP.fdiv (FP.i2f (Z.2.1 4 (((13 * e) + (3 * k)) + 2))) 1120403456))]) dX1_seenBy_51 (by decide) rfl rfl rfl ?_
  refine XW.fload 55 dX1_seenBy_53 rfl rfl ?_
  refine XW.aload_n 56 dX1_seenBy_55 rfl rfl ?_
  refine XW.getf 59 (v := .ref 2) f1_15 dX1_seenBy_56 rfl rfl rfl ?_
  refine XW.iconst 60 dX1_seenBy_59 (v := 3) (by decide) rfl ?_
  refine XW.iload_n 61 dX1_seenBy_60 rfl rfl ?_
  refine XW.imul 62 dX1_seenBy_61 rfl ?_
  refine XW.iald 63 (3 * i) dX1_seenBy_62 rfl (nm rfl hi) (by omega) (by decide) rfl ?_
  refine XW.i2f 64 dX1_seenBy_63 rfl ?_
  refine XW.fmul 65 dX1_seenBy_64 (by assumption) rfl ?_
  refine XW.fload 67 dX1_seenBy_65 rfl rfl ?_
  refine XW.aload_n 68 dX1_seenBy_67 rfl rfl ?_
  refine XW.getf 71 (v := .ref 2) f1_15 dX1_seenBy_68 rfl rfl rfl ?_
  refine XW.iconst 72 dX1_seenBy_71 (v := 3) (by decide) rfl ?_
  refine XW.iload_n 73 dX1_seenBy_72 rfl rfl ?_
  refine XW.imul 74 dX1_seenBy_73 rfl ?_
  refine XW.iconst 75 dX1_seenBy_74 (v := 1) (by decide) rfl ?_
  refine XW.iadd 76 dX1_seenBy_75 rfl ?_
  refine XW.iald 77 ((3 * i) + 1) dX1_seenBy_76 rfl (na (nm rfl hi) rfl) (by omega) (by decide) rfl ?_
  refine XW.i2f 78 dX1_seenBy_77 rfl ?_
  refine XW.fmul 79 dX1_seenBy_78 (by assumption) rfl ?_
  refine XW.fadd 80 dX1_seenBy_79 (by assumption) rfl ?_
  refine XW.fload 82 dX1_seenBy_80 rfl rfl ?_
  refine XW.aload_n 83 dX1_seenBy_82 rfl rfl ?_
  refine XW.getf 86 (v := .ref 2) f1_15 dX1_seenBy_83 rfl rfl rfl ?_
  refine XW.iconst 87 dX1_seenBy_86 (v := 3) (by decide) rfl ?_
  refine XW.iload_n 88 dX1_seenBy_87 rfl rfl ?_
  refine XW.imul 89 dX1_seenBy_88 rfl ?_
  refine XW.iconst 90 dX1_seenBy_89 (v := 2) (by decide) rfl ?_
  refine XW.iadd 91 dX1_seenBy_90 rfl ?_
  refine XW.iald 92 ((3 * i) + 2) dX1_seenBy_91 rfl (na (nm rfl hi) rfl) (by omega) (by decide) rfl ?_
  refine XW.i2f 93 dX1_seenBy_92 rfl ?_
  refine XW.fmul 94 dX1_seenBy_93 (by assumption) rfl ?_
  refine XW.fadd 95 dX1_seenBy_94 q8 rfl ?_
  exact XW.fret dX1_seenBy_95 trivial (⟨rfl, rfl⟩)
set_option maxHeartbeats 4000000 in
set_option maxRecDepth 100000 in
theorem c_distanceFor {Z : xZ} {xe xi xj : Int32} {e i j : Nat} (he : xe = nI e) (hi : xi = nI i) (hj : xj = nI j) (e4 : e < 4) (i20 : i < 20) (j20 : j < 20) (ok : okS (Z.2.1 2) (Z.2.1 3) (Z.2.1 4) (Z.2.1 5)) : XC mX1_distanceFor 1 0 0 [.ref 1, .int xe, .int xi, .int xj] (HP Z) (fun r h' => r = some (.float (distF (Z.2.1 4) (Z.2.1 2) e i j)) ∧ h' = HP Z) := by
  show XW mX1_distanceFor 1 0 0 0 [some (.ref 1), some (.int xe), some (.int xi), some (.int xj), none, none, none, none] [] (HP Z) _
  obtain ⟨⟨q1, q2, q3, q4, q5, q6, q7, q8, q9, q10, q11⟩, q12⟩ := ok_far ok e4 i20 j20
  refine XW.bipush 2 dX1_distanceFor_0 (v := 13) (by decide) rfl ?_
  refine XW.iload_n 3 dX1_distanceFor_2 rfl rfl ?_
  refine XW.imul 4 dX1_distanceFor_3 rfl ?_
  refine XW.bipush 6 dX1_distanceFor_4 (v := 9) (by decide) rfl ?_
  refine XW.iadd 7 dX1_distanceFor_6 rfl ?_
  refine XW.istore 9 (L' := [some (.ref 1), some (.int xe), some (.int xi), some (.int xj), some (.int ((13 * xe) + 9)), none, none, none]) dX1_distanceFor_7 (by decide) rfl rfl rfl ?_
  refine XW.aload_n 10 dX1_distanceFor_9 rfl rfl ?_
  refine XW.iload_n 11 dX1_distanceFor_10 rfl rfl ?_
  refine XW.iload_n 12 dX1_distanceFor_11 rfl rfl ?_
  refine XW.iconst 13 dX1_distanceFor_12 (v := 0) (by decide) rfl ?_
  refine XW.callV 16 (vs := [.int xe, .int xi, .int 0]) (rest := []) (mcr := 0) (msr := 0) c1_75 dX1_distanceFor_13 rfl rfl (by decide) (Nat.le_of_ble_eq_true rfl) rfl rfl (Nat.le_of_ble_eq_true rfl) rfl (c_seenBy (e := e) (i := i) (k := 0) he hi rfl (by omega) (by omega) (by omega) ok) (fun r h1 hq => ?_)
  obtain ⟨rfl, rfl⟩ := hq
  refine XW.aload_n 17 dX1_distanceFor_16 rfl rfl ?_
  refine XW.iload_n 18 dX1_distanceFor_17 rfl rfl ?_
  refine XW.iload_n 19 dX1_distanceFor_18 rfl rfl ?_
  refine XW.iconst 20 dX1_distanceFor_19 (v := 0) (by decide) rfl ?_
  refine XW.callV 23 (vs := [.int xe, .int xj, .int 0]) (rest := [.float (sawF (Z.2.1 4) (Z.2.1 2) e i 0)]) (mcr := 0) (msr := 0) c1_75 dX1_distanceFor_20 rfl rfl (by decide) (Nat.le_of_ble_eq_true rfl) rfl rfl (Nat.le_of_ble_eq_true rfl) rfl (c_seenBy (e := e) (i := j) (k := 0) he hj rfl (by omega) (by omega) (by omega) ok) (fun r h1 hq => ?_)
  obtain ⟨rfl, rfl⟩ := hq
  refine XW.fsub 24 dX1_distanceFor_23 (by assumption) rfl ?_
  refine XW.fstore 26 (L' := [some (.ref 1), some (.int xe), some (.int xi), some (.int xj), some (.int ((13 * xe) + 9)), some (.float (FP.fsub (sawF (Z.2.1 4) (Z.2.1 2) e i 0) (sawF (Z.2.1 4) (Z.2.1 2) e j 0))), none, none]) dX1_distanceFor_24 (by decide) rfl rfl rfl ?_
  refine XW.aload_n 27 dX1_distanceFor_26 rfl rfl ?_
  refine XW.iload_n 28 dX1_distanceFor_27 rfl rfl ?_
  refine XW.iload_n 29 dX1_distanceFor_28 rfl rfl ?_
  refine XW.iconst 30 dX1_distanceFor_29 (v := 1) (by decide) rfl ?_
  refine XW.callV 33 (vs := [.int xe, .int xi, .int 1]) (rest := []) (mcr := 0) (msr := 0) c1_75 dX1_distanceFor_30 rfl rfl (by decide) (Nat.le_of_ble_eq_true rfl) rfl rfl (Nat.le_of_ble_eq_true rfl) rfl (c_seenBy (e := e) (i := i) (k := 1) he hi rfl (by omega) (by omega) (by omega) ok) (fun r h1 hq => ?_)
  obtain ⟨rfl, rfl⟩ := hq
  refine XW.aload_n 34 dX1_distanceFor_33 rfl rfl ?_
  refine XW.iload_n 35 dX1_distanceFor_34 rfl rfl ?_
  refine XW.iload_n 36 dX1_distanceFor_35 rfl rfl ?_
  refine XW.iconst 37 dX1_distanceFor_36 (v := 1) (by decide) rfl ?_
  refine XW.callV 40 (vs := [.int xe, .int xj, .int 1]) (rest := [.float (sawF (Z.2.1 4) (Z.2.1 2) e i 1)]) (mcr := 0) (msr := 0) c1_75 dX1_distanceFor_37 rfl rfl (by decide) (Nat.le_of_ble_eq_true rfl) rfl rfl (Nat.le_of_ble_eq_true rfl) rfl (c_seenBy (e := e) (i := j) (k := 1) he hj rfl (by omega) (by omega) (by omega) ok) (fun r h1 hq => ?_)
  obtain ⟨rfl, rfl⟩ := hq
  refine XW.fsub 41 dX1_distanceFor_40 (by assumption) rfl ?_
  refine XW.fstore 43 (L' := [some (.ref 1), some (.int xe), some (.int xi), some (.int xj), some (.int ((13 * xe) + 9)), some (.float (FP.fsub (sawF (Z.2.1 4) (Z.2.1 2) e i 0) (sawF (Z.2.1 4) (Z.2.1 2) e j 0))), some (.float (FP.fsub (sawF (Z.2.1 4) (Z.2.1 2) e i 1) (sawF (Z.2.1 4) (Z.2.1 2) e j 1))), none]) dX1_distanceFor_41 (by decide) rfl rfl rfl ?_
  refine XW.aload_n 44 dX1_distanceFor_43 rfl rfl ?_
  refine XW.iload_n 45 dX1_distanceFor_44 rfl rfl ?_
  refine XW.iload_n 46 dX1_distanceFor_45 rfl rfl ?_
  refine XW.iconst 47 dX1_distanceFor_46 (v := 2) (by decide) rfl ?_
  refine XW.callV 50 (vs := [.int xe, .int xi, .int 2]) (rest := []) (mcr := 0) (msr := 0) c1_75 dX1_distanceFor_47 rfl rfl (by decide) (Nat.le_of_ble_eq_true rfl) rfl rfl (Nat.le_of_ble_eq_true rfl) rfl (c_seenBy (e := e) (i := i) (k := 2) he hi rfl (by omega) (by omega) (by omega) ok) (fun r h1 hq => ?_)
  obtain ⟨rfl, rfl⟩ := hq
  refine XW.aload_n 51 dX1_distanceFor_50 rfl rfl ?_
  refine XW.iload_n 52 dX1_distanceFor_51 rfl rfl ?_
  refine XW.iload_n 53 dX1_distanceFor_52 rfl rfl ?_
  refine XW.iconst 54 dX1_distanceFor_53 (v := 2) (by decide) rfl ?_
  refine XW.callV 57 (vs := [.int xe, .int xj, .int 2]) (rest := [.float (sawF (Z.2.1 4) (Z.2.1 2) e i 2)]) (mcr := 0) (msr := 0) c1_75 dX1_distanceFor_54 rfl rfl (by decide) (Nat.le_of_ble_eq_true rfl) rfl rfl (Nat.le_of_ble_eq_true rfl) rfl (c_seenBy (e := e) (i := j) (k := 2) he hj rfl (by omega) (by omega) (by omega) ok) (fun r h1 hq => ?_)
  obtain ⟨rfl, rfl⟩ := hq
  refine XW.fsub 58 dX1_distanceFor_57 (by assumption) rfl ?_
  refine XW.fstore 60 (L' := [some (.ref 1), some (.int xe), some (.int xi), some (.int xj), some (.int ((13 * xe) + 9)), some (.float (FP.fsub (sawF (Z.2.1 4) (Z.2.1 2) e i 0) (sawF (Z.2.1 4) (Z.2.1 2) e j 0))), some (.float (FP.fsub (sawF (Z.2.1 4) (Z.2.1 2) e i 1) (sawF (Z.2.1 4) (Z.2.1 2) e j 1))), some (.float (FP.fsub (sawF (Z.2.1 4) (Z.2.1 2) e i 2) (sawF (Z.2.1 4) (Z.2.1 2) e j 2)))]) dX1_distanceFor_58 (by decide) rfl rfl rfl ?_
  refine XW.aload_n 61 dX1_distanceFor_60 rfl rfl ?_
  refine XW.getf 64 (v := .ref 4) f1_28 dX1_distanceFor_61 rfl rfl rfl ?_
  refine XW.iload 66 dX1_distanceFor_64 rfl rfl ?_
  refine XW.iald 67 ((13 * e) + 9) dX1_distanceFor_66 rfl (na (nm rfl he) rfl) (by omega) (by decide) rfl ?_
  refine XW.i2f 68 dX1_distanceFor_67 rfl ?_
  refine XW.fload 70 dX1_distanceFor_68 rfl rfl ?_
  refine XW.fload 72 dX1_distanceFor_70 rfl rfl ?_
  refine XW.fmul 73 dX1_distanceFor_72 (by assumption) rfl ?_
  refine XW.fmul 74 dX1_distanceFor_73 (by assumption) rfl ?_
  refine XW.aload_n 75 dX1_distanceFor_74 rfl rfl ?_
  refine XW.getf 78 (v := .ref 4) f1_28 dX1_distanceFor_75 rfl rfl rfl ?_
  refine XW.iload 80 dX1_distanceFor_78 rfl rfl ?_
  refine XW.iconst 81 dX1_distanceFor_80 (v := 1) (by decide) rfl ?_
  refine XW.iadd 82 dX1_distanceFor_81 rfl ?_
  refine XW.iald 83 (((13 * e) + 9) + 1) dX1_distanceFor_82 rfl (na (na (nm rfl he) rfl) rfl) (by omega) (by decide) rfl ?_
  refine XW.i2f 84 dX1_distanceFor_83 rfl ?_
  refine XW.fload 86 dX1_distanceFor_84 rfl rfl ?_
  refine XW.fload 88 dX1_distanceFor_86 rfl rfl ?_
  refine XW.fmul 89 dX1_distanceFor_88 (by assumption) rfl ?_
  refine XW.fmul 90 dX1_distanceFor_89 (by assumption) rfl ?_
  refine XW.fadd 91 dX1_distanceFor_90 (by assumption) rfl ?_
  refine XW.aload_n 92 dX1_distanceFor_91 rfl rfl ?_
  refine XW.getf 95 (v := .ref 4) f1_28 dX1_distanceFor_92 rfl rfl rfl ?_
  refine XW.iload 97 dX1_distanceFor_95 rfl rfl ?_
  refine XW.iconst 98 dX1_distanceFor_97 (v := 2) (by decide) rfl ?_
  refine XW.iadd 99 dX1_distanceFor_98 rfl ?_
  refine XW.iald 100 (((13 * e) + 9) + 2) dX1_distanceFor_99 rfl (na (na (nm rfl he) rfl) rfl) (by omega) (by decide) rfl ?_
  refine XW.i2f 101 dX1_distanceFor_100 rfl ?_
  refine XW.fload 103 dX1_distanceFor_101 rfl rfl ?_
  refine XW.fload 105 dX1_distanceFor_103 rfl rfl ?_
  refine XW.fmul 106 dX1_distanceFor_105 (by assumption) rfl ?_
  refine XW.fmul 107 dX1_distanceFor_106 (by assumption) rfl ?_
  refine XW.fadd 108 dX1_distanceFor_107 q11 rfl ?_
  exact XW.fret dX1_distanceFor_108 trivial (⟨rfl, rfl⟩)
set_option maxHeartbeats 4000000 in
set_option maxRecDepth 100000 in
theorem c_isFixed {Z : xZ} (x : Int32) : XC mX1_isFixed 0 0 0 [.ref 1, .int x] (HP Z) (fun r h' => r = some (.int (b2i (bitB (Z.1 1 5) x))) ∧ h' = HP Z) := by
  show XW mX1_isFixed 0 0 0 0 [some (.ref 1), some (.int x)] [] (HP Z) _
  refine XW.aload_n 1 dX1_isFixed_0 rfl rfl ?_
  refine XW.getf 4 (v := .int (Z.1 1 5)) f1_34 dX1_isFixed_1 rfl rfl rfl ?_
  refine XW.iload_n 5 dX1_isFixed_4 rfl rfl ?_
  refine XW.ishr 6 dX1_isFixed_5 rfl ?_
  refine XW.iconst 7 dX1_isFixed_6 (v := 1) (by decide) rfl ?_
  refine XW.iand 8 dX1_isFixed_7 rfl ?_
  refine XW.iconst 9 dX1_isFixed_8 (v := 1) (by decide) rfl ?_
  refine XW.icmp_ne 16 12 dX1_isFixed_9 (by decide) rfl (fun c_9 => ?_) (fun c_9 => ?_)
  · refine XW.iconst 17 dX1_isFixed_16 (v := 0) (by decide) rfl ?_
    exact XW.iret dX1_isFixed_17 rfl (⟨pF (by simp [bitB, *]), rfl⟩)
  · refine XW.iconst 13 dX1_isFixed_12 (v := 1) (by decide) rfl ?_
    refine XW.goto 17 dX1_isFixed_13 (by decide) ?_
    exact XW.iret dX1_isFixed_17 rfl (⟨pT (by simp [bitB, *]), rfl⟩)
end
section
/-! The class: scenes, loops that read -/
def itF {α : Type} (f : Nat → α → α) (a : α) : Nat → α
  | 0 => a
  | k + 1 => f k (itF f a k)
def fbF (rgb gr lm : Nat → Int32) : Nat → Int32 := itF (fun i b => if fitC rgb gr lm i = true then b ||| (1 <<< (nI i &&& 31)) else b) 0
theorem fbF_t {rgb gr lm : Nat → Int32} {k : Nat} (h : fitC rgb gr lm k = true) : fbF rgb gr lm (k + 1) = fbF rgb gr lm k ||| (1 <<< (nI k &&& 31)) := by show (if _ then _ else _) = _; rw [if_pos h]; rfl
theorem fbF_f {rgb gr lm : Nat → Int32} {k : Nat} (h : fitC rgb gr lm k = false) : fbF rgb gr lm (k + 1) = fbF rgb gr lm k := by show (if _ then _ else _) = _; rw [if_neg (by rw [h]; decide)]; rfl
def apS (ey rgb : Nat → Int32) (i j : Nat) : Nat → UInt32 × Bool := itF (fun e s => if ey (13 * e + 12) = 1 then (if s.2 = true ∧ ¬ distF ey rgb e i j < s.1 then s.1 else distF ey rgb e i j, true) else s) (FP.fconst0, false)
def apartF (ey rgb : Nat → Int32) (i j : Nat) : UInt32 := (apS ey rgb i j 4).1
theorem apS_n {ey rgb : Nat → Int32} {i j e : Nat} (h : ¬ ey (13 * e + 12) = 1) : apS ey rgb i j (e + 1) = apS ey rgb i j e := by show (if _ then _ else _) = _; rw [if_neg h]; rfl
theorem apS_y {ey rgb : Nat → Int32} {i j e : Nat} (h : ey (13 * e + 12) = 1) : apS ey rgb i j (e + 1) = (if (apS ey rgb i j e).2 = true ∧ ¬ distF ey rgb e i j < (apS ey rgb i j e).1 then (apS ey rgb i j e).1 else distF ey rgb e i j, true) := by show (if _ then _ else _) = _; rw [if_pos h]; rfl
theorem apS_d {ey rgb : Nat → Int32} {i j e : Nat} (h : ey (13 * e + 12) = 1) (h2 : (apS ey rgb i j e).2 = false ∨ distF ey rgb e i j < (apS ey rgb i j e).1) : apS ey rgb i j (e + 1) = (distF ey rgb e i j, true) := by
  rw [apS_y h, if_neg]; rintro ⟨q1, q2⟩; rcases h2 with q | q
  · rw [q] at q1; cases q1
  · exact q2 q
theorem apS_k {ey rgb : Nat → Int32} {i j e : Nat} (h : ey (13 * e + 12) = 1) (h2 : (apS ey rgb i j e).2 = true) (h3 : ¬ distF ey rgb e i j < (apS ey rgb i j e).1) : apS ey rgb i j (e + 1) = ((apS ey rgb i j e).1, true) := by
  rw [apS_y h, if_pos ⟨h2, h3⟩]
theorem apS_NF {rgb gr ey lm : Nat → Int32} (ok : okS rgb gr ey lm) {i j : Nat} (hi : i < 20) (hj : j < 20) : ∀ e, e ≤ 4 → NF (apS ey rgb i j e).1
  | 0, _ => NF_0
  | e + 1, h => by
    have ih := apS_NF ok hi hj e (by omega)
    by_cases q : ey (13 * e + 12) = 1
    · rw [apS_y q]; dsimp only; split
      · exact ih
      · exact ok_dist ok (by omega) hi hj
    · rw [apS_n q]; exact ih
theorem apartF_NF {rgb gr ey lm : Nat → Int32} (ok : okS rgb gr ey lm) {i j : Nat} (hi : i < 20) (hj : j < 20) : NF (apartF ey rgb i j) := apS_NF ok hi hj 4 (by omega)
/-- the first place of x among m, from k on -/
def plF (row : Nat → Int32) (x : Int32) : Nat → Nat → Int32
  | 0, _ => -1
  | m + 1, k => if row k = x then nI k else plF row x m (k + 1)
def rbF (row : Nat → Int32) : Nat → Int32 := itF (fun p b => b ||| (1 <<< (row p &&& 31))) 0
def cbF (ey : Nat → Int32) : Nat → Int32 := itF (fun e b => b ||| (ey (13 * e + 12) <<< (nI e &&& 31))) 0
def mzF (x y z r g b : Int32) : Bool := decide (x < 0 ∧ r = 0 ∧ y < 0 ∧ g = 0 ∧ z < 0 ∧ b = 0)
set_option maxHeartbeats 4000000 in
set_option maxRecDepth 100000 in
theorem l_fitBits {Z : xZ} {c : Nat} (hc : Z.1 1 0 = nI c) (c20 : c ≤ 20) (ok : okS (Z.2.1 2) (Z.2.1 3) (Z.2.1 4) (Z.2.1 5)) : ∀ (n : Nat) (k : Nat), k ≤ c → c < k + n → XW mX1_fitBits 3 0 0 4 [some (.ref 1), some (.int (fbF (Z.2.1 2) (Z.2.1 3) (Z.2.1 5) k)), some (.int (nI k))] [] (HP Z) (fun r h' => r = some (.int (fbF (Z.2.1 2) (Z.2.1 3) (Z.2.1 5) c)) ∧ h' = HP Z) := by
  intro n
  induction n with
  | zero => intro k g0 g1; omega
  | succ n ih =>
    intro k g0 g1
    refine XW.iload_n 5 dX1_fitBits_4 rfl rfl ?_
    refine XW.aload_n 6 dX1_fitBits_5 rfl rfl ?_
    refine XW.getf 9 (v := .int (Z.1 1 0)) f1_9 dX1_fitBits_6 rfl rfl rfl ?_
    refine XW.icmp_geN 32 12 k c dX1_fitBits_9 (by decide) rfl rfl hc (by omega) (by omega) (fun c_9 => ?_) (fun c_9 => ?_)
    · refine XW.iload_n 33 dX1_fitBits_32 rfl rfl ?_
      exact XW.iret dX1_fitBits_33 rfl (⟨by rw [show k = c by omega], rfl⟩)
    · refine XW.aload_n 13 dX1_fitBits_12 rfl rfl ?_
      refine XW.iload_n 14 dX1_fitBits_13 rfl rfl ?_
      refine XW.callV 17 (vs := [.int (nI k)]) (rest := []) (mcr := 0) (msr := 0) c1_59 dX1_fitBits_14 rfl rfl (by decide) (Nat.le_of_ble_eq_true rfl) rfl rfl (Nat.le_of_ble_eq_true rfl) rfl (c_isFit (i := k) rfl (by omega) ok) (fun r h1 hq => ?_)
      obtain ⟨rfl, rfl⟩ := hq
      refine XW.if_eqB 26 20 dX1_fitBits_17 (by decide) rfl (fun c_17 => ?_) (fun c_17 => ?_)
      · refine XW.iinc 29 (y := nI (k + 1)) (L' := [some (.ref 1), some (.int (fbF (Z.2.1 2) (Z.2.1 3) (Z.2.1 5) k)), some (.int (nI (k + 1)))]) dX1_fitBits_26 rfl (na rfl rfl) (by decide) rfl rfl rfl ?_
        refine XW.goto 4 dX1_fitBits_29 (by decide) ?_
        refine XW.eqs (L' := [some (.ref 1), some (.int (fbF (Z.2.1 2) (Z.2.1 3) (Z.2.1 5) (k + 1))), some (.int (nI (k + 1)))]) (by rw [fbF_f c_17]) rfl rfl ?_
        exact ih (k + 1) (by omega) (by omega)
      · refine XW.iload_n 21 dX1_fitBits_20 rfl rfl ?_
        refine XW.iconst 22 dX1_fitBits_21 (v := 1) (by decide) rfl ?_
        refine XW.iload_n 23 dX1_fitBits_22 rfl rfl ?_
        refine XW.ishl 24 dX1_fitBits_23 rfl ?_
        refine XW.ior 25 dX1_fitBits_24 rfl ?_
        refine XW.istore_n 26 (L' := [some (.ref 1), some (.int ((fbF (Z.2.1 2) (Z.2.1 3) (Z.2.1 5) k) ||| (1 <<< ((nI k) &&& 31)))), some (.int (nI k))]) dX1_fitBits_25 (by decide) rfl rfl rfl ?_
        refine XW.iinc 29 (y := nI (k + 1)) (L' := [some (.ref 1), some (.int ((fbF (Z.2.1 2) (Z.2.1 3) (Z.2.1 5) k) ||| (1 <<< ((nI k) &&& 31)))), some (.int (nI (k + 1)))]) dX1_fitBits_26 rfl (na rfl rfl) (by decide) rfl rfl rfl ?_
        refine XW.goto 4 dX1_fitBits_29 (by decide) ?_
        refine XW.eqs (L' := [some (.ref 1), some (.int (fbF (Z.2.1 2) (Z.2.1 3) (Z.2.1 5) (k + 1))), some (.int (nI (k + 1)))]) (by rw [fbF_t c_17]) rfl rfl ?_
        exact ih (k + 1) (by omega) (by omega)
set_option maxHeartbeats 4000000 in
set_option maxRecDepth 100000 in
theorem c_fitBits {Z : xZ} {c : Nat} (hc : Z.1 1 0 = nI c) (c20 : c ≤ 20) (ok : okS (Z.2.1 2) (Z.2.1 3) (Z.2.1 4) (Z.2.1 5)) : XC mX1_fitBits 3 0 0 [.ref 1] (HP Z) (fun r h' => r = some (.int (fbF (Z.2.1 2) (Z.2.1 3) (Z.2.1 5) c)) ∧ h' = HP Z) := by
  show XW mX1_fitBits 3 0 0 0 [some (.ref 1), none, none] [] (HP Z) _
  refine XW.iconst 1 dX1_fitBits_0 (v := 0) (by decide) rfl ?_
  refine XW.istore_n 2 (L' := [some (.ref 1), some (.int 0), none]) dX1_fitBits_1 (by decide) rfl rfl rfl ?_
  refine XW.iconst 3 dX1_fitBits_2 (v := 0) (by decide) rfl ?_
  refine XW.istore_n 4 (L' := [some (.ref 1), some (.int 0), some (.int 0)]) dX1_fitBits_3 (by decide) rfl rfl rfl ?_
  exact l_fitBits hc c20 ok (c + 1) 0 (by omega) (by omega)
set_option maxHeartbeats 4000000 in
set_option maxRecDepth 100000 in
theorem l_apartOf {Z : xZ} {xi xj : Int32} {i j : Nat} (hi : xi = nI i) (hj : xj = nI j) (i20 : i < 20) (j20 : j < 20) (ok : okS (Z.2.1 2) (Z.2.1 3) (Z.2.1 4) (Z.2.1 5)) : ∀ (n : Nat) (e : Nat), e ≤ 4 → 4 < e + n → XW mX1_apartOf 2 0 0 8 [some (.ref 1), some (.int xi), some (.int xj), some (.float ((apS (Z.2.1 4) (Z.2.1 2) i j e).1)), some (.int (b2i ((apS (Z.2.1 4) (Z.2.1 2) i j e).2))), some (.int (nI e)), none] [] (HP Z) (fun r h' => r = some (.float (apartF (Z.2.1 4) (Z.2.1 2) i j)) ∧ h' = HP Z) := by
  intro n
  induction n with
  | zero => intro e g0 g1; omega
  | succ n ih =>
    intro e g0 g1
    refine XW.iload 10 dX1_apartOf_8 rfl rfl ?_
    refine XW.iconst 11 dX1_apartOf_10 (v := 4) (by decide) rfl ?_
    refine XW.icmp_geN 69 14 e 4 dX1_apartOf_11 (by decide) rfl rfl rfl (by omega) (by omega) (fun c_11 => ?_) (fun c_11 => ?_)
    · refine XW.fload_n 70 dX1_apartOf_69 rfl rfl ?_
      exact XW.fret dX1_apartOf_70 trivial (⟨by rw [show e = 4 by omega]; rfl, rfl⟩)
    · refine XW.aload_n 15 dX1_apartOf_14 rfl rfl ?_
      refine XW.getf 18 (v := .ref 4) f1_28 dX1_apartOf_15 rfl rfl rfl ?_
      refine XW.bipush 20 dX1_apartOf_18 (v := 13) (by decide) rfl ?_
      refine XW.iload 22 dX1_apartOf_20 rfl rfl ?_
      refine XW.imul 23 dX1_apartOf_22 rfl ?_
      refine XW.bipush 25 dX1_apartOf_23 (v := 12) (by decide) rfl ?_
      refine XW.iadd 26 dX1_apartOf_25 rfl ?_
      refine XW.iald 27 ((13 * e) + 12) dX1_apartOf_26 rfl (na (nm rfl rfl) rfl) (by omega) (by decide) rfl ?_
      refine XW.iconst 28 dX1_apartOf_27 (v := 1) (by decide) rfl ?_
      refine XW.icmp_ne 63 31 dX1_apartOf_28 (by decide) rfl (fun c_28 => ?_) (fun c_28 => ?_)
      · refine XW.iinc 66 (y := nI (e + 1)) (L' := [some (.ref 1), some (.int xi), some (.int xj), some (.float ((apS (Z.2.1 4) (Z.2.1 2) i j e).1)), some (.int (b2i ((apS (Z.2.1 4) (Z.2.1 2) i j e).2))), some (.int (nI (e + 1))), none]) dX1_apartOf_63 rfl (na rfl rfl) (by decide) rfl rfl rfl ?_
        refine XW.goto 8 dX1_apartOf_66 (by decide) ?_
        refine XW.eqs (L' := [some (.ref 1), some (.int xi), some (.int xj), some (.float ((apS (Z.2.1 4) (Z.2.1 2) i j (e + 1)).1)), some (.int (b2i ((apS (Z.2.1 4) (Z.2.1 2) i j (e + 1)).2))), some (.int (nI (e + 1))), none]) (by rw [apS_n c_28]) rfl rfl ?_
        exact ih (e + 1) (by omega) (by omega)
      · refine XW.aload_n 32 dX1_apartOf_31 rfl rfl ?_
        refine XW.iload 34 dX1_apartOf_32 rfl rfl ?_
        refine XW.iload_n 35 dX1_apartOf_34 rfl rfl ?_
        refine XW.iload_n 36 dX1_apartOf_35 rfl rfl ?_
        refine XW.callV 39 (vs := [.int (nI e), .int xi, .int xj]) (rest := []) (mcr := 0) (msr := 0) c1_79 dX1_apartOf_36 rfl rfl (by decide) (Nat.le_of_ble_eq_true rfl) rfl rfl (Nat.le_of_ble_eq_true rfl) rfl (c_distanceFor (e := e) (i := i) (j := j) rfl hi hj (by omega) (by omega) (by omega) ok) (fun r h1 hq => ?_)
        obtain ⟨rfl, rfl⟩ := hq
        refine XW.fstore 41 (L' := [some (.ref 1), some (.int xi), some (.int xj), some (.float ((apS (Z.2.1 4) (Z.2.1 2) i j e).1)), some (.int (b2i ((apS (Z.2.1 4) (Z.2.1 2) i j e).2))), some (.int (nI e)), some (.float (distF (Z.2.1 4) (Z.2.1 2) e i j))]) dX1_apartOf_39 (by decide) rfl rfl rfl ?_
        refine XW.iload 43 dX1_apartOf_41 rfl rfl ?_
        refine XW.if_eqB 57 46 dX1_apartOf_43 (by decide) rfl (fun c_43 => ?_) (fun c_43 => ?_)
        · refine XW.fload 59 dX1_apartOf_57 rfl rfl ?_
          refine XW.fstore_n 60 (L' := [some (.ref 1), some (.int xi), some (.int xj), some (.float (distF (Z.2.1 4) (Z.2.1 2) e i j)), some (.int (b2i ((apS (Z.2.1 4) (Z.2.1 2) i j e).2))), some (.int (nI e)), some (.float (distF (Z.2.1 4) (Z.2.1 2) e i j))]) dX1_apartOf_59 (by decide) rfl rfl rfl ?_
          refine XW.iconst 61 dX1_apartOf_60 (v := 1) (by decide) rfl ?_
          refine XW.istore 63 (L' := [some (.ref 1), some (.int xi), some (.int xj), some (.float (distF (Z.2.1 4) (Z.2.1 2) e i j)), some (.int 1), some (.int (nI e)), some (.float (distF (Z.2.1 4) (Z.2.1 2) e i j))]) dX1_apartOf_61 (by decide) rfl rfl rfl ?_
          refine XW.iinc 66 (y := nI (e + 1)) (L' := [some (.ref 1), some (.int xi), some (.int xj), some (.float (distF (Z.2.1 4) (Z.2.1 2) e i j)), some (.int 1), some (.int (nI (e + 1))), some (.float (distF (Z.2.1 4) (Z.2.1 2) e i j))]) dX1_apartOf_63 rfl (na rfl rfl) (by decide) rfl rfl rfl ?_
          refine XW.goto 8 dX1_apartOf_66 (by decide) ?_
          refine XW.weak [true, true, true, true, true, true, false] (L' := [some (.ref 1), some (.int xi), some (.int xj), some (.float (distF (Z.2.1 4) (Z.2.1 2) e i j)), some (.int 1), some (.int (nI (e + 1))), none]) rfl ?_
          refine XW.eqs (L' := [some (.ref 1), some (.int xi), some (.int xj), some (.float ((apS (Z.2.1 4) (Z.2.1 2) i j (e + 1)).1)), some (.int (b2i ((apS (Z.2.1 4) (Z.2.1 2) i j (e + 1)).2))), some (.int (nI (e + 1))), none]) (by rw [apS_d c_28 (by first | exact Or.inl c_43 | exact Or.inr c_50)]; rfl) rfl rfl ?_
          exact ih (e + 1) (by omega) (by omega)
        · refine XW.fload_n 47 dX1_apartOf_46 rfl rfl ?_
          refine XW.fload 49 dX1_apartOf_47 rfl rfl ?_
          refine XW.fcmpU 50 dX1_apartOf_49 (apS_NF ok i20 j20 e (by omega)) (ok_dist ok (by omega) i20 j20) rfl ?_
          refine XW.if_gtU 57 53 dX1_apartOf_50 (by decide) rfl (fun c_50 => ?_) (fun c_50 => ?_)
          · refine XW.fload 59 dX1_apartOf_57 rfl rfl ?_
            refine XW.fstore_n 60 (L' := [some (.ref 1), some (.int xi), some (.int xj), some (.float (distF (Z.2.1 4) (Z.2.1 2) e i j)), some (.int (b2i ((apS (Z.2.1 4) (Z.2.1 2) i j e).2))), some (.int (nI e)), some (.float (distF (Z.2.1 4) (Z.2.1 2) e i j))]) dX1_apartOf_59 (by decide) rfl rfl rfl ?_
            refine XW.iconst 61 dX1_apartOf_60 (v := 1) (by decide) rfl ?_
            refine XW.istore 63 (L' := [some (.ref 1), some (.int xi), some (.int xj), some (.float (distF (Z.2.1 4) (Z.2.1 2) e i j)), some (.int 1), some (.int (nI e)), some (.float (distF (Z.2.1 4) (Z.2.1 2) e i j))]) dX1_apartOf_61 (by decide) rfl rfl rfl ?_
            refine XW.iinc 66 (y := nI (e + 1)) (L' := [some (.ref 1), some (.int xi), some (.int xj), some (.float (distF (Z.2.1 4) (Z.2.1 2) e i j)), some (.int 1), some (.int (nI (e + 1))), some (.float (distF (Z.2.1 4) (Z.2.1 2) e i j))]) dX1_apartOf_63 rfl (na rfl rfl) (by decide) rfl rfl rfl ?_
            refine XW.goto 8 dX1_apartOf_66 (by decide) ?_
            refine XW.weak [true, true, true, true, true, true, false] (L' := [some (.ref 1), some (.int xi), some (.int xj), some (.float (distF (Z.2.1 4) (Z.2.1 2) e i j)), some (.int 1), some (.int (nI (e + 1))), none]) rfl ?_
            refine XW.eqs (L' := [some (.ref 1), some (.int xi), some (.int xj), some (.float ((apS (Z.2.1 4) (Z.2.1 2) i j (e + 1)).1)), some (.int (b2i ((apS (Z.2.1 4) (Z.2.1 2) i j (e + 1)).2))), some (.int (nI (e + 1))), none]) (by rw [apS_d c_28 (by first | exact Or.inl c_43 | exact Or.inr c_50)]; rfl) rfl rfl ?_
            exact ih (e + 1) (by omega) (by omega)
          · refine XW.fload_n 54 dX1_apartOf_53 rfl rfl ?_
            refine XW.goto 59 dX1_apartOf_54 (by decide) ?_
            refine XW.fstore_n 60 (L' := [some (.ref 1), some (.int xi), some (.int xj), some (.float ((apS (Z.2.1 4) (Z.2.1 2) i j e).1)), some (.int (b2i ((apS (Z.2.1 4) (Z.2.1 2) i j e).2))), some (.int (nI e)), some (.float (distF (Z.2.1 4) (Z.2.1 2) e i j))]) dX1_apartOf_59 (by decide) rfl rfl rfl ?_
            refine XW.iconst 61 dX1_apartOf_60 (v := 1) (by decide) rfl ?_
            refine XW.istore 63 (L' := [some (.ref 1), some (.int xi), some (.int xj), some (.float ((apS (Z.2.1 4) (Z.2.1 2) i j e).1)), some (.int 1), some (.int (nI e)), some (.float (distF (Z.2.1 4) (Z.2.1 2) e i j))]) dX1_apartOf_61 (by decide) rfl rfl rfl ?_
            refine XW.iinc 66 (y := nI (e + 1)) (L' := [some (.ref 1), some (.int xi), some (.int xj), some (.float ((apS (Z.2.1 4) (Z.2.1 2) i j e).1)), some (.int 1), some (.int (nI (e + 1))), some (.float (distF (Z.2.1 4) (Z.2.1 2) e i j))]) dX1_apartOf_63 rfl (na rfl rfl) (by decide) rfl rfl rfl ?_
            refine XW.goto 8 dX1_apartOf_66 (by decide) ?_
            refine XW.weak [true, true, true, true, true, true, false] (L' := [some (.ref 1), some (.int xi), some (.int xj), some (.float ((apS (Z.2.1 4) (Z.2.1 2) i j e).1)), some (.int 1), some (.int (nI (e + 1))), none]) rfl ?_
            refine XW.eqs (L' := [some (.ref 1), some (.int xi), some (.int xj), some (.float ((apS (Z.2.1 4) (Z.2.1 2) i j (e + 1)).1)), some (.int (b2i ((apS (Z.2.1 4) (Z.2.1 2) i j (e + 1)).2))), some (.int (nI (e + 1))), none]) (by rw [apS_k c_28 c_43 c_50]; rfl) rfl rfl ?_
            exact ih (e + 1) (by omega) (by omega)
set_option maxHeartbeats 4000000 in
set_option maxRecDepth 100000 in
theorem c_apartOf {Z : xZ} {xi xj : Int32} {i j : Nat} (hi : xi = nI i) (hj : xj = nI j) (i20 : i < 20) (j20 : j < 20) (ok : okS (Z.2.1 2) (Z.2.1 3) (Z.2.1 4) (Z.2.1 5)) : XC mX1_apartOf 2 0 0 [.ref 1, .int xi, .int xj] (HP Z) (fun r h' => r = some (.float (apartF (Z.2.1 4) (Z.2.1 2) i j)) ∧ h' = HP Z) := by
  show XW mX1_apartOf 2 0 0 0 [some (.ref 1), some (.int xi), some (.int xj), none, none, none, none] [] (HP Z) _
  refine XW.fconst0 1 dX1_apartOf_0 rfl ?_
  refine XW.fstore_n 2 (L' := [some (.ref 1), some (.int xi), some (.int xj), some (.float FP.fconst0), none, none, none]) dX1_apartOf_1 (by decide) rfl rfl rfl ?_
  refine XW.iconst 3 dX1_apartOf_2 (v := 0) (by decide) rfl ?_
  refine XW.istore 5 (L' := [some (.ref 1), some (.int xi), some (.int xj), some (.float FP.fconst0), some (.int 0), none, none]) dX1_apartOf_3 (by decide) rfl rfl rfl ?_
  refine XW.iconst 6 dX1_apartOf_5 (v := 0) (by decide) rfl ?_
  refine XW.istore 8 (L' := [some (.ref 1), some (.int xi), some (.int xj), some (.float FP.fconst0), some (.int 0), some (.int 0), none]) dX1_apartOf_6 (by decide) rfl rfl rfl ?_
  refine XW.eqs (L' := [some (.ref 1), some (.int xi), some (.int xj), some (.float ((apS (Z.2.1 4) (Z.2.1 2) i j 0).1)), some (.int (b2i ((apS (Z.2.1 4) (Z.2.1 2) i j 0).2))), some (.int (nI 0)), none]) (by rfl) rfl rfl ?_
  exact l_apartOf hi hj i20 j20 ok 5 0 (by omega) (by omega)
set_option maxHeartbeats 4000000 in
set_option maxRecDepth 100000 in
theorem l_placeOf {Z : xZ} {l : Nat} {x : Int32} (hl : Z.1 1 7 = nI l) (l8 : l ≤ 8) : ∀ (n : Nat) (k : Nat), k ≤ l → l < k + n → XW mX1_placeOf 0 0 0 2 [some (.ref 1), some (.int x), some (.int (nI k))] [] (HP Z) (fun r h' => r = some (.int (plF (Z.2.1 6) x (l - k) k)) ∧ h' = HP Z) := by
  intro n
  induction n with
  | zero => intro k g0 g1; omega
  | succ n ih =>
    intro k g0 g1
    refine XW.iload_n 3 dX1_placeOf_2 rfl rfl ?_
    refine XW.aload_n 4 dX1_placeOf_3 rfl rfl ?_
    refine XW.getf 7 (v := .int (Z.1 1 7)) f1_40 dX1_placeOf_4 rfl rfl rfl ?_
    refine XW.icmp_geN 28 10 k l dX1_placeOf_7 (by decide) rfl rfl hl (by omega) (by omega) (fun c_7 => ?_) (fun c_7 => ?_)
    · refine XW.iconst 29 dX1_placeOf_28 (v := -1) (by decide) rfl ?_
      exact XW.iret dX1_placeOf_29 rfl (⟨by rw [show l - k = 0 by omega]; rfl, rfl⟩)
    · refine XW.aload_n 11 dX1_placeOf_10 rfl rfl ?_
      refine XW.getf 14 (v := .ref 6) f1_37 dX1_placeOf_11 rfl rfl rfl ?_
      refine XW.iload_n 15 dX1_placeOf_14 rfl rfl ?_
      refine XW.iald 16 k dX1_placeOf_15 rfl rfl (by omega) (by decide) rfl ?_
      refine XW.iload_n 17 dX1_placeOf_16 rfl rfl ?_
      refine XW.icmp_ne 22 20 dX1_placeOf_17 (by decide) rfl (fun c_17 => ?_) (fun c_17 => ?_)
      · refine XW.iinc 25 (y := nI (k + 1)) (L' := [some (.ref 1), some (.int x), some (.int (nI (k + 1)))]) dX1_placeOf_22 rfl (na rfl rfl) (by decide) rfl rfl rfl ?_
        refine XW.goto 2 dX1_placeOf_25 (by decide) ?_
        refine XW.post (ih (k + 1) (by omega) (by omega)) (fun r h1 hq => ⟨?_, hq.2⟩)
        rw [hq.1, show l - k = (l - (k + 1)) + 1 by omega]; show _ = some (Value.int (if _ then _ else _)); rw [if_neg c_17]
      · refine XW.iload_n 21 dX1_placeOf_20 rfl rfl ?_
        exact XW.iret dX1_placeOf_21 rfl (⟨by rw [show l - k = (l - (k + 1)) + 1 by omega]; show _ = some (Value.int (if _ then _ else _)); rw [if_pos c_17], rfl⟩)
set_option maxHeartbeats 4000000 in
set_option maxRecDepth 100000 in
theorem c_placeOf {Z : xZ} {l : Nat} (x : Int32) (hl : Z.1 1 7 = nI l) (l8 : l ≤ 8) : XC mX1_placeOf 0 0 0 [.ref 1, .int x] (HP Z) (fun r h' => r = some (.int (plF (Z.2.1 6) x l 0)) ∧ h' = HP Z) := by
  show XW mX1_placeOf 0 0 0 0 [some (.ref 1), some (.int x), none] [] (HP Z) _
  refine XW.iconst 1 dX1_placeOf_0 (v := 0) (by decide) rfl ?_
  refine XW.istore_n 2 (L' := [some (.ref 1), some (.int x), some (.int 0)]) dX1_placeOf_1 (by decide) rfl rfl rfl ?_
  exact l_placeOf hl l8 (l + 1) 0 (by omega) (by omega)
set_option maxHeartbeats 4000000 in
set_option maxRecDepth 100000 in
theorem l_rowBits {Z : xZ} {l : Nat} (hl : Z.1 1 7 = nI l) (l8 : l ≤ 8) : ∀ (n : Nat) (k : Nat), k ≤ l → l < k + n → XW mX1_rowBits 0 0 0 4 [some (.ref 1), some (.int (rbF (Z.2.1 6) k)), some (.int (nI k))] [] (HP Z) (fun r h' => r = some (.int (rbF (Z.2.1 6) l)) ∧ h' = HP Z) := by
  intro n
  induction n with
  | zero => intro k g0 g1; omega
  | succ n ih =>
    intro k g0 g1
    refine XW.iload_n 5 dX1_rowBits_4 rfl rfl ?_
    refine XW.aload_n 6 dX1_rowBits_5 rfl rfl ?_
    refine XW.getf 9 (v := .int (Z.1 1 7)) f1_40 dX1_rowBits_6 rfl rfl rfl ?_
    refine XW.icmp_geN 29 12 k l dX1_rowBits_9 (by decide) rfl rfl hl (by omega) (by omega) (fun c_9 => ?_) (fun c_9 => ?_)
    · refine XW.iload_n 30 dX1_rowBits_29 rfl rfl ?_
      exact XW.iret dX1_rowBits_30 rfl (⟨by rw [show k = l by omega], rfl⟩)
    · refine XW.iload_n 13 dX1_rowBits_12 rfl rfl ?_
      refine XW.iconst 14 dX1_rowBits_13 (v := 1) (by decide) rfl ?_
      refine XW.aload_n 15 dX1_rowBits_14 rfl rfl ?_
      refine XW.getf 18 (v := .ref 6) f1_37 dX1_rowBits_15 rfl rfl rfl ?_
      refine XW.iload_n 19 dX1_rowBits_18 rfl rfl ?_
      refine XW.iald 20 k dX1_rowBits_19 rfl rfl (by omega) (by decide) rfl ?_
      refine XW.ishl 21 dX1_rowBits_20 rfl ?_
      refine XW.ior 22 dX1_rowBits_21 rfl ?_
      refine XW.istore_n 23 (L' := [some (.ref 1), some (.int ((rbF (Z.2.1 6) k) ||| (1 <<< ((Z.2.1 6 k) &&& 31)))), some (.int (nI k))]) dX1_rowBits_22 (by decide) rfl rfl rfl ?_
      refine XW.iinc 26 (y := nI (k + 1)) (L' := [some (.ref 1), some (.int ((rbF (Z.2.1 6) k) ||| (1 <<< ((Z.2.1 6 k) &&& 31)))), some (.int (nI (k + 1)))]) dX1_rowBits_23 rfl (na rfl rfl) (by decide) rfl rfl rfl ?_
      refine XW.goto 4 dX1_rowBits_26 (by decide) ?_
      refine XW.eqs (L' := [some (.ref 1), some (.int (rbF (Z.2.1 6) (k + 1))), some (.int (nI (k + 1)))]) (by rfl) rfl rfl ?_
      exact ih (k + 1) (by omega) (by omega)
set_option maxHeartbeats 4000000 in
set_option maxRecDepth 100000 in
theorem c_rowBits {Z : xZ} {l : Nat} (hl : Z.1 1 7 = nI l) (l8 : l ≤ 8) : XC mX1_rowBits 0 0 0 [.ref 1] (HP Z) (fun r h' => r = some (.int (rbF (Z.2.1 6) l)) ∧ h' = HP Z) := by
  show XW mX1_rowBits 0 0 0 0 [some (.ref 1), none, none] [] (HP Z) _
  refine XW.iconst 1 dX1_rowBits_0 (v := 0) (by decide) rfl ?_
  refine XW.istore_n 2 (L' := [some (.ref 1), some (.int 0), none]) dX1_rowBits_1 (by decide) rfl rfl rfl ?_
  refine XW.iconst 3 dX1_rowBits_2 (v := 0) (by decide) rfl ?_
  refine XW.istore_n 4 (L' := [some (.ref 1), some (.int 0), some (.int 0)]) dX1_rowBits_3 (by decide) rfl rfl rfl ?_
  exact l_rowBits hl l8 (l + 1) 0 (by omega) (by omega)
set_option maxHeartbeats 4000000 in
set_option maxRecDepth 100000 in
theorem l_countingBits {Z : xZ} : ∀ (n : Nat) (k : Nat), k ≤ 4 → 4 < k + n → XW mX1_countingBits 0 0 0 4 [some (.ref 1), some (.int (cbF (Z.2.1 4) k)), some (.int (nI k))] [] (HP Z) (fun r h' => r = some (.int (cbF (Z.2.1 4) 4)) ∧ h' = HP Z) := by
  intro n
  induction n with
  | zero => intro k g0 g1; omega
  | succ n ih =>
    intro k g0 g1
    refine XW.iload_n 5 dX1_countingBits_4 rfl rfl ?_
    refine XW.iconst 6 dX1_countingBits_5 (v := 4) (by decide) rfl ?_
    refine XW.icmp_geN 32 9 k 4 dX1_countingBits_6 (by decide) rfl rfl rfl (by omega) (by omega) (fun c_6 => ?_) (fun c_6 => ?_)
    · refine XW.iload_n 33 dX1_countingBits_32 rfl rfl ?_
      exact XW.iret dX1_countingBits_33 rfl (⟨by rw [show k = 4 by omega], rfl⟩)
    · refine XW.iload_n 10 dX1_countingBits_9 rfl rfl ?_
      refine XW.aload_n 11 dX1_countingBits_10 rfl rfl ?_
      refine XW.getf 14 (v := .ref 4) f1_28 dX1_countingBits_11 rfl rfl rfl ?_
      refine XW.bipush 16 dX1_countingBits_14 (v := 13) (by decide) rfl ?_
      refine XW.iload_n 17 dX1_countingBits_16 rfl rfl ?_
      refine XW.imul 18 dX1_countingBits_17 rfl ?_
      refine XW.bipush 20 dX1_countingBits_18 (v := 12) (by decide) rfl ?_
      refine XW.iadd 21 dX1_countingBits_20 rfl ?_
      refine XW.iald 22 ((13 * k) + 12) dX1_countingBits_21 rfl (na (nm rfl rfl) rfl) (by omega) (by decide) rfl ?_
      refine XW.iload_n 23 dX1_countingBits_22 rfl rfl ?_
      refine XW.ishl 24 dX1_countingBits_23 rfl ?_
      refine XW.ior 25 dX1_countingBits_24 rfl ?_
      refine XW.istore_n 26 (L' := [some (.ref 1), some (.int ((cbF (Z.2.1 4) k) ||| ((Z.2.1 4 ((13 * k) + 12)) <<< ((nI k) &&& 31)))), some (.int (nI k))]) dX1_countingBits_25 (by decide) rfl rfl rfl ?_
      refine XW.iinc 29 (y := nI (k + 1)) (L' := [some (.ref 1), some (.int ((cbF (Z.2.1 4) k) ||| ((Z.2.1 4 ((13 * k) + 12)) <<< ((nI k) &&& 31)))), some (.int (nI (k + 1)))]) dX1_countingBits_26 rfl (na rfl rfl) (by decide) rfl rfl rfl ?_
      refine XW.goto 4 dX1_countingBits_29 (by decide) ?_
      refine XW.eqs (L' := [some (.ref 1), some (.int (cbF (Z.2.1 4) (k + 1))), some (.int (nI (k + 1)))]) (by rfl) rfl rfl ?_
      exact ih (k + 1) (by omega) (by omega)
set_option maxHeartbeats 4000000 in
set_option maxRecDepth 100000 in
theorem c_countingBits {Z : xZ} : XC mX1_countingBits 0 0 0 [.ref 1] (HP Z) (fun r h' => r = some (.int (cbF (Z.2.1 4) 4)) ∧ h' = HP Z) := by
  show XW mX1_countingBits 0 0 0 0 [some (.ref 1), none, none] [] (HP Z) _
  refine XW.iconst 1 dX1_countingBits_0 (v := 0) (by decide) rfl ?_
  refine XW.istore_n 2 (L' := [some (.ref 1), some (.int 0), none]) dX1_countingBits_1 (by decide) rfl rfl rfl ?_
  refine XW.iconst 3 dX1_countingBits_2 (v := 0) (by decide) rfl ?_
  refine XW.istore_n 4 (L' := [some (.ref 1), some (.int 0), some (.int 0)]) dX1_countingBits_3 (by decide) rfl rfl rfl ?_
  exact l_countingBits 5 0 (by omega) (by omega)
set_option maxHeartbeats 4000000 in
set_option maxRecDepth 100000 in
theorem c_minusZero {Z : xZ} {xe xi xk : Int32} {e i k : Nat} (he : xe = nI e) (hi : xi = nI i) (hk : xk = nI k) (e4 : e < 4) (i20 : i < 20) (k3 : k < 3) : XC mX1_isSeenAsMinusZero 0 0 0 [.ref 1, .int xe, .int xi, .int xk] (HP Z) (fun r h' => r = some (.int (b2i (mzF (Z.2.1 4 (13 * e + 3 * k)) (Z.2.1 4 (13 * e + 3 * k + 1)) (Z.2.1 4 (13 * e + 3 * k + 2)) (Z.2.1 2 (3 * i)) (Z.2.1 2 (3 * i + 1)) (Z.2.1 2 (3 * i + 2))))) ∧ h' = HP Z) := by
  show XW mX1_isSeenAsMinusZero 0 0 0 0 [some (.ref 1), some (.int xe), some (.int xi), some (.int xk), none, none] [] (HP Z) _
  refine XW.bipush 2 dX1_isSeenAsMinusZero_0 (v := 13) (by decide) rfl ?_
  refine XW.iload_n 3 dX1_isSeenAsMinusZero_2 rfl rfl ?_
  refine XW.imul 4 dX1_isSeenAsMinusZero_3 rfl ?_
  refine XW.iconst 5 dX1_isSeenAsMinusZero_4 (v := 3) (by decide) rfl ?_
  refine XW.iload_n 6 dX1_isSeenAsMinusZero_5 rfl rfl ?_
  refine XW.imul 7 dX1_isSeenAsMinusZero_6 rfl ?_
  refine XW.iadd 8 dX1_isSeenAsMinusZero_7 rfl ?_
  refine XW.istore 10 (L' := [some (.ref 1), some (.int xe), some (.int xi), some (.int xk), some (.int ((13 * xe) + (3 * xk))), none]) dX1_isSeenAsMinusZero_8 (by decide) rfl rfl rfl ?_
  refine XW.iconst 11 dX1_isSeenAsMinusZero_10 (v := 0) (by decide) rfl ?_
  refine XW.istore 13 (L' := [some (.ref 1), some (.int xe), some (.int xi), some (.int xk), some (.int ((13 * xe) + (3 * xk))), some (.int 0)]) dX1_isSeenAsMinusZero_11 (by decide) rfl rfl rfl ?_
  refine XW.iload 15 dX1_isSeenAsMinusZero_13 rfl rfl ?_
  refine XW.iconst 16 dX1_isSeenAsMinusZero_15 (v := 3) (by decide) rfl ?_
  refine XW.icmp_geN 54 19 0 3 dX1_isSeenAsMinusZero_16 (by decide) rfl rfl rfl (by omega) (by omega) (fun c_16 => ?_) (fun c_16 => ?_)
  · exact absurd c_16 (by decide)
  · refine XW.aload_n 20 dX1_isSeenAsMinusZero_19 rfl rfl ?_
    refine XW.getf 23 (v := .ref 4) f1_28 dX1_isSeenAsMinusZero_20 rfl rfl rfl ?_
    refine XW.iload 25 dX1_isSeenAsMinusZero_23 rfl rfl ?_
    refine XW.iload 27 dX1_isSeenAsMinusZero_25 rfl rfl ?_
    refine XW.iadd 28 dX1_isSeenAsMinusZero_27 rfl ?_
    refine XW.iald 29 (((13 * e) + (3 * k)) + 0) dX1_isSeenAsMinusZero_28 rfl (na (na (nm rfl he) (nm rfl hk)) rfl) (by omega) (by decide) rfl ?_
    refine XW.if_ge 46 32 dX1_isSeenAsMinusZero_29 (by decide) rfl (fun c_29 => ?_) (fun c_29 => ?_)
    · have u := Int32.not_lt.mpr c_29
      refine XW.iconst 47 dX1_isSeenAsMinusZero_46 (v := 0) (by decide) rfl ?_
      exact XW.iret dX1_isSeenAsMinusZero_47 rfl (⟨pF (decide_eq_false (fun q => by first | exact c_43 q.2.1 | exact c_43 q.2.2.2.1 | exact c_43 q.2.2.2.2.2 | exact u q.1 | exact u q.2.2.1 | exact u q.2.2.2.2.1)), rfl⟩)
    · have u0 := Int32.not_le.mp c_29
      refine XW.aload_n 33 dX1_isSeenAsMinusZero_32 rfl rfl ?_
      refine XW.getf 36 (v := .ref 2) f1_15 dX1_isSeenAsMinusZero_33 rfl rfl rfl ?_
      refine XW.iconst 37 dX1_isSeenAsMinusZero_36 (v := 3) (by decide) rfl ?_
      refine XW.iload_n 38 dX1_isSeenAsMinusZero_37 rfl rfl ?_
      refine XW.imul 39 dX1_isSeenAsMinusZero_38 rfl ?_
      refine XW.iload 41 dX1_isSeenAsMinusZero_39 rfl rfl ?_
      refine XW.iadd 42 dX1_isSeenAsMinusZero_41 rfl ?_
      refine XW.iald 43 ((3 * i) + 0) dX1_isSeenAsMinusZero_42 rfl (na (nm rfl hi) rfl) (by omega) (by decide) rfl ?_
      refine XW.if_eq 48 46 dX1_isSeenAsMinusZero_43 (by decide) rfl (fun c_43 => ?_) (fun c_43 => ?_)
      · have v0 := c_43
        refine XW.iinc 51 (y := 1) (L' := [some (.ref 1), some (.int xe), some (.int xi), some (.int xk), some (.int ((13 * xe) + (3 * xk))), some (.int 1)]) dX1_isSeenAsMinusZero_48 rfl (by decide) (by decide) rfl rfl rfl ?_
        refine XW.goto 13 dX1_isSeenAsMinusZero_51 (by decide) ?_
        refine XW.iload 15 dX1_isSeenAsMinusZero_13 rfl rfl ?_
        refine XW.iconst 16 dX1_isSeenAsMinusZero_15 (v := 3) (by decide) rfl ?_
        refine XW.icmp_geN 54 19 1 3 dX1_isSeenAsMinusZero_16 (by decide) rfl rfl rfl (by omega) (by omega) (fun c_16 => ?_) (fun c_16 => ?_)
        · exact absurd c_16 (by decide)
        · refine XW.aload_n 20 dX1_isSeenAsMinusZero_19 rfl rfl ?_
          refine XW.getf 23 (v := .ref 4) f1_28 dX1_isSeenAsMinusZero_20 rfl rfl rfl ?_
          refine XW.iload 25 dX1_isSeenAsMinusZero_23 rfl rfl ?_
          refine XW.iload 27 dX1_isSeenAsMinusZero_25 rfl rfl ?_
          refine XW.iadd 28 dX1_isSeenAsMinusZero_27 rfl ?_
          refine XW.iald 29 (((13 * e) + (3 * k)) + 1) dX1_isSeenAsMinusZero_28 rfl (na (na (nm rfl he) (nm rfl hk)) rfl) (by omega) (by decide) rfl ?_
          refine XW.if_ge 46 32 dX1_isSeenAsMinusZero_29 (by decide) rfl (fun c_29 => ?_) (fun c_29 => ?_)
          · have u := Int32.not_lt.mpr c_29
            refine XW.iconst 47 dX1_isSeenAsMinusZero_46 (v := 0) (by decide) rfl ?_
            exact XW.iret dX1_isSeenAsMinusZero_47 rfl (⟨pF (decide_eq_false (fun q => by first | exact c_43 q.2.1 | exact c_43 q.2.2.2.1 | exact c_43 q.2.2.2.2.2 | exact u q.1 | exact u q.2.2.1 | exact u q.2.2.2.2.1)), rfl⟩)
          · have u1 := Int32.not_le.mp c_29
            refine XW.aload_n 33 dX1_isSeenAsMinusZero_32 rfl rfl ?_
            refine XW.getf 36 (v := .ref 2) f1_15 dX1_isSeenAsMinusZero_33 rfl rfl rfl ?_
            refine XW.iconst 37 dX1_isSeenAsMinusZero_36 (v := 3) (by decide) rfl ?_
            refine XW.iload_n 38 dX1_isSeenAsMinusZero_37 rfl rfl ?_
            refine XW.imul 39 dX1_isSeenAsMinusZero_38 rfl ?_
            refine XW.iload 41 dX1_isSeenAsMinusZero_39 rfl rfl ?_
            refine XW.iadd 42 dX1_isSeenAsMinusZero_41 rfl ?_
            refine XW.iald 43 ((3 * i) + 1) dX1_isSeenAsMinusZero_42 rfl (na (nm rfl hi) rfl) (by omega) (by decide) rfl ?_
            refine XW.if_eq 48 46 dX1_isSeenAsMinusZero_43 (by decide) rfl (fun c_43 => ?_) (fun c_43 => ?_)
            · have v1 := c_43
              refine XW.iinc 51 (y := 2) (L' := [some (.ref 1), some (.int xe), some (.int xi), some (.int xk), some (.int ((13 * xe) + (3 * xk))), some (.int 2)]) dX1_isSeenAsMinusZero_48 rfl (by decide) (by decide) rfl rfl rfl ?_
              refine XW.goto 13 dX1_isSeenAsMinusZero_51 (by decide) ?_
              refine XW.iload 15 dX1_isSeenAsMinusZero_13 rfl rfl ?_
              refine XW.iconst 16 dX1_isSeenAsMinusZero_15 (v := 3) (by decide) rfl ?_
              refine XW.icmp_geN 54 19 2 3 dX1_isSeenAsMinusZero_16 (by decide) rfl rfl rfl (by omega) (by omega) (fun c_16 => ?_) (fun c_16 => ?_)
              · exact absurd c_16 (by decide)
              · refine XW.aload_n 20 dX1_isSeenAsMinusZero_19 rfl rfl ?_
                refine XW.getf 23 (v := .ref 4) f1_28 dX1_isSeenAsMinusZero_20 rfl rfl rfl ?_
                refine XW.iload 25 dX1_isSeenAsMinusZero_23 rfl rfl ?_
                refine XW.iload 27 dX1_isSeenAsMinusZero_25 rfl rfl ?_
                refine XW.iadd 28 dX1_isSeenAsMinusZero_27 rfl ?_
                refine XW.iald 29 (((13 * e) + (3 * k)) + 2) dX1_isSeenAsMinusZero_28 rfl (na (na (nm rfl he) (nm rfl hk)) rfl) (by omega) (by decide) rfl ?_
                refine XW.if_ge 46 32 dX1_isSeenAsMinusZero_29 (by decide) rfl (fun c_29 => ?_) (fun c_29 => ?_)
                · have u := Int32.not_lt.mpr c_29
                  refine XW.iconst 47 dX1_isSeenAsMinusZero_46 (v := 0) (by decide) rfl ?_
                  exact XW.iret dX1_isSeenAsMinusZero_47 rfl (⟨pF (decide_eq_false (fun q => by first | exact c_43 q.2.1 | exact c_43 q.2.2.2.1 | exact c_43 q.2.2.2.2.2 | exact u q.1 | exact u q.2.2.1 | exact u q.2.2.2.2.1)), rfl⟩)
                · have u2 := Int32.not_le.mp c_29
                  refine XW.aload_n 33 dX1_isSeenAsMinusZero_32 rfl rfl ?_
                  refine XW.getf 36 (v := .ref 2) f1_15 dX1_isSeenAsMinusZero_33 rfl rfl rfl ?_
                  refine XW.iconst 37 dX1_isSeenAsMinusZero_36 (v := 3) (by decide) rfl ?_
                  refine XW.iload_n 38 dX1_isSeenAsMinusZero_37 rfl rfl ?_
                  refine XW.imul 39 dX1_isSeenAsMinusZero_38 rfl ?_
                  refine XW.iload 41 dX1_isSeenAsMinusZero_39 rfl rfl ?_
                  refine XW.iadd 42 dX1_isSeenAsMinusZero_41 rfl ?_
                  refine XW.iald 43 ((3 * i) + 2) dX1_isSeenAsMinusZero_42 rfl (na (nm rfl hi) rfl) (by omega) (by decide) rfl ?_
                  refine XW.if_eq 48 46 dX1_isSeenAsMinusZero_43 (by decide) rfl (fun c_43 => ?_) (fun c_43 => ?_)
                  · have v2 := c_43
                    refine XW.iinc 51 (y := 3) (L' := [some (.ref 1), some (.int xe), some (.int xi), some (.int xk), some (.int ((13 * xe) + (3 * xk))), some (.int 3)]) dX1_isSeenAsMinusZero_48 rfl (by decide) (by decide) rfl rfl rfl ?_
                    refine XW.goto 13 dX1_isSeenAsMinusZero_51 (by decide) ?_
                    refine XW.iload 15 dX1_isSeenAsMinusZero_13 rfl rfl ?_
                    refine XW.iconst 16 dX1_isSeenAsMinusZero_15 (v := 3) (by decide) rfl ?_
                    refine XW.icmp_geN 54 19 3 3 dX1_isSeenAsMinusZero_16 (by decide) rfl rfl rfl (by omega) (by omega) (fun c_16 => ?_) (fun c_16 => ?_)
                    · refine XW.iconst 55 dX1_isSeenAsMinusZero_54 (v := 1) (by decide) rfl ?_
                      exact XW.iret dX1_isSeenAsMinusZero_55 rfl (⟨pT (decide_eq_true ⟨u0, v0, u1, v1, u2, v2⟩), rfl⟩)
                    · exact absurd c_16 (by decide)
                  · refine XW.iconst 47 dX1_isSeenAsMinusZero_46 (v := 0) (by decide) rfl ?_
                    exact XW.iret dX1_isSeenAsMinusZero_47 rfl (⟨pF (decide_eq_false (fun q => by first | exact c_43 q.2.1 | exact c_43 q.2.2.2.1 | exact c_43 q.2.2.2.2.2 | exact u q.1 | exact u q.2.2.1 | exact u q.2.2.2.2.1)), rfl⟩)
            · refine XW.iconst 47 dX1_isSeenAsMinusZero_46 (v := 0) (by decide) rfl ?_
              exact XW.iret dX1_isSeenAsMinusZero_47 rfl (⟨pF (decide_eq_false (fun q => by first | exact c_43 q.2.1 | exact c_43 q.2.2.2.1 | exact c_43 q.2.2.2.2.2 | exact u q.1 | exact u q.2.2.1 | exact u q.2.2.2.2.1)), rfl⟩)
      · refine XW.iconst 47 dX1_isSeenAsMinusZero_46 (v := 0) (by decide) rfl ?_
        exact XW.iret dX1_isSeenAsMinusZero_47 rfl (⟨pF (decide_eq_false (fun q => by first | exact c_43 q.2.1 | exact c_43 q.2.2.2.1 | exact c_43 q.2.2.2.2.2 | exact u q.1 | exact u q.2.2.1 | exact u q.2.2.2.2.1)), rfl⟩)
end
section
/-! The class: scenes, what is written -/
def bc1 (x : Int32) : Int32 := x - ((x.toUInt32 >>> ((1 : Int32).toUInt32 &&& Int32.toUInt32 31)).toInt32 &&& 1431655765)
def bc2 (x : Int32) : Int32 := (x &&& 858993459) + ((x.toUInt32 >>> ((2 : Int32).toUInt32 &&& Int32.toUInt32 31)).toInt32 &&& 858993459)
def bc3 (x : Int32) : Int32 := (x + (x.toUInt32 >>> ((4 : Int32).toUInt32 &&& Int32.toUInt32 31)).toInt32) &&& 252645135
def bc4 (x : Int32) : Int32 := x + (x.toUInt32 >>> ((8 : Int32).toUInt32 &&& Int32.toUInt32 31)).toInt32
def bc5 (x : Int32) : Int32 := x + (x.toUInt32 >>> ((16 : Int32).toUInt32 &&& Int32.toUInt32 31)).toInt32
/-- Integer.bitCount -/
def bcF (x : Int32) : Int32 := bc5 (bc4 (bc3 (bc2 (bc1 x)))) &&& 63
set_option maxHeartbeats 4000000 in
set_option maxRecDepth 100000 in
theorem c_bitCount (x : Int32) (h : xH) : XC mJ6_bitCount_0f7a4 0 0 0 [.int x] (h) (fun r h' => r = some (.int (bcF x)) ∧ h' = h) := by
  show XW mJ6_bitCount_0f7a4 0 0 0 0 [some (.int x)] [] (h) _
  refine XW.iload_n 1 dJ6_bitCount_0f7a4_0 rfl rfl ?_
  refine XW.iload_n 2 dJ6_bitCount_0f7a4_1 rfl rfl ?_
  refine XW.iconst 3 dJ6_bitCount_0f7a4_2 (v := 1) (by decide) rfl ?_
  refine XW.iushr 4 dJ6_bitCount_0f7a4_3 rfl ?_
  refine XW.ldcwi 7 k6_265 dJ6_bitCount_0f7a4_4 rfl ?_
  refine XW.iand 8 dJ6_bitCount_0f7a4_7 rfl ?_
  refine XW.isub 9 dJ6_bitCount_0f7a4_8 rfl ?_
  refine XW.istore_n 10 (L' := [some (.int (x - ((((x : Int32).toUInt32 >>> ((1 : Int32).toUInt32 &&& Int32.toUInt32 31)).toInt32) &&& 1431655765)))]) dJ6_bitCount_0f7a4_9 (by decide) rfl rfl rfl ?_
  refine XW.eqs (L' := [some (.int (bc1 x))]) rfl rfl rfl ?_
  refine XW.iload_n 11 dJ6_bitCount_0f7a4_10 rfl rfl ?_
  refine XW.ldcwi 14 k6_266 dJ6_bitCount_0f7a4_11 rfl ?_
  refine XW.iand 15 dJ6_bitCount_0f7a4_14 rfl ?_
  refine XW.iload_n 16 dJ6_bitCount_0f7a4_15 rfl rfl ?_
  refine XW.iconst 17 dJ6_bitCount_0f7a4_16 (v := 2) (by decide) rfl ?_
  refine XW.iushr 18 dJ6_bitCount_0f7a4_17 rfl ?_
  refine XW.ldcwi 21 k6_266 dJ6_bitCount_0f7a4_18 rfl ?_
  refine XW.iand 22 dJ6_bitCount_0f7a4_21 rfl ?_
  refine XW.iadd 23 dJ6_bitCount_0f7a4_22 rfl ?_
  refine XW.istore_n 24 (L' := [some (.int (((bc1 x) &&& 858993459) + (((((bc1 x) : Int32).toUInt32 >>> ((2 : Int32).toUInt32 &&& Int32.toUInt32 31)).toInt32) &&& 858993459)))]) dJ6_bitCount_0f7a4_23 (by decide) rfl rfl rfl ?_
  refine XW.eqs (L' := [some (.int (bc2 (bc1 x)))]) rfl rfl rfl ?_
  refine XW.iload_n 25 dJ6_bitCount_0f7a4_24 rfl rfl ?_
  refine XW.iload_n 26 dJ6_bitCount_0f7a4_25 rfl rfl ?_
  refine XW.iconst 27 dJ6_bitCount_0f7a4_26 (v := 4) (by decide) rfl ?_
  refine XW.iushr 28 dJ6_bitCount_0f7a4_27 rfl ?_
  refine XW.iadd 29 dJ6_bitCount_0f7a4_28 rfl ?_
  refine XW.ldcwi 32 k6_267 dJ6_bitCount_0f7a4_29 rfl ?_
  refine XW.iand 33 dJ6_bitCount_0f7a4_32 rfl ?_
  refine XW.istore_n 34 (L' := [some (.int (((bc2 (bc1 x)) + ((((bc2 (bc1 x)) : Int32).toUInt32 >>> ((4 : Int32).toUInt32 &&& Int32.toUInt32 31)).toInt32)) &&& 252645135))]) dJ6_bitCount_0f7a4_33 (by decide) rfl rfl rfl ?_
  refine XW.eqs (L' := [some (.int (bc3 (bc2 (bc1 x))))]) rfl rfl rfl ?_
  refine XW.iload_n 35 dJ6_bitCount_0f7a4_34 rfl rfl ?_
  refine XW.iload_n 36 dJ6_bitCount_0f7a4_35 rfl rfl ?_
  refine XW.bipush 38 dJ6_bitCount_0f7a4_36 (v := 8) (by decide) rfl ?_
  refine XW.iushr 39 dJ6_bitCount_0f7a4_38 rfl ?_
  refine XW.iadd 40 dJ6_bitCount_0f7a4_39 rfl ?_
  refine XW.istore_n 41 (L' := [some (.int ((bc3 (bc2 (bc1 x))) + ((((bc3 (bc2 (bc1 x))) : Int32).toUInt32 >>> ((8 : Int32).toUInt32 &&& Int32.toUInt32 31)).toInt32)))]) dJ6_bitCount_0f7a4_40 (by decide) rfl rfl rfl ?_
  refine XW.eqs (L' := [some (.int (bc4 (bc3 (bc2 (bc1 x)))))]) rfl rfl rfl ?_
  refine XW.iload_n 42 dJ6_bitCount_0f7a4_41 rfl rfl ?_
  refine XW.iload_n 43 dJ6_bitCount_0f7a4_42 rfl rfl ?_
  refine XW.bipush 45 dJ6_bitCount_0f7a4_43 (v := 16) (by decide) rfl ?_
  refine XW.iushr 46 dJ6_bitCount_0f7a4_45 rfl ?_
  refine XW.iadd 47 dJ6_bitCount_0f7a4_46 rfl ?_
  refine XW.istore_n 48 (L' := [some (.int ((bc4 (bc3 (bc2 (bc1 x)))) + ((((bc4 (bc3 (bc2 (bc1 x)))) : Int32).toUInt32 >>> ((16 : Int32).toUInt32 &&& Int32.toUInt32 31)).toInt32)))]) dJ6_bitCount_0f7a4_47 (by decide) rfl rfl rfl ?_
  refine XW.eqs (L' := [some (.int (bc5 (bc4 (bc3 (bc2 (bc1 x))))))]) rfl rfl rfl ?_
  refine XW.iload_n 49 dJ6_bitCount_0f7a4_48 rfl rfl ?_
  refine XW.bipush 51 dJ6_bitCount_0f7a4_49 (v := 63) (by decide) rfl ?_
  refine XW.iand 52 dJ6_bitCount_0f7a4_51 rfl ?_
  exact XW.iret dJ6_bitCount_0f7a4_52 rfl (⟨rfl, rfl⟩)
/-- how many of three are other -/
def otF (f : Nat → Int32) (k : Nat) (r g b : Int32) : Int32 := ((if f k = r then 0 else 1) + (if f (k + 1) = g then 0 else 1)) + (if f (k + 2) = b then 0 else 1)
def up3 (f : Nat → Int32) (k : Nat) (r g b : Int32) : Nat → Int32 := upd (upd (upd f k r) (k + 1) g) (k + 2) b
set_option maxHeartbeats 4000000 in
set_option maxRecDepth 100000 in
theorem c_putRgb2 {Z : xZ} {x : Int32} {k : Nat} (r g b : Int32) (hx : x = nI k) (hk : k + 2 < 60) : XC mX3_putRgb 0 0 0 [.ref 2, .int x, .int r, .int g, .int b] (HP Z) (fun q h' => q = some (.int (otF (Z.2.1 2) k r g b)) ∧ h' = HP (sA Z 2 (up3 (Z.2.1 2) k r g b))) := by
  show XW mX3_putRgb 0 0 0 0 [some (.ref 2), some (.int x), some (.int r), some (.int g), some (.int b), none] [] (HP Z) _
  refine XW.aload_n 1 dX3_putRgb_0 rfl rfl ?_
  refine XW.iload_n 2 dX3_putRgb_1 rfl rfl ?_
  refine XW.iald 3 k dX3_putRgb_2 rfl hx (by omega) (by decide) rfl ?_
  refine XW.iload_n 4 dX3_putRgb_3 rfl rfl ?_
  refine XW.icmp_ne 11 7 dX3_putRgb_4 (by decide) rfl (fun c_4 => ?_) (fun c_4 => ?_)
  · refine XW.iconst 12 dX3_putRgb_11 (v := 1) (by decide) rfl ?_
    refine XW.aload_n 13 dX3_putRgb_12 rfl rfl ?_
    refine XW.iload_n 14 dX3_putRgb_13 rfl rfl ?_
    refine XW.iconst 15 dX3_putRgb_14 (v := 1) (by decide) rfl ?_
    refine XW.iadd 16 dX3_putRgb_15 rfl ?_
    refine XW.iald 17 (k + 1) dX3_putRgb_16 rfl (na hx rfl) (by omega) (by decide) rfl ?_
    refine XW.iload_n 18 dX3_putRgb_17 rfl rfl ?_
    refine XW.icmp_ne 25 21 dX3_putRgb_18 (by decide) rfl (fun c_18 => ?_) (fun c_18 => ?_)
    · refine XW.iconst 26 dX3_putRgb_25 (v := 1) (by decide) rfl ?_
      refine XW.iadd 27 dX3_putRgb_26 rfl ?_
      refine XW.aload_n 28 dX3_putRgb_27 rfl rfl ?_
      refine XW.iload_n 29 dX3_putRgb_28 rfl rfl ?_
      refine XW.iconst 30 dX3_putRgb_29 (v := 2) (by decide) rfl ?_
      refine XW.iadd 31 dX3_putRgb_30 rfl ?_
      refine XW.iald 32 (k + 2) dX3_putRgb_31 rfl (na hx rfl) (by omega) (by decide) rfl ?_
      refine XW.iload 34 dX3_putRgb_32 rfl rfl ?_
      refine XW.icmp_ne 41 37 dX3_putRgb_34 (by decide) rfl (fun c_34 => ?_) (fun c_34 => ?_)
      · refine XW.iconst 42 dX3_putRgb_41 (v := 1) (by decide) rfl ?_
        refine XW.iadd 43 dX3_putRgb_42 rfl ?_
        refine XW.istore 45 (L' := [some (.ref 2), some (.int x), some (.int r), some (.int g), some (.int b), some (.int ((1 + 1) + 1))]) dX3_putRgb_43 (by decide) rfl rfl rfl ?_
        refine XW.aload_n 46 dX3_putRgb_45 rfl rfl ?_
        refine XW.iload_n 47 dX3_putRgb_46 rfl rfl ?_
        refine XW.iload_n 48 dX3_putRgb_47 rfl rfl ?_
        refine XW.iast 49 (h' := HP (sA Z 2 (upd (Z.2.1 2) k r))) k dX3_putRgb_48 rfl hx (by omega) (by decide) rfl rfl ?_
        refine XW.aload_n 50 dX3_putRgb_49 rfl rfl ?_
        refine XW.iload_n 51 dX3_putRgb_50 rfl rfl ?_
        refine XW.iconst 52 dX3_putRgb_51 (v := 1) (by decide) rfl ?_
        refine XW.iadd 53 dX3_putRgb_52 rfl ?_
        refine XW.iload_n 54 dX3_putRgb_53 rfl rfl ?_
        refine XW.iast 55 (h' := HP (sA (sA Z 2 (upd (Z.2.1 2) k r)) 2 (upd (upd (Z.2.1 2) k r) (k + 1) g))) (k + 1) dX3_putRgb_54 rfl (na hx rfl) (by omega) (by decide) rfl rfl ?_
        refine XW.aload_n 56 dX3_putRgb_55 rfl rfl ?_
        refine XW.iload_n 57 dX3_putRgb_56 rfl rfl ?_
        refine XW.iconst 58 dX3_putRgb_57 (v := 2) (by decide) rfl ?_
        refine XW.iadd 59 dX3_putRgb_58 rfl ?_
        refine XW.iload 61 dX3_putRgb_59 rfl rfl ?_
        refine XW.iast 62 (h' := HP (sA (sA (sA Z 2 (upd (Z.2.1 2) k r)) 2 (upd (upd (Z.2.1 2) k r) (k + 1) g)) 2 (upd (upd (upd (Z.2.1 2) k r) (k + 1) g) (k + 2) b))) (k + 2) dX3_putRgb_61 rfl (na hx rfl) (by omega) (by decide) rfl rfl ?_
        refine XW.iload 64 dX3_putRgb_62 rfl rfl ?_
        exact XW.iret dX3_putRgb_64 rfl (⟨by simp [otF, *], rfl⟩)
      · refine XW.iconst 38 dX3_putRgb_37 (v := 0) (by decide) rfl ?_
        refine XW.goto 42 dX3_putRgb_38 (by decide) ?_
        refine XW.iadd 43 dX3_putRgb_42 rfl ?_
        refine XW.istore 45 (L' := [some (.ref 2), some (.int x), some (.int r), some (.int g), some (.int b), some (.int ((1 + 1) + 0))]) dX3_putRgb_43 (by decide) rfl rfl rfl ?_
        refine XW.aload_n 46 dX3_putRgb_45 rfl rfl ?_
        refine XW.iload_n 47 dX3_putRgb_46 rfl rfl ?_
        refine XW.iload_n 48 dX3_putRgb_47 rfl rfl ?_
        refine XW.iast 49 (h' := HP (sA Z 2 (upd (Z.2.1 2) k r))) k dX3_putRgb_48 rfl hx (by omega) (by decide) rfl rfl ?_
        refine XW.aload_n 50 dX3_putRgb_49 rfl rfl ?_
        refine XW.iload_n 51 dX3_putRgb_50 rfl rfl ?_
        refine XW.iconst 52 dX3_putRgb_51 (v := 1) (by decide) rfl ?_
        refine XW.iadd 53 dX3_putRgb_52 rfl ?_
        refine XW.iload_n 54 dX3_putRgb_53 rfl rfl ?_
        refine XW.iast 55 (h' := HP (sA (sA Z 2 (upd (Z.2.1 2) k r)) 2 (upd (upd (Z.2.1 2) k r) (k + 1) g))) (k + 1) dX3_putRgb_54 rfl (na hx rfl) (by omega) (by decide) rfl rfl ?_
        refine XW.aload_n 56 dX3_putRgb_55 rfl rfl ?_
        refine XW.iload_n 57 dX3_putRgb_56 rfl rfl ?_
        refine XW.iconst 58 dX3_putRgb_57 (v := 2) (by decide) rfl ?_
        refine XW.iadd 59 dX3_putRgb_58 rfl ?_
        refine XW.iload 61 dX3_putRgb_59 rfl rfl ?_
        refine XW.iast 62 (h' := HP (sA (sA (sA Z 2 (upd (Z.2.1 2) k r)) 2 (upd (upd (Z.2.1 2) k r) (k + 1) g)) 2 (upd (upd (upd (Z.2.1 2) k r) (k + 1) g) (k + 2) b))) (k + 2) dX3_putRgb_61 rfl (na hx rfl) (by omega) (by decide) rfl rfl ?_
        refine XW.iload 64 dX3_putRgb_62 rfl rfl ?_
        exact XW.iret dX3_putRgb_64 rfl (⟨by simp [otF, *], rfl⟩)
    · refine XW.iconst 22 dX3_putRgb_21 (v := 0) (by decide) rfl ?_
      refine XW.goto 26 dX3_putRgb_22 (by decide) ?_
      refine XW.iadd 27 dX3_putRgb_26 rfl ?_
      refine XW.aload_n 28 dX3_putRgb_27 rfl rfl ?_
      refine XW.iload_n 29 dX3_putRgb_28 rfl rfl ?_
      refine XW.iconst 30 dX3_putRgb_29 (v := 2) (by decide) rfl ?_
      refine XW.iadd 31 dX3_putRgb_30 rfl ?_
      refine XW.iald 32 (k + 2) dX3_putRgb_31 rfl (na hx rfl) (by omega) (by decide) rfl ?_
      refine XW.iload 34 dX3_putRgb_32 rfl rfl ?_
      refine XW.icmp_ne 41 37 dX3_putRgb_34 (by decide) rfl (fun c_34 => ?_) (fun c_34 => ?_)
      · refine XW.iconst 42 dX3_putRgb_41 (v := 1) (by decide) rfl ?_
        refine XW.iadd 43 dX3_putRgb_42 rfl ?_
        refine XW.istore 45 (L' := [some (.ref 2), some (.int x), some (.int r), some (.int g), some (.int b), some (.int ((1 + 0) + 1))]) dX3_putRgb_43 (by decide) rfl rfl rfl ?_
        refine XW.aload_n 46 dX3_putRgb_45 rfl rfl ?_
        refine XW.iload_n 47 dX3_putRgb_46 rfl rfl ?_
        refine XW.iload_n 48 dX3_putRgb_47 rfl rfl ?_
        refine XW.iast 49 (h' := HP (sA Z 2 (upd (Z.2.1 2) k r))) k dX3_putRgb_48 rfl hx (by omega) (by decide) rfl rfl ?_
        refine XW.aload_n 50 dX3_putRgb_49 rfl rfl ?_
        refine XW.iload_n 51 dX3_putRgb_50 rfl rfl ?_
        refine XW.iconst 52 dX3_putRgb_51 (v := 1) (by decide) rfl ?_
        refine XW.iadd 53 dX3_putRgb_52 rfl ?_
        refine XW.iload_n 54 dX3_putRgb_53 rfl rfl ?_
        refine XW.iast 55 (h' := HP (sA (sA Z 2 (upd (Z.2.1 2) k r)) 2 (upd (upd (Z.2.1 2) k r) (k + 1) g))) (k + 1) dX3_putRgb_54 rfl (na hx rfl) (by omega) (by decide) rfl rfl ?_
        refine XW.aload_n 56 dX3_putRgb_55 rfl rfl ?_
        refine XW.iload_n 57 dX3_putRgb_56 rfl rfl ?_
        refine XW.iconst 58 dX3_putRgb_57 (v := 2) (by decide) rfl ?_
        refine XW.iadd 59 dX3_putRgb_58 rfl ?_
        refine XW.iload 61 dX3_putRgb_59 rfl rfl ?_
        refine XW.iast 62 (h' := HP (sA (sA (sA Z 2 (upd (Z.2.1 2) k r)) 2 (upd (upd (Z.2.1 2) k r) (k + 1) g)) 2 (upd (upd (upd (Z.2.1 2) k r) (k + 1) g) (k + 2) b))) (k + 2) dX3_putRgb_61 rfl (na hx rfl) (by omega) (by decide) rfl rfl ?_
        refine XW.iload 64 dX3_putRgb_62 rfl rfl ?_
        exact XW.iret dX3_putRgb_64 rfl (⟨by simp [otF, *], rfl⟩)
      · refine XW.iconst 38 dX3_putRgb_37 (v := 0) (by decide) rfl ?_
        refine XW.goto 42 dX3_putRgb_38 (by decide) ?_
        refine XW.iadd 43 dX3_putRgb_42 rfl ?_
        refine XW.istore 45 (L' := [some (.ref 2), some (.int x), some (.int r), some (.int g), some (.int b), some (.int ((1 + 0) + 0))]) dX3_putRgb_43 (by decide) rfl rfl rfl ?_
        refine XW.aload_n 46 dX3_putRgb_45 rfl rfl ?_
        refine XW.iload_n 47 dX3_putRgb_46 rfl rfl ?_
        refine XW.iload_n 48 dX3_putRgb_47 rfl rfl ?_
        refine XW.iast 49 (h' := HP (sA Z 2 (upd (Z.2.1 2) k r))) k dX3_putRgb_48 rfl hx (by omega) (by decide) rfl rfl ?_
        refine XW.aload_n 50 dX3_putRgb_49 rfl rfl ?_
        refine XW.iload_n 51 dX3_putRgb_50 rfl rfl ?_
        refine XW.iconst 52 dX3_putRgb_51 (v := 1) (by decide) rfl ?_
        refine XW.iadd 53 dX3_putRgb_52 rfl ?_
        refine XW.iload_n 54 dX3_putRgb_53 rfl rfl ?_
        refine XW.iast 55 (h' := HP (sA (sA Z 2 (upd (Z.2.1 2) k r)) 2 (upd (upd (Z.2.1 2) k r) (k + 1) g))) (k + 1) dX3_putRgb_54 rfl (na hx rfl) (by omega) (by decide) rfl rfl ?_
        refine XW.aload_n 56 dX3_putRgb_55 rfl rfl ?_
        refine XW.iload_n 57 dX3_putRgb_56 rfl rfl ?_
        refine XW.iconst 58 dX3_putRgb_57 (v := 2) (by decide) rfl ?_
        refine XW.iadd 59 dX3_putRgb_58 rfl ?_
        refine XW.iload 61 dX3_putRgb_59 rfl rfl ?_
        refine XW.iast 62 (h' := HP (sA (sA (sA Z 2 (upd (Z.2.1 2) k r)) 2 (upd (upd (Z.2.1 2) k r) (k + 1) g)) 2 (upd (upd (upd (Z.2.1 2) k r) (k + 1) g) (k + 2) b))) (k + 2) dX3_putRgb_61 rfl (na hx rfl) (by omega) (by decide) rfl rfl ?_
        refine XW.iload 64 dX3_putRgb_62 rfl rfl ?_
        exact XW.iret dX3_putRgb_64 rfl (⟨by simp [otF, *], rfl⟩)
  · refine XW.iconst 8 dX3_putRgb_7 (v := 0) (by decide) rfl ?_
    refine XW.goto 12 dX3_putRgb_8 (by decide) ?_
    refine XW.aload_n 13 dX3_putRgb_12 rfl rfl ?_
    refine XW.iload_n 14 dX3_putRgb_13 rfl rfl ?_
    refine XW.iconst 15 dX3_putRgb_14 (v := 1) (by decide) rfl ?_
    refine XW.iadd 16 dX3_putRgb_15 rfl ?_
    refine XW.iald 17 (k + 1) dX3_putRgb_16 rfl (na hx rfl) (by omega) (by decide) rfl ?_
    refine XW.iload_n 18 dX3_putRgb_17 rfl rfl ?_
    refine XW.icmp_ne 25 21 dX3_putRgb_18 (by decide) rfl (fun c_18 => ?_) (fun c_18 => ?_)
    · refine XW.iconst 26 dX3_putRgb_25 (v := 1) (by decide) rfl ?_
      refine XW.iadd 27 dX3_putRgb_26 rfl ?_
      refine XW.aload_n 28 dX3_putRgb_27 rfl rfl ?_
      refine XW.iload_n 29 dX3_putRgb_28 rfl rfl ?_
      refine XW.iconst 30 dX3_putRgb_29 (v := 2) (by decide) rfl ?_
      refine XW.iadd 31 dX3_putRgb_30 rfl ?_
      refine XW.iald 32 (k + 2) dX3_putRgb_31 rfl (na hx rfl) (by omega) (by decide) rfl ?_
      refine XW.iload 34 dX3_putRgb_32 rfl rfl ?_
      refine XW.icmp_ne 41 37 dX3_putRgb_34 (by decide) rfl (fun c_34 => ?_) (fun c_34 => ?_)
      · refine XW.iconst 42 dX3_putRgb_41 (v := 1) (by decide) rfl ?_
        refine XW.iadd 43 dX3_putRgb_42 rfl ?_
        refine XW.istore 45 (L' := [some (.ref 2), some (.int x), some (.int r), some (.int g), some (.int b), some (.int ((0 + 1) + 1))]) dX3_putRgb_43 (by decide) rfl rfl rfl ?_
        refine XW.aload_n 46 dX3_putRgb_45 rfl rfl ?_
        refine XW.iload_n 47 dX3_putRgb_46 rfl rfl ?_
        refine XW.iload_n 48 dX3_putRgb_47 rfl rfl ?_
        refine XW.iast 49 (h' := HP (sA Z 2 (upd (Z.2.1 2) k r))) k dX3_putRgb_48 rfl hx (by omega) (by decide) rfl rfl ?_
        refine XW.aload_n 50 dX3_putRgb_49 rfl rfl ?_
        refine XW.iload_n 51 dX3_putRgb_50 rfl rfl ?_
        refine XW.iconst 52 dX3_putRgb_51 (v := 1) (by decide) rfl ?_
        refine XW.iadd 53 dX3_putRgb_52 rfl ?_
        refine XW.iload_n 54 dX3_putRgb_53 rfl rfl ?_
        refine XW.iast 55 (h' := HP (sA (sA Z 2 (upd (Z.2.1 2) k r)) 2 (upd (upd (Z.2.1 2) k r) (k + 1) g))) (k + 1) dX3_putRgb_54 rfl (na hx rfl) (by omega) (by decide) rfl rfl ?_
        refine XW.aload_n 56 dX3_putRgb_55 rfl rfl ?_
        refine XW.iload_n 57 dX3_putRgb_56 rfl rfl ?_
        refine XW.iconst 58 dX3_putRgb_57 (v := 2) (by decide) rfl ?_
        refine XW.iadd 59 dX3_putRgb_58 rfl ?_
        refine XW.iload 61 dX3_putRgb_59 rfl rfl ?_
        refine XW.iast 62 (h' := HP (sA (sA (sA Z 2 (upd (Z.2.1 2) k r)) 2 (upd (upd (Z.2.1 2) k r) (k + 1) g)) 2 (upd (upd (upd (Z.2.1 2) k r) (k + 1) g) (k + 2) b))) (k + 2) dX3_putRgb_61 rfl (na hx rfl) (by omega) (by decide) rfl rfl ?_
        refine XW.iload 64 dX3_putRgb_62 rfl rfl ?_
        exact XW.iret dX3_putRgb_64 rfl (⟨by simp [otF, *], rfl⟩)
      · refine XW.iconst 38 dX3_putRgb_37 (v := 0) (by decide) rfl ?_
        refine XW.goto 42 dX3_putRgb_38 (by decide) ?_
        refine XW.iadd 43 dX3_putRgb_42 rfl ?_
        refine XW.istore 45 (L' := [some (.ref 2), some (.int x), some (.int r), some (.int g), some (.int b), some (.int ((0 + 1) + 0))]) dX3_putRgb_43 (by decide) rfl rfl rfl ?_
        refine XW.aload_n 46 dX3_putRgb_45 rfl rfl ?_
        refine XW.iload_n 47 dX3_putRgb_46 rfl rfl ?_
        refine XW.iload_n 48 dX3_putRgb_47 rfl rfl ?_
        refine XW.iast 49 (h' := HP (sA Z 2 (upd (Z.2.1 2) k r))) k dX3_putRgb_48 rfl hx (by omega) (by decide) rfl rfl ?_
        refine XW.aload_n 50 dX3_putRgb_49 rfl rfl ?_
        refine XW.iload_n 51 dX3_putRgb_50 rfl rfl ?_
        refine XW.iconst 52 dX3_putRgb_51 (v := 1) (by decide) rfl ?_
        refine XW.iadd 53 dX3_putRgb_52 rfl ?_
        refine XW.iload_n 54 dX3_putRgb_53 rfl rfl ?_
        refine XW.iast 55 (h' := HP (sA (sA Z 2 (upd (Z.2.1 2) k r)) 2 (upd (upd (Z.2.1 2) k r) (k + 1) g))) (k + 1) dX3_putRgb_54 rfl (na hx rfl) (by omega) (by decide) rfl rfl ?_
        refine XW.aload_n 56 dX3_putRgb_55 rfl rfl ?_
        refine XW.iload_n 57 dX3_putRgb_56 rfl rfl ?_
        refine XW.iconst 58 dX3_putRgb_57 (v := 2) (by decide) rfl ?_
        refine XW.iadd 59 dX3_putRgb_58 rfl ?_
        refine XW.iload 61 dX3_putRgb_59 rfl rfl ?_
        refine XW.iast 62 (h' := HP (sA (sA (sA Z 2 (upd (Z.2.1 2) k r)) 2 (upd (upd (Z.2.1 2) k r) (k + 1) g)) 2 (upd (upd (upd (Z.2.1 2) k r) (k + 1) g) (k + 2) b))) (k + 2) dX3_putRgb_61 rfl (na hx rfl) (by omega) (by decide) rfl rfl ?_
        refine XW.iload 64 dX3_putRgb_62 rfl rfl ?_
        exact XW.iret dX3_putRgb_64 rfl (⟨by simp [otF, *], rfl⟩)
    · refine XW.iconst 22 dX3_putRgb_21 (v := 0) (by decide) rfl ?_
      refine XW.goto 26 dX3_putRgb_22 (by decide) ?_
      refine XW.iadd 27 dX3_putRgb_26 rfl ?_
      refine XW.aload_n 28 dX3_putRgb_27 rfl rfl ?_
      refine XW.iload_n 29 dX3_putRgb_28 rfl rfl ?_
      refine XW.iconst 30 dX3_putRgb_29 (v := 2) (by decide) rfl ?_
      refine XW.iadd 31 dX3_putRgb_30 rfl ?_
      refine XW.iald 32 (k + 2) dX3_putRgb_31 rfl (na hx rfl) (by omega) (by decide) rfl ?_
      refine XW.iload 34 dX3_putRgb_32 rfl rfl ?_
      refine XW.icmp_ne 41 37 dX3_putRgb_34 (by decide) rfl (fun c_34 => ?_) (fun c_34 => ?_)
      · refine XW.iconst 42 dX3_putRgb_41 (v := 1) (by decide) rfl ?_
        refine XW.iadd 43 dX3_putRgb_42 rfl ?_
        refine XW.istore 45 (L' := [some (.ref 2), some (.int x), some (.int r), some (.int g), some (.int b), some (.int ((0 + 0) + 1))]) dX3_putRgb_43 (by decide) rfl rfl rfl ?_
        refine XW.aload_n 46 dX3_putRgb_45 rfl rfl ?_
        refine XW.iload_n 47 dX3_putRgb_46 rfl rfl ?_
        refine XW.iload_n 48 dX3_putRgb_47 rfl rfl ?_
        refine XW.iast 49 (h' := HP (sA Z 2 (upd (Z.2.1 2) k r))) k dX3_putRgb_48 rfl hx (by omega) (by decide) rfl rfl ?_
        refine XW.aload_n 50 dX3_putRgb_49 rfl rfl ?_
        refine XW.iload_n 51 dX3_putRgb_50 rfl rfl ?_
        refine XW.iconst 52 dX3_putRgb_51 (v := 1) (by decide) rfl ?_
        refine XW.iadd 53 dX3_putRgb_52 rfl ?_
        refine XW.iload_n 54 dX3_putRgb_53 rfl rfl ?_
        refine XW.iast 55 (h' := HP (sA (sA Z 2 (upd (Z.2.1 2) k r)) 2 (upd (upd (Z.2.1 2) k r) (k + 1) g))) (k + 1) dX3_putRgb_54 rfl (na hx rfl) (by omega) (by decide) rfl rfl ?_
        refine XW.aload_n 56 dX3_putRgb_55 rfl rfl ?_
        refine XW.iload_n 57 dX3_putRgb_56 rfl rfl ?_
        refine XW.iconst 58 dX3_putRgb_57 (v := 2) (by decide) rfl ?_
        refine XW.iadd 59 dX3_putRgb_58 rfl ?_
        refine XW.iload 61 dX3_putRgb_59 rfl rfl ?_
        refine XW.iast 62 (h' := HP (sA (sA (sA Z 2 (upd (Z.2.1 2) k r)) 2 (upd (upd (Z.2.1 2) k r) (k + 1) g)) 2 (upd (upd (upd (Z.2.1 2) k r) (k + 1) g) (k + 2) b))) (k + 2) dX3_putRgb_61 rfl (na hx rfl) (by omega) (by decide) rfl rfl ?_
        refine XW.iload 64 dX3_putRgb_62 rfl rfl ?_
        exact XW.iret dX3_putRgb_64 rfl (⟨by simp [otF, *], rfl⟩)
      · refine XW.iconst 38 dX3_putRgb_37 (v := 0) (by decide) rfl ?_
        refine XW.goto 42 dX3_putRgb_38 (by decide) ?_
        refine XW.iadd 43 dX3_putRgb_42 rfl ?_
        refine XW.istore 45 (L' := [some (.ref 2), some (.int x), some (.int r), some (.int g), some (.int b), some (.int ((0 + 0) + 0))]) dX3_putRgb_43 (by decide) rfl rfl rfl ?_
        refine XW.aload_n 46 dX3_putRgb_45 rfl rfl ?_
        refine XW.iload_n 47 dX3_putRgb_46 rfl rfl ?_
        refine XW.iload_n 48 dX3_putRgb_47 rfl rfl ?_
        refine XW.iast 49 (h' := HP (sA Z 2 (upd (Z.2.1 2) k r))) k dX3_putRgb_48 rfl hx (by omega) (by decide) rfl rfl ?_
        refine XW.aload_n 50 dX3_putRgb_49 rfl rfl ?_
        refine XW.iload_n 51 dX3_putRgb_50 rfl rfl ?_
        refine XW.iconst 52 dX3_putRgb_51 (v := 1) (by decide) rfl ?_
        refine XW.iadd 53 dX3_putRgb_52 rfl ?_
        refine XW.iload_n 54 dX3_putRgb_53 rfl rfl ?_
        refine XW.iast 55 (h' := HP (sA (sA Z 2 (upd (Z.2.1 2) k r)) 2 (upd (upd (Z.2.1 2) k r) (k + 1) g))) (k + 1) dX3_putRgb_54 rfl (na hx rfl) (by omega) (by decide) rfl rfl ?_
        refine XW.aload_n 56 dX3_putRgb_55 rfl rfl ?_
        refine XW.iload_n 57 dX3_putRgb_56 rfl rfl ?_
        refine XW.iconst 58 dX3_putRgb_57 (v := 2) (by decide) rfl ?_
        refine XW.iadd 59 dX3_putRgb_58 rfl ?_
        refine XW.iload 61 dX3_putRgb_59 rfl rfl ?_
        refine XW.iast 62 (h' := HP (sA (sA (sA Z 2 (upd (Z.2.1 2) k r)) 2 (upd (upd (Z.2.1 2) k r) (k + 1) g)) 2 (upd (upd (upd (Z.2.1 2) k r) (k + 1) g) (k + 2) b))) (k + 2) dX3_putRgb_61 rfl (na hx rfl) (by omega) (by decide) rfl rfl ?_
        refine XW.iload 64 dX3_putRgb_62 rfl rfl ?_
        exact XW.iret dX3_putRgb_64 rfl (⟨by simp [otF, *], rfl⟩)
set_option maxHeartbeats 4000000 in
set_option maxRecDepth 100000 in
theorem c_putRgb3 {Z : xZ} {x : Int32} {k : Nat} (r g b : Int32) (hx : x = nI k) (hk : k + 2 < 3) : XC mX3_putRgb 0 0 0 [.ref 3, .int x, .int r, .int g, .int b] (HP Z) (fun q h' => q = some (.int (otF (Z.2.1 3) k r g b)) ∧ h' = HP (sA Z 3 (up3 (Z.2.1 3) k r g b))) := by
  show XW mX3_putRgb 0 0 0 0 [some (.ref 3), some (.int x), some (.int r), some (.int g), some (.int b), none] [] (HP Z) _
  refine XW.aload_n 1 dX3_putRgb_0 rfl rfl ?_
  refine XW.iload_n 2 dX3_putRgb_1 rfl rfl ?_
  refine XW.iald 3 k dX3_putRgb_2 rfl hx (by omega) (by decide) rfl ?_
  refine XW.iload_n 4 dX3_putRgb_3 rfl rfl ?_
  refine XW.icmp_ne 11 7 dX3_putRgb_4 (by decide) rfl (fun c_4 => ?_) (fun c_4 => ?_)
  · refine XW.iconst 12 dX3_putRgb_11 (v := 1) (by decide) rfl ?_
    refine XW.aload_n 13 dX3_putRgb_12 rfl rfl ?_
    refine XW.iload_n 14 dX3_putRgb_13 rfl rfl ?_
    refine XW.iconst 15 dX3_putRgb_14 (v := 1) (by decide) rfl ?_
    refine XW.iadd 16 dX3_putRgb_15 rfl ?_
    refine XW.iald 17 (k + 1) dX3_putRgb_16 rfl (na hx rfl) (by omega) (by decide) rfl ?_
    refine XW.iload_n 18 dX3_putRgb_17 rfl rfl ?_
    refine XW.icmp_ne 25 21 dX3_putRgb_18 (by decide) rfl (fun c_18 => ?_) (fun c_18 => ?_)
    · refine XW.iconst 26 dX3_putRgb_25 (v := 1) (by decide) rfl ?_
      refine XW.iadd 27 dX3_putRgb_26 rfl ?_
      refine XW.aload_n 28 dX3_putRgb_27 rfl rfl ?_
      refine XW.iload_n 29 dX3_putRgb_28 rfl rfl ?_
      refine XW.iconst 30 dX3_putRgb_29 (v := 2) (by decide) rfl ?_
      refine XW.iadd 31 dX3_putRgb_30 rfl ?_
      refine XW.iald 32 (k + 2) dX3_putRgb_31 rfl (na hx rfl) (by omega) (by decide) rfl ?_
      refine XW.iload 34 dX3_putRgb_32 rfl rfl ?_
      refine XW.icmp_ne 41 37 dX3_putRgb_34 (by decide) rfl (fun c_34 => ?_) (fun c_34 => ?_)
      · refine XW.iconst 42 dX3_putRgb_41 (v := 1) (by decide) rfl ?_
        refine XW.iadd 43 dX3_putRgb_42 rfl ?_
        refine XW.istore 45 (L' := [some (.ref 3), some (.int x), some (.int r), some (.int g), some (.int b), some (.int ((1 + 1) + 1))]) dX3_putRgb_43 (by decide) rfl rfl rfl ?_
        refine XW.aload_n 46 dX3_putRgb_45 rfl rfl ?_
        refine XW.iload_n 47 dX3_putRgb_46 rfl rfl ?_
        refine XW.iload_n 48 dX3_putRgb_47 rfl rfl ?_
        refine XW.iast 49 (h' := HP (sA Z 3 (upd (Z.2.1 3) k r))) k dX3_putRgb_48 rfl hx (by omega) (by decide) rfl rfl ?_
        refine XW.aload_n 50 dX3_putRgb_49 rfl rfl ?_
        refine XW.iload_n 51 dX3_putRgb_50 rfl rfl ?_
        refine XW.iconst 52 dX3_putRgb_51 (v := 1) (by decide) rfl ?_
        refine XW.iadd 53 dX3_putRgb_52 rfl ?_
        refine XW.iload_n 54 dX3_putRgb_53 rfl rfl ?_
        refine XW.iast 55 (h' := HP (sA (sA Z 3 (upd (Z.2.1 3) k r)) 3 (upd (upd (Z.2.1 3) k r) (k + 1) g))) (k + 1) dX3_putRgb_54 rfl (na hx rfl) (by omega) (by decide) rfl rfl ?_
        refine XW.aload_n 56 dX3_putRgb_55 rfl rfl ?_
        refine XW.iload_n 57 dX3_putRgb_56 rfl rfl ?_
        refine XW.iconst 58 dX3_putRgb_57 (v := 2) (by decide) rfl ?_
        refine XW.iadd 59 dX3_putRgb_58 rfl ?_
        refine XW.iload 61 dX3_putRgb_59 rfl rfl ?_
        refine XW.iast 62 (h' := HP (sA (sA (sA Z 3 (upd (Z.2.1 3) k r)) 3 (upd (upd (Z.2.1 3) k r) (k + 1) g)) 3 (upd (upd (upd (Z.2.1 3) k r) (k + 1) g) (k + 2) b))) (k + 2) dX3_putRgb_61 rfl (na hx rfl) (by omega) (by decide) rfl rfl ?_
        refine XW.iload 64 dX3_putRgb_62 rfl rfl ?_
        exact XW.iret dX3_putRgb_64 rfl (⟨by simp [otF, *], rfl⟩)
      · refine XW.iconst 38 dX3_putRgb_37 (v := 0) (by decide) rfl ?_
        refine XW.goto 42 dX3_putRgb_38 (by decide) ?_
        refine XW.iadd 43 dX3_putRgb_42 rfl ?_
        refine XW.istore 45 (L' := [some (.ref 3), some (.int x), some (.int r), some (.int g), some (.int b), some (.int ((1 + 1) + 0))]) dX3_putRgb_43 (by decide) rfl rfl rfl ?_
        refine XW.aload_n 46 dX3_putRgb_45 rfl rfl ?_
        refine XW.iload_n 47 dX3_putRgb_46 rfl rfl ?_
        refine XW.iload_n 48 dX3_putRgb_47 rfl rfl ?_
        refine XW.iast 49 (h' := HP (sA Z 3 (upd (Z.2.1 3) k r))) k dX3_putRgb_48 rfl hx (by omega) (by decide) rfl rfl ?_
        refine XW.aload_n 50 dX3_putRgb_49 rfl rfl ?_
        refine XW.iload_n 51 dX3_putRgb_50 rfl rfl ?_
        refine XW.iconst 52 dX3_putRgb_51 (v := 1) (by decide) rfl ?_
        refine XW.iadd 53 dX3_putRgb_52 rfl ?_
        refine XW.iload_n 54 dX3_putRgb_53 rfl rfl ?_
        refine XW.iast 55 (h' := HP (sA (sA Z 3 (upd (Z.2.1 3) k r)) 3 (upd (upd (Z.2.1 3) k r) (k + 1) g))) (k + 1) dX3_putRgb_54 rfl (na hx rfl) (by omega) (by decide) rfl rfl ?_
        refine XW.aload_n 56 dX3_putRgb_55 rfl rfl ?_
        refine XW.iload_n 57 dX3_putRgb_56 rfl rfl ?_
        refine XW.iconst 58 dX3_putRgb_57 (v := 2) (by decide) rfl ?_
        refine XW.iadd 59 dX3_putRgb_58 rfl ?_
        refine XW.iload 61 dX3_putRgb_59 rfl rfl ?_
        refine XW.iast 62 (h' := HP (sA (sA (sA Z 3 (upd (Z.2.1 3) k r)) 3 (upd (upd (Z.2.1 3) k r) (k + 1) g)) 3 (upd (upd (upd (Z.2.1 3) k r) (k + 1) g) (k + 2) b))) (k + 2) dX3_putRgb_61 rfl (na hx rfl) (by omega) (by decide) rfl rfl ?_
        refine XW.iload 64 dX3_putRgb_62 rfl rfl ?_
        exact XW.iret dX3_putRgb_64 rfl (⟨by simp [otF, *], rfl⟩)
    · refine XW.iconst 22 dX3_putRgb_21 (v := 0) (by decide) rfl ?_
      refine XW.goto 26 dX3_putRgb_22 (by decide) ?_
      refine XW.iadd 27 dX3_putRgb_26 rfl ?_
      refine XW.aload_n 28 dX3_putRgb_27 rfl rfl ?_
      refine XW.iload_n 29 dX3_putRgb_28 rfl rfl ?_
      refine XW.iconst 30 dX3_putRgb_29 (v := 2) (by decide) rfl ?_
      refine XW.iadd 31 dX3_putRgb_30 rfl ?_
      refine XW.iald 32 (k + 2) dX3_putRgb_31 rfl (na hx rfl) (by omega) (by decide) rfl ?_
      refine XW.iload 34 dX3_putRgb_32 rfl rfl ?_
      refine XW.icmp_ne 41 37 dX3_putRgb_34 (by decide) rfl (fun c_34 => ?_) (fun c_34 => ?_)
      · refine XW.iconst 42 dX3_putRgb_41 (v := 1) (by decide) rfl ?_
        refine XW.iadd 43 dX3_putRgb_42 rfl ?_
        refine XW.istore 45 (L' := [some (.ref 3), some (.int x), some (.int r), some (.int g), some (.int b), some (.int ((1 + 0) + 1))]) dX3_putRgb_43 (by decide) rfl rfl rfl ?_
        refine XW.aload_n 46 dX3_putRgb_45 rfl rfl ?_
        refine XW.iload_n 47 dX3_putRgb_46 rfl rfl ?_
        refine XW.iload_n 48 dX3_putRgb_47 rfl rfl ?_
        refine XW.iast 49 (h' := HP (sA Z 3 (upd (Z.2.1 3) k r))) k dX3_putRgb_48 rfl hx (by omega) (by decide) rfl rfl ?_
        refine XW.aload_n 50 dX3_putRgb_49 rfl rfl ?_
        refine XW.iload_n 51 dX3_putRgb_50 rfl rfl ?_
        refine XW.iconst 52 dX3_putRgb_51 (v := 1) (by decide) rfl ?_
        refine XW.iadd 53 dX3_putRgb_52 rfl ?_
        refine XW.iload_n 54 dX3_putRgb_53 rfl rfl ?_
        refine XW.iast 55 (h' := HP (sA (sA Z 3 (upd (Z.2.1 3) k r)) 3 (upd (upd (Z.2.1 3) k r) (k + 1) g))) (k + 1) dX3_putRgb_54 rfl (na hx rfl) (by omega) (by decide) rfl rfl ?_
        refine XW.aload_n 56 dX3_putRgb_55 rfl rfl ?_
        refine XW.iload_n 57 dX3_putRgb_56 rfl rfl ?_
        refine XW.iconst 58 dX3_putRgb_57 (v := 2) (by decide) rfl ?_
        refine XW.iadd 59 dX3_putRgb_58 rfl ?_
        refine XW.iload 61 dX3_putRgb_59 rfl rfl ?_
        refine XW.iast 62 (h' := HP (sA (sA (sA Z 3 (upd (Z.2.1 3) k r)) 3 (upd (upd (Z.2.1 3) k r) (k + 1) g)) 3 (upd (upd (upd (Z.2.1 3) k r) (k + 1) g) (k + 2) b))) (k + 2) dX3_putRgb_61 rfl (na hx rfl) (by omega) (by decide) rfl rfl ?_
        refine XW.iload 64 dX3_putRgb_62 rfl rfl ?_
        exact XW.iret dX3_putRgb_64 rfl (⟨by simp [otF, *], rfl⟩)
      · refine XW.iconst 38 dX3_putRgb_37 (v := 0) (by decide) rfl ?_
        refine XW.goto 42 dX3_putRgb_38 (by decide) ?_
        refine XW.iadd 43 dX3_putRgb_42 rfl ?_
        refine XW.istore 45 (L' := [some (.ref 3), some (.int x), some (.int r), some (.int g), some (.int b), some (.int ((1 + 0) + 0))]) dX3_putRgb_43 (by decide) rfl rfl rfl ?_
        refine XW.aload_n 46 dX3_putRgb_45 rfl rfl ?_
        refine XW.iload_n 47 dX3_putRgb_46 rfl rfl ?_
        refine XW.iload_n 48 dX3_putRgb_47 rfl rfl ?_
        refine XW.iast 49 (h' := HP (sA Z 3 (upd (Z.2.1 3) k r))) k dX3_putRgb_48 rfl hx (by omega) (by decide) rfl rfl ?_
        refine XW.aload_n 50 dX3_putRgb_49 rfl rfl ?_
        refine XW.iload_n 51 dX3_putRgb_50 rfl rfl ?_
        refine XW.iconst 52 dX3_putRgb_51 (v := 1) (by decide) rfl ?_
        refine XW.iadd 53 dX3_putRgb_52 rfl ?_
        refine XW.iload_n 54 dX3_putRgb_53 rfl rfl ?_
        refine XW.iast 55 (h' := HP (sA (sA Z 3 (upd (Z.2.1 3) k r)) 3 (upd (upd (Z.2.1 3) k r) (k + 1) g))) (k + 1) dX3_putRgb_54 rfl (na hx rfl) (by omega) (by decide) rfl rfl ?_
        refine XW.aload_n 56 dX3_putRgb_55 rfl rfl ?_
        refine XW.iload_n 57 dX3_putRgb_56 rfl rfl ?_
        refine XW.iconst 58 dX3_putRgb_57 (v := 2) (by decide) rfl ?_
        refine XW.iadd 59 dX3_putRgb_58 rfl ?_
        refine XW.iload 61 dX3_putRgb_59 rfl rfl ?_
        refine XW.iast 62 (h' := HP (sA (sA (sA Z 3 (upd (Z.2.1 3) k r)) 3 (upd (upd (Z.2.1 3) k r) (k + 1) g)) 3 (upd (upd (upd (Z.2.1 3) k r) (k + 1) g) (k + 2) b))) (k + 2) dX3_putRgb_61 rfl (na hx rfl) (by omega) (by decide) rfl rfl ?_
        refine XW.iload 64 dX3_putRgb_62 rfl rfl ?_
        exact XW.iret dX3_putRgb_64 rfl (⟨by simp [otF, *], rfl⟩)
  · refine XW.iconst 8 dX3_putRgb_7 (v := 0) (by decide) rfl ?_
    refine XW.goto 12 dX3_putRgb_8 (by decide) ?_
    refine XW.aload_n 13 dX3_putRgb_12 rfl rfl ?_
    refine XW.iload_n 14 dX3_putRgb_13 rfl rfl ?_
    refine XW.iconst 15 dX3_putRgb_14 (v := 1) (by decide) rfl ?_
    refine XW.iadd 16 dX3_putRgb_15 rfl ?_
    refine XW.iald 17 (k + 1) dX3_putRgb_16 rfl (na hx rfl) (by omega) (by decide) rfl ?_
    refine XW.iload_n 18 dX3_putRgb_17 rfl rfl ?_
    refine XW.icmp_ne 25 21 dX3_putRgb_18 (by decide) rfl (fun c_18 => ?_) (fun c_18 => ?_)
    · refine XW.iconst 26 dX3_putRgb_25 (v := 1) (by decide) rfl ?_
      refine XW.iadd 27 dX3_putRgb_26 rfl ?_
      refine XW.aload_n 28 dX3_putRgb_27 rfl rfl ?_
      refine XW.iload_n 29 dX3_putRgb_28 rfl rfl ?_
      refine XW.iconst 30 dX3_putRgb_29 (v := 2) (by decide) rfl ?_
      refine XW.iadd 31 dX3_putRgb_30 rfl ?_
      refine XW.iald 32 (k + 2) dX3_putRgb_31 rfl (na hx rfl) (by omega) (by decide) rfl ?_
      refine XW.iload 34 dX3_putRgb_32 rfl rfl ?_
      refine XW.icmp_ne 41 37 dX3_putRgb_34 (by decide) rfl (fun c_34 => ?_) (fun c_34 => ?_)
      · refine XW.iconst 42 dX3_putRgb_41 (v := 1) (by decide) rfl ?_
        refine XW.iadd 43 dX3_putRgb_42 rfl ?_
        refine XW.istore 45 (L' := [some (.ref 3), some (.int x), some (.int r), some (.int g), some (.int b), some (.int ((0 + 1) + 1))]) dX3_putRgb_43 (by decide) rfl rfl rfl ?_
        refine XW.aload_n 46 dX3_putRgb_45 rfl rfl ?_
        refine XW.iload_n 47 dX3_putRgb_46 rfl rfl ?_
        refine XW.iload_n 48 dX3_putRgb_47 rfl rfl ?_
        refine XW.iast 49 (h' := HP (sA Z 3 (upd (Z.2.1 3) k r))) k dX3_putRgb_48 rfl hx (by omega) (by decide) rfl rfl ?_
        refine XW.aload_n 50 dX3_putRgb_49 rfl rfl ?_
        refine XW.iload_n 51 dX3_putRgb_50 rfl rfl ?_
        refine XW.iconst 52 dX3_putRgb_51 (v := 1) (by decide) rfl ?_
        refine XW.iadd 53 dX3_putRgb_52 rfl ?_
        refine XW.iload_n 54 dX3_putRgb_53 rfl rfl ?_
        refine XW.iast 55 (h' := HP (sA (sA Z 3 (upd (Z.2.1 3) k r)) 3 (upd (upd (Z.2.1 3) k r) (k + 1) g))) (k + 1) dX3_putRgb_54 rfl (na hx rfl) (by omega) (by decide) rfl rfl ?_
        refine XW.aload_n 56 dX3_putRgb_55 rfl rfl ?_
        refine XW.iload_n 57 dX3_putRgb_56 rfl rfl ?_
        refine XW.iconst 58 dX3_putRgb_57 (v := 2) (by decide) rfl ?_
        refine XW.iadd 59 dX3_putRgb_58 rfl ?_
        refine XW.iload 61 dX3_putRgb_59 rfl rfl ?_
        refine XW.iast 62 (h' := HP (sA (sA (sA Z 3 (upd (Z.2.1 3) k r)) 3 (upd (upd (Z.2.1 3) k r) (k + 1) g)) 3 (upd (upd (upd (Z.2.1 3) k r) (k + 1) g) (k + 2) b))) (k + 2) dX3_putRgb_61 rfl (na hx rfl) (by omega) (by decide) rfl rfl ?_
        refine XW.iload 64 dX3_putRgb_62 rfl rfl ?_
        exact XW.iret dX3_putRgb_64 rfl (⟨by simp [otF, *], rfl⟩)
      · refine XW.iconst 38 dX3_putRgb_37 (v := 0) (by decide) rfl ?_
        refine XW.goto 42 dX3_putRgb_38 (by decide) ?_
        refine XW.iadd 43 dX3_putRgb_42 rfl ?_
        refine XW.istore 45 (L' := [some (.ref 3), some (.int x), some (.int r), some (.int g), some (.int b), some (.int ((0 + 1) + 0))]) dX3_putRgb_43 (by decide) rfl rfl rfl ?_
        refine XW.aload_n 46 dX3_putRgb_45 rfl rfl ?_
        refine XW.iload_n 47 dX3_putRgb_46 rfl rfl ?_
        refine XW.iload_n 48 dX3_putRgb_47 rfl rfl ?_
        refine XW.iast 49 (h' := HP (sA Z 3 (upd (Z.2.1 3) k r))) k dX3_putRgb_48 rfl hx (by omega) (by decide) rfl rfl ?_
        refine XW.aload_n 50 dX3_putRgb_49 rfl rfl ?_
        refine XW.iload_n 51 dX3_putRgb_50 rfl rfl ?_
        refine XW.iconst 52 dX3_putRgb_51 (v := 1) (by decide) rfl ?_
        refine XW.iadd 53 dX3_putRgb_52 rfl ?_
        refine XW.iload_n 54 dX3_putRgb_53 rfl rfl ?_
        refine XW.iast 55 (h' := HP (sA (sA Z 3 (upd (Z.2.1 3) k r)) 3 (upd (upd (Z.2.1 3) k r) (k + 1) g))) (k + 1) dX3_putRgb_54 rfl (na hx rfl) (by omega) (by decide) rfl rfl ?_
        refine XW.aload_n 56 dX3_putRgb_55 rfl rfl ?_
        refine XW.iload_n 57 dX3_putRgb_56 rfl rfl ?_
        refine XW.iconst 58 dX3_putRgb_57 (v := 2) (by decide) rfl ?_
        refine XW.iadd 59 dX3_putRgb_58 rfl ?_
        refine XW.iload 61 dX3_putRgb_59 rfl rfl ?_
        refine XW.iast 62 (h' := HP (sA (sA (sA Z 3 (upd (Z.2.1 3) k r)) 3 (upd (upd (Z.2.1 3) k r) (k + 1) g)) 3 (upd (upd (upd (Z.2.1 3) k r) (k + 1) g) (k + 2) b))) (k + 2) dX3_putRgb_61 rfl (na hx rfl) (by omega) (by decide) rfl rfl ?_
        refine XW.iload 64 dX3_putRgb_62 rfl rfl ?_
        exact XW.iret dX3_putRgb_64 rfl (⟨by simp [otF, *], rfl⟩)
    · refine XW.iconst 22 dX3_putRgb_21 (v := 0) (by decide) rfl ?_
      refine XW.goto 26 dX3_putRgb_22 (by decide) ?_
      refine XW.iadd 27 dX3_putRgb_26 rfl ?_
      refine XW.aload_n 28 dX3_putRgb_27 rfl rfl ?_
      refine XW.iload_n 29 dX3_putRgb_28 rfl rfl ?_
      refine XW.iconst 30 dX3_putRgb_29 (v := 2) (by decide) rfl ?_
      refine XW.iadd 31 dX3_putRgb_30 rfl ?_
      refine XW.iald 32 (k + 2) dX3_putRgb_31 rfl (na hx rfl) (by omega) (by decide) rfl ?_
      refine XW.iload 34 dX3_putRgb_32 rfl rfl ?_
      refine XW.icmp_ne 41 37 dX3_putRgb_34 (by decide) rfl (fun c_34 => ?_) (fun c_34 => ?_)
      · refine XW.iconst 42 dX3_putRgb_41 (v := 1) (by decide) rfl ?_
        refine XW.iadd 43 dX3_putRgb_42 rfl ?_
        refine XW.istore 45 (L' := [some (.ref 3), some (.int x), some (.int r), some (.int g), some (.int b), some (.int ((0 + 0) + 1))]) dX3_putRgb_43 (by decide) rfl rfl rfl ?_
        refine XW.aload_n 46 dX3_putRgb_45 rfl rfl ?_
        refine XW.iload_n 47 dX3_putRgb_46 rfl rfl ?_
        refine XW.iload_n 48 dX3_putRgb_47 rfl rfl ?_
        refine XW.iast 49 (h' := HP (sA Z 3 (upd (Z.2.1 3) k r))) k dX3_putRgb_48 rfl hx (by omega) (by decide) rfl rfl ?_
        refine XW.aload_n 50 dX3_putRgb_49 rfl rfl ?_
        refine XW.iload_n 51 dX3_putRgb_50 rfl rfl ?_
        refine XW.iconst 52 dX3_putRgb_51 (v := 1) (by decide) rfl ?_
        refine XW.iadd 53 dX3_putRgb_52 rfl ?_
        refine XW.iload_n 54 dX3_putRgb_53 rfl rfl ?_
        refine XW.iast 55 (h' := HP (sA (sA Z 3 (upd (Z.2.1 3) k r)) 3 (upd (upd (Z.2.1 3) k r) (k + 1) g))) (k + 1) dX3_putRgb_54 rfl (na hx rfl) (by omega) (by decide) rfl rfl ?_
        refine XW.aload_n 56 dX3_putRgb_55 rfl rfl ?_
        refine XW.iload_n 57 dX3_putRgb_56 rfl rfl ?_
        refine XW.iconst 58 dX3_putRgb_57 (v := 2) (by decide) rfl ?_
        refine XW.iadd 59 dX3_putRgb_58 rfl ?_
        refine XW.iload 61 dX3_putRgb_59 rfl rfl ?_
        refine XW.iast 62 (h' := HP (sA (sA (sA Z 3 (upd (Z.2.1 3) k r)) 3 (upd (upd (Z.2.1 3) k r) (k + 1) g)) 3 (upd (upd (upd (Z.2.1 3) k r) (k + 1) g) (k + 2) b))) (k + 2) dX3_putRgb_61 rfl (na hx rfl) (by omega) (by decide) rfl rfl ?_
        refine XW.iload 64 dX3_putRgb_62 rfl rfl ?_
        exact XW.iret dX3_putRgb_64 rfl (⟨by simp [otF, *], rfl⟩)
      · refine XW.iconst 38 dX3_putRgb_37 (v := 0) (by decide) rfl ?_
        refine XW.goto 42 dX3_putRgb_38 (by decide) ?_
        refine XW.iadd 43 dX3_putRgb_42 rfl ?_
        refine XW.istore 45 (L' := [some (.ref 3), some (.int x), some (.int r), some (.int g), some (.int b), some (.int ((0 + 0) + 0))]) dX3_putRgb_43 (by decide) rfl rfl rfl ?_
        refine XW.aload_n 46 dX3_putRgb_45 rfl rfl ?_
        refine XW.iload_n 47 dX3_putRgb_46 rfl rfl ?_
        refine XW.iload_n 48 dX3_putRgb_47 rfl rfl ?_
        refine XW.iast 49 (h' := HP (sA Z 3 (upd (Z.2.1 3) k r))) k dX3_putRgb_48 rfl hx (by omega) (by decide) rfl rfl ?_
        refine XW.aload_n 50 dX3_putRgb_49 rfl rfl ?_
        refine XW.iload_n 51 dX3_putRgb_50 rfl rfl ?_
        refine XW.iconst 52 dX3_putRgb_51 (v := 1) (by decide) rfl ?_
        refine XW.iadd 53 dX3_putRgb_52 rfl ?_
        refine XW.iload_n 54 dX3_putRgb_53 rfl rfl ?_
        refine XW.iast 55 (h' := HP (sA (sA Z 3 (upd (Z.2.1 3) k r)) 3 (upd (upd (Z.2.1 3) k r) (k + 1) g))) (k + 1) dX3_putRgb_54 rfl (na hx rfl) (by omega) (by decide) rfl rfl ?_
        refine XW.aload_n 56 dX3_putRgb_55 rfl rfl ?_
        refine XW.iload_n 57 dX3_putRgb_56 rfl rfl ?_
        refine XW.iconst 58 dX3_putRgb_57 (v := 2) (by decide) rfl ?_
        refine XW.iadd 59 dX3_putRgb_58 rfl ?_
        refine XW.iload 61 dX3_putRgb_59 rfl rfl ?_
        refine XW.iast 62 (h' := HP (sA (sA (sA Z 3 (upd (Z.2.1 3) k r)) 3 (upd (upd (Z.2.1 3) k r) (k + 1) g)) 3 (upd (upd (upd (Z.2.1 3) k r) (k + 1) g) (k + 2) b))) (k + 2) dX3_putRgb_61 rfl (na hx rfl) (by omega) (by decide) rfl rfl ?_
        refine XW.iload 64 dX3_putRgb_62 rfl rfl ?_
        exact XW.iret dX3_putRgb_64 rfl (⟨by simp [otF, *], rfl⟩)
set_option maxHeartbeats 4000000 in
set_option maxRecDepth 100000 in
theorem c_addColour {Z : xZ} {c : Nat} (r g b : Int32) (hc : Z.1 1 0 = nI c) (c20 : c < 20) : XC mX1_addColour 1 0 0 [.ref 1, .int r, .int g, .int b] (HP Z) (fun q h' => q = some (.int (Z.1 1 0)) ∧ h' = HP (sI (sA Z 2 (up3 (Z.2.1 2) (3 * c) r g b)) 1 0 (Z.1 1 0 + 1))) := by
  show XW mX1_addColour 1 0 0 0 [some (.ref 1), some (.int r), some (.int g), some (.int b), none] [] (HP Z) _
  refine XW.aload_n 1 dX1_addColour_0 rfl rfl ?_
  refine XW.getf 4 (v := .int (Z.1 1 0)) f1_9 dX1_addColour_1 rfl rfl rfl ?_
  refine XW.istore 6 (L' := [some (.ref 1), some (.int r), some (.int g), some (.int b), some (.int (Z.1 1 0))]) dX1_addColour_4 (by decide) rfl rfl rfl ?_
  refine XW.aload_n 7 dX1_addColour_6 rfl rfl ?_
  refine XW.getf 10 (v := .ref 2) f1_15 dX1_addColour_7 rfl rfl rfl ?_
  refine XW.iconst 11 dX1_addColour_10 (v := 3) (by decide) rfl ?_
  refine XW.iload 13 dX1_addColour_11 rfl rfl ?_
  refine XW.imul 14 dX1_addColour_13 rfl ?_
  refine XW.iload_n 15 dX1_addColour_14 rfl rfl ?_
  refine XW.iload_n 16 dX1_addColour_15 rfl rfl ?_
  refine XW.iload_n 17 dX1_addColour_16 rfl rfl ?_
  refine XW.callS 20 (vs := [.ref 2, .int (3 * (Z.1 1 0)), .int r, .int g, .int b]) (rest := []) (mcr := 0) (msr := 0) c1_49 dX1_addColour_17 rfl (by decide) (Nat.le_of_ble_eq_true rfl) rfl rfl (Nat.le_of_ble_eq_true rfl) rfl (c_putRgb2 (k := 3 * c) _ _ _ (nm rfl hc) (by omega)) (fun r h1 hq => ?_)
  obtain ⟨rfl, rfl⟩ := hq
  refine XW.pop 21 dX1_addColour_20 rfl rfl ?_
  refine XW.aload_n 22 dX1_addColour_21 rfl rfl ?_
  refine XW.dup 23 dX1_addColour_22 rfl rfl ?_
  refine XW.getf 26 (v := .int (Z.1 1 0)) f1_9 dX1_addColour_23 rfl rfl rfl ?_
  refine XW.iconst 27 dX1_addColour_26 (v := 1) (by decide) rfl ?_
  refine XW.iadd 28 dX1_addColour_27 rfl ?_
  refine XW.putf 31 (h' := HP (sI (sA Z 2 (up3 (Z.2.1 2) (3 * c) r g b)) 1 0 ((Z.1 1 0) + 1))) (p1_9 _) dX1_addColour_28 rfl (Nat.le_of_ble_eq_true rfl) (xfit_i _) rfl rfl ?_
  refine XW.iload 33 dX1_addColour_31 rfl rfl ?_
  exact XW.iret dX1_addColour_33 rfl (⟨rfl, rfl⟩)
set_option maxHeartbeats 4000000 in
set_option maxRecDepth 100000 in
theorem c_setLimit {Z : xZ} {x : Int32} {k : Nat} (v : Int32) (hx : x = nI k) (hk : k < 3) : XC mX1_setLimit 0 0 0 [.ref 1, .int x, .int v] (HP Z) (fun q h' => q = some (.int (Z.2.1 5 k)) ∧ h' = HP (sA Z 5 (upd (Z.2.1 5) k v))) := by
  show XW mX1_setLimit 0 0 0 0 [some (.ref 1), some (.int x), some (.int v), none] [] (HP Z) _
  refine XW.aload_n 1 dX1_setLimit_0 rfl rfl ?_
  refine XW.getf 4 (v := .ref 5) f1_31 dX1_setLimit_1 rfl rfl rfl ?_
  refine XW.iload_n 5 dX1_setLimit_4 rfl rfl ?_
  refine XW.iald 6 k dX1_setLimit_5 rfl hx (by omega) (by decide) rfl ?_
  refine XW.istore_n 7 (L' := [some (.ref 1), some (.int x), some (.int v), some (.int (Z.2.1 5 k))]) dX1_setLimit_6 (by decide) rfl rfl rfl ?_
  refine XW.aload_n 8 dX1_setLimit_7 rfl rfl ?_
  refine XW.getf 11 (v := .ref 5) f1_31 dX1_setLimit_8 rfl rfl rfl ?_
  refine XW.iload_n 12 dX1_setLimit_11 rfl rfl ?_
  refine XW.iload_n 13 dX1_setLimit_12 rfl rfl ?_
  refine XW.iast 14 (h' := HP (sA Z 5 (upd (Z.2.1 5) k v))) k dX1_setLimit_13 rfl hx (by omega) (by decide) rfl rfl ?_
  refine XW.iload_n 15 dX1_setLimit_14 rfl rfl ?_
  exact XW.iret dX1_setLimit_15 rfl (⟨rfl, rfl⟩)
/-- the FIXED ones, one put in or out -/
def fxF (f i on : Int32) : Int32 := if on = 1 then f ||| (1 <<< (i &&& 31)) else f &&& ((1 <<< (i &&& 31)) ^^^ (-1))
set_option maxHeartbeats 4000000 in
set_option maxRecDepth 100000 in
theorem c_setFixed {Z : xZ} (i on : Int32) : XC mX1_setFixed 1 0 0 [.ref 1, .int i, .int on] (HP Z) (fun q h' => q = some (.int (bcF (fxF (Z.1 1 5) i on))) ∧ h' = HP (sI Z 1 5 (fxF (Z.1 1 5) i on))) := by
  show XW mX1_setFixed 1 0 0 0 [some (.ref 1), some (.int i), some (.int on)] [] (HP Z) _
  refine XW.aload_n 1 dX1_setFixed_0 rfl rfl ?_
  refine XW.iload_n 2 dX1_setFixed_1 rfl rfl ?_
  refine XW.iconst 3 dX1_setFixed_2 (v := 1) (by decide) rfl ?_
  refine XW.icmp_ne 17 6 dX1_setFixed_3 (by decide) rfl (fun c_3 => ?_) (fun c_3 => ?_)
  · have e0 : fxF (Z.1 1 5) i on = Z.1 1 5 &&& ((1 <<< (i &&& 31)) ^^^ (-1)) := if_neg c_3
    refine XW.aload_n 18 dX1_setFixed_17 rfl rfl ?_
    refine XW.getf 21 (v := .int (Z.1 1 5)) f1_34 dX1_setFixed_18 rfl rfl rfl ?_
    refine XW.iconst 22 dX1_setFixed_21 (v := 1) (by decide) rfl ?_
    refine XW.iload_n 23 dX1_setFixed_22 rfl rfl ?_
    refine XW.ishl 24 dX1_setFixed_23 rfl ?_
    refine XW.iconst 25 dX1_setFixed_24 (v := -1) (by decide) rfl ?_
    refine XW.ixor 26 dX1_setFixed_25 rfl ?_
    refine XW.iand 27 dX1_setFixed_26 rfl ?_
    refine XW.putf 30 (h' := HP (sI Z 1 5 ((Z.1 1 5) &&& ((1 <<< (i &&& 31)) ^^^ (-1))))) (p1_34 _) dX1_setFixed_27 rfl (Nat.le_of_ble_eq_true rfl) (xfit_i _) rfl rfl ?_
    refine XW.aload_n 31 dX1_setFixed_30 rfl rfl ?_
    refine XW.getf 34 (v := .int ((Z.1 1 5) &&& ((1 <<< (i &&& 31)) ^^^ (-1)))) f1_34 dX1_setFixed_31 rfl rfl rfl ?_
    refine XW.callS 37 (vs := [.int ((Z.1 1 5) &&& ((1 <<< (i &&& 31)) ^^^ (-1)))]) (rest := []) (mcr := 0) (msr := 0) c1_53 dX1_setFixed_34 rfl (by decide) (Nat.le_of_ble_eq_true rfl) rfl rfl (Nat.le_of_ble_eq_true rfl) rfl (c_bitCount _ _) (fun r h1 hq => ?_)
    obtain ⟨rfl, rfl⟩ := hq
    exact XW.iret dX1_setFixed_37 rfl (⟨by rw [e0], by rw [e0]⟩)
  · have e0 : fxF (Z.1 1 5) i on = Z.1 1 5 ||| (1 <<< (i &&& 31)) := if_pos c_3
    refine XW.aload_n 7 dX1_setFixed_6 rfl rfl ?_
    refine XW.getf 10 (v := .int (Z.1 1 5)) f1_34 dX1_setFixed_7 rfl rfl rfl ?_
    refine XW.iconst 11 dX1_setFixed_10 (v := 1) (by decide) rfl ?_
    refine XW.iload_n 12 dX1_setFixed_11 rfl rfl ?_
    refine XW.ishl 13 dX1_setFixed_12 rfl ?_
    refine XW.ior 14 dX1_setFixed_13 rfl ?_
    refine XW.goto 27 dX1_setFixed_14 (by decide) ?_
    refine XW.putf 30 (h' := HP (sI Z 1 5 ((Z.1 1 5) ||| (1 <<< (i &&& 31))))) (p1_34 _) dX1_setFixed_27 rfl (Nat.le_of_ble_eq_true rfl) (xfit_i _) rfl rfl ?_
    refine XW.aload_n 31 dX1_setFixed_30 rfl rfl ?_
    refine XW.getf 34 (v := .int ((Z.1 1 5) ||| (1 <<< (i &&& 31)))) f1_34 dX1_setFixed_31 rfl rfl rfl ?_
    refine XW.callS 37 (vs := [.int ((Z.1 1 5) ||| (1 <<< (i &&& 31)))]) (rest := []) (mcr := 0) (msr := 0) c1_53 dX1_setFixed_34 rfl (by decide) (Nat.le_of_ble_eq_true rfl) rfl rfl (Nat.le_of_ble_eq_true rfl) rfl (c_bitCount _ _) (fun r h1 hq => ?_)
    obtain ⟨rfl, rfl⟩ := hq
    exact XW.iret dX1_setFixed_37 rfl (⟨by rw [e0], by rw [e0]⟩)
set_option maxHeartbeats 4000000 in
set_option maxRecDepth 100000 in
theorem c_putIntoRow {Z : xZ} {l : Nat} (x : Int32) (hl : Z.1 1 7 = nI l) (l8 : l < 8) : XC mX1_putIntoRow 0 0 0 [.ref 1, .int x] (HP Z) (fun q h' => q = none ∧ h' = HP (sI (sA Z 6 (upd (Z.2.1 6) l x)) 1 7 (Z.1 1 7 + 1))) := by
  show XW mX1_putIntoRow 0 0 0 0 [some (.ref 1), some (.int x)] [] (HP Z) _
  refine XW.aload_n 1 dX1_putIntoRow_0 rfl rfl ?_
  refine XW.getf 4 (v := .int (Z.1 1 7)) f1_40 dX1_putIntoRow_1 rfl rfl rfl ?_
  refine XW.aload_n 5 dX1_putIntoRow_4 rfl rfl ?_
  refine XW.getf 8 (v := .ref 6) f1_37 dX1_putIntoRow_5 rfl rfl rfl ?_
  refine XW.alen 9 (v := 8) dX1_putIntoRow_8 rfl rfl rfl ?_
  refine XW.icmp_geN 32 12 l 8 dX1_putIntoRow_9 (by decide) rfl hl rfl (by omega) (by omega) (fun c_9 => ?_) (fun c_9 => ?_)
  · omega
  · refine XW.aload_n 13 dX1_putIntoRow_12 rfl rfl ?_
    refine XW.getf 16 (v := .ref 6) f1_37 dX1_putIntoRow_13 rfl rfl rfl ?_
    refine XW.aload_n 17 dX1_putIntoRow_16 rfl rfl ?_
    refine XW.getf 20 (v := .int (Z.1 1 7)) f1_40 dX1_putIntoRow_17 rfl rfl rfl ?_
    refine XW.iload_n 21 dX1_putIntoRow_20 rfl rfl ?_
    refine XW.iast 22 (h' := HP (sA Z 6 (upd (Z.2.1 6) l x))) l dX1_putIntoRow_21 rfl hl (by omega) (by decide) rfl rfl ?_
    refine XW.aload_n 23 dX1_putIntoRow_22 rfl rfl ?_
    refine XW.dup 24 dX1_putIntoRow_23 rfl rfl ?_
    refine XW.getf 27 (v := .int (Z.1 1 7)) f1_40 dX1_putIntoRow_24 rfl rfl rfl ?_
    refine XW.iconst 28 dX1_putIntoRow_27 (v := 1) (by decide) rfl ?_
    refine XW.iadd 29 dX1_putIntoRow_28 rfl ?_
    refine XW.putf 32 (h' := HP (sI (sA Z 6 (upd (Z.2.1 6) l x)) 1 7 ((Z.1 1 7) + 1))) (p1_40 _) dX1_putIntoRow_29 rfl (Nat.le_of_ble_eq_true rfl) (xfit_i _) rfl rfl ?_
    exact XW.vret dX1_putIntoRow_32 trivial (⟨rfl, rfl⟩)
/-- the scene at a becomes as the one at b -/
def becZ (Z : xZ) (a b : Nat) : xZ := sA (sA (sA (sA (sA (sI (sI (sI Z a 0 (Z.1 b 0)) a 5 (Z.1 b 5)) a 7 (Z.1 b 7)) (a + 1) (va_cpy (Z.2.1 (b + 1)) (Z.2.1 (a + 1)) 0 0 60)) (a + 2) (va_cpy (Z.2.1 (b + 2)) (Z.2.1 (a + 2)) 0 0 3)) (a + 3) (va_cpy (Z.2.1 (b + 3)) (Z.2.1 (a + 3)) 0 0 52)) (a + 4) (va_cpy (Z.2.1 (b + 4)) (Z.2.1 (a + 4)) 0 0 3)) (a + 5) (va_cpy (Z.2.1 (b + 5)) (Z.2.1 (a + 5)) 0 0 8)
set_option maxHeartbeats 4000000 in
set_option maxRecDepth 100000 in
theorem c_become_8_1 {Z : xZ} : XC mX1_become 1 0 0 [.ref 8, .ref 1] (HP Z) (fun q h' => q = none ∧ h' = HP (becZ Z 8 1)) := by
  show XW mX1_become 1 0 0 0 [some (.ref 8), some (.ref 1)] [] (HP Z) _
  refine XW.aload_n 1 dX1_become_0 rfl rfl ?_
  refine XW.aload_n 2 dX1_become_1 rfl rfl ?_
  refine XW.getf 5 (v := .int (Z.1 1 0)) f1_9 dX1_become_2 rfl rfl rfl ?_
  refine XW.putf 8 (h' := HP (sI Z 8 0 (Z.1 1 0))) (p1_9 _) dX1_become_5 rfl (Nat.le_of_ble_eq_true rfl) (xfit_i _) rfl rfl ?_
  refine XW.aload_n 9 dX1_become_8 rfl rfl ?_
  refine XW.aload_n 10 dX1_become_9 rfl rfl ?_
  refine XW.getf 13 (v := .int (Z.1 1 5)) f1_34 dX1_become_10 rfl rfl rfl ?_
  refine XW.putf 16 (h' := HP (sI (sI Z 8 0 (Z.1 1 0)) 8 5 (Z.1 1 5))) (p1_34 _) dX1_become_13 rfl (Nat.le_of_ble_eq_true rfl) (xfit_i _) rfl rfl ?_
  refine XW.aload_n 17 dX1_become_16 rfl rfl ?_
  refine XW.aload_n 18 dX1_become_17 rfl rfl ?_
  refine XW.getf 21 (v := .int (Z.1 1 7)) f1_40 dX1_become_18 rfl rfl rfl ?_
  refine XW.putf 24 (h' := HP (sI (sI (sI Z 8 0 (Z.1 1 0)) 8 5 (Z.1 1 5)) 8 7 (Z.1 1 7))) (p1_40 _) dX1_become_21 rfl (Nat.le_of_ble_eq_true rfl) (xfit_i _) rfl rfl ?_
  refine XW.aload_n 25 dX1_become_24 rfl rfl ?_
  refine XW.getf 28 (v := .ref 2) f1_15 dX1_become_25 rfl rfl rfl ?_
  refine XW.iconst 29 dX1_become_28 (v := 0) (by decide) rfl ?_
  refine XW.aload_n 30 dX1_become_29 rfl rfl ?_
  refine XW.getf 33 (v := .ref 9) f1_15 dX1_become_30 rfl rfl rfl ?_
  refine XW.iconst 34 dX1_become_33 (v := 0) (by decide) rfl ?_
  refine XW.aload_n 35 dX1_become_34 rfl rfl ?_
  refine XW.getf 38 (v := .ref 9) f1_15 dX1_become_35 rfl rfl rfl ?_
  refine XW.alen 39 (v := 60) dX1_become_38 rfl rfl rfl ?_
  refine XW.copy 42 (h' := HP (sA (sI (sI (sI Z 8 0 (Z.1 1 0)) 8 5 (Z.1 1 5)) 8 7 (Z.1 1 7)) 9 (va_cpy (Z.2.1 2) (Z.2.1 9) 0 0 60))) 60 c1_43 wC_n wC_s wC_i dX1_become_39 rfl rfl rfl rfl rfl (by decide) (by decide) (by decide) (by decide) rfl rfl ?_
  refine XW.aload_n 43 dX1_become_42 rfl rfl ?_
  refine XW.getf 46 (v := .ref 3) f1_19 dX1_become_43 rfl rfl rfl ?_
  refine XW.iconst 47 dX1_become_46 (v := 0) (by decide) rfl ?_
  refine XW.aload_n 48 dX1_become_47 rfl rfl ?_
  refine XW.getf 51 (v := .ref 10) f1_19 dX1_become_48 rfl rfl rfl ?_
  refine XW.iconst 52 dX1_become_51 (v := 0) (by decide) rfl ?_
  refine XW.aload_n 53 dX1_become_52 rfl rfl ?_
  refine XW.getf 56 (v := .ref 10) f1_19 dX1_become_53 rfl rfl rfl ?_
  refine XW.alen 57 (v := 3) dX1_become_56 rfl rfl rfl ?_
  refine XW.copy 60 (h' := HP (sA (sA (sI (sI (sI Z 8 0 (Z.1 1 0)) 8 5 (Z.1 1 5)) 8 7 (Z.1 1 7)) 9 (va_cpy (Z.2.1 2) (Z.2.1 9) 0 0 60)) 10 (va_cpy (Z.2.1 3) (Z.2.1 10) 0 0 3))) 3 c1_43 wC_n wC_s wC_i dX1_become_57 rfl rfl rfl rfl rfl (by decide) (by decide) (by decide) (by decide) rfl rfl ?_
  refine XW.aload_n 61 dX1_become_60 rfl rfl ?_
  refine XW.getf 64 (v := .ref 4) f1_28 dX1_become_61 rfl rfl rfl ?_
  refine XW.iconst 65 dX1_become_64 (v := 0) (by decide) rfl ?_
  refine XW.aload_n 66 dX1_become_65 rfl rfl ?_
  refine XW.getf 69 (v := .ref 11) f1_28 dX1_become_66 rfl rfl rfl ?_
  refine XW.iconst 70 dX1_become_69 (v := 0) (by decide) rfl ?_
  refine XW.aload_n 71 dX1_become_70 rfl rfl ?_
  refine XW.getf 74 (v := .ref 11) f1_28 dX1_become_71 rfl rfl rfl ?_
  refine XW.alen 75 (v := 52) dX1_become_74 rfl rfl rfl ?_
  refine XW.copy 78 (h' := HP (sA (sA (sA (sI (sI (sI Z 8 0 (Z.1 1 0)) 8 5 (Z.1 1 5)) 8 7 (Z.1 1 7)) 9 (va_cpy (Z.2.1 2) (Z.2.1 9) 0 0 60)) 10 (va_cpy (Z.2.1 3) (Z.2.1 10) 0 0 3)) 11 (va_cpy (Z.2.1 4) (Z.2.1 11) 0 0 52))) 52 c1_43 wC_n wC_s wC_i dX1_become_75 rfl rfl rfl rfl rfl (by decide) (by decide) (by decide) (by decide) rfl rfl ?_
  refine XW.aload_n 79 dX1_become_78 rfl rfl ?_
  refine XW.getf 82 (v := .ref 5) f1_31 dX1_become_79 rfl rfl rfl ?_
  refine XW.iconst 83 dX1_become_82 (v := 0) (by decide) rfl ?_
  refine XW.aload_n 84 dX1_become_83 rfl rfl ?_
  refine XW.getf 87 (v := .ref 12) f1_31 dX1_become_84 rfl rfl rfl ?_
  refine XW.iconst 88 dX1_become_87 (v := 0) (by decide) rfl ?_
  refine XW.aload_n 89 dX1_become_88 rfl rfl ?_
  refine XW.getf 92 (v := .ref 12) f1_31 dX1_become_89 rfl rfl rfl ?_
  refine XW.alen 93 (v := 3) dX1_become_92 rfl rfl rfl ?_
  refine XW.copy 96 (h' := HP (sA (sA (sA (sA (sI (sI (sI Z 8 0 (Z.1 1 0)) 8 5 (Z.1 1 5)) 8 7 (Z.1 1 7)) 9 (va_cpy (Z.2.1 2) (Z.2.1 9) 0 0 60)) 10 (va_cpy (Z.2.1 3) (Z.2.1 10) 0 0 3)) 11 (va_cpy (Z.2.1 4) (Z.2.1 11) 0 0 52)) 12 (va_cpy (Z.2.1 5) (Z.2.1 12) 0 0 3))) 3 c1_43 wC_n wC_s wC_i dX1_become_93 rfl rfl rfl rfl rfl (by decide) (by decide) (by decide) (by decide) rfl rfl ?_
  refine XW.aload_n 97 dX1_become_96 rfl rfl ?_
  refine XW.getf 100 (v := .ref 6) f1_37 dX1_become_97 rfl rfl rfl ?_
  refine XW.iconst 101 dX1_become_100 (v := 0) (by decide) rfl ?_
  refine XW.aload_n 102 dX1_become_101 rfl rfl ?_
  refine XW.getf 105 (v := .ref 13) f1_37 dX1_become_102 rfl rfl rfl ?_
  refine XW.iconst 106 dX1_become_105 (v := 0) (by decide) rfl ?_
  refine XW.aload_n 107 dX1_become_106 rfl rfl ?_
  refine XW.getf 110 (v := .ref 13) f1_37 dX1_become_107 rfl rfl rfl ?_
  refine XW.alen 111 (v := 8) dX1_become_110 rfl rfl rfl ?_
  refine XW.copy 114 (h' := HP (sA (sA (sA (sA (sA (sI (sI (sI Z 8 0 (Z.1 1 0)) 8 5 (Z.1 1 5)) 8 7 (Z.1 1 7)) 9 (va_cpy (Z.2.1 2) (Z.2.1 9) 0 0 60)) 10 (va_cpy (Z.2.1 3) (Z.2.1 10) 0 0 3)) 11 (va_cpy (Z.2.1 4) (Z.2.1 11) 0 0 52)) 12 (va_cpy (Z.2.1 5) (Z.2.1 12) 0 0 3)) 13 (va_cpy (Z.2.1 6) (Z.2.1 13) 0 0 8))) 8 c1_43 wC_n wC_s wC_i dX1_become_111 rfl rfl rfl rfl rfl (by decide) (by decide) (by decide) (by decide) rfl rfl ?_
  exact XW.vret dX1_become_114 trivial (⟨rfl, rfl⟩)
set_option maxHeartbeats 4000000 in
set_option maxRecDepth 100000 in
theorem c_become_1_8 {Z : xZ} : XC mX1_become 1 0 0 [.ref 1, .ref 8] (HP Z) (fun q h' => q = none ∧ h' = HP (becZ Z 1 8)) := by
  show XW mX1_become 1 0 0 0 [some (.ref 1), some (.ref 8)] [] (HP Z) _
  refine XW.aload_n 1 dX1_become_0 rfl rfl ?_
  refine XW.aload_n 2 dX1_become_1 rfl rfl ?_
  refine XW.getf 5 (v := .int (Z.1 8 0)) f1_9 dX1_become_2 rfl rfl rfl ?_
  refine XW.putf 8 (h' := HP (sI Z 1 0 (Z.1 8 0))) (p1_9 _) dX1_become_5 rfl (Nat.le_of_ble_eq_true rfl) (xfit_i _) rfl rfl ?_
  refine XW.aload_n 9 dX1_become_8 rfl rfl ?_
  refine XW.aload_n 10 dX1_become_9 rfl rfl ?_
  refine XW.getf 13 (v := .int (Z.1 8 5)) f1_34 dX1_become_10 rfl rfl rfl ?_
  refine XW.putf 16 (h' := HP (sI (sI Z 1 0 (Z.1 8 0)) 1 5 (Z.1 8 5))) (p1_34 _) dX1_become_13 rfl (Nat.le_of_ble_eq_true rfl) (xfit_i _) rfl rfl ?_
  refine XW.aload_n 17 dX1_become_16 rfl rfl ?_
  refine XW.aload_n 18 dX1_become_17 rfl rfl ?_
  refine XW.getf 21 (v := .int (Z.1 8 7)) f1_40 dX1_become_18 rfl rfl rfl ?_
  refine XW.putf 24 (h' := HP (sI (sI (sI Z 1 0 (Z.1 8 0)) 1 5 (Z.1 8 5)) 1 7 (Z.1 8 7))) (p1_40 _) dX1_become_21 rfl (Nat.le_of_ble_eq_true rfl) (xfit_i _) rfl rfl ?_
  refine XW.aload_n 25 dX1_become_24 rfl rfl ?_
  refine XW.getf 28 (v := .ref 9) f1_15 dX1_become_25 rfl rfl rfl ?_
  refine XW.iconst 29 dX1_become_28 (v := 0) (by decide) rfl ?_
  refine XW.aload_n 30 dX1_become_29 rfl rfl ?_
  refine XW.getf 33 (v := .ref 2) f1_15 dX1_become_30 rfl rfl rfl ?_
  refine XW.iconst 34 dX1_become_33 (v := 0) (by decide) rfl ?_
  refine XW.aload_n 35 dX1_become_34 rfl rfl ?_
  refine XW.getf 38 (v := .ref 2) f1_15 dX1_become_35 rfl rfl rfl ?_
  refine XW.alen 39 (v := 60) dX1_become_38 rfl rfl rfl ?_
  refine XW.copy 42 (h' := HP (sA (sI (sI (sI Z 1 0 (Z.1 8 0)) 1 5 (Z.1 8 5)) 1 7 (Z.1 8 7)) 2 (va_cpy (Z.2.1 9) (Z.2.1 2) 0 0 60))) 60 c1_43 wC_n wC_s wC_i dX1_become_39 rfl rfl rfl rfl rfl (by decide) (by decide) (by decide) (by decide) rfl rfl ?_
  refine XW.aload_n 43 dX1_become_42 rfl rfl ?_
  refine XW.getf 46 (v := .ref 10) f1_19 dX1_become_43 rfl rfl rfl ?_
  refine XW.iconst 47 dX1_become_46 (v := 0) (by decide) rfl ?_
  refine XW.aload_n 48 dX1_become_47 rfl rfl ?_
  refine XW.getf 51 (v := .ref 3) f1_19 dX1_become_48 rfl rfl rfl ?_
  refine XW.iconst 52 dX1_become_51 (v := 0) (by decide) rfl ?_
  refine XW.aload_n 53 dX1_become_52 rfl rfl ?_
  refine XW.getf 56 (v := .ref 3) f1_19 dX1_become_53 rfl rfl rfl ?_
  refine XW.alen 57 (v := 3) dX1_become_56 rfl rfl rfl ?_
  refine XW.copy 60 (h' := HP (sA (sA (sI (sI (sI Z 1 0 (Z.1 8 0)) 1 5 (Z.1 8 5)) 1 7 (Z.1 8 7)) 2 (va_cpy (Z.2.1 9) (Z.2.1 2) 0 0 60)) 3 (va_cpy (Z.2.1 10) (Z.2.1 3) 0 0 3))) 3 c1_43 wC_n wC_s wC_i dX1_become_57 rfl rfl rfl rfl rfl (by decide) (by decide) (by decide) (by decide) rfl rfl ?_
  refine XW.aload_n 61 dX1_become_60 rfl rfl ?_
  refine XW.getf 64 (v := .ref 11) f1_28 dX1_become_61 rfl rfl rfl ?_
  refine XW.iconst 65 dX1_become_64 (v := 0) (by decide) rfl ?_
  refine XW.aload_n 66 dX1_become_65 rfl rfl ?_
  refine XW.getf 69 (v := .ref 4) f1_28 dX1_become_66 rfl rfl rfl ?_
  refine XW.iconst 70 dX1_become_69 (v := 0) (by decide) rfl ?_
  refine XW.aload_n 71 dX1_become_70 rfl rfl ?_
  refine XW.getf 74 (v := .ref 4) f1_28 dX1_become_71 rfl rfl rfl ?_
  refine XW.alen 75 (v := 52) dX1_become_74 rfl rfl rfl ?_
  refine XW.copy 78 (h' := HP (sA (sA (sA (sI (sI (sI Z 1 0 (Z.1 8 0)) 1 5 (Z.1 8 5)) 1 7 (Z.1 8 7)) 2 (va_cpy (Z.2.1 9) (Z.2.1 2) 0 0 60)) 3 (va_cpy (Z.2.1 10) (Z.2.1 3) 0 0 3)) 4 (va_cpy (Z.2.1 11) (Z.2.1 4) 0 0 52))) 52 c1_43 wC_n wC_s wC_i dX1_become_75 rfl rfl rfl rfl rfl (by decide) (by decide) (by decide) (by decide) rfl rfl ?_
  refine XW.aload_n 79 dX1_become_78 rfl rfl ?_
  refine XW.getf 82 (v := .ref 12) f1_31 dX1_become_79 rfl rfl rfl ?_
  refine XW.iconst 83 dX1_become_82 (v := 0) (by decide) rfl ?_
  refine XW.aload_n 84 dX1_become_83 rfl rfl ?_
  refine XW.getf 87 (v := .ref 5) f1_31 dX1_become_84 rfl rfl rfl ?_
  refine XW.iconst 88 dX1_become_87 (v := 0) (by decide) rfl ?_
  refine XW.aload_n 89 dX1_become_88 rfl rfl ?_
  refine XW.getf 92 (v := .ref 5) f1_31 dX1_become_89 rfl rfl rfl ?_
  refine XW.alen 93 (v := 3) dX1_become_92 rfl rfl rfl ?_
  refine XW.copy 96 (h' := HP (sA (sA (sA (sA (sI (sI (sI Z 1 0 (Z.1 8 0)) 1 5 (Z.1 8 5)) 1 7 (Z.1 8 7)) 2 (va_cpy (Z.2.1 9) (Z.2.1 2) 0 0 60)) 3 (va_cpy (Z.2.1 10) (Z.2.1 3) 0 0 3)) 4 (va_cpy (Z.2.1 11) (Z.2.1 4) 0 0 52)) 5 (va_cpy (Z.2.1 12) (Z.2.1 5) 0 0 3))) 3 c1_43 wC_n wC_s wC_i dX1_become_93 rfl rfl rfl rfl rfl (by decide) (by decide) (by decide) (by decide) rfl rfl ?_
  refine XW.aload_n 97 dX1_become_96 rfl rfl ?_
  refine XW.getf 100 (v := .ref 13) f1_37 dX1_become_97 rfl rfl rfl ?_
  refine XW.iconst 101 dX1_become_100 (v := 0) (by decide) rfl ?_
  refine XW.aload_n 102 dX1_become_101 rfl rfl ?_
  refine XW.getf 105 (v := .ref 6) f1_37 dX1_become_102 rfl rfl rfl ?_
  refine XW.iconst 106 dX1_become_105 (v := 0) (by decide) rfl ?_
  refine XW.aload_n 107 dX1_become_106 rfl rfl ?_
  refine XW.getf 110 (v := .ref 6) f1_37 dX1_become_107 rfl rfl rfl ?_
  refine XW.alen 111 (v := 8) dX1_become_110 rfl rfl rfl ?_
  refine XW.copy 114 (h' := HP (sA (sA (sA (sA (sA (sI (sI (sI Z 1 0 (Z.1 8 0)) 1 5 (Z.1 8 5)) 1 7 (Z.1 8 7)) 2 (va_cpy (Z.2.1 9) (Z.2.1 2) 0 0 60)) 3 (va_cpy (Z.2.1 10) (Z.2.1 3) 0 0 3)) 4 (va_cpy (Z.2.1 11) (Z.2.1 4) 0 0 52)) 5 (va_cpy (Z.2.1 12) (Z.2.1 5) 0 0 3)) 6 (va_cpy (Z.2.1 13) (Z.2.1 6) 0 0 8))) 8 c1_43 wC_n wC_s wC_i dX1_become_111 rfl rfl rfl rfl rfl (by decide) (by decide) (by decide) (by decide) rfl rfl ?_
  exact XW.vret dX1_become_114 trivial (⟨rfl, rfl⟩)
set_option maxHeartbeats 4000000 in
set_option maxRecDepth 100000 in
theorem c_become_14_1 {Z : xZ} : XC mX1_become 1 0 0 [.ref 14, .ref 1] (HP Z) (fun q h' => q = none ∧ h' = HP (becZ Z 14 1)) := by
  show XW mX1_become 1 0 0 0 [some (.ref 14), some (.ref 1)] [] (HP Z) _
  refine XW.aload_n 1 dX1_become_0 rfl rfl ?_
  refine XW.aload_n 2 dX1_become_1 rfl rfl ?_
  refine XW.getf 5 (v := .int (Z.1 1 0)) f1_9 dX1_become_2 rfl rfl rfl ?_
  refine XW.putf 8 (h' := HP (sI Z 14 0 (Z.1 1 0))) (p1_9 _) dX1_become_5 rfl (Nat.le_of_ble_eq_true rfl) (xfit_i _) rfl rfl ?_
  refine XW.aload_n 9 dX1_become_8 rfl rfl ?_
  refine XW.aload_n 10 dX1_become_9 rfl rfl ?_
  refine XW.getf 13 (v := .int (Z.1 1 5)) f1_34 dX1_become_10 rfl rfl rfl ?_
  refine XW.putf 16 (h' := HP (sI (sI Z 14 0 (Z.1 1 0)) 14 5 (Z.1 1 5))) (p1_34 _) dX1_become_13 rfl (Nat.le_of_ble_eq_true rfl) (xfit_i _) rfl rfl ?_
  refine XW.aload_n 17 dX1_become_16 rfl rfl ?_
  refine XW.aload_n 18 dX1_become_17 rfl rfl ?_
  refine XW.getf 21 (v := .int (Z.1 1 7)) f1_40 dX1_become_18 rfl rfl rfl ?_
  refine XW.putf 24 (h' := HP (sI (sI (sI Z 14 0 (Z.1 1 0)) 14 5 (Z.1 1 5)) 14 7 (Z.1 1 7))) (p1_40 _) dX1_become_21 rfl (Nat.le_of_ble_eq_true rfl) (xfit_i _) rfl rfl ?_
  refine XW.aload_n 25 dX1_become_24 rfl rfl ?_
  refine XW.getf 28 (v := .ref 2) f1_15 dX1_become_25 rfl rfl rfl ?_
  refine XW.iconst 29 dX1_become_28 (v := 0) (by decide) rfl ?_
  refine XW.aload_n 30 dX1_become_29 rfl rfl ?_
  refine XW.getf 33 (v := .ref 15) f1_15 dX1_become_30 rfl rfl rfl ?_
  refine XW.iconst 34 dX1_become_33 (v := 0) (by decide) rfl ?_
  refine XW.aload_n 35 dX1_become_34 rfl rfl ?_
  refine XW.getf 38 (v := .ref 15) f1_15 dX1_become_35 rfl rfl rfl ?_
  refine XW.alen 39 (v := 60) dX1_become_38 rfl rfl rfl ?_
  refine XW.copy 42 (h' := HP (sA (sI (sI (sI Z 14 0 (Z.1 1 0)) 14 5 (Z.1 1 5)) 14 7 (Z.1 1 7)) 15 (va_cpy (Z.2.1 2) (Z.2.1 15) 0 0 60))) 60 c1_43 wC_n wC_s wC_i dX1_become_39 rfl rfl rfl rfl rfl (by decide) (by decide) (by decide) (by decide) rfl rfl ?_
  refine XW.aload_n 43 dX1_become_42 rfl rfl ?_
  refine XW.getf 46 (v := .ref 3) f1_19 dX1_become_43 rfl rfl rfl ?_
  refine XW.iconst 47 dX1_become_46 (v := 0) (by decide) rfl ?_
  refine XW.aload_n 48 dX1_become_47 rfl rfl ?_
  refine XW.getf 51 (v := .ref 16) f1_19 dX1_become_48 rfl rfl rfl ?_
  refine XW.iconst 52 dX1_become_51 (v := 0) (by decide) rfl ?_
  refine XW.aload_n 53 dX1_become_52 rfl rfl ?_
  refine XW.getf 56 (v := .ref 16) f1_19 dX1_become_53 rfl rfl rfl ?_
  refine XW.alen 57 (v := 3) dX1_become_56 rfl rfl rfl ?_
  refine XW.copy 60 (h' := HP (sA (sA (sI (sI (sI Z 14 0 (Z.1 1 0)) 14 5 (Z.1 1 5)) 14 7 (Z.1 1 7)) 15 (va_cpy (Z.2.1 2) (Z.2.1 15) 0 0 60)) 16 (va_cpy (Z.2.1 3) (Z.2.1 16) 0 0 3))) 3 c1_43 wC_n wC_s wC_i dX1_become_57 rfl rfl rfl rfl rfl (by decide) (by decide) (by decide) (by decide) rfl rfl ?_
  refine XW.aload_n 61 dX1_become_60 rfl rfl ?_
  refine XW.getf 64 (v := .ref 4) f1_28 dX1_become_61 rfl rfl rfl ?_
  refine XW.iconst 65 dX1_become_64 (v := 0) (by decide) rfl ?_
  refine XW.aload_n 66 dX1_become_65 rfl rfl ?_
  refine XW.getf 69 (v := .ref 17) f1_28 dX1_become_66 rfl rfl rfl ?_
  refine XW.iconst 70 dX1_become_69 (v := 0) (by decide) rfl ?_
  refine XW.aload_n 71 dX1_become_70 rfl rfl ?_
  refine XW.getf 74 (v := .ref 17) f1_28 dX1_become_71 rfl rfl rfl ?_
  refine XW.alen 75 (v := 52) dX1_become_74 rfl rfl rfl ?_
  refine XW.copy 78 (h' := HP (sA (sA (sA (sI (sI (sI Z 14 0 (Z.1 1 0)) 14 5 (Z.1 1 5)) 14 7 (Z.1 1 7)) 15 (va_cpy (Z.2.1 2) (Z.2.1 15) 0 0 60)) 16 (va_cpy (Z.2.1 3) (Z.2.1 16) 0 0 3)) 17 (va_cpy (Z.2.1 4) (Z.2.1 17) 0 0 52))) 52 c1_43 wC_n wC_s wC_i dX1_become_75 rfl rfl rfl rfl rfl (by decide) (by decide) (by decide) (by decide) rfl rfl ?_
  refine XW.aload_n 79 dX1_become_78 rfl rfl ?_
  refine XW.getf 82 (v := .ref 5) f1_31 dX1_become_79 rfl rfl rfl ?_
  refine XW.iconst 83 dX1_become_82 (v := 0) (by decide) rfl ?_
  refine XW.aload_n 84 dX1_become_83 rfl rfl ?_
  refine XW.getf 87 (v := .ref 18) f1_31 dX1_become_84 rfl rfl rfl ?_
  refine XW.iconst 88 dX1_become_87 (v := 0) (by decide) rfl ?_
  refine XW.aload_n 89 dX1_become_88 rfl rfl ?_
  refine XW.getf 92 (v := .ref 18) f1_31 dX1_become_89 rfl rfl rfl ?_
  refine XW.alen 93 (v := 3) dX1_become_92 rfl rfl rfl ?_
  refine XW.copy 96 (h' := HP (sA (sA (sA (sA (sI (sI (sI Z 14 0 (Z.1 1 0)) 14 5 (Z.1 1 5)) 14 7 (Z.1 1 7)) 15 (va_cpy (Z.2.1 2) (Z.2.1 15) 0 0 60)) 16 (va_cpy (Z.2.1 3) (Z.2.1 16) 0 0 3)) 17 (va_cpy (Z.2.1 4) (Z.2.1 17) 0 0 52)) 18 (va_cpy (Z.2.1 5) (Z.2.1 18) 0 0 3))) 3 c1_43 wC_n wC_s wC_i dX1_become_93 rfl rfl rfl rfl rfl (by decide) (by decide) (by decide) (by decide) rfl rfl ?_
  refine XW.aload_n 97 dX1_become_96 rfl rfl ?_
  refine XW.getf 100 (v := .ref 6) f1_37 dX1_become_97 rfl rfl rfl ?_
  refine XW.iconst 101 dX1_become_100 (v := 0) (by decide) rfl ?_
  refine XW.aload_n 102 dX1_become_101 rfl rfl ?_
  refine XW.getf 105 (v := .ref 19) f1_37 dX1_become_102 rfl rfl rfl ?_
  refine XW.iconst 106 dX1_become_105 (v := 0) (by decide) rfl ?_
  refine XW.aload_n 107 dX1_become_106 rfl rfl ?_
  refine XW.getf 110 (v := .ref 19) f1_37 dX1_become_107 rfl rfl rfl ?_
  refine XW.alen 111 (v := 8) dX1_become_110 rfl rfl rfl ?_
  refine XW.copy 114 (h' := HP (sA (sA (sA (sA (sA (sI (sI (sI Z 14 0 (Z.1 1 0)) 14 5 (Z.1 1 5)) 14 7 (Z.1 1 7)) 15 (va_cpy (Z.2.1 2) (Z.2.1 15) 0 0 60)) 16 (va_cpy (Z.2.1 3) (Z.2.1 16) 0 0 3)) 17 (va_cpy (Z.2.1 4) (Z.2.1 17) 0 0 52)) 18 (va_cpy (Z.2.1 5) (Z.2.1 18) 0 0 3)) 19 (va_cpy (Z.2.1 6) (Z.2.1 19) 0 0 8))) 8 c1_43 wC_n wC_s wC_i dX1_become_111 rfl rfl rfl rfl rfl (by decide) (by decide) (by decide) (by decide) rfl rfl ?_
  exact XW.vret dX1_become_114 trivial (⟨rfl, rfl⟩)
set_option maxHeartbeats 4000000 in
set_option maxRecDepth 100000 in
theorem c_become_1_14 {Z : xZ} : XC mX1_become 1 0 0 [.ref 1, .ref 14] (HP Z) (fun q h' => q = none ∧ h' = HP (becZ Z 1 14)) := by
  show XW mX1_become 1 0 0 0 [some (.ref 1), some (.ref 14)] [] (HP Z) _
  refine XW.aload_n 1 dX1_become_0 rfl rfl ?_
  refine XW.aload_n 2 dX1_become_1 rfl rfl ?_
  refine XW.getf 5 (v := .int (Z.1 14 0)) f1_9 dX1_become_2 rfl rfl rfl ?_
  refine XW.putf 8 (h' := HP (sI Z 1 0 (Z.1 14 0))) (p1_9 _) dX1_become_5 rfl (Nat.le_of_ble_eq_true rfl) (xfit_i _) rfl rfl ?_
  refine XW.aload_n 9 dX1_become_8 rfl rfl ?_
  refine XW.aload_n 10 dX1_become_9 rfl rfl ?_
  refine XW.getf 13 (v := .int (Z.1 14 5)) f1_34 dX1_become_10 rfl rfl rfl ?_
  refine XW.putf 16 (h' := HP (sI (sI Z 1 0 (Z.1 14 0)) 1 5 (Z.1 14 5))) (p1_34 _) dX1_become_13 rfl (Nat.le_of_ble_eq_true rfl) (xfit_i _) rfl rfl ?_
  refine XW.aload_n 17 dX1_become_16 rfl rfl ?_
  refine XW.aload_n 18 dX1_become_17 rfl rfl ?_
  refine XW.getf 21 (v := .int (Z.1 14 7)) f1_40 dX1_become_18 rfl rfl rfl ?_
  refine XW.putf 24 (h' := HP (sI (sI (sI Z 1 0 (Z.1 14 0)) 1 5 (Z.1 14 5)) 1 7 (Z.1 14 7))) (p1_40 _) dX1_become_21 rfl (Nat.le_of_ble_eq_true rfl) (xfit_i _) rfl rfl ?_
  refine XW.aload_n 25 dX1_become_24 rfl rfl ?_
  refine XW.getf 28 (v := .ref 15) f1_15 dX1_become_25 rfl rfl rfl ?_
  refine XW.iconst 29 dX1_become_28 (v := 0) (by decide) rfl ?_
  refine XW.aload_n 30 dX1_become_29 rfl rfl ?_
  refine XW.getf 33 (v := .ref 2) f1_15 dX1_become_30 rfl rfl rfl ?_
  refine XW.iconst 34 dX1_become_33 (v := 0) (by decide) rfl ?_
  refine XW.aload_n 35 dX1_become_34 rfl rfl ?_
  refine XW.getf 38 (v := .ref 2) f1_15 dX1_become_35 rfl rfl rfl ?_
  refine XW.alen 39 (v := 60) dX1_become_38 rfl rfl rfl ?_
  refine XW.copy 42 (h' := HP (sA (sI (sI (sI Z 1 0 (Z.1 14 0)) 1 5 (Z.1 14 5)) 1 7 (Z.1 14 7)) 2 (va_cpy (Z.2.1 15) (Z.2.1 2) 0 0 60))) 60 c1_43 wC_n wC_s wC_i dX1_become_39 rfl rfl rfl rfl rfl (by decide) (by decide) (by decide) (by decide) rfl rfl ?_
  refine XW.aload_n 43 dX1_become_42 rfl rfl ?_
  refine XW.getf 46 (v := .ref 16) f1_19 dX1_become_43 rfl rfl rfl ?_
  refine XW.iconst 47 dX1_become_46 (v := 0) (by decide) rfl ?_
  refine XW.aload_n 48 dX1_become_47 rfl rfl ?_
  refine XW.getf 51 (v := .ref 3) f1_19 dX1_become_48 rfl rfl rfl ?_
  refine XW.iconst 52 dX1_become_51 (v := 0) (by decide) rfl ?_
  refine XW.aload_n 53 dX1_become_52 rfl rfl ?_
  refine XW.getf 56 (v := .ref 3) f1_19 dX1_become_53 rfl rfl rfl ?_
  refine XW.alen 57 (v := 3) dX1_become_56 rfl rfl rfl ?_
  refine XW.copy 60 (h' := HP (sA (sA (sI (sI (sI Z 1 0 (Z.1 14 0)) 1 5 (Z.1 14 5)) 1 7 (Z.1 14 7)) 2 (va_cpy (Z.2.1 15) (Z.2.1 2) 0 0 60)) 3 (va_cpy (Z.2.1 16) (Z.2.1 3) 0 0 3))) 3 c1_43 wC_n wC_s wC_i dX1_become_57 rfl rfl rfl rfl rfl (by decide) (by decide) (by decide) (by decide) rfl rfl ?_
  refine XW.aload_n 61 dX1_become_60 rfl rfl ?_
  refine XW.getf 64 (v := .ref 17) f1_28 dX1_become_61 rfl rfl rfl ?_
  refine XW.iconst 65 dX1_become_64 (v := 0) (by decide) rfl ?_
  refine XW.aload_n 66 dX1_become_65 rfl rfl ?_
  refine XW.getf 69 (v := .ref 4) f1_28 dX1_become_66 rfl rfl rfl ?_
  refine XW.iconst 70 dX1_become_69 (v := 0) (by decide) rfl ?_
  refine XW.aload_n 71 dX1_become_70 rfl rfl ?_
  refine XW.getf 74 (v := .ref 4) f1_28 dX1_become_71 rfl rfl rfl ?_
  refine XW.alen 75 (v := 52) dX1_become_74 rfl rfl rfl ?_
  refine XW.copy 78 (h' := HP (sA (sA (sA (sI (sI (sI Z 1 0 (Z.1 14 0)) 1 5 (Z.1 14 5)) 1 7 (Z.1 14 7)) 2 (va_cpy (Z.2.1 15) (Z.2.1 2) 0 0 60)) 3 (va_cpy (Z.2.1 16) (Z.2.1 3) 0 0 3)) 4 (va_cpy (Z.2.1 17) (Z.2.1 4) 0 0 52))) 52 c1_43 wC_n wC_s wC_i dX1_become_75 rfl rfl rfl rfl rfl (by decide) (by decide) (by decide) (by decide) rfl rfl ?_
  refine XW.aload_n 79 dX1_become_78 rfl rfl ?_
  refine XW.getf 82 (v := .ref 18) f1_31 dX1_become_79 rfl rfl rfl ?_
  refine XW.iconst 83 dX1_become_82 (v := 0) (by decide) rfl ?_
  refine XW.aload_n 84 dX1_become_83 rfl rfl ?_
  refine XW.getf 87 (v := .ref 5) f1_31 dX1_become_84 rfl rfl rfl ?_
  refine XW.iconst 88 dX1_become_87 (v := 0) (by decide) rfl ?_
  refine XW.aload_n 89 dX1_become_88 rfl rfl ?_
  refine XW.getf 92 (v := .ref 5) f1_31 dX1_become_89 rfl rfl rfl ?_
  refine XW.alen 93 (v := 3) dX1_become_92 rfl rfl rfl ?_
  refine XW.copy 96 (h' := HP (sA (sA (sA (sA (sI (sI (sI Z 1 0 (Z.1 14 0)) 1 5 (Z.1 14 5)) 1 7 (Z.1 14 7)) 2 (va_cpy (Z.2.1 15) (Z.2.1 2) 0 0 60)) 3 (va_cpy (Z.2.1 16) (Z.2.1 3) 0 0 3)) 4 (va_cpy (Z.2.1 17) (Z.2.1 4) 0 0 52)) 5 (va_cpy (Z.2.1 18) (Z.2.1 5) 0 0 3))) 3 c1_43 wC_n wC_s wC_i dX1_become_93 rfl rfl rfl rfl rfl (by decide) (by decide) (by decide) (by decide) rfl rfl ?_
  refine XW.aload_n 97 dX1_become_96 rfl rfl ?_
  refine XW.getf 100 (v := .ref 19) f1_37 dX1_become_97 rfl rfl rfl ?_
  refine XW.iconst 101 dX1_become_100 (v := 0) (by decide) rfl ?_
  refine XW.aload_n 102 dX1_become_101 rfl rfl ?_
  refine XW.getf 105 (v := .ref 6) f1_37 dX1_become_102 rfl rfl rfl ?_
  refine XW.iconst 106 dX1_become_105 (v := 0) (by decide) rfl ?_
  refine XW.aload_n 107 dX1_become_106 rfl rfl ?_
  refine XW.getf 110 (v := .ref 6) f1_37 dX1_become_107 rfl rfl rfl ?_
  refine XW.alen 111 (v := 8) dX1_become_110 rfl rfl rfl ?_
  refine XW.copy 114 (h' := HP (sA (sA (sA (sA (sA (sI (sI (sI Z 1 0 (Z.1 14 0)) 1 5 (Z.1 14 5)) 1 7 (Z.1 14 7)) 2 (va_cpy (Z.2.1 15) (Z.2.1 2) 0 0 60)) 3 (va_cpy (Z.2.1 16) (Z.2.1 3) 0 0 3)) 4 (va_cpy (Z.2.1 17) (Z.2.1 4) 0 0 52)) 5 (va_cpy (Z.2.1 18) (Z.2.1 5) 0 0 3)) 6 (va_cpy (Z.2.1 19) (Z.2.1 6) 0 0 8))) 8 c1_43 wC_n wC_s wC_i dX1_become_111 rfl rfl rfl rfl rfl (by decide) (by decide) (by decide) (by decide) rfl rfl ?_
  exact XW.vret dX1_become_114 trivial (⟨rfl, rfl⟩)
set_option maxHeartbeats 4000000 in
set_option maxRecDepth 100000 in
theorem c_become_20_1 {Z : xZ} : XC mX1_become 1 0 0 [.ref 20, .ref 1] (HP Z) (fun q h' => q = none ∧ h' = HP (becZ Z 20 1)) := by
  show XW mX1_become 1 0 0 0 [some (.ref 20), some (.ref 1)] [] (HP Z) _
  refine XW.aload_n 1 dX1_become_0 rfl rfl ?_
  refine XW.aload_n 2 dX1_become_1 rfl rfl ?_
  refine XW.getf 5 (v := .int (Z.1 1 0)) f1_9 dX1_become_2 rfl rfl rfl ?_
  refine XW.putf 8 (h' := HP (sI Z 20 0 (Z.1 1 0))) (p1_9 _) dX1_become_5 rfl (Nat.le_of_ble_eq_true rfl) (xfit_i _) rfl rfl ?_
  refine XW.aload_n 9 dX1_become_8 rfl rfl ?_
  refine XW.aload_n 10 dX1_become_9 rfl rfl ?_
  refine XW.getf 13 (v := .int (Z.1 1 5)) f1_34 dX1_become_10 rfl rfl rfl ?_
  refine XW.putf 16 (h' := HP (sI (sI Z 20 0 (Z.1 1 0)) 20 5 (Z.1 1 5))) (p1_34 _) dX1_become_13 rfl (Nat.le_of_ble_eq_true rfl) (xfit_i _) rfl rfl ?_
  refine XW.aload_n 17 dX1_become_16 rfl rfl ?_
  refine XW.aload_n 18 dX1_become_17 rfl rfl ?_
  refine XW.getf 21 (v := .int (Z.1 1 7)) f1_40 dX1_become_18 rfl rfl rfl ?_
  refine XW.putf 24 (h' := HP (sI (sI (sI Z 20 0 (Z.1 1 0)) 20 5 (Z.1 1 5)) 20 7 (Z.1 1 7))) (p1_40 _) dX1_become_21 rfl (Nat.le_of_ble_eq_true rfl) (xfit_i _) rfl rfl ?_
  refine XW.aload_n 25 dX1_become_24 rfl rfl ?_
  refine XW.getf 28 (v := .ref 2) f1_15 dX1_become_25 rfl rfl rfl ?_
  refine XW.iconst 29 dX1_become_28 (v := 0) (by decide) rfl ?_
  refine XW.aload_n 30 dX1_become_29 rfl rfl ?_
  refine XW.getf 33 (v := .ref 21) f1_15 dX1_become_30 rfl rfl rfl ?_
  refine XW.iconst 34 dX1_become_33 (v := 0) (by decide) rfl ?_
  refine XW.aload_n 35 dX1_become_34 rfl rfl ?_
  refine XW.getf 38 (v := .ref 21) f1_15 dX1_become_35 rfl rfl rfl ?_
  refine XW.alen 39 (v := 60) dX1_become_38 rfl rfl rfl ?_
  refine XW.copy 42 (h' := HP (sA (sI (sI (sI Z 20 0 (Z.1 1 0)) 20 5 (Z.1 1 5)) 20 7 (Z.1 1 7)) 21 (va_cpy (Z.2.1 2) (Z.2.1 21) 0 0 60))) 60 c1_43 wC_n wC_s wC_i dX1_become_39 rfl rfl rfl rfl rfl (by decide) (by decide) (by decide) (by decide) rfl rfl ?_
  refine XW.aload_n 43 dX1_become_42 rfl rfl ?_
  refine XW.getf 46 (v := .ref 3) f1_19 dX1_become_43 rfl rfl rfl ?_
  refine XW.iconst 47 dX1_become_46 (v := 0) (by decide) rfl ?_
  refine XW.aload_n 48 dX1_become_47 rfl rfl ?_
  refine XW.getf 51 (v := .ref 22) f1_19 dX1_become_48 rfl rfl rfl ?_
  refine XW.iconst 52 dX1_become_51 (v := 0) (by decide) rfl ?_
  refine XW.aload_n 53 dX1_become_52 rfl rfl ?_
  refine XW.getf 56 (v := .ref 22) f1_19 dX1_become_53 rfl rfl rfl ?_
  refine XW.alen 57 (v := 3) dX1_become_56 rfl rfl rfl ?_
  refine XW.copy 60 (h' := HP (sA (sA (sI (sI (sI Z 20 0 (Z.1 1 0)) 20 5 (Z.1 1 5)) 20 7 (Z.1 1 7)) 21 (va_cpy (Z.2.1 2) (Z.2.1 21) 0 0 60)) 22 (va_cpy (Z.2.1 3) (Z.2.1 22) 0 0 3))) 3 c1_43 wC_n wC_s wC_i dX1_become_57 rfl rfl rfl rfl rfl (by decide) (by decide) (by decide) (by decide) rfl rfl ?_
  refine XW.aload_n 61 dX1_become_60 rfl rfl ?_
  refine XW.getf 64 (v := .ref 4) f1_28 dX1_become_61 rfl rfl rfl ?_
  refine XW.iconst 65 dX1_become_64 (v := 0) (by decide) rfl ?_
  refine XW.aload_n 66 dX1_become_65 rfl rfl ?_
  refine XW.getf 69 (v := .ref 23) f1_28 dX1_become_66 rfl rfl rfl ?_
  refine XW.iconst 70 dX1_become_69 (v := 0) (by decide) rfl ?_
  refine XW.aload_n 71 dX1_become_70 rfl rfl ?_
  refine XW.getf 74 (v := .ref 23) f1_28 dX1_become_71 rfl rfl rfl ?_
  refine XW.alen 75 (v := 52) dX1_become_74 rfl rfl rfl ?_
  refine XW.copy 78 (h' := HP (sA (sA (sA (sI (sI (sI Z 20 0 (Z.1 1 0)) 20 5 (Z.1 1 5)) 20 7 (Z.1 1 7)) 21 (va_cpy (Z.2.1 2) (Z.2.1 21) 0 0 60)) 22 (va_cpy (Z.2.1 3) (Z.2.1 22) 0 0 3)) 23 (va_cpy (Z.2.1 4) (Z.2.1 23) 0 0 52))) 52 c1_43 wC_n wC_s wC_i dX1_become_75 rfl rfl rfl rfl rfl (by decide) (by decide) (by decide) (by decide) rfl rfl ?_
  refine XW.aload_n 79 dX1_become_78 rfl rfl ?_
  refine XW.getf 82 (v := .ref 5) f1_31 dX1_become_79 rfl rfl rfl ?_
  refine XW.iconst 83 dX1_become_82 (v := 0) (by decide) rfl ?_
  refine XW.aload_n 84 dX1_become_83 rfl rfl ?_
  refine XW.getf 87 (v := .ref 24) f1_31 dX1_become_84 rfl rfl rfl ?_
  refine XW.iconst 88 dX1_become_87 (v := 0) (by decide) rfl ?_
  refine XW.aload_n 89 dX1_become_88 rfl rfl ?_
  refine XW.getf 92 (v := .ref 24) f1_31 dX1_become_89 rfl rfl rfl ?_
  refine XW.alen 93 (v := 3) dX1_become_92 rfl rfl rfl ?_
  refine XW.copy 96 (h' := HP (sA (sA (sA (sA (sI (sI (sI Z 20 0 (Z.1 1 0)) 20 5 (Z.1 1 5)) 20 7 (Z.1 1 7)) 21 (va_cpy (Z.2.1 2) (Z.2.1 21) 0 0 60)) 22 (va_cpy (Z.2.1 3) (Z.2.1 22) 0 0 3)) 23 (va_cpy (Z.2.1 4) (Z.2.1 23) 0 0 52)) 24 (va_cpy (Z.2.1 5) (Z.2.1 24) 0 0 3))) 3 c1_43 wC_n wC_s wC_i dX1_become_93 rfl rfl rfl rfl rfl (by decide) (by decide) (by decide) (by decide) rfl rfl ?_
  refine XW.aload_n 97 dX1_become_96 rfl rfl ?_
  refine XW.getf 100 (v := .ref 6) f1_37 dX1_become_97 rfl rfl rfl ?_
  refine XW.iconst 101 dX1_become_100 (v := 0) (by decide) rfl ?_
  refine XW.aload_n 102 dX1_become_101 rfl rfl ?_
  refine XW.getf 105 (v := .ref 25) f1_37 dX1_become_102 rfl rfl rfl ?_
  refine XW.iconst 106 dX1_become_105 (v := 0) (by decide) rfl ?_
  refine XW.aload_n 107 dX1_become_106 rfl rfl ?_
  refine XW.getf 110 (v := .ref 25) f1_37 dX1_become_107 rfl rfl rfl ?_
  refine XW.alen 111 (v := 8) dX1_become_110 rfl rfl rfl ?_
  refine XW.copy 114 (h' := HP (sA (sA (sA (sA (sA (sI (sI (sI Z 20 0 (Z.1 1 0)) 20 5 (Z.1 1 5)) 20 7 (Z.1 1 7)) 21 (va_cpy (Z.2.1 2) (Z.2.1 21) 0 0 60)) 22 (va_cpy (Z.2.1 3) (Z.2.1 22) 0 0 3)) 23 (va_cpy (Z.2.1 4) (Z.2.1 23) 0 0 52)) 24 (va_cpy (Z.2.1 5) (Z.2.1 24) 0 0 3)) 25 (va_cpy (Z.2.1 6) (Z.2.1 25) 0 0 8))) 8 c1_43 wC_n wC_s wC_i dX1_become_111 rfl rfl rfl rfl rfl (by decide) (by decide) (by decide) (by decide) rfl rfl ?_
  exact XW.vret dX1_become_114 trivial (⟨rfl, rfl⟩)
set_option maxHeartbeats 4000000 in
set_option maxRecDepth 100000 in
theorem c_become_1_20 {Z : xZ} : XC mX1_become 1 0 0 [.ref 1, .ref 20] (HP Z) (fun q h' => q = none ∧ h' = HP (becZ Z 1 20)) := by
  show XW mX1_become 1 0 0 0 [some (.ref 1), some (.ref 20)] [] (HP Z) _
  refine XW.aload_n 1 dX1_become_0 rfl rfl ?_
  refine XW.aload_n 2 dX1_become_1 rfl rfl ?_
  refine XW.getf 5 (v := .int (Z.1 20 0)) f1_9 dX1_become_2 rfl rfl rfl ?_
  refine XW.putf 8 (h' := HP (sI Z 1 0 (Z.1 20 0))) (p1_9 _) dX1_become_5 rfl (Nat.le_of_ble_eq_true rfl) (xfit_i _) rfl rfl ?_
  refine XW.aload_n 9 dX1_become_8 rfl rfl ?_
  refine XW.aload_n 10 dX1_become_9 rfl rfl ?_
  refine XW.getf 13 (v := .int (Z.1 20 5)) f1_34 dX1_become_10 rfl rfl rfl ?_
  refine XW.putf 16 (h' := HP (sI (sI Z 1 0 (Z.1 20 0)) 1 5 (Z.1 20 5))) (p1_34 _) dX1_become_13 rfl (Nat.le_of_ble_eq_true rfl) (xfit_i _) rfl rfl ?_
  refine XW.aload_n 17 dX1_become_16 rfl rfl ?_
  refine XW.aload_n 18 dX1_become_17 rfl rfl ?_
  refine XW.getf 21 (v := .int (Z.1 20 7)) f1_40 dX1_become_18 rfl rfl rfl ?_
  refine XW.putf 24 (h' := HP (sI (sI (sI Z 1 0 (Z.1 20 0)) 1 5 (Z.1 20 5)) 1 7 (Z.1 20 7))) (p1_40 _) dX1_become_21 rfl (Nat.le_of_ble_eq_true rfl) (xfit_i _) rfl rfl ?_
  refine XW.aload_n 25 dX1_become_24 rfl rfl ?_
  refine XW.getf 28 (v := .ref 21) f1_15 dX1_become_25 rfl rfl rfl ?_
  refine XW.iconst 29 dX1_become_28 (v := 0) (by decide) rfl ?_
  refine XW.aload_n 30 dX1_become_29 rfl rfl ?_
  refine XW.getf 33 (v := .ref 2) f1_15 dX1_become_30 rfl rfl rfl ?_
  refine XW.iconst 34 dX1_become_33 (v := 0) (by decide) rfl ?_
  refine XW.aload_n 35 dX1_become_34 rfl rfl ?_
  refine XW.getf 38 (v := .ref 2) f1_15 dX1_become_35 rfl rfl rfl ?_
  refine XW.alen 39 (v := 60) dX1_become_38 rfl rfl rfl ?_
  refine XW.copy 42 (h' := HP (sA (sI (sI (sI Z 1 0 (Z.1 20 0)) 1 5 (Z.1 20 5)) 1 7 (Z.1 20 7)) 2 (va_cpy (Z.2.1 21) (Z.2.1 2) 0 0 60))) 60 c1_43 wC_n wC_s wC_i dX1_become_39 rfl rfl rfl rfl rfl (by decide) (by decide) (by decide) (by decide) rfl rfl ?_
  refine XW.aload_n 43 dX1_become_42 rfl rfl ?_
  refine XW.getf 46 (v := .ref 22) f1_19 dX1_become_43 rfl rfl rfl ?_
  refine XW.iconst 47 dX1_become_46 (v := 0) (by decide) rfl ?_
  refine XW.aload_n 48 dX1_become_47 rfl rfl ?_
  refine XW.getf 51 (v := .ref 3) f1_19 dX1_become_48 rfl rfl rfl ?_
  refine XW.iconst 52 dX1_become_51 (v := 0) (by decide) rfl ?_
  refine XW.aload_n 53 dX1_become_52 rfl rfl ?_
  refine XW.getf 56 (v := .ref 3) f1_19 dX1_become_53 rfl rfl rfl ?_
  refine XW.alen 57 (v := 3) dX1_become_56 rfl rfl rfl ?_
  refine XW.copy 60 (h' := HP (sA (sA (sI (sI (sI Z 1 0 (Z.1 20 0)) 1 5 (Z.1 20 5)) 1 7 (Z.1 20 7)) 2 (va_cpy (Z.2.1 21) (Z.2.1 2) 0 0 60)) 3 (va_cpy (Z.2.1 22) (Z.2.1 3) 0 0 3))) 3 c1_43 wC_n wC_s wC_i dX1_become_57 rfl rfl rfl rfl rfl (by decide) (by decide) (by decide) (by decide) rfl rfl ?_
  refine XW.aload_n 61 dX1_become_60 rfl rfl ?_
  refine XW.getf 64 (v := .ref 23) f1_28 dX1_become_61 rfl rfl rfl ?_
  refine XW.iconst 65 dX1_become_64 (v := 0) (by decide) rfl ?_
  refine XW.aload_n 66 dX1_become_65 rfl rfl ?_
  refine XW.getf 69 (v := .ref 4) f1_28 dX1_become_66 rfl rfl rfl ?_
  refine XW.iconst 70 dX1_become_69 (v := 0) (by decide) rfl ?_
  refine XW.aload_n 71 dX1_become_70 rfl rfl ?_
  refine XW.getf 74 (v := .ref 4) f1_28 dX1_become_71 rfl rfl rfl ?_
  refine XW.alen 75 (v := 52) dX1_become_74 rfl rfl rfl ?_
  refine XW.copy 78 (h' := HP (sA (sA (sA (sI (sI (sI Z 1 0 (Z.1 20 0)) 1 5 (Z.1 20 5)) 1 7 (Z.1 20 7)) 2 (va_cpy (Z.2.1 21) (Z.2.1 2) 0 0 60)) 3 (va_cpy (Z.2.1 22) (Z.2.1 3) 0 0 3)) 4 (va_cpy (Z.2.1 23) (Z.2.1 4) 0 0 52))) 52 c1_43 wC_n wC_s wC_i dX1_become_75 rfl rfl rfl rfl rfl (by decide) (by decide) (by decide) (by decide) rfl rfl ?_
  refine XW.aload_n 79 dX1_become_78 rfl rfl ?_
  refine XW.getf 82 (v := .ref 24) f1_31 dX1_become_79 rfl rfl rfl ?_
  refine XW.iconst 83 dX1_become_82 (v := 0) (by decide) rfl ?_
  refine XW.aload_n 84 dX1_become_83 rfl rfl ?_
  refine XW.getf 87 (v := .ref 5) f1_31 dX1_become_84 rfl rfl rfl ?_
  refine XW.iconst 88 dX1_become_87 (v := 0) (by decide) rfl ?_
  refine XW.aload_n 89 dX1_become_88 rfl rfl ?_
  refine XW.getf 92 (v := .ref 5) f1_31 dX1_become_89 rfl rfl rfl ?_
  refine XW.alen 93 (v := 3) dX1_become_92 rfl rfl rfl ?_
  refine XW.copy 96 (h' := HP (sA (sA (sA (sA (sI (sI (sI Z 1 0 (Z.1 20 0)) 1 5 (Z.1 20 5)) 1 7 (Z.1 20 7)) 2 (va_cpy (Z.2.1 21) (Z.2.1 2) 0 0 60)) 3 (va_cpy (Z.2.1 22) (Z.2.1 3) 0 0 3)) 4 (va_cpy (Z.2.1 23) (Z.2.1 4) 0 0 52)) 5 (va_cpy (Z.2.1 24) (Z.2.1 5) 0 0 3))) 3 c1_43 wC_n wC_s wC_i dX1_become_93 rfl rfl rfl rfl rfl (by decide) (by decide) (by decide) (by decide) rfl rfl ?_
  refine XW.aload_n 97 dX1_become_96 rfl rfl ?_
  refine XW.getf 100 (v := .ref 25) f1_37 dX1_become_97 rfl rfl rfl ?_
  refine XW.iconst 101 dX1_become_100 (v := 0) (by decide) rfl ?_
  refine XW.aload_n 102 dX1_become_101 rfl rfl ?_
  refine XW.getf 105 (v := .ref 6) f1_37 dX1_become_102 rfl rfl rfl ?_
  refine XW.iconst 106 dX1_become_105 (v := 0) (by decide) rfl ?_
  refine XW.aload_n 107 dX1_become_106 rfl rfl ?_
  refine XW.getf 110 (v := .ref 6) f1_37 dX1_become_107 rfl rfl rfl ?_
  refine XW.alen 111 (v := 8) dX1_become_110 rfl rfl rfl ?_
  refine XW.copy 114 (h' := HP (sA (sA (sA (sA (sA (sI (sI (sI Z 1 0 (Z.1 20 0)) 1 5 (Z.1 20 5)) 1 7 (Z.1 20 7)) 2 (va_cpy (Z.2.1 21) (Z.2.1 2) 0 0 60)) 3 (va_cpy (Z.2.1 22) (Z.2.1 3) 0 0 3)) 4 (va_cpy (Z.2.1 23) (Z.2.1 4) 0 0 52)) 5 (va_cpy (Z.2.1 24) (Z.2.1 5) 0 0 3)) 6 (va_cpy (Z.2.1 25) (Z.2.1 6) 0 0 8))) 8 c1_43 wC_n wC_s wC_i dX1_become_111 rfl rfl rfl rfl rfl (by decide) (by decide) (by decide) (by decide) rfl rfl ?_
  exact XW.vret dX1_become_114 trivial (⟨rfl, rfl⟩)
set_option maxHeartbeats 4000000 in
set_option maxRecDepth 100000 in
theorem c_become_26_1 {Z : xZ} : XC mX1_become 1 0 0 [.ref 26, .ref 1] (HP Z) (fun q h' => q = none ∧ h' = HP (becZ Z 26 1)) := by
  show XW mX1_become 1 0 0 0 [some (.ref 26), some (.ref 1)] [] (HP Z) _
  refine XW.aload_n 1 dX1_become_0 rfl rfl ?_
  refine XW.aload_n 2 dX1_become_1 rfl rfl ?_
  refine XW.getf 5 (v := .int (Z.1 1 0)) f1_9 dX1_become_2 rfl rfl rfl ?_
  refine XW.putf 8 (h' := HP (sI Z 26 0 (Z.1 1 0))) (p1_9 _) dX1_become_5 rfl (Nat.le_of_ble_eq_true rfl) (xfit_i _) rfl rfl ?_
  refine XW.aload_n 9 dX1_become_8 rfl rfl ?_
  refine XW.aload_n 10 dX1_become_9 rfl rfl ?_
  refine XW.getf 13 (v := .int (Z.1 1 5)) f1_34 dX1_become_10 rfl rfl rfl ?_
  refine XW.putf 16 (h' := HP (sI (sI Z 26 0 (Z.1 1 0)) 26 5 (Z.1 1 5))) (p1_34 _) dX1_become_13 rfl (Nat.le_of_ble_eq_true rfl) (xfit_i _) rfl rfl ?_
  refine XW.aload_n 17 dX1_become_16 rfl rfl ?_
  refine XW.aload_n 18 dX1_become_17 rfl rfl ?_
  refine XW.getf 21 (v := .int (Z.1 1 7)) f1_40 dX1_become_18 rfl rfl rfl ?_
  refine XW.putf 24 (h' := HP (sI (sI (sI Z 26 0 (Z.1 1 0)) 26 5 (Z.1 1 5)) 26 7 (Z.1 1 7))) (p1_40 _) dX1_become_21 rfl (Nat.le_of_ble_eq_true rfl) (xfit_i _) rfl rfl ?_
  refine XW.aload_n 25 dX1_become_24 rfl rfl ?_
  refine XW.getf 28 (v := .ref 2) f1_15 dX1_become_25 rfl rfl rfl ?_
  refine XW.iconst 29 dX1_become_28 (v := 0) (by decide) rfl ?_
  refine XW.aload_n 30 dX1_become_29 rfl rfl ?_
  refine XW.getf 33 (v := .ref 27) f1_15 dX1_become_30 rfl rfl rfl ?_
  refine XW.iconst 34 dX1_become_33 (v := 0) (by decide) rfl ?_
  refine XW.aload_n 35 dX1_become_34 rfl rfl ?_
  refine XW.getf 38 (v := .ref 27) f1_15 dX1_become_35 rfl rfl rfl ?_
  refine XW.alen 39 (v := 60) dX1_become_38 rfl rfl rfl ?_
  refine XW.copy 42 (h' := HP (sA (sI (sI (sI Z 26 0 (Z.1 1 0)) 26 5 (Z.1 1 5)) 26 7 (Z.1 1 7)) 27 (va_cpy (Z.2.1 2) (Z.2.1 27) 0 0 60))) 60 c1_43 wC_n wC_s wC_i dX1_become_39 rfl rfl rfl rfl rfl (by decide) (by decide) (by decide) (by decide) rfl rfl ?_
  refine XW.aload_n 43 dX1_become_42 rfl rfl ?_
  refine XW.getf 46 (v := .ref 3) f1_19 dX1_become_43 rfl rfl rfl ?_
  refine XW.iconst 47 dX1_become_46 (v := 0) (by decide) rfl ?_
  refine XW.aload_n 48 dX1_become_47 rfl rfl ?_
  refine XW.getf 51 (v := .ref 28) f1_19 dX1_become_48 rfl rfl rfl ?_
  refine XW.iconst 52 dX1_become_51 (v := 0) (by decide) rfl ?_
  refine XW.aload_n 53 dX1_become_52 rfl rfl ?_
  refine XW.getf 56 (v := .ref 28) f1_19 dX1_become_53 rfl rfl rfl ?_
  refine XW.alen 57 (v := 3) dX1_become_56 rfl rfl rfl ?_
  refine XW.copy 60 (h' := HP (sA (sA (sI (sI (sI Z 26 0 (Z.1 1 0)) 26 5 (Z.1 1 5)) 26 7 (Z.1 1 7)) 27 (va_cpy (Z.2.1 2) (Z.2.1 27) 0 0 60)) 28 (va_cpy (Z.2.1 3) (Z.2.1 28) 0 0 3))) 3 c1_43 wC_n wC_s wC_i dX1_become_57 rfl rfl rfl rfl rfl (by decide) (by decide) (by decide) (by decide) rfl rfl ?_
  refine XW.aload_n 61 dX1_become_60 rfl rfl ?_
  refine XW.getf 64 (v := .ref 4) f1_28 dX1_become_61 rfl rfl rfl ?_
  refine XW.iconst 65 dX1_become_64 (v := 0) (by decide) rfl ?_
  refine XW.aload_n 66 dX1_become_65 rfl rfl ?_
  refine XW.getf 69 (v := .ref 29) f1_28 dX1_become_66 rfl rfl rfl ?_
  refine XW.iconst 70 dX1_become_69 (v := 0) (by decide) rfl ?_
  refine XW.aload_n 71 dX1_become_70 rfl rfl ?_
  refine XW.getf 74 (v := .ref 29) f1_28 dX1_become_71 rfl rfl rfl ?_
  refine XW.alen 75 (v := 52) dX1_become_74 rfl rfl rfl ?_
  refine XW.copy 78 (h' := HP (sA (sA (sA (sI (sI (sI Z 26 0 (Z.1 1 0)) 26 5 (Z.1 1 5)) 26 7 (Z.1 1 7)) 27 (va_cpy (Z.2.1 2) (Z.2.1 27) 0 0 60)) 28 (va_cpy (Z.2.1 3) (Z.2.1 28) 0 0 3)) 29 (va_cpy (Z.2.1 4) (Z.2.1 29) 0 0 52))) 52 c1_43 wC_n wC_s wC_i dX1_become_75 rfl rfl rfl rfl rfl (by decide) (by decide) (by decide) (by decide) rfl rfl ?_
  refine XW.aload_n 79 dX1_become_78 rfl rfl ?_
  refine XW.getf 82 (v := .ref 5) f1_31 dX1_become_79 rfl rfl rfl ?_
  refine XW.iconst 83 dX1_become_82 (v := 0) (by decide) rfl ?_
  refine XW.aload_n 84 dX1_become_83 rfl rfl ?_
  refine XW.getf 87 (v := .ref 30) f1_31 dX1_become_84 rfl rfl rfl ?_
  refine XW.iconst 88 dX1_become_87 (v := 0) (by decide) rfl ?_
  refine XW.aload_n 89 dX1_become_88 rfl rfl ?_
  refine XW.getf 92 (v := .ref 30) f1_31 dX1_become_89 rfl rfl rfl ?_
  refine XW.alen 93 (v := 3) dX1_become_92 rfl rfl rfl ?_
  refine XW.copy 96 (h' := HP (sA (sA (sA (sA (sI (sI (sI Z 26 0 (Z.1 1 0)) 26 5 (Z.1 1 5)) 26 7 (Z.1 1 7)) 27 (va_cpy (Z.2.1 2) (Z.2.1 27) 0 0 60)) 28 (va_cpy (Z.2.1 3) (Z.2.1 28) 0 0 3)) 29 (va_cpy (Z.2.1 4) (Z.2.1 29) 0 0 52)) 30 (va_cpy (Z.2.1 5) (Z.2.1 30) 0 0 3))) 3 c1_43 wC_n wC_s wC_i dX1_become_93 rfl rfl rfl rfl rfl (by decide) (by decide) (by decide) (by decide) rfl rfl ?_
  refine XW.aload_n 97 dX1_become_96 rfl rfl ?_
  refine XW.getf 100 (v := .ref 6) f1_37 dX1_become_97 rfl rfl rfl ?_
  refine XW.iconst 101 dX1_become_100 (v := 0) (by decide) rfl ?_
  refine XW.aload_n 102 dX1_become_101 rfl rfl ?_
  refine XW.getf 105 (v := .ref 31) f1_37 dX1_become_102 rfl rfl rfl ?_
  refine XW.iconst 106 dX1_become_105 (v := 0) (by decide) rfl ?_
  refine XW.aload_n 107 dX1_become_106 rfl rfl ?_
  refine XW.getf 110 (v := .ref 31) f1_37 dX1_become_107 rfl rfl rfl ?_
  refine XW.alen 111 (v := 8) dX1_become_110 rfl rfl rfl ?_
  refine XW.copy 114 (h' := HP (sA (sA (sA (sA (sA (sI (sI (sI Z 26 0 (Z.1 1 0)) 26 5 (Z.1 1 5)) 26 7 (Z.1 1 7)) 27 (va_cpy (Z.2.1 2) (Z.2.1 27) 0 0 60)) 28 (va_cpy (Z.2.1 3) (Z.2.1 28) 0 0 3)) 29 (va_cpy (Z.2.1 4) (Z.2.1 29) 0 0 52)) 30 (va_cpy (Z.2.1 5) (Z.2.1 30) 0 0 3)) 31 (va_cpy (Z.2.1 6) (Z.2.1 31) 0 0 8))) 8 c1_43 wC_n wC_s wC_i dX1_become_111 rfl rfl rfl rfl rfl (by decide) (by decide) (by decide) (by decide) rfl rfl ?_
  exact XW.vret dX1_become_114 trivial (⟨rfl, rfl⟩)
set_option maxHeartbeats 4000000 in
set_option maxRecDepth 100000 in
theorem c_become_1_26 {Z : xZ} : XC mX1_become 1 0 0 [.ref 1, .ref 26] (HP Z) (fun q h' => q = none ∧ h' = HP (becZ Z 1 26)) := by
  show XW mX1_become 1 0 0 0 [some (.ref 1), some (.ref 26)] [] (HP Z) _
  refine XW.aload_n 1 dX1_become_0 rfl rfl ?_
  refine XW.aload_n 2 dX1_become_1 rfl rfl ?_
  refine XW.getf 5 (v := .int (Z.1 26 0)) f1_9 dX1_become_2 rfl rfl rfl ?_
  refine XW.putf 8 (h' := HP (sI Z 1 0 (Z.1 26 0))) (p1_9 _) dX1_become_5 rfl (Nat.le_of_ble_eq_true rfl) (xfit_i _) rfl rfl ?_
  refine XW.aload_n 9 dX1_become_8 rfl rfl ?_
  refine XW.aload_n 10 dX1_become_9 rfl rfl ?_
  refine XW.getf 13 (v := .int (Z.1 26 5)) f1_34 dX1_become_10 rfl rfl rfl ?_
  refine XW.putf 16 (h' := HP (sI (sI Z 1 0 (Z.1 26 0)) 1 5 (Z.1 26 5))) (p1_34 _) dX1_become_13 rfl (Nat.le_of_ble_eq_true rfl) (xfit_i _) rfl rfl ?_
  refine XW.aload_n 17 dX1_become_16 rfl rfl ?_
  refine XW.aload_n 18 dX1_become_17 rfl rfl ?_
  refine XW.getf 21 (v := .int (Z.1 26 7)) f1_40 dX1_become_18 rfl rfl rfl ?_
  refine XW.putf 24 (h' := HP (sI (sI (sI Z 1 0 (Z.1 26 0)) 1 5 (Z.1 26 5)) 1 7 (Z.1 26 7))) (p1_40 _) dX1_become_21 rfl (Nat.le_of_ble_eq_true rfl) (xfit_i _) rfl rfl ?_
  refine XW.aload_n 25 dX1_become_24 rfl rfl ?_
  refine XW.getf 28 (v := .ref 27) f1_15 dX1_become_25 rfl rfl rfl ?_
  refine XW.iconst 29 dX1_become_28 (v := 0) (by decide) rfl ?_
  refine XW.aload_n 30 dX1_become_29 rfl rfl ?_
  refine XW.getf 33 (v := .ref 2) f1_15 dX1_become_30 rfl rfl rfl ?_
  refine XW.iconst 34 dX1_become_33 (v := 0) (by decide) rfl ?_
  refine XW.aload_n 35 dX1_become_34 rfl rfl ?_
  refine XW.getf 38 (v := .ref 2) f1_15 dX1_become_35 rfl rfl rfl ?_
  refine XW.alen 39 (v := 60) dX1_become_38 rfl rfl rfl ?_
  refine XW.copy 42 (h' := HP (sA (sI (sI (sI Z 1 0 (Z.1 26 0)) 1 5 (Z.1 26 5)) 1 7 (Z.1 26 7)) 2 (va_cpy (Z.2.1 27) (Z.2.1 2) 0 0 60))) 60 c1_43 wC_n wC_s wC_i dX1_become_39 rfl rfl rfl rfl rfl (by decide) (by decide) (by decide) (by decide) rfl rfl ?_
  refine XW.aload_n 43 dX1_become_42 rfl rfl ?_
  refine XW.getf 46 (v := .ref 28) f1_19 dX1_become_43 rfl rfl rfl ?_
  refine XW.iconst 47 dX1_become_46 (v := 0) (by decide) rfl ?_
  refine XW.aload_n 48 dX1_become_47 rfl rfl ?_
  refine XW.getf 51 (v := .ref 3) f1_19 dX1_become_48 rfl rfl rfl ?_
  refine XW.iconst 52 dX1_become_51 (v := 0) (by decide) rfl ?_
  refine XW.aload_n 53 dX1_become_52 rfl rfl ?_
  refine XW.getf 56 (v := .ref 3) f1_19 dX1_become_53 rfl rfl rfl ?_
  refine XW.alen 57 (v := 3) dX1_become_56 rfl rfl rfl ?_
  refine XW.copy 60 (h' := HP (sA (sA (sI (sI (sI Z 1 0 (Z.1 26 0)) 1 5 (Z.1 26 5)) 1 7 (Z.1 26 7)) 2 (va_cpy (Z.2.1 27) (Z.2.1 2) 0 0 60)) 3 (va_cpy (Z.2.1 28) (Z.2.1 3) 0 0 3))) 3 c1_43 wC_n wC_s wC_i dX1_become_57 rfl rfl rfl rfl rfl (by decide) (by decide) (by decide) (by decide) rfl rfl ?_
  refine XW.aload_n 61 dX1_become_60 rfl rfl ?_
  refine XW.getf 64 (v := .ref 29) f1_28 dX1_become_61 rfl rfl rfl ?_
  refine XW.iconst 65 dX1_become_64 (v := 0) (by decide) rfl ?_
  refine XW.aload_n 66 dX1_become_65 rfl rfl ?_
  refine XW.getf 69 (v := .ref 4) f1_28 dX1_become_66 rfl rfl rfl ?_
  refine XW.iconst 70 dX1_become_69 (v := 0) (by decide) rfl ?_
  refine XW.aload_n 71 dX1_become_70 rfl rfl ?_
  refine XW.getf 74 (v := .ref 4) f1_28 dX1_become_71 rfl rfl rfl ?_
  refine XW.alen 75 (v := 52) dX1_become_74 rfl rfl rfl ?_
  refine XW.copy 78 (h' := HP (sA (sA (sA (sI (sI (sI Z 1 0 (Z.1 26 0)) 1 5 (Z.1 26 5)) 1 7 (Z.1 26 7)) 2 (va_cpy (Z.2.1 27) (Z.2.1 2) 0 0 60)) 3 (va_cpy (Z.2.1 28) (Z.2.1 3) 0 0 3)) 4 (va_cpy (Z.2.1 29) (Z.2.1 4) 0 0 52))) 52 c1_43 wC_n wC_s wC_i dX1_become_75 rfl rfl rfl rfl rfl (by decide) (by decide) (by decide) (by decide) rfl rfl ?_
  refine XW.aload_n 79 dX1_become_78 rfl rfl ?_
  refine XW.getf 82 (v := .ref 30) f1_31 dX1_become_79 rfl rfl rfl ?_
  refine XW.iconst 83 dX1_become_82 (v := 0) (by decide) rfl ?_
  refine XW.aload_n 84 dX1_become_83 rfl rfl ?_
  refine XW.getf 87 (v := .ref 5) f1_31 dX1_become_84 rfl rfl rfl ?_
  refine XW.iconst 88 dX1_become_87 (v := 0) (by decide) rfl ?_
  refine XW.aload_n 89 dX1_become_88 rfl rfl ?_
  refine XW.getf 92 (v := .ref 5) f1_31 dX1_become_89 rfl rfl rfl ?_
  refine XW.alen 93 (v := 3) dX1_become_92 rfl rfl rfl ?_
  refine XW.copy 96 (h' := HP (sA (sA (sA (sA (sI (sI (sI Z 1 0 (Z.1 26 0)) 1 5 (Z.1 26 5)) 1 7 (Z.1 26 7)) 2 (va_cpy (Z.2.1 27) (Z.2.1 2) 0 0 60)) 3 (va_cpy (Z.2.1 28) (Z.2.1 3) 0 0 3)) 4 (va_cpy (Z.2.1 29) (Z.2.1 4) 0 0 52)) 5 (va_cpy (Z.2.1 30) (Z.2.1 5) 0 0 3))) 3 c1_43 wC_n wC_s wC_i dX1_become_93 rfl rfl rfl rfl rfl (by decide) (by decide) (by decide) (by decide) rfl rfl ?_
  refine XW.aload_n 97 dX1_become_96 rfl rfl ?_
  refine XW.getf 100 (v := .ref 31) f1_37 dX1_become_97 rfl rfl rfl ?_
  refine XW.iconst 101 dX1_become_100 (v := 0) (by decide) rfl ?_
  refine XW.aload_n 102 dX1_become_101 rfl rfl ?_
  refine XW.getf 105 (v := .ref 6) f1_37 dX1_become_102 rfl rfl rfl ?_
  refine XW.iconst 106 dX1_become_105 (v := 0) (by decide) rfl ?_
  refine XW.aload_n 107 dX1_become_106 rfl rfl ?_
  refine XW.getf 110 (v := .ref 6) f1_37 dX1_become_107 rfl rfl rfl ?_
  refine XW.alen 111 (v := 8) dX1_become_110 rfl rfl rfl ?_
  refine XW.copy 114 (h' := HP (sA (sA (sA (sA (sA (sI (sI (sI Z 1 0 (Z.1 26 0)) 1 5 (Z.1 26 5)) 1 7 (Z.1 26 7)) 2 (va_cpy (Z.2.1 27) (Z.2.1 2) 0 0 60)) 3 (va_cpy (Z.2.1 28) (Z.2.1 3) 0 0 3)) 4 (va_cpy (Z.2.1 29) (Z.2.1 4) 0 0 52)) 5 (va_cpy (Z.2.1 30) (Z.2.1 5) 0 0 3)) 6 (va_cpy (Z.2.1 31) (Z.2.1 6) 0 0 8))) 8 c1_43 wC_n wC_s wC_i dX1_become_111 rfl rfl rfl rfl rfl (by decide) (by decide) (by decide) (by decide) rfl rfl ?_
  exact XW.vret dX1_become_114 trivial (⟨rfl, rfl⟩)
set_option maxHeartbeats 4000000 in
set_option maxRecDepth 100000 in
theorem c_become_32_1 {Z : xZ} : XC mX1_become 1 0 0 [.ref 32, .ref 1] (HP Z) (fun q h' => q = none ∧ h' = HP (becZ Z 32 1)) := by
  show XW mX1_become 1 0 0 0 [some (.ref 32), some (.ref 1)] [] (HP Z) _
  refine XW.aload_n 1 dX1_become_0 rfl rfl ?_
  refine XW.aload_n 2 dX1_become_1 rfl rfl ?_
  refine XW.getf 5 (v := .int (Z.1 1 0)) f1_9 dX1_become_2 rfl rfl rfl ?_
  refine XW.putf 8 (h' := HP (sI Z 32 0 (Z.1 1 0))) (p1_9 _) dX1_become_5 rfl (Nat.le_of_ble_eq_true rfl) (xfit_i _) rfl rfl ?_
  refine XW.aload_n 9 dX1_become_8 rfl rfl ?_
  refine XW.aload_n 10 dX1_become_9 rfl rfl ?_
  refine XW.getf 13 (v := .int (Z.1 1 5)) f1_34 dX1_become_10 rfl rfl rfl ?_
  refine XW.putf 16 (h' := HP (sI (sI Z 32 0 (Z.1 1 0)) 32 5 (Z.1 1 5))) (p1_34 _) dX1_become_13 rfl (Nat.le_of_ble_eq_true rfl) (xfit_i _) rfl rfl ?_
  refine XW.aload_n 17 dX1_become_16 rfl rfl ?_
  refine XW.aload_n 18 dX1_become_17 rfl rfl ?_
  refine XW.getf 21 (v := .int (Z.1 1 7)) f1_40 dX1_become_18 rfl rfl rfl ?_
  refine XW.putf 24 (h' := HP (sI (sI (sI Z 32 0 (Z.1 1 0)) 32 5 (Z.1 1 5)) 32 7 (Z.1 1 7))) (p1_40 _) dX1_become_21 rfl (Nat.le_of_ble_eq_true rfl) (xfit_i _) rfl rfl ?_
  refine XW.aload_n 25 dX1_become_24 rfl rfl ?_
  refine XW.getf 28 (v := .ref 2) f1_15 dX1_become_25 rfl rfl rfl ?_
  refine XW.iconst 29 dX1_become_28 (v := 0) (by decide) rfl ?_
  refine XW.aload_n 30 dX1_become_29 rfl rfl ?_
  refine XW.getf 33 (v := .ref 33) f1_15 dX1_become_30 rfl rfl rfl ?_
  refine XW.iconst 34 dX1_become_33 (v := 0) (by decide) rfl ?_
  refine XW.aload_n 35 dX1_become_34 rfl rfl ?_
  refine XW.getf 38 (v := .ref 33) f1_15 dX1_become_35 rfl rfl rfl ?_
  refine XW.alen 39 (v := 60) dX1_become_38 rfl rfl rfl ?_
  refine XW.copy 42 (h' := HP (sA (sI (sI (sI Z 32 0 (Z.1 1 0)) 32 5 (Z.1 1 5)) 32 7 (Z.1 1 7)) 33 (va_cpy (Z.2.1 2) (Z.2.1 33) 0 0 60))) 60 c1_43 wC_n wC_s wC_i dX1_become_39 rfl rfl rfl rfl rfl (by decide) (by decide) (by decide) (by decide) rfl rfl ?_
  refine XW.aload_n 43 dX1_become_42 rfl rfl ?_
  refine XW.getf 46 (v := .ref 3) f1_19 dX1_become_43 rfl rfl rfl ?_
  refine XW.iconst 47 dX1_become_46 (v := 0) (by decide) rfl ?_
  refine XW.aload_n 48 dX1_become_47 rfl rfl ?_
  refine XW.getf 51 (v := .ref 34) f1_19 dX1_become_48 rfl rfl rfl ?_
  refine XW.iconst 52 dX1_become_51 (v := 0) (by decide) rfl ?_
  refine XW.aload_n 53 dX1_become_52 rfl rfl ?_
  refine XW.getf 56 (v := .ref 34) f1_19 dX1_become_53 rfl rfl rfl ?_
  refine XW.alen 57 (v := 3) dX1_become_56 rfl rfl rfl ?_
  refine XW.copy 60 (h' := HP (sA (sA (sI (sI (sI Z 32 0 (Z.1 1 0)) 32 5 (Z.1 1 5)) 32 7 (Z.1 1 7)) 33 (va_cpy (Z.2.1 2) (Z.2.1 33) 0 0 60)) 34 (va_cpy (Z.2.1 3) (Z.2.1 34) 0 0 3))) 3 c1_43 wC_n wC_s wC_i dX1_become_57 rfl rfl rfl rfl rfl (by decide) (by decide) (by decide) (by decide) rfl rfl ?_
  refine XW.aload_n 61 dX1_become_60 rfl rfl ?_
  refine XW.getf 64 (v := .ref 4) f1_28 dX1_become_61 rfl rfl rfl ?_
  refine XW.iconst 65 dX1_become_64 (v := 0) (by decide) rfl ?_
  refine XW.aload_n 66 dX1_become_65 rfl rfl ?_
  refine XW.getf 69 (v := .ref 35) f1_28 dX1_become_66 rfl rfl rfl ?_
  refine XW.iconst 70 dX1_become_69 (v := 0) (by decide) rfl ?_
  refine XW.aload_n 71 dX1_become_70 rfl rfl ?_
  refine XW.getf 74 (v := .ref 35) f1_28 dX1_become_71 rfl rfl rfl ?_
  refine XW.alen 75 (v := 52) dX1_become_74 rfl rfl rfl ?_
  refine XW.copy 78 (h' := HP (sA (sA (sA (sI (sI (sI Z 32 0 (Z.1 1 0)) 32 5 (Z.1 1 5)) 32 7 (Z.1 1 7)) 33 (va_cpy (Z.2.1 2) (Z.2.1 33) 0 0 60)) 34 (va_cpy (Z.2.1 3) (Z.2.1 34) 0 0 3)) 35 (va_cpy (Z.2.1 4) (Z.2.1 35) 0 0 52))) 52 c1_43 wC_n wC_s wC_i dX1_become_75 rfl rfl rfl rfl rfl (by decide) (by decide) (by decide) (by decide) rfl rfl ?_
  refine XW.aload_n 79 dX1_become_78 rfl rfl ?_
  refine XW.getf 82 (v := .ref 5) f1_31 dX1_become_79 rfl rfl rfl ?_
  refine XW.iconst 83 dX1_become_82 (v := 0) (by decide) rfl ?_
  refine XW.aload_n 84 dX1_become_83 rfl rfl ?_
  refine XW.getf 87 (v := .ref 36) f1_31 dX1_become_84 rfl rfl rfl ?_
  refine XW.iconst 88 dX1_become_87 (v := 0) (by decide) rfl ?_
  refine XW.aload_n 89 dX1_become_88 rfl rfl ?_
  refine XW.getf 92 (v := .ref 36) f1_31 dX1_become_89 rfl rfl rfl ?_
  refine XW.alen 93 (v := 3) dX1_become_92 rfl rfl rfl ?_
  refine XW.copy 96 (h' := HP (sA (sA (sA (sA (sI (sI (sI Z 32 0 (Z.1 1 0)) 32 5 (Z.1 1 5)) 32 7 (Z.1 1 7)) 33 (va_cpy (Z.2.1 2) (Z.2.1 33) 0 0 60)) 34 (va_cpy (Z.2.1 3) (Z.2.1 34) 0 0 3)) 35 (va_cpy (Z.2.1 4) (Z.2.1 35) 0 0 52)) 36 (va_cpy (Z.2.1 5) (Z.2.1 36) 0 0 3))) 3 c1_43 wC_n wC_s wC_i dX1_become_93 rfl rfl rfl rfl rfl (by decide) (by decide) (by decide) (by decide) rfl rfl ?_
  refine XW.aload_n 97 dX1_become_96 rfl rfl ?_
  refine XW.getf 100 (v := .ref 6) f1_37 dX1_become_97 rfl rfl rfl ?_
  refine XW.iconst 101 dX1_become_100 (v := 0) (by decide) rfl ?_
  refine XW.aload_n 102 dX1_become_101 rfl rfl ?_
  refine XW.getf 105 (v := .ref 37) f1_37 dX1_become_102 rfl rfl rfl ?_
  refine XW.iconst 106 dX1_become_105 (v := 0) (by decide) rfl ?_
  refine XW.aload_n 107 dX1_become_106 rfl rfl ?_
  refine XW.getf 110 (v := .ref 37) f1_37 dX1_become_107 rfl rfl rfl ?_
  refine XW.alen 111 (v := 8) dX1_become_110 rfl rfl rfl ?_
  refine XW.copy 114 (h' := HP (sA (sA (sA (sA (sA (sI (sI (sI Z 32 0 (Z.1 1 0)) 32 5 (Z.1 1 5)) 32 7 (Z.1 1 7)) 33 (va_cpy (Z.2.1 2) (Z.2.1 33) 0 0 60)) 34 (va_cpy (Z.2.1 3) (Z.2.1 34) 0 0 3)) 35 (va_cpy (Z.2.1 4) (Z.2.1 35) 0 0 52)) 36 (va_cpy (Z.2.1 5) (Z.2.1 36) 0 0 3)) 37 (va_cpy (Z.2.1 6) (Z.2.1 37) 0 0 8))) 8 c1_43 wC_n wC_s wC_i dX1_become_111 rfl rfl rfl rfl rfl (by decide) (by decide) (by decide) (by decide) rfl rfl ?_
  exact XW.vret dX1_become_114 trivial (⟨rfl, rfl⟩)
set_option maxHeartbeats 4000000 in
set_option maxRecDepth 100000 in
theorem c_become_1_32 {Z : xZ} : XC mX1_become 1 0 0 [.ref 1, .ref 32] (HP Z) (fun q h' => q = none ∧ h' = HP (becZ Z 1 32)) := by
  show XW mX1_become 1 0 0 0 [some (.ref 1), some (.ref 32)] [] (HP Z) _
  refine XW.aload_n 1 dX1_become_0 rfl rfl ?_
  refine XW.aload_n 2 dX1_become_1 rfl rfl ?_
  refine XW.getf 5 (v := .int (Z.1 32 0)) f1_9 dX1_become_2 rfl rfl rfl ?_
  refine XW.putf 8 (h' := HP (sI Z 1 0 (Z.1 32 0))) (p1_9 _) dX1_become_5 rfl (Nat.le_of_ble_eq_true rfl) (xfit_i _) rfl rfl ?_
  refine XW.aload_n 9 dX1_become_8 rfl rfl ?_
  refine XW.aload_n 10 dX1_become_9 rfl rfl ?_
  refine XW.getf 13 (v := .int (Z.1 32 5)) f1_34 dX1_become_10 rfl rfl rfl ?_
  refine XW.putf 16 (h' := HP (sI (sI Z 1 0 (Z.1 32 0)) 1 5 (Z.1 32 5))) (p1_34 _) dX1_become_13 rfl (Nat.le_of_ble_eq_true rfl) (xfit_i _) rfl rfl ?_
  refine XW.aload_n 17 dX1_become_16 rfl rfl ?_
  refine XW.aload_n 18 dX1_become_17 rfl rfl ?_
  refine XW.getf 21 (v := .int (Z.1 32 7)) f1_40 dX1_become_18 rfl rfl rfl ?_
  refine XW.putf 24 (h' := HP (sI (sI (sI Z 1 0 (Z.1 32 0)) 1 5 (Z.1 32 5)) 1 7 (Z.1 32 7))) (p1_40 _) dX1_become_21 rfl (Nat.le_of_ble_eq_true rfl) (xfit_i _) rfl rfl ?_
  refine XW.aload_n 25 dX1_become_24 rfl rfl ?_
  refine XW.getf 28 (v := .ref 33) f1_15 dX1_become_25 rfl rfl rfl ?_
  refine XW.iconst 29 dX1_become_28 (v := 0) (by decide) rfl ?_
  refine XW.aload_n 30 dX1_become_29 rfl rfl ?_
  refine XW.getf 33 (v := .ref 2) f1_15 dX1_become_30 rfl rfl rfl ?_
  refine XW.iconst 34 dX1_become_33 (v := 0) (by decide) rfl ?_
  refine XW.aload_n 35 dX1_become_34 rfl rfl ?_
  refine XW.getf 38 (v := .ref 2) f1_15 dX1_become_35 rfl rfl rfl ?_
  refine XW.alen 39 (v := 60) dX1_become_38 rfl rfl rfl ?_
  refine XW.copy 42 (h' := HP (sA (sI (sI (sI Z 1 0 (Z.1 32 0)) 1 5 (Z.1 32 5)) 1 7 (Z.1 32 7)) 2 (va_cpy (Z.2.1 33) (Z.2.1 2) 0 0 60))) 60 c1_43 wC_n wC_s wC_i dX1_become_39 rfl rfl rfl rfl rfl (by decide) (by decide) (by decide) (by decide) rfl rfl ?_
  refine XW.aload_n 43 dX1_become_42 rfl rfl ?_
  refine XW.getf 46 (v := .ref 34) f1_19 dX1_become_43 rfl rfl rfl ?_
  refine XW.iconst 47 dX1_become_46 (v := 0) (by decide) rfl ?_
  refine XW.aload_n 48 dX1_become_47 rfl rfl ?_
  refine XW.getf 51 (v := .ref 3) f1_19 dX1_become_48 rfl rfl rfl ?_
  refine XW.iconst 52 dX1_become_51 (v := 0) (by decide) rfl ?_
  refine XW.aload_n 53 dX1_become_52 rfl rfl ?_
  refine XW.getf 56 (v := .ref 3) f1_19 dX1_become_53 rfl rfl rfl ?_
  refine XW.alen 57 (v := 3) dX1_become_56 rfl rfl rfl ?_
  refine XW.copy 60 (h' := HP (sA (sA (sI (sI (sI Z 1 0 (Z.1 32 0)) 1 5 (Z.1 32 5)) 1 7 (Z.1 32 7)) 2 (va_cpy (Z.2.1 33) (Z.2.1 2) 0 0 60)) 3 (va_cpy (Z.2.1 34) (Z.2.1 3) 0 0 3))) 3 c1_43 wC_n wC_s wC_i dX1_become_57 rfl rfl rfl rfl rfl (by decide) (by decide) (by decide) (by decide) rfl rfl ?_
  refine XW.aload_n 61 dX1_become_60 rfl rfl ?_
  refine XW.getf 64 (v := .ref 35) f1_28 dX1_become_61 rfl rfl rfl ?_
  refine XW.iconst 65 dX1_become_64 (v := 0) (by decide) rfl ?_
  refine XW.aload_n 66 dX1_become_65 rfl rfl ?_
  refine XW.getf 69 (v := .ref 4) f1_28 dX1_become_66 rfl rfl rfl ?_
  refine XW.iconst 70 dX1_become_69 (v := 0) (by decide) rfl ?_
  refine XW.aload_n 71 dX1_become_70 rfl rfl ?_
  refine XW.getf 74 (v := .ref 4) f1_28 dX1_become_71 rfl rfl rfl ?_
  refine XW.alen 75 (v := 52) dX1_become_74 rfl rfl rfl ?_
  refine XW.copy 78 (h' := HP (sA (sA (sA (sI (sI (sI Z 1 0 (Z.1 32 0)) 1 5 (Z.1 32 5)) 1 7 (Z.1 32 7)) 2 (va_cpy (Z.2.1 33) (Z.2.1 2) 0 0 60)) 3 (va_cpy (Z.2.1 34) (Z.2.1 3) 0 0 3)) 4 (va_cpy (Z.2.1 35) (Z.2.1 4) 0 0 52))) 52 c1_43 wC_n wC_s wC_i dX1_become_75 rfl rfl rfl rfl rfl (by decide) (by decide) (by decide) (by decide) rfl rfl ?_
  refine XW.aload_n 79 dX1_become_78 rfl rfl ?_
  refine XW.getf 82 (v := .ref 36) f1_31 dX1_become_79 rfl rfl rfl ?_
  refine XW.iconst 83 dX1_become_82 (v := 0) (by decide) rfl ?_
  refine XW.aload_n 84 dX1_become_83 rfl rfl ?_
  refine XW.getf 87 (v := .ref 5) f1_31 dX1_become_84 rfl rfl rfl ?_
  refine XW.iconst 88 dX1_become_87 (v := 0) (by decide) rfl ?_
  refine XW.aload_n 89 dX1_become_88 rfl rfl ?_
  refine XW.getf 92 (v := .ref 5) f1_31 dX1_become_89 rfl rfl rfl ?_
  refine XW.alen 93 (v := 3) dX1_become_92 rfl rfl rfl ?_
  refine XW.copy 96 (h' := HP (sA (sA (sA (sA (sI (sI (sI Z 1 0 (Z.1 32 0)) 1 5 (Z.1 32 5)) 1 7 (Z.1 32 7)) 2 (va_cpy (Z.2.1 33) (Z.2.1 2) 0 0 60)) 3 (va_cpy (Z.2.1 34) (Z.2.1 3) 0 0 3)) 4 (va_cpy (Z.2.1 35) (Z.2.1 4) 0 0 52)) 5 (va_cpy (Z.2.1 36) (Z.2.1 5) 0 0 3))) 3 c1_43 wC_n wC_s wC_i dX1_become_93 rfl rfl rfl rfl rfl (by decide) (by decide) (by decide) (by decide) rfl rfl ?_
  refine XW.aload_n 97 dX1_become_96 rfl rfl ?_
  refine XW.getf 100 (v := .ref 37) f1_37 dX1_become_97 rfl rfl rfl ?_
  refine XW.iconst 101 dX1_become_100 (v := 0) (by decide) rfl ?_
  refine XW.aload_n 102 dX1_become_101 rfl rfl ?_
  refine XW.getf 105 (v := .ref 6) f1_37 dX1_become_102 rfl rfl rfl ?_
  refine XW.iconst 106 dX1_become_105 (v := 0) (by decide) rfl ?_
  refine XW.aload_n 107 dX1_become_106 rfl rfl ?_
  refine XW.getf 110 (v := .ref 6) f1_37 dX1_become_107 rfl rfl rfl ?_
  refine XW.alen 111 (v := 8) dX1_become_110 rfl rfl rfl ?_
  refine XW.copy 114 (h' := HP (sA (sA (sA (sA (sA (sI (sI (sI Z 1 0 (Z.1 32 0)) 1 5 (Z.1 32 5)) 1 7 (Z.1 32 7)) 2 (va_cpy (Z.2.1 33) (Z.2.1 2) 0 0 60)) 3 (va_cpy (Z.2.1 34) (Z.2.1 3) 0 0 3)) 4 (va_cpy (Z.2.1 35) (Z.2.1 4) 0 0 52)) 5 (va_cpy (Z.2.1 36) (Z.2.1 5) 0 0 3)) 6 (va_cpy (Z.2.1 37) (Z.2.1 6) 0 0 8))) 8 c1_43 wC_n wC_s wC_i dX1_become_111 rfl rfl rfl rfl rfl (by decide) (by decide) (by decide) (by decide) rfl rfl ?_
  exact XW.vret dX1_become_114 trivial (⟨rfl, rfl⟩)
set_option maxHeartbeats 4000000 in
set_option maxRecDepth 100000 in
theorem c_become_38_1 {Z : xZ} : XC mX1_become 1 0 0 [.ref 38, .ref 1] (HP Z) (fun q h' => q = none ∧ h' = HP (becZ Z 38 1)) := by
  show XW mX1_become 1 0 0 0 [some (.ref 38), some (.ref 1)] [] (HP Z) _
  refine XW.aload_n 1 dX1_become_0 rfl rfl ?_
  refine XW.aload_n 2 dX1_become_1 rfl rfl ?_
  refine XW.getf 5 (v := .int (Z.1 1 0)) f1_9 dX1_become_2 rfl rfl rfl ?_
  refine XW.putf 8 (h' := HP (sI Z 38 0 (Z.1 1 0))) (p1_9 _) dX1_become_5 rfl (Nat.le_of_ble_eq_true rfl) (xfit_i _) rfl rfl ?_
  refine XW.aload_n 9 dX1_become_8 rfl rfl ?_
  refine XW.aload_n 10 dX1_become_9 rfl rfl ?_
  refine XW.getf 13 (v := .int (Z.1 1 5)) f1_34 dX1_become_10 rfl rfl rfl ?_
  refine XW.putf 16 (h' := HP (sI (sI Z 38 0 (Z.1 1 0)) 38 5 (Z.1 1 5))) (p1_34 _) dX1_become_13 rfl (Nat.le_of_ble_eq_true rfl) (xfit_i _) rfl rfl ?_
  refine XW.aload_n 17 dX1_become_16 rfl rfl ?_
  refine XW.aload_n 18 dX1_become_17 rfl rfl ?_
  refine XW.getf 21 (v := .int (Z.1 1 7)) f1_40 dX1_become_18 rfl rfl rfl ?_
  refine XW.putf 24 (h' := HP (sI (sI (sI Z 38 0 (Z.1 1 0)) 38 5 (Z.1 1 5)) 38 7 (Z.1 1 7))) (p1_40 _) dX1_become_21 rfl (Nat.le_of_ble_eq_true rfl) (xfit_i _) rfl rfl ?_
  refine XW.aload_n 25 dX1_become_24 rfl rfl ?_
  refine XW.getf 28 (v := .ref 2) f1_15 dX1_become_25 rfl rfl rfl ?_
  refine XW.iconst 29 dX1_become_28 (v := 0) (by decide) rfl ?_
  refine XW.aload_n 30 dX1_become_29 rfl rfl ?_
  refine XW.getf 33 (v := .ref 39) f1_15 dX1_become_30 rfl rfl rfl ?_
  refine XW.iconst 34 dX1_become_33 (v := 0) (by decide) rfl ?_
  refine XW.aload_n 35 dX1_become_34 rfl rfl ?_
  refine XW.getf 38 (v := .ref 39) f1_15 dX1_become_35 rfl rfl rfl ?_
  refine XW.alen 39 (v := 60) dX1_become_38 rfl rfl rfl ?_
  refine XW.copy 42 (h' := HP (sA (sI (sI (sI Z 38 0 (Z.1 1 0)) 38 5 (Z.1 1 5)) 38 7 (Z.1 1 7)) 39 (va_cpy (Z.2.1 2) (Z.2.1 39) 0 0 60))) 60 c1_43 wC_n wC_s wC_i dX1_become_39 rfl rfl rfl rfl rfl (by decide) (by decide) (by decide) (by decide) rfl rfl ?_
  refine XW.aload_n 43 dX1_become_42 rfl rfl ?_
  refine XW.getf 46 (v := .ref 3) f1_19 dX1_become_43 rfl rfl rfl ?_
  refine XW.iconst 47 dX1_become_46 (v := 0) (by decide) rfl ?_
  refine XW.aload_n 48 dX1_become_47 rfl rfl ?_
  refine XW.getf 51 (v := .ref 40) f1_19 dX1_become_48 rfl rfl rfl ?_
  refine XW.iconst 52 dX1_become_51 (v := 0) (by decide) rfl ?_
  refine XW.aload_n 53 dX1_become_52 rfl rfl ?_
  refine XW.getf 56 (v := .ref 40) f1_19 dX1_become_53 rfl rfl rfl ?_
  refine XW.alen 57 (v := 3) dX1_become_56 rfl rfl rfl ?_
  refine XW.copy 60 (h' := HP (sA (sA (sI (sI (sI Z 38 0 (Z.1 1 0)) 38 5 (Z.1 1 5)) 38 7 (Z.1 1 7)) 39 (va_cpy (Z.2.1 2) (Z.2.1 39) 0 0 60)) 40 (va_cpy (Z.2.1 3) (Z.2.1 40) 0 0 3))) 3 c1_43 wC_n wC_s wC_i dX1_become_57 rfl rfl rfl rfl rfl (by decide) (by decide) (by decide) (by decide) rfl rfl ?_
  refine XW.aload_n 61 dX1_become_60 rfl rfl ?_
  refine XW.getf 64 (v := .ref 4) f1_28 dX1_become_61 rfl rfl rfl ?_
  refine XW.iconst 65 dX1_become_64 (v := 0) (by decide) rfl ?_
  refine XW.aload_n 66 dX1_become_65 rfl rfl ?_
  refine XW.getf 69 (v := .ref 41) f1_28 dX1_become_66 rfl rfl rfl ?_
  refine XW.iconst 70 dX1_become_69 (v := 0) (by decide) rfl ?_
  refine XW.aload_n 71 dX1_become_70 rfl rfl ?_
  refine XW.getf 74 (v := .ref 41) f1_28 dX1_become_71 rfl rfl rfl ?_
  refine XW.alen 75 (v := 52) dX1_become_74 rfl rfl rfl ?_
  refine XW.copy 78 (h' := HP (sA (sA (sA (sI (sI (sI Z 38 0 (Z.1 1 0)) 38 5 (Z.1 1 5)) 38 7 (Z.1 1 7)) 39 (va_cpy (Z.2.1 2) (Z.2.1 39) 0 0 60)) 40 (va_cpy (Z.2.1 3) (Z.2.1 40) 0 0 3)) 41 (va_cpy (Z.2.1 4) (Z.2.1 41) 0 0 52))) 52 c1_43 wC_n wC_s wC_i dX1_become_75 rfl rfl rfl rfl rfl (by decide) (by decide) (by decide) (by decide) rfl rfl ?_
  refine XW.aload_n 79 dX1_become_78 rfl rfl ?_
  refine XW.getf 82 (v := .ref 5) f1_31 dX1_become_79 rfl rfl rfl ?_
  refine XW.iconst 83 dX1_become_82 (v := 0) (by decide) rfl ?_
  refine XW.aload_n 84 dX1_become_83 rfl rfl ?_
  refine XW.getf 87 (v := .ref 42) f1_31 dX1_become_84 rfl rfl rfl ?_
  refine XW.iconst 88 dX1_become_87 (v := 0) (by decide) rfl ?_
  refine XW.aload_n 89 dX1_become_88 rfl rfl ?_
  refine XW.getf 92 (v := .ref 42) f1_31 dX1_become_89 rfl rfl rfl ?_
  refine XW.alen 93 (v := 3) dX1_become_92 rfl rfl rfl ?_
  refine XW.copy 96 (h' := HP (sA (sA (sA (sA (sI (sI (sI Z 38 0 (Z.1 1 0)) 38 5 (Z.1 1 5)) 38 7 (Z.1 1 7)) 39 (va_cpy (Z.2.1 2) (Z.2.1 39) 0 0 60)) 40 (va_cpy (Z.2.1 3) (Z.2.1 40) 0 0 3)) 41 (va_cpy (Z.2.1 4) (Z.2.1 41) 0 0 52)) 42 (va_cpy (Z.2.1 5) (Z.2.1 42) 0 0 3))) 3 c1_43 wC_n wC_s wC_i dX1_become_93 rfl rfl rfl rfl rfl (by decide) (by decide) (by decide) (by decide) rfl rfl ?_
  refine XW.aload_n 97 dX1_become_96 rfl rfl ?_
  refine XW.getf 100 (v := .ref 6) f1_37 dX1_become_97 rfl rfl rfl ?_
  refine XW.iconst 101 dX1_become_100 (v := 0) (by decide) rfl ?_
  refine XW.aload_n 102 dX1_become_101 rfl rfl ?_
  refine XW.getf 105 (v := .ref 43) f1_37 dX1_become_102 rfl rfl rfl ?_
  refine XW.iconst 106 dX1_become_105 (v := 0) (by decide) rfl ?_
  refine XW.aload_n 107 dX1_become_106 rfl rfl ?_
  refine XW.getf 110 (v := .ref 43) f1_37 dX1_become_107 rfl rfl rfl ?_
  refine XW.alen 111 (v := 8) dX1_become_110 rfl rfl rfl ?_
  refine XW.copy 114 (h' := HP (sA (sA (sA (sA (sA (sI (sI (sI Z 38 0 (Z.1 1 0)) 38 5 (Z.1 1 5)) 38 7 (Z.1 1 7)) 39 (va_cpy (Z.2.1 2) (Z.2.1 39) 0 0 60)) 40 (va_cpy (Z.2.1 3) (Z.2.1 40) 0 0 3)) 41 (va_cpy (Z.2.1 4) (Z.2.1 41) 0 0 52)) 42 (va_cpy (Z.2.1 5) (Z.2.1 42) 0 0 3)) 43 (va_cpy (Z.2.1 6) (Z.2.1 43) 0 0 8))) 8 c1_43 wC_n wC_s wC_i dX1_become_111 rfl rfl rfl rfl rfl (by decide) (by decide) (by decide) (by decide) rfl rfl ?_
  exact XW.vret dX1_become_114 trivial (⟨rfl, rfl⟩)
set_option maxHeartbeats 4000000 in
set_option maxRecDepth 100000 in
theorem c_become_1_38 {Z : xZ} : XC mX1_become 1 0 0 [.ref 1, .ref 38] (HP Z) (fun q h' => q = none ∧ h' = HP (becZ Z 1 38)) := by
  show XW mX1_become 1 0 0 0 [some (.ref 1), some (.ref 38)] [] (HP Z) _
  refine XW.aload_n 1 dX1_become_0 rfl rfl ?_
  refine XW.aload_n 2 dX1_become_1 rfl rfl ?_
  refine XW.getf 5 (v := .int (Z.1 38 0)) f1_9 dX1_become_2 rfl rfl rfl ?_
  refine XW.putf 8 (h' := HP (sI Z 1 0 (Z.1 38 0))) (p1_9 _) dX1_become_5 rfl (Nat.le_of_ble_eq_true rfl) (xfit_i _) rfl rfl ?_
  refine XW.aload_n 9 dX1_become_8 rfl rfl ?_
  refine XW.aload_n 10 dX1_become_9 rfl rfl ?_
  refine XW.getf 13 (v := .int (Z.1 38 5)) f1_34 dX1_become_10 rfl rfl rfl ?_
  refine XW.putf 16 (h' := HP (sI (sI Z 1 0 (Z.1 38 0)) 1 5 (Z.1 38 5))) (p1_34 _) dX1_become_13 rfl (Nat.le_of_ble_eq_true rfl) (xfit_i _) rfl rfl ?_
  refine XW.aload_n 17 dX1_become_16 rfl rfl ?_
  refine XW.aload_n 18 dX1_become_17 rfl rfl ?_
  refine XW.getf 21 (v := .int (Z.1 38 7)) f1_40 dX1_become_18 rfl rfl rfl ?_
  refine XW.putf 24 (h' := HP (sI (sI (sI Z 1 0 (Z.1 38 0)) 1 5 (Z.1 38 5)) 1 7 (Z.1 38 7))) (p1_40 _) dX1_become_21 rfl (Nat.le_of_ble_eq_true rfl) (xfit_i _) rfl rfl ?_
  refine XW.aload_n 25 dX1_become_24 rfl rfl ?_
  refine XW.getf 28 (v := .ref 39) f1_15 dX1_become_25 rfl rfl rfl ?_
  refine XW.iconst 29 dX1_become_28 (v := 0) (by decide) rfl ?_
  refine XW.aload_n 30 dX1_become_29 rfl rfl ?_
  refine XW.getf 33 (v := .ref 2) f1_15 dX1_become_30 rfl rfl rfl ?_
  refine XW.iconst 34 dX1_become_33 (v := 0) (by decide) rfl ?_
  refine XW.aload_n 35 dX1_become_34 rfl rfl ?_
  refine XW.getf 38 (v := .ref 2) f1_15 dX1_become_35 rfl rfl rfl ?_
  refine XW.alen 39 (v := 60) dX1_become_38 rfl rfl rfl ?_
  refine XW.copy 42 (h' := HP (sA (sI (sI (sI Z 1 0 (Z.1 38 0)) 1 5 (Z.1 38 5)) 1 7 (Z.1 38 7)) 2 (va_cpy (Z.2.1 39) (Z.2.1 2) 0 0 60))) 60 c1_43 wC_n wC_s wC_i dX1_become_39 rfl rfl rfl rfl rfl (by decide) (by decide) (by decide) (by decide) rfl rfl ?_
  refine XW.aload_n 43 dX1_become_42 rfl rfl ?_
  refine XW.getf 46 (v := .ref 40) f1_19 dX1_become_43 rfl rfl rfl ?_
  refine XW.iconst 47 dX1_become_46 (v := 0) (by decide) rfl ?_
  refine XW.aload_n 48 dX1_become_47 rfl rfl ?_
  refine XW.getf 51 (v := .ref 3) f1_19 dX1_become_48 rfl rfl rfl ?_
  refine XW.iconst 52 dX1_become_51 (v := 0) (by decide) rfl ?_
  refine XW.aload_n 53 dX1_become_52 rfl rfl ?_
  refine XW.getf 56 (v := .ref 3) f1_19 dX1_become_53 rfl rfl rfl ?_
  refine XW.alen 57 (v := 3) dX1_become_56 rfl rfl rfl ?_
  refine XW.copy 60 (h' := HP (sA (sA (sI (sI (sI Z 1 0 (Z.1 38 0)) 1 5 (Z.1 38 5)) 1 7 (Z.1 38 7)) 2 (va_cpy (Z.2.1 39) (Z.2.1 2) 0 0 60)) 3 (va_cpy (Z.2.1 40) (Z.2.1 3) 0 0 3))) 3 c1_43 wC_n wC_s wC_i dX1_become_57 rfl rfl rfl rfl rfl (by decide) (by decide) (by decide) (by decide) rfl rfl ?_
  refine XW.aload_n 61 dX1_become_60 rfl rfl ?_
  refine XW.getf 64 (v := .ref 41) f1_28 dX1_become_61 rfl rfl rfl ?_
  refine XW.iconst 65 dX1_become_64 (v := 0) (by decide) rfl ?_
  refine XW.aload_n 66 dX1_become_65 rfl rfl ?_
  refine XW.getf 69 (v := .ref 4) f1_28 dX1_become_66 rfl rfl rfl ?_
  refine XW.iconst 70 dX1_become_69 (v := 0) (by decide) rfl ?_
  refine XW.aload_n 71 dX1_become_70 rfl rfl ?_
  refine XW.getf 74 (v := .ref 4) f1_28 dX1_become_71 rfl rfl rfl ?_
  refine XW.alen 75 (v := 52) dX1_become_74 rfl rfl rfl ?_
  refine XW.copy 78 (h' := HP (sA (sA (sA (sI (sI (sI Z 1 0 (Z.1 38 0)) 1 5 (Z.1 38 5)) 1 7 (Z.1 38 7)) 2 (va_cpy (Z.2.1 39) (Z.2.1 2) 0 0 60)) 3 (va_cpy (Z.2.1 40) (Z.2.1 3) 0 0 3)) 4 (va_cpy (Z.2.1 41) (Z.2.1 4) 0 0 52))) 52 c1_43 wC_n wC_s wC_i dX1_become_75 rfl rfl rfl rfl rfl (by decide) (by decide) (by decide) (by decide) rfl rfl ?_
  refine XW.aload_n 79 dX1_become_78 rfl rfl ?_
  refine XW.getf 82 (v := .ref 42) f1_31 dX1_become_79 rfl rfl rfl ?_
  refine XW.iconst 83 dX1_become_82 (v := 0) (by decide) rfl ?_
  refine XW.aload_n 84 dX1_become_83 rfl rfl ?_
  refine XW.getf 87 (v := .ref 5) f1_31 dX1_become_84 rfl rfl rfl ?_
  refine XW.iconst 88 dX1_become_87 (v := 0) (by decide) rfl ?_
  refine XW.aload_n 89 dX1_become_88 rfl rfl ?_
  refine XW.getf 92 (v := .ref 5) f1_31 dX1_become_89 rfl rfl rfl ?_
  refine XW.alen 93 (v := 3) dX1_become_92 rfl rfl rfl ?_
  refine XW.copy 96 (h' := HP (sA (sA (sA (sA (sI (sI (sI Z 1 0 (Z.1 38 0)) 1 5 (Z.1 38 5)) 1 7 (Z.1 38 7)) 2 (va_cpy (Z.2.1 39) (Z.2.1 2) 0 0 60)) 3 (va_cpy (Z.2.1 40) (Z.2.1 3) 0 0 3)) 4 (va_cpy (Z.2.1 41) (Z.2.1 4) 0 0 52)) 5 (va_cpy (Z.2.1 42) (Z.2.1 5) 0 0 3))) 3 c1_43 wC_n wC_s wC_i dX1_become_93 rfl rfl rfl rfl rfl (by decide) (by decide) (by decide) (by decide) rfl rfl ?_
  refine XW.aload_n 97 dX1_become_96 rfl rfl ?_
  refine XW.getf 100 (v := .ref 43) f1_37 dX1_become_97 rfl rfl rfl ?_
  refine XW.iconst 101 dX1_become_100 (v := 0) (by decide) rfl ?_
  refine XW.aload_n 102 dX1_become_101 rfl rfl ?_
  refine XW.getf 105 (v := .ref 6) f1_37 dX1_become_102 rfl rfl rfl ?_
  refine XW.iconst 106 dX1_become_105 (v := 0) (by decide) rfl ?_
  refine XW.aload_n 107 dX1_become_106 rfl rfl ?_
  refine XW.getf 110 (v := .ref 6) f1_37 dX1_become_107 rfl rfl rfl ?_
  refine XW.alen 111 (v := 8) dX1_become_110 rfl rfl rfl ?_
  refine XW.copy 114 (h' := HP (sA (sA (sA (sA (sA (sI (sI (sI Z 1 0 (Z.1 38 0)) 1 5 (Z.1 38 5)) 1 7 (Z.1 38 7)) 2 (va_cpy (Z.2.1 39) (Z.2.1 2) 0 0 60)) 3 (va_cpy (Z.2.1 40) (Z.2.1 3) 0 0 3)) 4 (va_cpy (Z.2.1 41) (Z.2.1 4) 0 0 52)) 5 (va_cpy (Z.2.1 42) (Z.2.1 5) 0 0 3)) 6 (va_cpy (Z.2.1 43) (Z.2.1 6) 0 0 8))) 8 c1_43 wC_n wC_s wC_i dX1_become_111 rfl rfl rfl rfl rfl (by decide) (by decide) (by decide) (by decide) rfl rfl ?_
  exact XW.vret dX1_become_114 trivial (⟨rfl, rfl⟩)
theorem c_note {Z : xZ} {q j : Nat} (hq : q = 8 + 6 * j) (hj : j < 6) : XC mX1_become 1 0 0 [.ref q, .ref 1] (HP Z) (fun r h' => r = none ∧ h' = HP (becZ Z q 1)) := by
  subst hq
  match j, hj with
  | 0, _ => exact c_become_8_1
  | 1, _ => exact c_become_14_1
  | 2, _ => exact c_become_20_1
  | 3, _ => exact c_become_26_1
  | 4, _ => exact c_become_32_1
  | 5, _ => exact c_become_38_1
  | n + 6, h => omega
theorem c_unnote {Z : xZ} {q j : Nat} (hq : q = 8 + 6 * j) (hj : j < 6) : XC mX1_become 1 0 0 [.ref 1, .ref q] (HP Z) (fun r h' => r = none ∧ h' = HP (becZ Z 1 q)) := by
  subst hq
  match j, hj with
  | 0, _ => exact c_become_1_8
  | 1, _ => exact c_become_1_14
  | 2, _ => exact c_become_1_20
  | 3, _ => exact c_become_1_26
  | 4, _ => exact c_become_1_32
  | 5, _ => exact c_become_1_38
  | n + 6, h => omega
end
