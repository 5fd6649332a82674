section
/-- a private method of a class that the tables say can be made, by its rows of tables_1 -/
def lw_okq (q : MethodName × Nat) : Prop := (q.1.cls ≠ "java/lang/invoke/MethodHandle" ∧ q.1.cls ≠ "java/lang/invoke/VarHandle") ∧ Cond.instantiable q.1.cls q.2 ∈ tables_1 ∧ Cond.privateMethod q.1 ∈ tables_1 ∧ Cond.instanceMethod q.1 ∈ tables_1
theorem lw_p0 : lw_okq (⟨"PaletteTurns", "otherShades", "(II)I"⟩, 6) := ⟨⟨by decide +kernel, by decide +kernel⟩, List.mem_of_getElem? (i := 11) (by decide +kernel), List.mem_of_getElem? (i := 246) (by decide +kernel), List.mem_of_getElem? (i := 247) (by decide +kernel)⟩
theorem lw_p1 : lw_okq (⟨"PaletteTurns", "setShades", "(II)V"⟩, 6) := ⟨⟨by decide +kernel, by decide +kernel⟩, List.mem_of_getElem? (i := 11) (by decide +kernel), List.mem_of_getElem? (i := 250) (by decide +kernel), List.mem_of_getElem? (i := 251) (by decide +kernel)⟩
theorem lw_p2 : lw_okq (⟨"PaletteTurns", "findShades", "()V"⟩, 6) := ⟨⟨by decide +kernel, by decide +kernel⟩, List.mem_of_getElem? (i := 11) (by decide +kernel), List.mem_of_getElem? (i := 258) (by decide +kernel), List.mem_of_getElem? (i := 259) (by decide +kernel)⟩
theorem lw_p3 : lw_okq (⟨"PaletteTurns", "isRange", "(I)Z"⟩, 6) := ⟨⟨by decide +kernel, by decide +kernel⟩, List.mem_of_getElem? (i := 11) (by decide +kernel), List.mem_of_getElem? (i := 349) (by decide +kernel), List.mem_of_getElem? (i := 350) (by decide +kernel)⟩
theorem lw_p4 : lw_okq (⟨"PaletteTurns", "isGlow", "(I)Z"⟩, 6) := ⟨⟨by decide +kernel, by decide +kernel⟩, List.mem_of_getElem? (i := 11) (by decide +kernel), List.mem_of_getElem? (i := 387) (by decide +kernel), List.mem_of_getElem? (i := 388) (by decide +kernel)⟩
theorem lw_p5 : lw_okq (⟨"PaletteTurns", "flood", "(II)I"⟩, 6) := ⟨⟨by decide +kernel, by decide +kernel⟩, List.mem_of_getElem? (i := 11) (by decide +kernel), List.mem_of_getElem? (i := 505) (by decide +kernel), List.mem_of_getElem? (i := 506) (by decide +kernel)⟩
theorem lw_p6 : lw_okq (⟨"PaletteTurns", "enter", "(IIII)I"⟩, 6) := ⟨⟨by decide +kernel, by decide +kernel⟩, List.mem_of_getElem? (i := 11) (by decide +kernel), List.mem_of_getElem? (i := 509) (by decide +kernel), List.mem_of_getElem? (i := 510) (by decide +kernel)⟩
theorem lw_p7 : lw_okq (⟨"PaletteTurns", "differentColours", "()I"⟩, 6) := ⟨⟨by decide +kernel, by decide +kernel⟩, List.mem_of_getElem? (i := 11) (by decide +kernel), List.mem_of_getElem? (i := 561) (by decide +kernel), List.mem_of_getElem? (i := 562) (by decide +kernel)⟩
theorem lw_p8 : lw_okq (⟨"PaletteTurns", "markPlacesOfPicture", "()V"⟩, 6) := ⟨⟨by decide +kernel, by decide +kernel⟩, List.mem_of_getElem? (i := 11) (by decide +kernel), List.mem_of_getElem? (i := 565) (by decide +kernel), List.mem_of_getElem? (i := 566) (by decide +kernel)⟩
theorem lw_p9 : lw_okq (⟨"PaletteTurns", "isMarkedBefore", "(I)Z"⟩, 6) := ⟨⟨by decide +kernel, by decide +kernel⟩, List.mem_of_getElem? (i := 11) (by decide +kernel), List.mem_of_getElem? (i := 569) (by decide +kernel), List.mem_of_getElem? (i := 570) (by decide +kernel)⟩
theorem lw_p10 : lw_okq (⟨"PaletteTurns", "movingPixels", "()I"⟩, 6) := ⟨⟨by decide +kernel, by decide +kernel⟩, List.mem_of_getElem? (i := 11) (by decide +kernel), List.mem_of_getElem? (i := 573) (by decide +kernel), List.mem_of_getElem? (i := 574) (by decide +kernel)⟩
theorem lw_p11 : lw_okq (⟨"PaletteTurns", "markedPixels", "()I"⟩, 6) := ⟨⟨by decide +kernel, by decide +kernel⟩, List.mem_of_getElem? (i := 11) (by decide +kernel), List.mem_of_getElem? (i := 581) (by decide +kernel), List.mem_of_getElem? (i := 582) (by decide +kernel)⟩
theorem lw_p12 : lw_okq (⟨"PaletteTurns", "markMovingPlacesOfPicture", "()V"⟩, 6) := ⟨⟨by decide +kernel, by decide +kernel⟩, List.mem_of_getElem? (i := 11) (by decide +kernel), List.mem_of_getElem? (i := 622) (by decide +kernel), List.mem_of_getElem? (i := 623) (by decide +kernel)⟩
theorem lw_p13 : lw_okq (⟨"PaletteTurns", "markedPlacesShowShades", "(I)Z"⟩, 6) := ⟨⟨by decide +kernel, by decide +kernel⟩, List.mem_of_getElem? (i := 11) (by decide +kernel), List.mem_of_getElem? (i := 626) (by decide +kernel), List.mem_of_getElem? (i := 627) (by decide +kernel)⟩
theorem lw_p14 : lw_okq (⟨"PaletteTurns", "pixelDistance", "(II)I"⟩, 6) := ⟨⟨by decide +kernel, by decide +kernel⟩, List.mem_of_getElem? (i := 11) (by decide +kernel), List.mem_of_getElem? (i := 634) (by decide +kernel), List.mem_of_getElem? (i := 635) (by decide +kernel)⟩
theorem lw_p15 : lw_okq (⟨"PaletteTurnsModel", "record", "()V"⟩, 19) := ⟨⟨by decide +kernel, by decide +kernel⟩, List.mem_of_getElem? (i := 639) (by decide +kernel), List.mem_of_getElem? (i := 715) (by decide +kernel), List.mem_of_getElem? (i := 716) (by decide +kernel)⟩
def lw_privs_1 : List (MethodName × Nat) := [(⟨"PaletteTurns", "otherShades", "(II)I"⟩, 6), (⟨"PaletteTurns", "setShades", "(II)V"⟩, 6), (⟨"PaletteTurns", "findShades", "()V"⟩, 6), (⟨"PaletteTurns", "isRange", "(I)Z"⟩, 6), (⟨"PaletteTurns", "isGlow", "(I)Z"⟩, 6), (⟨"PaletteTurns", "flood", "(II)I"⟩, 6), (⟨"PaletteTurns", "enter", "(IIII)I"⟩, 6), (⟨"PaletteTurns", "differentColours", "()I"⟩, 6), (⟨"PaletteTurns", "markPlacesOfPicture", "()V"⟩, 6), (⟨"PaletteTurns", "isMarkedBefore", "(I)Z"⟩, 6), (⟨"PaletteTurns", "movingPixels", "()I"⟩, 6), (⟨"PaletteTurns", "markedPixels", "()I"⟩, 6), (⟨"PaletteTurns", "markMovingPlacesOfPicture", "()V"⟩, 6), (⟨"PaletteTurns", "markedPlacesShowShades", "(I)Z"⟩, 6), (⟨"PaletteTurns", "pixelDistance", "(II)I"⟩, 6), (⟨"PaletteTurnsModel", "record", "()V"⟩, 19)]
theorem lw_r1 : ∀ q ∈ lw_privs_1, lw_okq q := List.forall_mem_cons.mpr ⟨lw_p0, List.forall_mem_cons.mpr ⟨lw_p1, List.forall_mem_cons.mpr ⟨lw_p2, List.forall_mem_cons.mpr ⟨lw_p3, List.forall_mem_cons.mpr ⟨lw_p4, List.forall_mem_cons.mpr ⟨lw_p5, List.forall_mem_cons.mpr ⟨lw_p6, List.forall_mem_cons.mpr ⟨lw_p7, List.forall_mem_cons.mpr ⟨lw_p8, List.forall_mem_cons.mpr ⟨lw_p9, List.forall_mem_cons.mpr ⟨lw_p10, List.forall_mem_cons.mpr ⟨lw_p11, List.forall_mem_cons.mpr ⟨lw_p12, List.forall_mem_cons.mpr ⟨lw_p13, List.forall_mem_cons.mpr ⟨lw_p14, List.forall_mem_cons.mpr ⟨lw_p15, fun _ h => absurd h List.not_mem_nil⟩⟩⟩⟩⟩⟩⟩⟩⟩⟩⟩⟩⟩⟩⟩⟩
theorem lw_p16 : lw_okq (⟨"PaletteTurnsModel", "blended", "(IIIII)I"⟩, 19) := ⟨⟨by decide +kernel, by decide +kernel⟩, List.mem_of_getElem? (i := 639) (by decide +kernel), List.mem_of_getElem? (i := 737) (by decide +kernel), List.mem_of_getElem? (i := 738) (by decide +kernel)⟩
theorem lw_p17 : lw_okq (⟨"PaletteTurnsModel", "show", "()V"⟩, 19) := ⟨⟨by decide +kernel, by decide +kernel⟩, List.mem_of_getElem? (i := 639) (by decide +kernel), List.mem_of_getElem? (i := 751) (by decide +kernel), List.mem_of_getElem? (i := 752) (by decide +kernel)⟩
theorem lw_p18 : lw_okq (⟨"PaletteTurnsModel", "shownAt", "(I)I"⟩, 19) := ⟨⟨by decide +kernel, by decide +kernel⟩, List.mem_of_getElem? (i := 639) (by decide +kernel), List.mem_of_getElem? (i := 755) (by decide +kernel), List.mem_of_getElem? (i := 756) (by decide +kernel)⟩
theorem lw_p19 : lw_okq (⟨"PaletteTurnsModel", "glowAt", "(I)I"⟩, 19) := ⟨⟨by decide +kernel, by decide +kernel⟩, List.mem_of_getElem? (i := 639) (by decide +kernel), List.mem_of_getElem? (i := 759) (by decide +kernel), List.mem_of_getElem? (i := 760) (by decide +kernel)⟩
theorem lw_p20 : lw_okq (⟨"PaletteTurnsModel", "ofGlow", "(II)I"⟩, 19) := ⟨⟨by decide +kernel, by decide +kernel⟩, List.mem_of_getElem? (i := 639) (by decide +kernel), List.mem_of_getElem? (i := 763) (by decide +kernel), List.mem_of_getElem? (i := 764) (by decide +kernel)⟩
theorem lw_p21 : lw_okq (⟨"PaletteTurnsModel", "turned", "(I)I"⟩, 19) := ⟨⟨by decide +kernel, by decide +kernel⟩, List.mem_of_getElem? (i := 639) (by decide +kernel), List.mem_of_getElem? (i := 767) (by decide +kernel), List.mem_of_getElem? (i := 768) (by decide +kernel)⟩
theorem lw_p22 : lw_okq (⟨"PaletteTurnsModel", "rangeAt", "(I)I"⟩, 19) := ⟨⟨by decide +kernel, by decide +kernel⟩, List.mem_of_getElem? (i := 639) (by decide +kernel), List.mem_of_getElem? (i := 771) (by decide +kernel), List.mem_of_getElem? (i := 772) (by decide +kernel)⟩
theorem lw_p23 : lw_okq (⟨"PaletteTurnsModel", "of", "(II)I"⟩, 19) := ⟨⟨by decide +kernel, by decide +kernel⟩, List.mem_of_getElem? (i := 639) (by decide +kernel), List.mem_of_getElem? (i := 775) (by decide +kernel), List.mem_of_getElem? (i := 776) (by decide +kernel)⟩
theorem lw_p24 : lw_okq (⟨"PaletteTurnsModel", "turn", "(I)I"⟩, 19) := ⟨⟨by decide +kernel, by decide +kernel⟩, List.mem_of_getElem? (i := 639) (by decide +kernel), List.mem_of_getElem? (i := 779) (by decide +kernel), List.mem_of_getElem? (i := 780) (by decide +kernel)⟩
theorem lw_p25 : lw_okq (⟨"PaletteTurnsModel", "places", "(I)I"⟩, 19) := ⟨⟨by decide +kernel, by decide +kernel⟩, List.mem_of_getElem? (i := 639) (by decide +kernel), List.mem_of_getElem? (i := 783) (by decide +kernel), List.mem_of_getElem? (i := 784) (by decide +kernel)⟩
theorem lw_p26 : lw_okq (⟨"PaletteTurnsModel", "strength", "(I)I"⟩, 19) := ⟨⟨by decide +kernel, by decide +kernel⟩, List.mem_of_getElem? (i := 639) (by decide +kernel), List.mem_of_getElem? (i := 790) (by decide +kernel), List.mem_of_getElem? (i := 791) (by decide +kernel)⟩
theorem lw_p27 : lw_okq (⟨"PaletteTurnsModel", "isTaken", "(II)Z"⟩, 19) := ⟨⟨by decide +kernel, by decide +kernel⟩, List.mem_of_getElem? (i := 639) (by decide +kernel), List.mem_of_getElem? (i := 798) (by decide +kernel), List.mem_of_getElem? (i := 799) (by decide +kernel)⟩
theorem lw_p28 : lw_okq (⟨"PaletteTurnsModel", "isRange", "(I)Z"⟩, 19) := ⟨⟨by decide +kernel, by decide +kernel⟩, List.mem_of_getElem? (i := 639) (by decide +kernel), List.mem_of_getElem? (i := 806) (by decide +kernel), List.mem_of_getElem? (i := 807) (by decide +kernel)⟩
theorem lw_p29 : lw_okq (⟨"PaletteTurnsModel", "running", "()I"⟩, 19) := ⟨⟨by decide +kernel, by decide +kernel⟩, List.mem_of_getElem? (i := 639) (by decide +kernel), List.mem_of_getElem? (i := 818) (by decide +kernel), List.mem_of_getElem? (i := 819) (by decide +kernel)⟩
theorem lw_p30 : lw_okq (⟨"PaletteTurnsModel", "isGlow", "(I)Z"⟩, 19) := ⟨⟨by decide +kernel, by decide +kernel⟩, List.mem_of_getElem? (i := 639) (by decide +kernel), List.mem_of_getElem? (i := 830) (by decide +kernel), List.mem_of_getElem? (i := 831) (by decide +kernel)⟩
theorem lw_p31 : lw_okq (⟨"PaletteTurnsModel", "ticks", "(I)V"⟩, 19) := ⟨⟨by decide +kernel, by decide +kernel⟩, List.mem_of_getElem? (i := 639) (by decide +kernel), List.mem_of_getElem? (i := 838) (by decide +kernel), List.mem_of_getElem? (i := 839) (by decide +kernel)⟩
def lw_privs_2 : List (MethodName × Nat) := [(⟨"PaletteTurnsModel", "blended", "(IIIII)I"⟩, 19), (⟨"PaletteTurnsModel", "show", "()V"⟩, 19), (⟨"PaletteTurnsModel", "shownAt", "(I)I"⟩, 19), (⟨"PaletteTurnsModel", "glowAt", "(I)I"⟩, 19), (⟨"PaletteTurnsModel", "ofGlow", "(II)I"⟩, 19), (⟨"PaletteTurnsModel", "turned", "(I)I"⟩, 19), (⟨"PaletteTurnsModel", "rangeAt", "(I)I"⟩, 19), (⟨"PaletteTurnsModel", "of", "(II)I"⟩, 19), (⟨"PaletteTurnsModel", "turn", "(I)I"⟩, 19), (⟨"PaletteTurnsModel", "places", "(I)I"⟩, 19), (⟨"PaletteTurnsModel", "strength", "(I)I"⟩, 19), (⟨"PaletteTurnsModel", "isTaken", "(II)Z"⟩, 19), (⟨"PaletteTurnsModel", "isRange", "(I)Z"⟩, 19), (⟨"PaletteTurnsModel", "running", "()I"⟩, 19), (⟨"PaletteTurnsModel", "isGlow", "(I)Z"⟩, 19), (⟨"PaletteTurnsModel", "ticks", "(I)V"⟩, 19)]
theorem lw_r2 : ∀ q ∈ lw_privs_2, lw_okq q := List.forall_mem_cons.mpr ⟨lw_p16, List.forall_mem_cons.mpr ⟨lw_p17, List.forall_mem_cons.mpr ⟨lw_p18, List.forall_mem_cons.mpr ⟨lw_p19, List.forall_mem_cons.mpr ⟨lw_p20, List.forall_mem_cons.mpr ⟨lw_p21, List.forall_mem_cons.mpr ⟨lw_p22, List.forall_mem_cons.mpr ⟨lw_p23, List.forall_mem_cons.mpr ⟨lw_p24, List.forall_mem_cons.mpr ⟨lw_p25, List.forall_mem_cons.mpr ⟨lw_p26, List.forall_mem_cons.mpr ⟨lw_p27, List.forall_mem_cons.mpr ⟨lw_p28, List.forall_mem_cons.mpr ⟨lw_p29, List.forall_mem_cons.mpr ⟨lw_p30, List.forall_mem_cons.mpr ⟨lw_p31, fun _ h => absurd h List.not_mem_nil⟩⟩⟩⟩⟩⟩⟩⟩⟩⟩⟩⟩⟩⟩⟩⟩
theorem lw_p32 : lw_okq (⟨"PaletteTurnsModel", "tick", "()V"⟩, 19) := ⟨⟨by decide +kernel, by decide +kernel⟩, List.mem_of_getElem? (i := 639) (by decide +kernel), List.mem_of_getElem? (i := 842) (by decide +kernel), List.mem_of_getElem? (i := 843) (by decide +kernel)⟩
theorem lw_p33 : lw_okq (⟨"PaletteTurnsModel", "tickRange", "(I)V"⟩, 19) := ⟨⟨by decide +kernel, by decide +kernel⟩, List.mem_of_getElem? (i := 639) (by decide +kernel), List.mem_of_getElem? (i := 846) (by decide +kernel), List.mem_of_getElem? (i := 847) (by decide +kernel)⟩
theorem lw_p34 : lw_okq (⟨"PaletteTurnsModel", "step", "(I)V"⟩, 19) := ⟨⟨by decide +kernel, by decide +kernel⟩, List.mem_of_getElem? (i := 639) (by decide +kernel), List.mem_of_getElem? (i := 850) (by decide +kernel), List.mem_of_getElem? (i := 851) (by decide +kernel)⟩
theorem lw_p35 : lw_okq (⟨"PaletteTurnsModel", "isProgram", "()Z"⟩, 19) := ⟨⟨by decide +kernel, by decide +kernel⟩, List.mem_of_getElem? (i := 639) (by decide +kernel), List.mem_of_getElem? (i := 866) (by decide +kernel), List.mem_of_getElem? (i := 867) (by decide +kernel)⟩
theorem lw_p36 : lw_okq (⟨"PaletteTurnsModel", "isAt", "(III)Z"⟩, 19) := ⟨⟨by decide +kernel, by decide +kernel⟩, List.mem_of_getElem? (i := 639) (by decide +kernel), List.mem_of_getElem? (i := 870) (by decide +kernel), List.mem_of_getElem? (i := 871) (by decide +kernel)⟩
theorem lw_p37 : lw_okq (⟨"PaletteTurnsModel", "readRepeat", "()Z"⟩, 19) := ⟨⟨by decide +kernel, by decide +kernel⟩, List.mem_of_getElem? (i := 639) (by decide +kernel), List.mem_of_getElem? (i := 874) (by decide +kernel), List.mem_of_getElem? (i := 875) (by decide +kernel)⟩
theorem lw_p38 : lw_okq (⟨"PaletteTurnsModel", "readEnd", "()Z"⟩, 19) := ⟨⟨by decide +kernel, by decide +kernel⟩, List.mem_of_getElem? (i := 639) (by decide +kernel), List.mem_of_getElem? (i := 881) (by decide +kernel), List.mem_of_getElem? (i := 882) (by decide +kernel)⟩
theorem lw_p39 : lw_okq (⟨"PaletteTurnsModel", "readItem", "()Z"⟩, 19) := ⟨⟨by decide +kernel, by decide +kernel⟩, List.mem_of_getElem? (i := 639) (by decide +kernel), List.mem_of_getElem? (i := 885) (by decide +kernel), List.mem_of_getElem? (i := 886) (by decide +kernel)⟩
theorem lw_p40 : lw_okq (⟨"PaletteTurnsModel", "readTicks", "()Z"⟩, 19) := ⟨⟨by decide +kernel, by decide +kernel⟩, List.mem_of_getElem? (i := 639) (by decide +kernel), List.mem_of_getElem? (i := 889) (by decide +kernel), List.mem_of_getElem? (i := 890) (by decide +kernel)⟩
theorem lw_p41 : lw_okq (⟨"PaletteTurnsModel", "number", "()I"⟩, 19) := ⟨⟨by decide +kernel, by decide +kernel⟩, List.mem_of_getElem? (i := 639) (by decide +kernel), List.mem_of_getElem? (i := 893) (by decide +kernel), List.mem_of_getElem? (i := 894) (by decide +kernel)⟩
theorem lw_p42 : lw_okq (⟨"PaletteTurnsModel", "readRange", "()Z"⟩, 19) := ⟨⟨by decide +kernel, by decide +kernel⟩, List.mem_of_getElem? (i := 639) (by decide +kernel), List.mem_of_getElem? (i := 897) (by decide +kernel), List.mem_of_getElem? (i := 898) (by decide +kernel)⟩
theorem lw_p43 : lw_okq (⟨"PaletteTurnsModel", "carryOut", "()V"⟩, 19) := ⟨⟨by decide +kernel, by decide +kernel⟩, List.mem_of_getElem? (i := 639) (by decide +kernel), List.mem_of_getElem? (i := 901) (by decide +kernel), List.mem_of_getElem? (i := 902) (by decide +kernel)⟩
theorem lw_p44 : lw_okq (⟨"PaletteTurnsModel", "carryOutItem", "()V"⟩, 19) := ⟨⟨by decide +kernel, by decide +kernel⟩, List.mem_of_getElem? (i := 639) (by decide +kernel), List.mem_of_getElem? (i := 905) (by decide +kernel), List.mem_of_getElem? (i := 906) (by decide +kernel)⟩
theorem lw_p45 : lw_okq (⟨"PaletteTurnsModel", "pixelAt", "(II)I"⟩, 19) := ⟨⟨by decide +kernel, by decide +kernel⟩, List.mem_of_getElem? (i := 639) (by decide +kernel), List.mem_of_getElem? (i := 916) (by decide +kernel), List.mem_of_getElem? (i := 917) (by decide +kernel)⟩
theorem lw_p46 : lw_okq (⟨"PaletteTurnsModel", "mark", "(I)I"⟩, 19) := ⟨⟨by decide +kernel, by decide +kernel⟩, List.mem_of_getElem? (i := 639) (by decide +kernel), List.mem_of_getElem? (i := 924) (by decide +kernel), List.mem_of_getElem? (i := 925) (by decide +kernel)⟩
theorem lw_p47 : lw_okq (⟨"PaletteTurnsModel", "hasMarkedNeighbour", "(I)Z"⟩, 19) := ⟨⟨by decide +kernel, by decide +kernel⟩, List.mem_of_getElem? (i := 639) (by decide +kernel), List.mem_of_getElem? (i := 928) (by decide +kernel), List.mem_of_getElem? (i := 929) (by decide +kernel)⟩
def lw_privs_3 : List (MethodName × Nat) := [(⟨"PaletteTurnsModel", "tick", "()V"⟩, 19), (⟨"PaletteTurnsModel", "tickRange", "(I)V"⟩, 19), (⟨"PaletteTurnsModel", "step", "(I)V"⟩, 19), (⟨"PaletteTurnsModel", "isProgram", "()Z"⟩, 19), (⟨"PaletteTurnsModel", "isAt", "(III)Z"⟩, 19), (⟨"PaletteTurnsModel", "readRepeat", "()Z"⟩, 19), (⟨"PaletteTurnsModel", "readEnd", "()Z"⟩, 19), (⟨"PaletteTurnsModel", "readItem", "()Z"⟩, 19), (⟨"PaletteTurnsModel", "readTicks", "()Z"⟩, 19), (⟨"PaletteTurnsModel", "number", "()I"⟩, 19), (⟨"PaletteTurnsModel", "readRange", "()Z"⟩, 19), (⟨"PaletteTurnsModel", "carryOut", "()V"⟩, 19), (⟨"PaletteTurnsModel", "carryOutItem", "()V"⟩, 19), (⟨"PaletteTurnsModel", "pixelAt", "(II)I"⟩, 19), (⟨"PaletteTurnsModel", "mark", "(I)I"⟩, 19), (⟨"PaletteTurnsModel", "hasMarkedNeighbour", "(I)Z"⟩, 19)]
theorem lw_r3 : ∀ q ∈ lw_privs_3, lw_okq q := List.forall_mem_cons.mpr ⟨lw_p32, List.forall_mem_cons.mpr ⟨lw_p33, List.forall_mem_cons.mpr ⟨lw_p34, List.forall_mem_cons.mpr ⟨lw_p35, List.forall_mem_cons.mpr ⟨lw_p36, List.forall_mem_cons.mpr ⟨lw_p37, List.forall_mem_cons.mpr ⟨lw_p38, List.forall_mem_cons.mpr ⟨lw_p39, List.forall_mem_cons.mpr ⟨lw_p40, List.forall_mem_cons.mpr ⟨lw_p41, List.forall_mem_cons.mpr ⟨lw_p42, List.forall_mem_cons.mpr ⟨lw_p43, List.forall_mem_cons.mpr ⟨lw_p44, List.forall_mem_cons.mpr ⟨lw_p45, List.forall_mem_cons.mpr ⟨lw_p46, List.forall_mem_cons.mpr ⟨lw_p47, fun _ h => absurd h List.not_mem_nil⟩⟩⟩⟩⟩⟩⟩⟩⟩⟩⟩⟩⟩⟩⟩⟩
theorem lw_p48 : lw_okq (⟨"PaletteTurnsModel", "placesInRanges", "()I"⟩, 19) := ⟨⟨by decide +kernel, by decide +kernel⟩, List.mem_of_getElem? (i := 639) (by decide +kernel), List.mem_of_getElem? (i := 956) (by decide +kernel), List.mem_of_getElem? (i := 957) (by decide +kernel)⟩
theorem lw_p49 : lw_okq (⟨"PaletteTurnsModel", "coloursInPicture", "()I"⟩, 19) := ⟨⟨by decide +kernel, by decide +kernel⟩, List.mem_of_getElem? (i := 639) (by decide +kernel), List.mem_of_getElem? (i := 960) (by decide +kernel), List.mem_of_getElem? (i := 961) (by decide +kernel)⟩
theorem lw_p50 : lw_okq (⟨"PaletteTurnsModel", "livelyPixels", "()I"⟩, 19) := ⟨⟨by decide +kernel, by decide +kernel⟩, List.mem_of_getElem? (i := 639) (by decide +kernel), List.mem_of_getElem? (i := 964) (by decide +kernel), List.mem_of_getElem? (i := 965) (by decide +kernel)⟩
theorem lw_p51 : lw_okq (⟨"PaletteTurnsModel", "putAside", "()V"⟩, 19) := ⟨⟨by decide +kernel, by decide +kernel⟩, List.mem_of_getElem? (i := 639) (by decide +kernel), List.mem_of_getElem? (i := 972) (by decide +kernel), List.mem_of_getElem? (i := 973) (by decide +kernel)⟩
theorem lw_p52 : lw_okq (⟨"PaletteTurnsModel", "putBack", "()V"⟩, 19) := ⟨⟨by decide +kernel, by decide +kernel⟩, List.mem_of_getElem? (i := 639) (by decide +kernel), List.mem_of_getElem? (i := 976) (by decide +kernel), List.mem_of_getElem? (i := 977) (by decide +kernel)⟩
theorem lw_p53 : lw_okq (⟨"PaletteTurnsModel", "notePicture", "()V"⟩, 19) := ⟨⟨by decide +kernel, by decide +kernel⟩, List.mem_of_getElem? (i := 639) (by decide +kernel), List.mem_of_getElem? (i := 1001) (by decide +kernel), List.mem_of_getElem? (i := 1002) (by decide +kernel)⟩
theorem lw_p54 : lw_okq (⟨"PaletteTurnsModel", "otherPixels", "()I"⟩, 19) := ⟨⟨by decide +kernel, by decide +kernel⟩, List.mem_of_getElem? (i := 639) (by decide +kernel), List.mem_of_getElem? (i := 1005) (by decide +kernel), List.mem_of_getElem? (i := 1006) (by decide +kernel)⟩
def lw_privs_4 : List (MethodName × Nat) := [(⟨"PaletteTurnsModel", "placesInRanges", "()I"⟩, 19), (⟨"PaletteTurnsModel", "coloursInPicture", "()I"⟩, 19), (⟨"PaletteTurnsModel", "livelyPixels", "()I"⟩, 19), (⟨"PaletteTurnsModel", "putAside", "()V"⟩, 19), (⟨"PaletteTurnsModel", "putBack", "()V"⟩, 19), (⟨"PaletteTurnsModel", "notePicture", "()V"⟩, 19), (⟨"PaletteTurnsModel", "otherPixels", "()I"⟩, 19)]
theorem lw_r4 : ∀ q ∈ lw_privs_4, lw_okq q := List.forall_mem_cons.mpr ⟨lw_p48, List.forall_mem_cons.mpr ⟨lw_p49, List.forall_mem_cons.mpr ⟨lw_p50, List.forall_mem_cons.mpr ⟨lw_p51, List.forall_mem_cons.mpr ⟨lw_p52, List.forall_mem_cons.mpr ⟨lw_p53, List.forall_mem_cons.mpr ⟨lw_p54, fun _ h => absurd h List.not_mem_nil⟩⟩⟩⟩⟩⟩⟩
def lw_privs : List (MethodName × Nat) := lw_privs_1 ++ (lw_privs_2 ++ (lw_privs_3 ++ (lw_privs_4)))
def lw_tbl : List Cond := k2_sels lw_privs ++ tables_1
theorem lw_privs_ok : ∀ q ∈ lw_privs, lw_okq q := by
  show ∀ q ∈ lw_privs_1 ++ (lw_privs_2 ++ (lw_privs_3 ++ (lw_privs_4))), lw_okq q
  exact List.forall_mem_append.mpr ⟨lw_r1, List.forall_mem_append.mpr ⟨lw_r2, List.forall_mem_append.mpr ⟨lw_r3, lw_r4⟩⟩⟩
end
section
def RX0 : String := "PaletteTurns$Glow"
def TX0 : u_T := fun k => match k with
  | 0 => ("PaletteTurns$Glow", "place", "I", false)
  | 1 => ("PaletteTurns$Glow", "colour", "I", false)
  | 2 => ("PaletteTurns$Glow", "length", "I", false)
  | _ => ("PaletteTurns$Glow", "ticks", "I", false)
def tyX0 : Nat → FieldType := fun k => match k with
  | 0 => .int
  | 1 => .int
  | 2 => .int
  | _ => .int
abbrev wsX00 : List Cond := u_ws RX0 TX0 4
theorem nmX0 : ∀ a, a < 4 → ∀ b, b < 4 → a ≠ b → (TX0 a).2.1 ≠ (TX0 b).2.1 := by decide +kernel
theorem tyX0_ok : ∀ k, k < 4 → parseFieldDescriptor (TX0 k).2.2.1 = some (tyX0 k) := by decide +kernel
abbrev cX0_init : ByteArray := prog_2_method_1_code
def yX0_init : MethodName := ⟨RX0, "<init>", "()V"⟩
abbrev cX0_begin : ByteArray := prog_2_method_2_code
def yX0_begin : MethodName := ⟨RX0, "begin", "(III)V"⟩
abbrev cX0_copy : ByteArray := prog_2_method_3_code
def yX0_copy : MethodName := ⟨RX0, "copy", "(LPaletteTurns$Glow;)V"⟩
abbrev cX0_fullTicks : ByteArray := prog_2_method_4_code
def yX0_fullTicks : MethodName := ⟨RX0, "fullTicks", "()I"⟩
abbrev cX0_advance : ByteArray := prog_2_method_5_code
def yX0_advance : MethodName := ⟨RX0, "advance", "(I)V"⟩
abbrev cX0_strength : ByteArray := prog_2_method_6_code
def yX0_strength : MethodName := ⟨RX0, "strength", "(I)I"⟩
abbrev cX0_shade : ByteArray := prog_2_method_7_code
def yX0_shade : MethodName := ⟨RX0, "shade", "(II)I"⟩
def RX1 : String := "PaletteTurns$History"
def TX1 : u_T := fun k => match k with
  | 0 => ("PaletteTurns$History", "states", "[LPaletteTurns$State;", true)
  | 1 => ("PaletteTurns$History", "snapshot", "LPaletteTurns$State;", true)
  | 2 => ("PaletteTurns$History", "count", "I", false)
  | _ => ("PaletteTurns$History", "hasSnapshot", "Z", false)
def tyX1 : Nat → FieldType := fun k => match k with
  | 0 => .array (.object "PaletteTurns$State")
  | 1 => .object "PaletteTurns$State"
  | 2 => .int
  | _ => .boolean
abbrev wsX10 : List Cond := u_ws RX1 TX1 4
theorem nmX1 : ∀ a, a < 4 → ∀ b, b < 4 → a ≠ b → (TX1 a).2.1 ≠ (TX1 b).2.1 := by decide +kernel
theorem tyX1_ok : ∀ k, k < 4 → parseFieldDescriptor (TX1 k).2.2.1 = some (tyX1 k) := by decide +kernel
abbrev cX1_init : ByteArray := prog_3_method_1_code
def yX1_init : MethodName := ⟨RX1, "<init>", "()V"⟩
abbrev cX1_record : ByteArray := prog_3_method_2_code
def yX1_record : MethodName := ⟨RX1, "record", "(LPaletteTurns$State;)V"⟩
abbrev cX1_dropOldest : ByteArray := prog_3_method_3_code
def yX1_dropOldest : MethodName := ⟨RX1, "dropOldest", "()V"⟩
abbrev cX1_takeBack : ByteArray := prog_3_method_4_code
def yX1_takeBack : MethodName := ⟨RX1, "takeBack", "(LPaletteTurns$State;)V"⟩
def RX2 : String := "PaletteTurns$Program"
def TX2 : u_T := fun k => match k with
  | 0 => ("PaletteTurns$Program", "signs", "[C", true)
  | 1 => ("PaletteTurns$Program", "starts", "[I", true)
  | 2 => ("PaletteTurns$Program", "times", "[I", true)
  | 3 => ("PaletteTurns$Program", "length", "I", false)
  | 4 => ("PaletteTurns$Program", "ticks", "I", false)
  | _ => ("PaletteTurns$Program", "items", "I", false)
def tyX2 : Nat → FieldType := fun k => match k with
  | 0 => .array .char
  | 1 => .array .int
  | 2 => .array .int
  | 3 => .int
  | 4 => .int
  | _ => .int
abbrev wsX20 : List Cond := u_ws RX2 TX2 6
theorem nmX2 : ∀ a, a < 6 → ∀ b, b < 6 → a ≠ b → (TX2 a).2.1 ≠ (TX2 b).2.1 := by decide +kernel
theorem tyX2_ok : ∀ k, k < 6 → parseFieldDescriptor (TX2 k).2.2.1 = some (tyX2 k) := by decide +kernel
abbrev cX2_init : ByteArray := prog_4_method_1_code
def yX2_init : MethodName := ⟨RX2, "<init>", "()V"⟩
abbrev cX2_append : ByteArray := prog_4_method_2_code
def yX2_append : MethodName := ⟨RX2, "append", "(C)V"⟩
abbrev cX2_signAt : ByteArray := prog_4_method_3_code
def yX2_signAt : MethodName := ⟨RX2, "signAt", "(I)C"⟩
abbrev cX2_isDigit : ByteArray := prog_4_method_4_code
def yX2_isDigit : MethodName := ⟨RX2, "isDigit", "(CCC)Z"⟩
abbrev cX2_isRepeat : ByteArray := prog_4_method_5_code
def yX2_isRepeat : MethodName := ⟨RX2, "isRepeat", "(C)Z"⟩
abbrev cX2_isForRange : ByteArray := prog_4_method_6_code
def yX2_isForRange : MethodName := ⟨RX2, "isForRange", "(C)Z"⟩
abbrev cX2_isBeginning : ByteArray := prog_4_method_7_code
def yX2_isBeginning : MethodName := ⟨RX2, "isBeginning", "(C)Z"⟩
abbrev cX2_isAllowedBehind : ByteArray := prog_4_method_8_code
def yX2_isAllowedBehind : MethodName := ⟨RX2, "isAllowedBehind", "(CC)Z"⟩
abbrev cX2_behind : ByteArray := prog_4_method_9_code
def yX2_behind : MethodName := ⟨RX2, "behind", "(I)I"⟩
abbrev cX2_digitAt : ByteArray := prog_4_method_10_code
def yX2_digitAt : MethodName := ⟨RX2, "digitAt", "(I)I"⟩
abbrev cX2_numberAt : ByteArray := prog_4_method_11_code
def yX2_numberAt : MethodName := ⟨RX2, "numberAt", "(I)I"⟩
abbrev cX2_fault : ByteArray := prog_4_method_12_code
def yX2_fault : MethodName := ⟨RX2, "fault", "()I"⟩
abbrev cX2_highestRange : ByteArray := prog_4_method_13_code
def yX2_highestRange : MethodName := ⟨RX2, "highestRange", "()I"⟩
abbrev cX2_count : ByteArray := prog_4_method_14_code
def yX2_count : MethodName := ⟨RX2, "count", "()V"⟩
abbrev cX2_carryOut : ByteArray := prog_4_method_15_code
def yX2_carryOut : MethodName := ⟨RX2, "carryOut", "(LPaletteTurns$State;)V"⟩
abbrev cX2_carryOutItem : ByteArray := prog_4_method_16_code
def yX2_carryOutItem : MethodName := ⟨RX2, "carryOutItem", "(ILPaletteTurns$State;)V"⟩
def RX3 : String := "PaletteTurns$Range"
def TX3 : u_T := fun k => match k with
  | 0 => ("PaletteTurns$Range", "first", "I", false)
  | 1 => ("PaletteTurns$Range", "last", "I", false)
  | 2 => ("PaletteTurns$Range", "speed", "I", false)
  | 3 => ("PaletteTurns$Range", "way", "I", false)
  | 4 => ("PaletteTurns$Range", "runs", "Z", false)
  | 5 => ("PaletteTurns$Range", "ticks", "I", false)
  | _ => ("PaletteTurns$Range", "steps", "I", false)
def tyX3 : Nat → FieldType := fun k => match k with
  | 0 => .int
  | 1 => .int
  | 2 => .int
  | 3 => .int
  | 4 => .boolean
  | 5 => .int
  | _ => .int
abbrev wsX30 : List Cond := u_ws RX3 TX3 7
theorem nmX3 : ∀ a, a < 7 → ∀ b, b < 7 → a ≠ b → (TX3 a).2.1 ≠ (TX3 b).2.1 := by decide +kernel
theorem tyX3_ok : ∀ k, k < 7 → parseFieldDescriptor (TX3 k).2.2.1 = some (tyX3 k) := by decide +kernel
abbrev cX3_init : ByteArray := prog_5_method_1_code
def yX3_init : MethodName := ⟨RX3, "<init>", "()V"⟩
abbrev cX3_begin : ByteArray := prog_5_method_2_code
def yX3_begin : MethodName := ⟨RX3, "begin", "(IIII)V"⟩
abbrev cX3_changeSpeed : ByteArray := prog_5_method_3_code
def yX3_changeSpeed : MethodName := ⟨RX3, "changeSpeed", "(II)V"⟩
abbrev cX3_beginAgain : ByteArray := prog_5_method_4_code
def yX3_beginAgain : MethodName := ⟨RX3, "beginAgain", "()V"⟩
abbrev cX3_copy : ByteArray := prog_5_method_5_code
def yX3_copy : MethodName := ⟨RX3, "copy", "(LPaletteTurns$Range;)V"⟩
abbrev cX3_holds : ByteArray := prog_5_method_6_code
def yX3_holds : MethodName := ⟨RX3, "holds", "(I)Z"⟩
abbrev cX3_places : ByteArray := prog_5_method_7_code
def yX3_places : MethodName := ⟨RX3, "places", "()I"⟩
abbrev cX3_fullSteps : ByteArray := prog_5_method_8_code
def yX3_fullSteps : MethodName := ⟨RX3, "fullSteps", "()I"⟩
abbrev cX3_fullTicks : ByteArray := prog_5_method_9_code
def yX3_fullTicks : MethodName := ⟨RX3, "fullTicks", "()I"⟩
abbrev cX3_advance : ByteArray := prog_5_method_10_code
def yX3_advance : MethodName := ⟨RX3, "advance", "(I)I"⟩
abbrev cX3_turn : ByteArray := prog_5_method_11_code
def yX3_turn : MethodName := ⟨RX3, "turn", "(I)I"⟩
abbrev cX3_source : ByteArray := prog_5_method_12_code
def yX3_source : MethodName := ⟨RX3, "source", "(II)I"⟩
def RX4 : String := "PaletteTurns$State"
def TX4 : u_T := fun k => match k with
  | 0 => ("PaletteTurns$State", "colours", "[I", true)
  | 1 => ("PaletteTurns$State", "pixels", "[I", true)
  | 2 => ("PaletteTurns$State", "ranges", "[LPaletteTurns$Range;", true)
  | 3 => ("PaletteTurns$State", "glows", "[LPaletteTurns$Glow;", true)
  | 4 => ("PaletteTurns$State", "rangeCount", "I", false)
  | 5 => ("PaletteTurns$State", "glowCount", "I", false)
  | 6 => ("PaletteTurns$State", "ticks", "I", false)
  | _ => ("PaletteTurns$State", "steps", "I", false)
def tyX4 : Nat → FieldType := fun k => match k with
  | 0 => .array .int
  | 1 => .array .int
  | 2 => .array (.object "PaletteTurns$Range")
  | 3 => .array (.object "PaletteTurns$Glow")
  | 4 => .int
  | 5 => .int
  | 6 => .int
  | _ => .int
abbrev wsX40 : List Cond := u_ws RX4 TX4 8
theorem nmX4 : ∀ a, a < 8 → ∀ b, b < 8 → a ≠ b → (TX4 a).2.1 ≠ (TX4 b).2.1 := by decide +kernel
theorem tyX4_ok : ∀ k, k < 8 → parseFieldDescriptor (TX4 k).2.2.1 = some (tyX4 k) := by decide +kernel
abbrev cX4_init : ByteArray := prog_6_method_1_code
def yX4_init : MethodName := ⟨RX4, "<init>", "()V"⟩
abbrev cX4_copy : ByteArray := prog_6_method_2_code
def yX4_copy : MethodName := ⟨RX4, "copy", "(LPaletteTurns$State;)V"⟩
abbrev cX4_rangeAt : ByteArray := prog_6_method_3_code
def yX4_rangeAt : MethodName := ⟨RX4, "rangeAt", "(I)LPaletteTurns$Range;"⟩
abbrev cX4_glowAt : ByteArray := prog_6_method_4_code
def yX4_glowAt : MethodName := ⟨RX4, "glowAt", "(I)LPaletteTurns$Glow;"⟩
abbrev cX4_hasRangeBetween : ByteArray := prog_6_method_5_code
def yX4_hasRangeBetween : MethodName := ⟨RX4, "hasRangeBetween", "(II)Z"⟩
abbrev cX4_appendRange : ByteArray := prog_6_method_6_code
def yX4_appendRange : MethodName := ⟨RX4, "appendRange", "(IIII)I"⟩
abbrev cX4_dropRange : ByteArray := prog_6_method_7_code
def yX4_dropRange : MethodName := ⟨RX4, "dropRange", "(I)V"⟩
abbrev cX4_appendGlow : ByteArray := prog_6_method_8_code
def yX4_appendGlow : MethodName := ⟨RX4, "appendGlow", "(III)I"⟩
abbrev cX4_dropGlow : ByteArray := prog_6_method_9_code
def yX4_dropGlow : MethodName := ⟨RX4, "dropGlow", "(I)V"⟩
abbrev cX4_beginAgain : ByteArray := prog_6_method_10_code
def yX4_beginAgain : MethodName := ⟨RX4, "beginAgain", "()V"⟩
abbrev cX4_advance : ByteArray := prog_6_method_11_code
def yX4_advance : MethodName := ⟨RX4, "advance", "(I)I"⟩
abbrev cX4_stepAtOnce : ByteArray := prog_6_method_12_code
def yX4_stepAtOnce : MethodName := ⟨RX4, "stepAtOnce", "(I)V"⟩
abbrev cX4_runOrPause : ByteArray := prog_6_method_13_code
def yX4_runOrPause : MethodName := ⟨RX4, "runOrPause", "(I)V"⟩
abbrev cX4_runningRanges : ByteArray := prog_6_method_14_code
def yX4_runningRanges : MethodName := ⟨RX4, "runningRanges", "()I"⟩
abbrev cX4_placesInRanges : ByteArray := prog_6_method_15_code
def yX4_placesInRanges : MethodName := ⟨RX4, "placesInRanges", "()I"⟩
abbrev cX4_moves : ByteArray := prog_6_method_16_code
def yX4_moves : MethodName := ⟨RX4, "moves", "(I)Z"⟩
abbrev cX4_shade : ByteArray := prog_6_method_17_code
def yX4_shade : MethodName := ⟨RX4, "shade", "(II)I"⟩
def RX5 : String := "PaletteTurns"
def TX5 : u_T := fun k => match k with
  | 0 => ("PaletteTurns", "now", "LPaletteTurns$State;", true)
  | 1 => ("PaletteTurns", "history", "LPaletteTurns$History;", true)
  | 2 => ("PaletteTurns", "program", "LPaletteTurns$Program;", true)
  | 3 => ("PaletteTurns", "shades", "[I", true)
  | 4 => ("PaletteTurns", "marked", "[Z", true)
  | _ => ("PaletteTurns", "waiting", "[I", true)
def tyX5 : Nat → FieldType := fun k => match k with
  | 0 => .object "PaletteTurns$State"
  | 1 => .object "PaletteTurns$History"
  | 2 => .object "PaletteTurns$Program"
  | 3 => .array .int
  | 4 => .array .boolean
  | _ => .array .int
abbrev wsX50 : List Cond := u_ws RX5 TX5 6
theorem nmX5 : ∀ a, a < 6 → ∀ b, b < 6 → a ≠ b → (TX5 a).2.1 ≠ (TX5 b).2.1 := by decide +kernel
theorem tyX5_ok : ∀ k, k < 6 → parseFieldDescriptor (TX5 k).2.2.1 = some (tyX5 k) := by decide +kernel
abbrev cX5_init : ByteArray := prog_1_method_1_code
def yX5_init : MethodName := ⟨RX5, "<init>", "()V"⟩
abbrev cX5_setColour : ByteArray := prog_1_method_2_code
def yX5_setColour : MethodName := ⟨RX5, "setColour", "(II)I"⟩
abbrev cX5_blend : ByteArray := prog_1_method_3_code
def yX5_blend : MethodName := ⟨RX5, "blend", "(IIII)I"⟩
abbrev cX5_freeze : ByteArray := prog_1_method_4_code
def yX5_freeze : MethodName := ⟨RX5, "freeze", "()I"⟩
abbrev cX5_addRange : ByteArray := prog_1_method_5_code
def yX5_addRange : MethodName := ⟨RX5, "addRange", "(IIII)I"⟩
abbrev cX5_removeRange : ByteArray := prog_1_method_6_code
def yX5_removeRange : MethodName := ⟨RX5, "removeRange", "(I)I"⟩
abbrev cX5_setSpeed : ByteArray := prog_1_method_7_code
def yX5_setSpeed : MethodName := ⟨RX5, "setSpeed", "(III)I"⟩
abbrev cX5_run : ByteArray := prog_1_method_8_code
def yX5_run : MethodName := ⟨RX5, "run", "(IZ)I"⟩
abbrev cX5_addGlow : ByteArray := prog_1_method_9_code
def yX5_addGlow : MethodName := ⟨RX5, "addGlow", "(III)I"⟩
abbrev cX5_removeGlow : ByteArray := prog_1_method_10_code
def yX5_removeGlow : MethodName := ⟨RX5, "removeGlow", "(I)I"⟩
abbrev cX5_pass : ByteArray := prog_1_method_11_code
def yX5_pass : MethodName := ⟨RX5, "pass", "(I)I"⟩
abbrev cX5_perform : ByteArray := prog_1_method_12_code
def yX5_perform : MethodName := ⟨RX5, "perform", "()I"⟩
abbrev cX5_type : ByteArray := prog_1_method_13_code
def yX5_type : MethodName := ⟨RX5, "type", "(C)I"⟩
abbrev cX5_clearText : ByteArray := prog_1_method_14_code
def yX5_clearText : MethodName := ⟨RX5, "clearText", "()I"⟩
abbrev cX5_paint : ByteArray := prog_1_method_15_code
def yX5_paint : MethodName := ⟨RX5, "paint", "(III)I"⟩
abbrev cX5_fill : ByteArray := prog_1_method_16_code
def yX5_fill : MethodName := ⟨RX5, "fill", "(III)I"⟩
abbrev cX5_undo : ByteArray := prog_1_method_17_code
def yX5_undo : MethodName := ⟨RX5, "undo", "()I"⟩
abbrev cX5_keep : ByteArray := prog_1_method_18_code
def yX5_keep : MethodName := ⟨RX5, "keep", "()I"⟩
abbrev cX5_restore : ByteArray := prog_1_method_19_code
def yX5_restore : MethodName := ⟨RX5, "restore", "()I"⟩
abbrev cX5_colour : ByteArray := prog_1_method_20_code
def yX5_colour : MethodName := ⟨RX5, "colour", "(I)I"⟩
abbrev cX5_shown : ByteArray := prog_1_method_21_code
def yX5_shown : MethodName := ⟨RX5, "shown", "(I)I"⟩
abbrev cX5_range : ByteArray := prog_1_method_22_code
def yX5_range : MethodName := ⟨RX5, "range", "(II)I"⟩
abbrev cX5_glow : ByteArray := prog_1_method_23_code
def yX5_glow : MethodName := ⟨RX5, "glow", "(II)I"⟩
abbrev cX5_pixel : ByteArray := prog_1_method_24_code
def yX5_pixel : MethodName := ⟨RX5, "pixel", "(IIZ)I"⟩
abbrev cX5_total : ByteArray := prog_1_method_25_code
def yX5_total : MethodName := ⟨RX5, "total", "(I)I"⟩
abbrev cX5_shownIn : ByteArray := prog_1_method_26_code
def yX5_shownIn : MethodName := ⟨RX5, "shownIn", "(II)I"⟩
abbrev cX5_fullTurn : ByteArray := prog_1_method_27_code
def yX5_fullTurn : MethodName := ⟨RX5, "fullTurn", "()J"⟩
abbrev cX5_nearest : ByteArray := prog_1_method_28_code
def yX5_nearest : MethodName := ⟨RX5, "nearest", "(I)I"⟩
abbrev cX5_changes : ByteArray := prog_1_method_29_code
def yX5_changes : MethodName := ⟨RX5, "changes", "(I)I"⟩
abbrev cX5_pictureBack : ByteArray := prog_1_method_30_code
def yX5_pictureBack : MethodName := ⟨RX5, "pictureBack", "()I"⟩
abbrev cX5_contrast : ByteArray := prog_1_method_31_code
def yX5_contrast : MethodName := ⟨RX5, "contrast", "()I"⟩
abbrev cX5_isPlace : ByteArray := prog_1_method_32_code
def yX5_isPlace : MethodName := ⟨RX5, "isPlace", "(I)Z"⟩
abbrev cX5_isColour : ByteArray := prog_1_method_33_code
def yX5_isColour : MethodName := ⟨RX5, "isColour", "(I)Z"⟩
abbrev cX5_isLength : ByteArray := prog_1_method_34_code
def yX5_isLength : MethodName := ⟨RX5, "isLength", "(I)Z"⟩
abbrev cX5_isWay : ByteArray := prog_1_method_35_code
def yX5_isWay : MethodName := ⟨RX5, "isWay", "(I)Z"⟩
abbrev cX5_isPixel : ByteArray := prog_1_method_36_code
def yX5_isPixel : MethodName := ⟨RX5, "isPixel", "(II)Z"⟩
abbrev cX5_isLater : ByteArray := prog_1_method_37_code
def yX5_isLater : MethodName := ⟨RX5, "isLater", "(I)Z"⟩
abbrev cX5_isRange : ByteArray := prog_1_method_38_code
def yX5_isRange : MethodName := ⟨RX5, "isRange", "(I)Z"⟩
abbrev cX5_isGlow : ByteArray := prog_1_method_39_code
def yX5_isGlow : MethodName := ⟨RX5, "isGlow", "(I)Z"⟩
abbrev cX5_mixed : ByteArray := prog_1_method_40_code
def yX5_mixed : MethodName := ⟨RX5, "mixed", "(IIII)I"⟩
abbrev cX5_mixedPart : ByteArray := prog_1_method_41_code
def yX5_mixedPart : MethodName := ⟨RX5, "mixedPart", "(IIII)I"⟩
abbrev cX5_part : ByteArray := prog_1_method_42_code
def yX5_part : MethodName := ⟨RX5, "part", "(II)I"⟩
abbrev cX5_distance : ByteArray := prog_1_method_43_code
def yX5_distance : MethodName := ⟨RX5, "distance", "(II)I"⟩
abbrev cX5_findShades : ByteArray := prog_1_method_44_code
def yX5_findShades : MethodName := ⟨RX5, "findShades", "()V"⟩
abbrev cX5_otherShades : ByteArray := prog_1_method_45_code
def yX5_otherShades : MethodName := ⟨RX5, "otherShades", "(II)I"⟩
abbrev cX5_setShades : ByteArray := prog_1_method_46_code
def yX5_setShades : MethodName := ⟨RX5, "setShades", "(II)V"⟩
abbrev cX5_flood : ByteArray := prog_1_method_47_code
def yX5_flood : MethodName := ⟨RX5, "flood", "(II)I"⟩
abbrev cX5_enter : ByteArray := prog_1_method_48_code
def yX5_enter : MethodName := ⟨RX5, "enter", "(IIII)I"⟩
abbrev cX5_pixelDistance : ByteArray := prog_1_method_49_code
def yX5_pixelDistance : MethodName := ⟨RX5, "pixelDistance", "(II)I"⟩
abbrev cX5_markPlacesOfPicture : ByteArray := prog_1_method_50_code
def yX5_markPlacesOfPicture : MethodName := ⟨RX5, "markPlacesOfPicture", "()V"⟩
abbrev cX5_markMovingPlacesOfPicture : ByteArray := prog_1_method_51_code
def yX5_markMovingPlacesOfPicture : MethodName := ⟨RX5, "markMovingPlacesOfPicture", "()V"⟩
abbrev cX5_markedPlacesShowShades : ByteArray := prog_1_method_52_code
def yX5_markedPlacesShowShades : MethodName := ⟨RX5, "markedPlacesShowShades", "(I)Z"⟩
abbrev cX5_markedPixels : ByteArray := prog_1_method_53_code
def yX5_markedPixels : MethodName := ⟨RX5, "markedPixels", "()I"⟩
abbrev cX5_movingPixels : ByteArray := prog_1_method_54_code
def yX5_movingPixels : MethodName := ⟨RX5, "movingPixels", "()I"⟩
abbrev cX5_differentColours : ByteArray := prog_1_method_55_code
def yX5_differentColours : MethodName := ⟨RX5, "differentColours", "()I"⟩
abbrev cX5_isMarkedBefore : ByteArray := prog_1_method_56_code
def yX5_isMarkedBefore : MethodName := ⟨RX5, "isMarkedBefore", "(I)Z"⟩
abbrev cX5_commonMultiple : ByteArray := prog_1_method_57_code
def yX5_commonMultiple : MethodName := ⟨RX5, "commonMultiple", "(JJ)J"⟩
abbrev cX5_commonDivisor : ByteArray := prog_1_method_58_code
def yX5_commonDivisor : MethodName := ⟨RX5, "commonDivisor", "(JJ)J"⟩
def RX6 : String := "PaletteTurnsModel"
def TX6 : u_T := fun k => match k with
  | 0 => ("PaletteTurnsModel", "row", "[I", true)
  | 1 => ("PaletteTurnsModel", "history", "[I", true)
  | 2 => ("PaletteTurnsModel", "states", "I", false)
  | 3 => ("PaletteTurnsModel", "snapshot", "[I", true)
  | 4 => ("PaletteTurnsModel", "isKept", "Z", false)
  | 5 => ("PaletteTurnsModel", "aside", "[I", true)
  | 6 => ("PaletteTurnsModel", "colours", "[I", true)
  | 7 => ("PaletteTurnsModel", "text", "[I", true)
  | 8 => ("PaletteTurnsModel", "length", "I", false)
  | 9 => ("PaletteTurnsModel", "place", "I", false)
  | 10 => ("PaletteTurnsModel", "depth", "I", false)
  | 11 => ("PaletteTurnsModel", "hasItem", "[Z", true)
  | 12 => ("PaletteTurnsModel", "times", "[I", true)
  | 13 => ("PaletteTurnsModel", "begin", "[I", true)
  | 14 => ("PaletteTurnsModel", "allTicks", "I", false)
  | 15 => ("PaletteTurnsModel", "allItems", "I", false)
  | 16 => ("PaletteTurnsModel", "greatest", "I", false)
  | 17 => ("PaletteTurnsModel", "isMarked", "[Z", true)
  | _ => ("PaletteTurnsModel", "before", "[I", true)
def tyX6 : Nat → FieldType := fun k => match k with
  | 0 => .array .int
  | 1 => .array .int
  | 2 => .int
  | 3 => .array .int
  | 4 => .boolean
  | 5 => .array .int
  | 6 => .array .int
  | 7 => .array .int
  | 8 => .int
  | 9 => .int
  | 10 => .int
  | 11 => .array .boolean
  | 12 => .array .int
  | 13 => .array .int
  | 14 => .int
  | 15 => .int
  | 16 => .int
  | 17 => .array .boolean
  | _ => .array .int
abbrev wsX60 : List Cond := u_ws RX6 TX6 19
theorem nmX6 : ∀ a, a < 19 → ∀ b, b < 19 → a ≠ b → (TX6 a).2.1 ≠ (TX6 b).2.1 := by decide +kernel
theorem tyX6_ok : ∀ k, k < 19 → parseFieldDescriptor (TX6 k).2.2.1 = some (tyX6 k) := by decide +kernel
abbrev cX6_init : ByteArray := prog_8_method_1_code
def yX6_init : MethodName := ⟨RX6, "<init>", "()V"⟩
abbrev cX6_in : ByteArray := prog_8_method_2_code
def yX6_in : MethodName := ⟨RX6, "in", "(III)Z"⟩
abbrev cX6_isPlace : ByteArray := prog_8_method_3_code
def yX6_isPlace : MethodName := ⟨RX6, "isPlace", "(I)Z"⟩
abbrev cX6_isColour : ByteArray := prog_8_method_4_code
def yX6_isColour : MethodName := ⟨RX6, "isColour", "(I)Z"⟩
abbrev cX6_isRange : ByteArray := prog_8_method_5_code
def yX6_isRange : MethodName := ⟨RX6, "isRange", "(I)Z"⟩
abbrev cX6_isGlow : ByteArray := prog_8_method_6_code
def yX6_isGlow : MethodName := ⟨RX6, "isGlow", "(I)Z"⟩
abbrev cX6_isPixel : ByteArray := prog_8_method_7_code
def yX6_isPixel : MethodName := ⟨RX6, "isPixel", "(II)Z"⟩
abbrev cX6_record : ByteArray := prog_8_method_8_code
def yX6_record : MethodName := ⟨RX6, "record", "()V"⟩
abbrev cX6_putAside : ByteArray := prog_8_method_9_code
def yX6_putAside : MethodName := ⟨RX6, "putAside", "()V"⟩
abbrev cX6_putBack : ByteArray := prog_8_method_10_code
def yX6_putBack : MethodName := ⟨RX6, "putBack", "()V"⟩
abbrev cX6_undo : ByteArray := prog_8_method_11_code
def yX6_undo : MethodName := ⟨RX6, "undo", "()I"⟩
abbrev cX6_keep : ByteArray := prog_8_method_12_code
def yX6_keep : MethodName := ⟨RX6, "keep", "()I"⟩
abbrev cX6_restore : ByteArray := prog_8_method_13_code
def yX6_restore : MethodName := ⟨RX6, "restore", "()I"⟩
abbrev cX6_of : ByteArray := prog_8_method_14_code
def yX6_of : MethodName := ⟨RX6, "of", "(II)I"⟩
abbrev cX6_ofGlow : ByteArray := prog_8_method_15_code
def yX6_ofGlow : MethodName := ⟨RX6, "ofGlow", "(II)I"⟩
abbrev cX6_modulo : ByteArray := prog_8_method_16_code
def yX6_modulo : MethodName := ⟨RX6, "modulo", "(II)I"⟩
abbrev cX6_places : ByteArray := prog_8_method_17_code
def yX6_places : MethodName := ⟨RX6, "places", "(I)I"⟩
abbrev cX6_turn : ByteArray := prog_8_method_18_code
def yX6_turn : MethodName := ⟨RX6, "turn", "(I)I"⟩
abbrev cX6_rangeAt : ByteArray := prog_8_method_19_code
def yX6_rangeAt : MethodName := ⟨RX6, "rangeAt", "(I)I"⟩
abbrev cX6_glowAt : ByteArray := prog_8_method_20_code
def yX6_glowAt : MethodName := ⟨RX6, "glowAt", "(I)I"⟩
abbrev cX6_turned : ByteArray := prog_8_method_21_code
def yX6_turned : MethodName := ⟨RX6, "turned", "(I)I"⟩
abbrev cX6_strength : ByteArray := prog_8_method_22_code
def yX6_strength : MethodName := ⟨RX6, "strength", "(I)I"⟩
abbrev cX6_part : ByteArray := prog_8_method_23_code
def yX6_part : MethodName := ⟨RX6, "part", "(II)I"⟩
abbrev cX6_between : ByteArray := prog_8_method_24_code
def yX6_between : MethodName := ⟨RX6, "between", "(IIII)I"⟩
abbrev cX6_shownAt : ByteArray := prog_8_method_25_code
def yX6_shownAt : MethodName := ⟨RX6, "shownAt", "(I)I"⟩
abbrev cX6_distance : ByteArray := prog_8_method_26_code
def yX6_distance : MethodName := ⟨RX6, "distance", "(II)I"⟩
abbrev cX6_show : ByteArray := prog_8_method_27_code
def yX6_show : MethodName := ⟨RX6, "show", "()V"⟩
abbrev cX6_setColour : ByteArray := prog_8_method_28_code
def yX6_setColour : MethodName := ⟨RX6, "setColour", "(II)I"⟩
abbrev cX6_blended : ByteArray := prog_8_method_29_code
def yX6_blended : MethodName := ⟨RX6, "blended", "(IIIII)I"⟩
abbrev cX6_blend : ByteArray := prog_8_method_30_code
def yX6_blend : MethodName := ⟨RX6, "blend", "(IIII)I"⟩
abbrev cX6_freeze : ByteArray := prog_8_method_31_code
def yX6_freeze : MethodName := ⟨RX6, "freeze", "()I"⟩
abbrev cX6_isTaken : ByteArray := prog_8_method_32_code
def yX6_isTaken : MethodName := ⟨RX6, "isTaken", "(II)Z"⟩
abbrev cX6_addRange : ByteArray := prog_8_method_33_code
def yX6_addRange : MethodName := ⟨RX6, "addRange", "(IIII)I"⟩
abbrev cX6_removeRange : ByteArray := prog_8_method_34_code
def yX6_removeRange : MethodName := ⟨RX6, "removeRange", "(I)I"⟩
abbrev cX6_setSpeed : ByteArray := prog_8_method_35_code
def yX6_setSpeed : MethodName := ⟨RX6, "setSpeed", "(III)I"⟩
abbrev cX6_running : ByteArray := prog_8_method_36_code
def yX6_running : MethodName := ⟨RX6, "running", "()I"⟩
abbrev cX6_run : ByteArray := prog_8_method_37_code
def yX6_run : MethodName := ⟨RX6, "run", "(IZ)I"⟩
abbrev cX6_addGlow : ByteArray := prog_8_method_38_code
def yX6_addGlow : MethodName := ⟨RX6, "addGlow", "(III)I"⟩
abbrev cX6_removeGlow : ByteArray := prog_8_method_39_code
def yX6_removeGlow : MethodName := ⟨RX6, "removeGlow", "(I)I"⟩
abbrev cX6_step : ByteArray := prog_8_method_40_code
def yX6_step : MethodName := ⟨RX6, "step", "(I)V"⟩
abbrev cX6_tickRange : ByteArray := prog_8_method_41_code
def yX6_tickRange : MethodName := ⟨RX6, "tickRange", "(I)V"⟩
abbrev cX6_tick : ByteArray := prog_8_method_42_code
def yX6_tick : MethodName := ⟨RX6, "tick", "()V"⟩
abbrev cX6_ticks : ByteArray := prog_8_method_43_code
def yX6_ticks : MethodName := ⟨RX6, "ticks", "(I)V"⟩
abbrev cX6_pass : ByteArray := prog_8_method_44_code
def yX6_pass : MethodName := ⟨RX6, "pass", "(I)I"⟩
abbrev cX6_type : ByteArray := prog_8_method_45_code
def yX6_type : MethodName := ⟨RX6, "type", "(C)I"⟩
abbrev cX6_clearText : ByteArray := prog_8_method_46_code
def yX6_clearText : MethodName := ⟨RX6, "clearText", "()I"⟩
abbrev cX6_isAt : ByteArray := prog_8_method_47_code
def yX6_isAt : MethodName := ⟨RX6, "isAt", "(III)Z"⟩
abbrev cX6_capped : ByteArray := prog_8_method_48_code
def yX6_capped : MethodName := ⟨RX6, "capped", "(I)I"⟩
abbrev cX6_number : ByteArray := prog_8_method_49_code
def yX6_number : MethodName := ⟨RX6, "number", "()I"⟩
abbrev cX6_readTicks : ByteArray := prog_8_method_50_code
def yX6_readTicks : MethodName := ⟨RX6, "readTicks", "()Z"⟩
abbrev cX6_readRange : ByteArray := prog_8_method_51_code
def yX6_readRange : MethodName := ⟨RX6, "readRange", "()Z"⟩
abbrev cX6_readItem : ByteArray := prog_8_method_52_code
def yX6_readItem : MethodName := ⟨RX6, "readItem", "()Z"⟩
abbrev cX6_readRepeat : ByteArray := prog_8_method_53_code
def yX6_readRepeat : MethodName := ⟨RX6, "readRepeat", "()Z"⟩
abbrev cX6_readEnd : ByteArray := prog_8_method_54_code
def yX6_readEnd : MethodName := ⟨RX6, "readEnd", "()Z"⟩
abbrev cX6_isProgram : ByteArray := prog_8_method_55_code
def yX6_isProgram : MethodName := ⟨RX6, "isProgram", "()Z"⟩
abbrev cX6_carryOutItem : ByteArray := prog_8_method_56_code
def yX6_carryOutItem : MethodName := ⟨RX6, "carryOutItem", "()V"⟩
abbrev cX6_carryOut : ByteArray := prog_8_method_57_code
def yX6_carryOut : MethodName := ⟨RX6, "carryOut", "()V"⟩
abbrev cX6_perform : ByteArray := prog_8_method_58_code
def yX6_perform : MethodName := ⟨RX6, "perform", "()I"⟩
abbrev cX6_pixelAt : ByteArray := prog_8_method_59_code
def yX6_pixelAt : MethodName := ⟨RX6, "pixelAt", "(II)I"⟩
abbrev cX6_paint : ByteArray := prog_8_method_60_code
def yX6_paint : MethodName := ⟨RX6, "paint", "(III)I"⟩
abbrev cX6_hasMarkedNeighbour : ByteArray := prog_8_method_61_code
def yX6_hasMarkedNeighbour : MethodName := ⟨RX6, "hasMarkedNeighbour", "(I)Z"⟩
abbrev cX6_mark : ByteArray := prog_8_method_62_code
def yX6_mark : MethodName := ⟨RX6, "mark", "(I)I"⟩
abbrev cX6_fill : ByteArray := prog_8_method_63_code
def yX6_fill : MethodName := ⟨RX6, "fill", "(III)I"⟩
abbrev cX6_colour : ByteArray := prog_8_method_64_code
def yX6_colour : MethodName := ⟨RX6, "colour", "(I)I"⟩
abbrev cX6_shown : ByteArray := prog_8_method_65_code
def yX6_shown : MethodName := ⟨RX6, "shown", "(I)I"⟩
abbrev cX6_range : ByteArray := prog_8_method_66_code
def yX6_range : MethodName := ⟨RX6, "range", "(II)I"⟩
abbrev cX6_glow : ByteArray := prog_8_method_67_code
def yX6_glow : MethodName := ⟨RX6, "glow", "(II)I"⟩
abbrev cX6_pixel : ByteArray := prog_8_method_68_code
def yX6_pixel : MethodName := ⟨RX6, "pixel", "(IIZ)I"⟩
abbrev cX6_placesInRanges : ByteArray := prog_8_method_69_code
def yX6_placesInRanges : MethodName := ⟨RX6, "placesInRanges", "()I"⟩
abbrev cX6_coloursInPicture : ByteArray := prog_8_method_70_code
def yX6_coloursInPicture : MethodName := ⟨RX6, "coloursInPicture", "()I"⟩
abbrev cX6_livelyPixels : ByteArray := prog_8_method_71_code
def yX6_livelyPixels : MethodName := ⟨RX6, "livelyPixels", "()I"⟩
abbrev cX6_total : ByteArray := prog_8_method_72_code
def yX6_total : MethodName := ⟨RX6, "total", "(I)I"⟩
abbrev cX6_shownIn : ByteArray := prog_8_method_73_code
def yX6_shownIn : MethodName := ⟨RX6, "shownIn", "(II)I"⟩
abbrev cX6_common : ByteArray := prog_8_method_74_code
def yX6_common : MethodName := ⟨RX6, "common", "(JJ)J"⟩
abbrev cX6_both : ByteArray := prog_8_method_75_code
def yX6_both : MethodName := ⟨RX6, "both", "(JJ)J"⟩
abbrev cX6_fullTurn : ByteArray := prog_8_method_76_code
def yX6_fullTurn : MethodName := ⟨RX6, "fullTurn", "()J"⟩
abbrev cX6_nearest : ByteArray := prog_8_method_77_code
def yX6_nearest : MethodName := ⟨RX6, "nearest", "(I)I"⟩
abbrev cX6_notePicture : ByteArray := prog_8_method_78_code
def yX6_notePicture : MethodName := ⟨RX6, "notePicture", "()V"⟩
abbrev cX6_otherPixels : ByteArray := prog_8_method_79_code
def yX6_otherPixels : MethodName := ⟨RX6, "otherPixels", "()I"⟩
abbrev cX6_changes : ByteArray := prog_8_method_80_code
def yX6_changes : MethodName := ⟨RX6, "changes", "(I)I"⟩
abbrev cX6_pictureBack : ByteArray := prog_8_method_81_code
def yX6_pictureBack : MethodName := ⟨RX6, "pictureBack", "()I"⟩
abbrev cX6_contrast : ByteArray := prog_8_method_82_code
def yX6_contrast : MethodName := ⟨RX6, "contrast", "()I"⟩
end
section
/-! ===== the judgement over memories: a world is a function from roles to cells; nothing is made ===== -/
abbrev Mem : Type := Nat → va_E
abbrev gC : List vw_C := [(RX0, TX0, 4), (RX1, TX1, 4), (RX2, TX2, 6), (RX3, TX3, 7), (RX4, TX4, 8), (RX5, TX5, 6), (RX6, TX6, 19)]
/-- class numbers and slots; array classes (int, char, boolean, Range, Glow, State); addresses; how many roles -/
abbrev gE : Type := va_G × (Nat → ClassId) × (Nat → Nat) × Nat
def eA (E : gE) (k : Nat) : Nat := E.2.2.1 k
def eK (E : gE) : Nat := E.2.2.2
def eT (E : gE) (k : Nat) : ClassId := E.2.1 k
def eTys (E : gE) : List (ClassId × FieldType) := [(eT E 0, .int), (eT E 1, .char), (eT E 2, .boolean), (eT E 3, .object RX3), (eT E 4, .object RX0), (eT E 5, .object RX4)]
def rf (E : gE) (k : Nat) : Value := .ref (eA E k)
def eOk (E : gE) : Prop := ∀ i j, i < eK E → j < eK E → eA E i = eA E j → i = j
def gW (E : gE) (g : Mem) : va_W := (List.range (eK E)).map (fun k => (eA E k, g k))
def gP (E : gE) (g : Mem) (H : Heap) : Prop := va_P E.1 gC (gW E g) H
def gA (E : gE) : Nat → Prop := fun q => ∃ k, k < eK E ∧ eA E k = q
def oB (ci : Nat) (fs : List Value) : va_E := .inr (ci, fs)
def aI (E : gE) (t n : Nat) (f : Nat → Int32) : va_E := .inl (eT E t, n, .inl f)
def aR (E : gE) (t n : Nat) (π : Nat → Nat) : va_E := .inl (eT E t, n, .inr (.inr (.inr (.inr (fun i => some (eA E (π i)))))))
theorem gW_at {E : gE} {g : Mem} {k : Nat} (hk : k < eK E) : (gW E g)[k]? = some (eA E k, g k) := by
  unfold gW
  rw [List.getElem?_map, List.getElem?_range hk]
  rfl
theorem gW_inv {E : gE} {g : Mem} {k : Nat} {q : Nat × va_E} (h : (gW E g)[k]? = some q) : k < eK E ∧ q = (eA E k, g k) := by
  have hl := (List.getElem?_eq_some_iff.mp h).1
  unfold gW at hl
  rw [List.length_map, List.length_range] at hl
  rw [gW_at hl] at h
  exact ⟨hl, (Option.some.inj h).symm⟩
theorem gW_D {E : gE} {g : Mem} {A : Nat → Prop} (hE : eOk E) (hA : ∀ q, gA E q → A q) : va_D A (gW E g) := by
  refine ⟨fun i j p q hi hj hpq => ?_, fun k q hk => ?_⟩
  · obtain ⟨h1, rfl⟩ := gW_inv hi
    obtain ⟨h2, rfl⟩ := gW_inv hj
    exact hE i j h1 h2 hpq
  · obtain ⟨h1, rfl⟩ := gW_inv hk
    exact hA _ ⟨k, h1, rfl⟩
theorem gW_set {E : gE} {g : Mem} {k : Nat} {e : va_E} (hk : k < eK E) : (gW E g).set k (eA E k, e) = gW E (va_up g k e) := by
  apply List.ext_getElem?
  intro j
  by_cases hj : j = k
  · subst hj
    rw [List.getElem?_set_self (by simpa [gW] using hk), gW_at hk, va_up_self]
  · rw [List.getElem?_set_ne (Ne.symm hj)]
    by_cases hl : j < eK E
    · rw [gW_at hl, gW_at hl, va_up_ne _ _ hj]
    · rw [List.getElem?_eq_none (by simp [gW]; omega), List.getElem?_eq_none (by simp [gW]; omega)]
/-! the locals, a list of slots -/
def y_has (ls : Array Slot) (lo : List (Option Value)) : Prop := ls.size = lo.length ∧ lv_wf ls ∧ ∀ (i : Nat) (v : Value), lo[i]? = some (some v) → ls[i]? = some (.val v)
def y_l (lo : List (Option Value)) : List (Nat × Value) := (List.range lo.length).filterMap (fun j => (lo[j]?.join).map (fun w => (j, w)))
theorem y_l_mem {lo : List (Option Value)} {i : Nat} {v : Value} (h : lo[i]? = some (some v)) : (i, v) ∈ y_l lo := by
  unfold y_l
  rw [List.mem_filterMap]
  refine ⟨i, List.mem_range.mpr (List.getElem?_eq_some_iff.mp h).1, ?_⟩
  simp [h]
theorem y_l_inv {lo : List (Option Value)} {i : Nat} {v : Value} (h : (i, v) ∈ y_l lo) : lo[i]? = some (some v) := by
  unfold y_l at h
  rw [List.mem_filterMap] at h
  obtain ⟨j, -, hj⟩ := h
  cases hq : lo[j]? with
  | none => simp [hq] at hj
  | some o =>
    cases o with
    | none => simp [hq] at hj
    | some w =>
      simp [hq] at hj
      obtain ⟨h1, h2⟩ := hj
      subst h1; subst h2
      exact hq
theorem y_has.lv {ls : Array Slot} {lo : List (Option Value)} (h : y_has ls lo) : lv_has ls lo.length (y_l lo) := ⟨h.1, h.2.1, fun q hq => h.2.2 q.1 q.2 (y_l_inv hq)⟩
/-- the slot ahead of i holds no long -/
def y_nl (lo : List (Option Value)) (i : Nat) : Bool := match i with
  | 0 => true
  | k + 1 => match lo[k]? with
    | some (some (.long _)) => false
    | some (some (.double _)) => false
    | _ => true
theorem y_nl_spec {lo : List (Option Value)} {i j : Nat} {v : Value} (h : y_nl lo i = true) (hj : lo[j]? = some (some v)) (hij : j + 1 = i) : ¬ v.category = 2 := by
  subst hij
  simp only [y_nl, hj] at h
  cases v <;> simp_all [Value.category]
theorem y_has_st1 {ls' : Array Slot} {lo : List (Option Value)} {i n : Nat} {v : Value} (hn : n = lo.length) (hi : i < lo.length) (hp : y_nl lo i = true)
    (h : lv_has ls' n ((i, v) :: (y_l lo).filter (fun q => !(q.1 == i) && !(q.1 + 1 == i && q.2.category == 2)))) : y_has ls' (lo.set i (some v)) := by
  refine ⟨by rw [List.length_set, ← hn]; exact h.1, h.2.1, fun j w hj => ?_⟩
  by_cases hji : j = i
  · subst hji
    rw [List.getElem?_set_self hi] at hj
    cases hj
    exact h.2.2 (j, v) List.mem_cons_self
  · rw [List.getElem?_set_ne (Ne.symm hji)] at hj
    refine h.2.2 (j, w) (List.mem_cons_of_mem _ (List.mem_filter.mpr ⟨y_l_mem hj, ?_⟩))
    have h1 : (j == i) = false := by simpa using hji
    by_cases h2 : j + 1 = i
    · have h3 := y_nl_spec hp hj h2
      have h4 : (w.category == 2) = false := by simpa using h3
      simp [h1, h4]
    · have h4 : (j + 1 == i) = false := by simpa using h2
      simp [h1, h4]
theorem y_has_st2 {ls' : Array Slot} {lo : List (Option Value)} {i n : Nat} {v : Value} (hn : n = lo.length) (hi : i + 1 < lo.length) (hp : y_nl lo i = true)
    (h : lv_has ls' n ((i, v) :: (y_l lo).filter (fun q => !(q.1 == i) && (!(q.1 == i + 1) && !(q.1 + 1 == i && q.2.category == 2))))) : y_has ls' ((lo.set i (some v)).set (i + 1) none) := by
  refine ⟨by rw [List.length_set, List.length_set, ← hn]; exact h.1, h.2.1, fun j w hj => ?_⟩
  by_cases hji2 : j = i + 1
  · subst hji2
    rw [List.getElem?_set_self (by rw [List.length_set]; exact hi)] at hj
    cases hj
  rw [List.getElem?_set_ne (Ne.symm hji2)] at hj
  by_cases hji : j = i
  · subst hji
    rw [List.getElem?_set_self (by omega)] at hj
    cases hj
    exact h.2.2 (j, v) List.mem_cons_self
  · rw [List.getElem?_set_ne (Ne.symm hji)] at hj
    refine h.2.2 (j, w) (List.mem_cons_of_mem _ (List.mem_filter.mpr ⟨y_l_mem hj, ?_⟩))
    have h1 : (j == i) = false := by simpa using hji
    have h5 : (j == i + 1) = false := by simpa using hji2
    by_cases h2 : j + 1 = i
    · have h3 := y_nl_spec hp hj h2
      have h4 : (w.category == 2) = false := by simpa using h3
      simp [h1, h4, h5]
    · have h4 : (j + 1 == i) = false := by simpa using h2
      simp [h1, h4, h5]
/-- the slots with which a method begins -/
def y_ent : List Value → List (Option Value)
  | [] => []
  | v :: vs => if v.category = 2 then some v :: none :: y_ent vs else some v :: y_ent vs
theorem y_ent_len : ∀ vs : List Value, (y_ent vs).length = (lg_sl vs).length
  | [] => rfl
  | v :: vs => by
    have ih := y_ent_len vs
    simp only [lg_sl] at ih
    by_cases h : v.category = 2
    · simp [y_ent, lg_sl, h, ih]
    · simp [y_ent, lg_sl, h, ih]
theorem y_ent_args : ∀ (vs : List Value) (o i : Nat) (v : Value), (y_ent vs)[i]? = some (some v) → (o + i, v) ∈ lv_args o vs
  | [], o, i, v, h => by simp [y_ent] at h
  | u :: vs, o, i, v, h => by
    by_cases hc : u.category = 2
    · rw [y_ent, if_pos hc] at h
      rw [lv_args, if_pos hc]
      match i with
      | 0 => simp at h; subst h; exact List.mem_cons_self
      | 1 => simp at h
      | i + 2 =>
        have h' : (y_ent vs)[i]? = some (some v) := by simpa using h
        have := y_ent_args vs (o + 2) i v h'
        exact List.mem_cons_of_mem _ (by rw [show o + (i + 2) = o + 2 + i by omega]; exact this)
    · rw [y_ent, if_neg hc] at h
      rw [lv_args, if_neg hc]
      match i with
      | 0 => simp at h; subst h; exact List.mem_cons_self
      | i + 1 =>
        have h' : (y_ent vs)[i]? = some (some v) := by simpa using h
        have := y_ent_args vs (o + 1) i v h'
        exact List.mem_cons_of_mem _ (by rw [show o + (i + 1) = o + 1 + i by omega]; exact this)
theorem y_entry (vs : List Value) {n : Nat} {lo : List (Option Value)} (hlo : y_ent vs ++ List.replicate (n - (y_ent vs).length) none = lo) (h : (y_ent vs).length ≤ n) : y_has ((lg_sl vs ++ List.replicate (n - (lg_sl vs).length) Slot.unset).toArray) lo := by
  have h0 : (lg_sl vs).length ≤ n := by rw [← y_ent_len]; exact h
  obtain ⟨h1, h2, h3⟩ := lv_entry vs h0
  refine ⟨by rw [h1, ← hlo, List.length_append, List.length_replicate]; omega, h2, fun i v hi => ?_⟩
  rw [← hlo] at hi
  by_cases hl : i < (y_ent vs).length
  · rw [List.getElem?_append_left hl] at hi
    have := y_ent_args vs 0 i v hi
    rw [Nat.zero_add] at this
    exact h3 (i, v) this
  · rw [List.getElem?_append_right (by omega), List.getElem?_replicate] at hi
    split at hi <;> cases hi
/-! the judgement -/
/-- the tables' words that a callee may be given -/
def lw_gt : List Cond := lw_tbl.filter goodWord
abbrev gX : Type := Program × Jvm.Env × Room × State × MethodId × Array Value × List Frame × Method × Code
def gQ (E : gE) (post : Option Value → Mem → Prop) : Array Value → State → Outcome → State → Prop := fun _ st oc t => (∃ (v : Option Value) (g : Mem), oc = .returned v ∧ post v g ∧ gP E g t.heap) ∧ va_F (gA E) st t
/-- Y l E X post pc lo st g: from this place with these slots, this stack and this memory the method comes to its end with post -/
def Y (l : Launch) (E : gE) (X : gX) (post : Option Value → Mem → Prop) (pc : Nat) (lo : List (Option Value)) (st : List Value) (g : Mem) : Prop :=
  ∀ (H : Heap) (locs : List Loc) (ls : Array Slot), gP E g H → va_S (gA E) X.2.2.2.1.heap H locs → y_has ls lo →
    W X.1 l X.2.1 X.2.2.1 X.2.2.2.1 X.2.2.2.2.1 X.2.2.2.2.2.1 X.2.2.2.2.2.2.1 X.2.2.2.2.2.2.2.1 X.2.2.2.2.2.2.2.2 H locs 0 0 (MQ X.2.2.2.2.2.2.1 (gQ E post) X.2.2.2.2.2.1 X.2.2.2.1 0 0 (gA E)) (F0 X.2.2.2.2.1 pc ls st)
/-- what holds all along a method: the machine, its bytes, its class, the tables' words, the classes, its room -/
def yC (l : Launch) (E : gE) (X : gX) (own : String) (cc : ByteArray) (nL : Nat) (ret : Option FieldType) (fr ll : Nat) : Prop :=
  X.1.tables.exec = Jvm.exec ∧ X.2.2.2.2.2.2.2.2.code = cc ∧ X.2.2.2.2.2.2.2.2.maxLocals = nL ∧ X.2.2.2.1.vm.findClass own = some X.2.2.2.2.1.cls ∧ (∀ w ∈ lw_gt, w.before X.2.2.2.2.2.1 X.2.2.2.1 = true) ∧
  va_K E.1 gC (eTys E) X.2.2.2.1 ∧ eOk E ∧ X.2.2.2.2.2.2.2.1.locks = false ∧ X.2.2.2.2.2.2.2.1.sig.returnType = ret ∧ X.2.2.1.frames = fr ∧ X.2.2.1.locals = ll
/-- a method's contract: from the memory g with the arguments av it returns, with post -/
def Mt (l : Launch) (E : gE) (y : MethodName) (cc : ByteArray) (nL : Nat) (ret : Option FieldType) (fr ll : Nat) (av : List Value) (g : Mem) (post : Option Value → Mem → Prop) : Prop :=
  Met l y (.code y cc nL ret :: lw_gt) { frames := fr, cells := 0, slots := 0, locals := ll } (va_Pc av (fun U => gP E g U.heap ∧ va_K E.1 gC (eTys E) U ∧ eOk E)) (gQ E post) 0 0 (gA E)
def pI (post : Int32 → Mem → Prop) : Option Value → Mem → Prop := fun v g => ∃ r : Int32, v = some (.int r) ∧ post r g
def pL (post : Int64 → Mem → Prop) : Option Value → Mem → Prop := fun v g => ∃ r : Int64, v = some (.long r) ∧ post r g
def pV (post : Mem → Prop) : Option Value → Mem → Prop := fun v g => v = none ∧ post g
/-- an answer that is a cell of this world, or null -/
def rfo (E : gE) (o : Option Nat) : Value := va_rf (o.map (eA E))
def pR (E : gE) (post : Option Nat → Mem → Prop) : Option Value → Mem → Prop := fun v g => ∃ o : Option Nat, v = some (rfo E o) ∧ post o g
theorem lw_good {y : MethodName} {cc : ByteArray} {nL : Nat} {ret : Option FieldType} (h : Cond.code y cc nL ret ∈ lw_gt) : GoodIn lw_gt (.code y cc nL ret :: lw_gt) := by
  intro w hw
  have hw' : w ∈ lw_gt := by
    rcases List.mem_cons.mp hw with rfl | hw
    · exact h
    · exact hw
  exact ⟨hw', good_of_word (List.mem_filter.mp hw').2⟩
theorem lw_g {w : Cond} (h : w ∈ lw_tbl) (hg : goodWord w = true) : w ∈ lw_gt := List.mem_filter.mpr ⟨h, hg⟩
theorem mt_go {l : Launch} {E : gE} {y : MethodName} {cc : ByteArray} {nL : Nat} {ret : Option FieldType} {fr ll : Nat} {av : List Value} {g : Mem} {post : Option Value → Mem → Prop} {own : String} (hy : plainName y.cls = true) (hown : y.cls = own) {lo : List (Option Value)}
    (hlo : y_ent av ++ List.replicate (nL - (y_ent av).length) none = lo) (hn : (y_ent av).length ≤ nL)
    (body : ∀ X : gX, yC l E X own cc nL ret fr ll → Y l E X post 0 lo [] g) : Mt l E y cc nL ret fr ll av g post := by
  refine Met.ofW (cc := cc) (maxL := nL) (ret := ret) hy rfl ?_
  intro p e s m args below meth c s₁ B hml hv
  obtain ⟨rfl, hP, hK, hE⟩ := hv
  have hx := B.exec
  have hb := B.bytes
  have hr := B.returns
  have hts0 := atoms_spec (ws := .code y cc nL ret :: lw_gt) B.pre
  have hts : ∀ w ∈ lw_gt, w.before av.toArray s = true := fun w hw => hts0 w (List.mem_cons_of_mem _ hw)
  have hown2 : s.vm.findClass own = some m.cls := by rw [← hown]; exact findClass_of_methodNamed B.named
  have hlocks := B.notSynchronized
  rw [lg_entry_eq]
  exact body (p, e, (headSpec (Cond.code y cc nL ret :: lw_gt) { frames := fr, cells := 0, slots := 0, locals := ll }).room, s, m, av.toArray, below, meth, c) ⟨hx, hb, hml, hown2, hts, hK, hE, hlocks, hr, rfl, rfl⟩ s.heap [] _ hP va_S.rf (y_entry av hlo hn)
end
section
/-! ===== one row an instruction, over memories ===== -/
section YR
variable {l : Launch} {E : gE} {X : gX} {own : String} {cc : ByteArray} {nL : Nat} {ret : Option FieldType} {fr ll : Nat} {post : Option Value → Mem → Prop} {pc : Nat} {lo lo' : List (Option Value)} {st : List Value} {g : Mem}
theorem y_iconst (hC : yC l E X own cc nL ret fr ll) {n : Int} {v : Int32} (hd : decode cc pc = .ok (.iconst n, 1)) (hv : Int32.ofInt n = v) (kk : Y l E X post (pc + 1) lo (.int v :: st) g) : Y l E X post pc lo st g := by
  obtain ⟨p, e, R, s, m, args, below, meth, c⟩ := X
  obtain ⟨hx, hb, hml, hown, hts, hK, hE, hlk, hr, hfr, hll⟩ := hC
  intro H locs ls hP hS hl
  exact lv_iconst hx hb hd hv (kk H locs ls hP hS hl)
theorem y_bipush (hC : yC l E X own cc nL ret fr ll) {n : Int} {v : Int32} (hd : decode cc pc = .ok (.bipush n, 2)) (hv : (Int8.ofInt n).toInt32 = v) (kk : Y l E X post (pc + 2) lo (.int v :: st) g) : Y l E X post pc lo st g := by
  obtain ⟨p, e, R, s, m, args, below, meth, c⟩ := X
  obtain ⟨hx, hb, hml, hown, hts, hK, hE, hlk, hr, hfr, hll⟩ := hC
  intro H locs ls hP hS hl
  exact lv_bipush hx hb hd hv (kk H locs ls hP hS hl)
theorem y_sipush (hC : yC l E X own cc nL ret fr ll) {n : Int} {v : Int32} (hd : decode cc pc = .ok (.sipush n, 3)) (hv : (Int16.ofInt n).toInt32 = v) (kk : Y l E X post (pc + 3) lo (.int v :: st) g) : Y l E X post pc lo st g := by
  obtain ⟨p, e, R, s, m, args, below, meth, c⟩ := X
  obtain ⟨hx, hb, hml, hown, hts, hK, hE, hlk, hr, hfr, hll⟩ := hC
  intro H locs ls hP hS hl
  exact lv_sipush hx hb hd hv (kk H locs ls hP hS hl)
theorem y_lconst (hC : yC l E X own cc nL ret fr ll) {n : Fin 2} {v : Int64} (hd : decode cc pc = .ok (.lconst n, 1)) (hv : Int64.ofNat (n : Nat) = v) (kk : Y l E X post (pc + 1) lo (.long v :: st) g) : Y l E X post pc lo st g := by
  obtain ⟨p, e, R, s, m, args, below, meth, c⟩ := X
  obtain ⟨hx, hb, hml, hown, hts, hK, hE, hlk, hr, hfr, hll⟩ := hC
  intro H locs ls hP hS hl
  exact lv_lconst hx hb hd hv (kk H locs ls hP hS hl)
theorem y_null (hC : yC l E X own cc nL ret fr ll) (hd : decode cc pc = .ok (.aconst_null, 1)) (kk : Y l E X post (pc + 1) lo (rfo E none :: st) g) : Y l E X post pc lo st g := by
  obtain ⟨p, e, R, s, m, args, below, meth, c⟩ := X
  obtain ⟨hx, hb, hml, hown, hts, hK, hE, hlk, hr, hfr, hll⟩ := hC
  intro H locs ls hP hS hl
  exact lv_null hx hb hd (kk H locs ls hP hS hl)
theorem y_ldc (hC : yC l E X own cc nL ret fr ll) {idx : Nat} {v : Int32} (hc : Cond.constant own idx v ∈ lw_gt) (hd : decode cc pc = .ok (.ldc idx, 2)) (kk : Y l E X post (pc + 2) lo (.int v :: st) g) : Y l E X post pc lo st g := by
  obtain ⟨p, e, R, s, m, args, below, meth, c⟩ := X
  obtain ⟨hx, hb, hml, hown, hts, hK, hE, hlk, hr, hfr, hll⟩ := hC
  intro H locs ls hP hS hl
  exact lv_ldc hx hb hown (hts _ hc) hd (kk H locs ls hP hS hl)
theorem y_ldcw (hC : yC l E X own cc nL ret fr ll) {idx : Nat} {v : Int32} (hc : Cond.constant own idx v ∈ lw_gt) (hd : decode cc pc = .ok (.ldc_w idx, 3)) (kk : Y l E X post (pc + 3) lo (.int v :: st) g) : Y l E X post pc lo st g := by
  obtain ⟨p, e, R, s, m, args, below, meth, c⟩ := X
  obtain ⟨hx, hb, hml, hown, hts, hK, hE, hlk, hr, hfr, hll⟩ := hC
  intro H locs ls hP hS hl
  exact lv_ldcw hx hb hown (hts _ hc) hd (kk H locs ls hP hS hl)
theorem y_iload_n (hC : yC l E X own cc nL ret fr ll) {k : Fin 4} {i : Nat} {x : Int32} (hd : decode cc pc = .ok (.iload_n k, 1)) (hi : (k : Nat) = i) (ho : lo[i]? = some (some (.int x))) (kk : Y l E X post (pc + 1) lo (.int x :: st) g) : Y l E X post pc lo st g := by
  obtain ⟨p, e, R, s, m, args, below, meth, c⟩ := X
  obtain ⟨hx, hb, hml, hown, hts, hK, hE, hlk, hr, hfr, hll⟩ := hC
  intro H locs ls hP hS hl
  exact lv_iload_n hx hb hd hi (hl.2.2 _ _ ho) (kk H locs ls hP hS hl)
theorem y_iload (hC : yC l E X own cc nL ret fr ll) {i : Nat} {x : Int32} (hd : decode cc pc = .ok (.iload i, 2)) (ho : lo[i]? = some (some (.int x))) (kk : Y l E X post (pc + 2) lo (.int x :: st) g) : Y l E X post pc lo st g := by
  obtain ⟨p, e, R, s, m, args, below, meth, c⟩ := X
  obtain ⟨hx, hb, hml, hown, hts, hK, hE, hlk, hr, hfr, hll⟩ := hC
  intro H locs ls hP hS hl
  exact lv_iload hx hb hd (hl.2.2 _ _ ho) (kk H locs ls hP hS hl)
theorem y_lload_n (hC : yC l E X own cc nL ret fr ll) {k : Fin 4} {i : Nat} {x : Int64} (hd : decode cc pc = .ok (.lload_n k, 1)) (hi : (k : Nat) = i) (ho : lo[i]? = some (some (.long x))) (kk : Y l E X post (pc + 1) lo (.long x :: st) g) : Y l E X post pc lo st g := by
  obtain ⟨p, e, R, s, m, args, below, meth, c⟩ := X
  obtain ⟨hx, hb, hml, hown, hts, hK, hE, hlk, hr, hfr, hll⟩ := hC
  intro H locs ls hP hS hl
  exact lv_lload_n hx hb hd hi (hl.2.2 _ _ ho) (kk H locs ls hP hS hl)
theorem y_lload (hC : yC l E X own cc nL ret fr ll) {i : Nat} {x : Int64} (hd : decode cc pc = .ok (.lload i, 2)) (ho : lo[i]? = some (some (.long x))) (kk : Y l E X post (pc + 2) lo (.long x :: st) g) : Y l E X post pc lo st g := by
  obtain ⟨p, e, R, s, m, args, below, meth, c⟩ := X
  obtain ⟨hx, hb, hml, hown, hts, hK, hE, hlk, hr, hfr, hll⟩ := hC
  intro H locs ls hP hS hl
  exact lv_lload hx hb hd (hl.2.2 _ _ ho) (kk H locs ls hP hS hl)
theorem y_aload_n (hC : yC l E X own cc nL ret fr ll) {k : Fin 4} {i a : Nat} (hd : decode cc pc = .ok (.aload_n k, 1)) (hi : (k : Nat) = i) (ho : lo[i]? = some (some (rf E a))) (kk : Y l E X post (pc + 1) lo (rf E a :: st) g) : Y l E X post pc lo st g := by
  obtain ⟨p, e, R, s, m, args, below, meth, c⟩ := X
  obtain ⟨hx, hb, hml, hown, hts, hK, hE, hlk, hr, hfr, hll⟩ := hC
  intro H locs ls hP hS hl
  exact lv_aload_n hx hb hd hi (hl.2.2 _ _ ho) (kk H locs ls hP hS hl)
theorem y_aload (hC : yC l E X own cc nL ret fr ll) {i a : Nat} (hd : decode cc pc = .ok (.aload i, 2)) (ho : lo[i]? = some (some (rf E a))) (kk : Y l E X post (pc + 2) lo (rf E a :: st) g) : Y l E X post pc lo st g := by
  obtain ⟨p, e, R, s, m, args, below, meth, c⟩ := X
  obtain ⟨hx, hb, hml, hown, hts, hK, hE, hlk, hr, hfr, hll⟩ := hC
  intro H locs ls hP hS hl
  exact lv_aload hx hb hd (hl.2.2 _ _ ho) (kk H locs ls hP hS hl)
theorem y_aload_no (hC : yC l E X own cc nL ret fr ll) {k : Fin 4} {i : Nat} {o : Option Nat} (hd : decode cc pc = .ok (.aload_n k, 1)) (hi : (k : Nat) = i) (ho : lo[i]? = some (some (rfo E o))) (kk : Y l E X post (pc + 1) lo (rfo E o :: st) g) : Y l E X post pc lo st g := by
  obtain ⟨p, e, R, s, m, args, below, meth, c⟩ := X
  obtain ⟨hx, hb, hml, hown, hts, hK, hE, hlk, hr, hfr, hll⟩ := hC
  intro H locs ls hP hS hl
  cases o with
  | none => exact lv_aload_nN hx hb hd hi (hl.2.2 _ _ ho) (kk H locs ls hP hS hl)
  | some a => exact lv_aload_n hx hb hd hi (hl.2.2 _ _ ho) (kk H locs ls hP hS hl)
theorem y_aload_o (hC : yC l E X own cc nL ret fr ll) {i : Nat} {o : Option Nat} (hd : decode cc pc = .ok (.aload i, 2)) (ho : lo[i]? = some (some (rfo E o))) (kk : Y l E X post (pc + 2) lo (rfo E o :: st) g) : Y l E X post pc lo st g := by
  obtain ⟨p, e, R, s, m, args, below, meth, c⟩ := X
  obtain ⟨hx, hb, hml, hown, hts, hK, hE, hlk, hr, hfr, hll⟩ := hC
  intro H locs ls hP hS hl
  cases o with
  | none => exact lv_aloadN hx hb hd (hl.2.2 _ _ ho) (kk H locs ls hP hS hl)
  | some a => exact lv_aload hx hb hd (hl.2.2 _ _ ho) (kk H locs ls hP hS hl)
theorem y_istore_n (hC : yC l E X own cc nL ret fr ll) {k : Fin 4} {i : Nat} {x : Int32} (hd : decode cc pc = .ok (.istore_n k, 1)) (hi : (k : Nat) = i) (hn : i < lo.length) (hp : y_nl lo i = true) (ho : lo.set i (some (.int x)) = lo') (kk : Y l E X post (pc + 1) lo' st g) : Y l E X post pc lo (.int x :: st) g := by
  obtain ⟨p, e, R, s, m, args, below, meth, c⟩ := X
  obtain ⟨hx, hb, hml, hown, hts, hK, hE, hlk, hr, hfr, hll⟩ := hC
  intro H locs ls hP hS hl
  exact lv_istore_n hx hb hd hi hl.lv hn rfl (fun ls' h' => kk H locs ls' hP hS (ho ▸ y_has_st1 rfl hn hp h'))
theorem y_istore (hC : yC l E X own cc nL ret fr ll) {i : Nat} {x : Int32} (hd : decode cc pc = .ok (.istore i, 2)) (hn : i < lo.length) (hp : y_nl lo i = true) (ho : lo.set i (some (.int x)) = lo') (kk : Y l E X post (pc + 2) lo' st g) : Y l E X post pc lo (.int x :: st) g := by
  obtain ⟨p, e, R, s, m, args, below, meth, c⟩ := X
  obtain ⟨hx, hb, hml, hown, hts, hK, hE, hlk, hr, hfr, hll⟩ := hC
  intro H locs ls hP hS hl
  exact lv_istore hx hb hd hl.lv hn rfl (fun ls' h' => kk H locs ls' hP hS (ho ▸ y_has_st1 rfl hn hp h'))
theorem y_lstore_n (hC : yC l E X own cc nL ret fr ll) {k : Fin 4} {i : Nat} {x : Int64} (hd : decode cc pc = .ok (.lstore_n k, 1)) (hi : (k : Nat) = i) (hn : i + 1 < lo.length) (hp : y_nl lo i = true) (ho : (lo.set i (some (.long x))).set (i + 1) none = lo') (kk : Y l E X post (pc + 1) lo' st g) : Y l E X post pc lo (.long x :: st) g := by
  obtain ⟨p, e, R, s, m, args, below, meth, c⟩ := X
  obtain ⟨hx, hb, hml, hown, hts, hK, hE, hlk, hr, hfr, hll⟩ := hC
  intro H locs ls hP hS hl
  exact lv_lstore_n hx hb hd hi hl.lv hn rfl (fun ls' h' => kk H locs ls' hP hS (ho ▸ y_has_st2 rfl hn hp h'))
theorem y_lstore (hC : yC l E X own cc nL ret fr ll) {i : Nat} {x : Int64} (hd : decode cc pc = .ok (.lstore i, 2)) (hn : i + 1 < lo.length) (hp : y_nl lo i = true) (ho : (lo.set i (some (.long x))).set (i + 1) none = lo') (kk : Y l E X post (pc + 2) lo' st g) : Y l E X post pc lo (.long x :: st) g := by
  obtain ⟨p, e, R, s, m, args, below, meth, c⟩ := X
  obtain ⟨hx, hb, hml, hown, hts, hK, hE, hlk, hr, hfr, hll⟩ := hC
  intro H locs ls hP hS hl
  exact lv_lstore hx hb hd hl.lv hn rfl (fun ls' h' => kk H locs ls' hP hS (ho ▸ y_has_st2 rfl hn hp h'))
theorem y_astore_n (hC : yC l E X own cc nL ret fr ll) {k : Fin 4} {i : Nat} {o : Option Nat} (hd : decode cc pc = .ok (.astore_n k, 1)) (hi : (k : Nat) = i) (hn : i < lo.length) (hp : y_nl lo i = true) (ho : lo.set i (some (rfo E o)) = lo') (kk : Y l E X post (pc + 1) lo' st g) : Y l E X post pc lo (rfo E o :: st) g := by
  obtain ⟨p, e, R, s, m, args, below, meth, c⟩ := X
  obtain ⟨hx, hb, hml, hown, hts, hK, hE, hlk, hr, hfr, hll⟩ := hC
  intro H locs ls hP hS hl
  cases o with
  | none => exact lv_astore_nN hx hb hd hi hl.lv hn rfl (fun ls' h' => kk H locs ls' hP hS (ho ▸ y_has_st1 rfl hn hp h'))
  | some a => exact lv_astore_n hx hb hd hi hl.lv hn rfl (fun ls' h' => kk H locs ls' hP hS (ho ▸ y_has_st1 rfl hn hp h'))
theorem y_astore (hC : yC l E X own cc nL ret fr ll) {i : Nat} {o : Option Nat} (hd : decode cc pc = .ok (.astore i, 2)) (hn : i < lo.length) (hp : y_nl lo i = true) (ho : lo.set i (some (rfo E o)) = lo') (kk : Y l E X post (pc + 2) lo' st g) : Y l E X post pc lo (rfo E o :: st) g := by
  obtain ⟨p, e, R, s, m, args, below, meth, c⟩ := X
  obtain ⟨hx, hb, hml, hown, hts, hK, hE, hlk, hr, hfr, hll⟩ := hC
  intro H locs ls hP hS hl
  cases o with
  | none => exact lv_astoreN hx hb hd hl.lv hn rfl (fun ls' h' => kk H locs ls' hP hS (ho ▸ y_has_st1 rfl hn hp h'))
  | some a => exact lv_astore hx hb hd hl.lv hn rfl (fun ls' h' => kk H locs ls' hP hS (ho ▸ y_has_st1 rfl hn hp h'))
theorem y_iinc (hC : yC l E X own cc nL ret fr ll) {i : Nat} {n : Int} {x v : Int32} (hd : decode cc pc = .ok (.iinc i n, 3)) (hx0 : lo[i]? = some (some (.int x))) (hv : x + Int32.ofInt n = v) (hn : i < lo.length) (hp : y_nl lo i = true) (ho : lo.set i (some (.int v)) = lo') (kk : Y l E X post (pc + 3) lo' st g) : Y l E X post pc lo st g := by
  obtain ⟨p, e, R, s, m, args, below, meth, c⟩ := X
  obtain ⟨hx, hb, hml, hown, hts, hK, hE, hlk, hr, hfr, hll⟩ := hC
  intro H locs ls hP hS hl
  obtain ⟨k, hk⟩ := List.getElem?_of_mem (y_l_mem hx0)
  exact lv_iinc hx hb hd hl.lv hk hv hn rfl (fun ls' h' => kk H locs ls' hP hS (ho ▸ y_has_st1 rfl hn hp h'))
theorem y_iadd (hC : yC l E X own cc nL ret fr ll) {x y : Int32} (hd : decode cc pc = .ok (.iadd, 1)) (kk : Y l E X post (pc + 1) lo (.int (x + y) :: st) g) : Y l E X post pc lo (.int y :: .int x :: st) g := by
  obtain ⟨p, e, R, s, m, args, below, meth, c⟩ := X
  obtain ⟨hx, hb, hml, hown, hts, hK, hE, hlk, hr, hfr, hll⟩ := hC
  intro H locs ls hP hS hl
  exact lv_iadd hx hb hd (kk H locs ls hP hS hl)
theorem y_isub (hC : yC l E X own cc nL ret fr ll) {x y : Int32} (hd : decode cc pc = .ok (.isub, 1)) (kk : Y l E X post (pc + 1) lo (.int (x - y) :: st) g) : Y l E X post pc lo (.int y :: .int x :: st) g := by
  obtain ⟨p, e, R, s, m, args, below, meth, c⟩ := X
  obtain ⟨hx, hb, hml, hown, hts, hK, hE, hlk, hr, hfr, hll⟩ := hC
  intro H locs ls hP hS hl
  exact lv_isub hx hb hd (kk H locs ls hP hS hl)
theorem y_imul (hC : yC l E X own cc nL ret fr ll) {x y : Int32} (hd : decode cc pc = .ok (.imul, 1)) (kk : Y l E X post (pc + 1) lo (.int (x * y) :: st) g) : Y l E X post pc lo (.int y :: .int x :: st) g := by
  obtain ⟨p, e, R, s, m, args, below, meth, c⟩ := X
  obtain ⟨hx, hb, hml, hown, hts, hK, hE, hlk, hr, hfr, hll⟩ := hC
  intro H locs ls hP hS hl
  exact lv_imul hx hb hd (kk H locs ls hP hS hl)
theorem y_iand (hC : yC l E X own cc nL ret fr ll) {x y : Int32} (hd : decode cc pc = .ok (.iand, 1)) (kk : Y l E X post (pc + 1) lo (.int (x &&& y) :: st) g) : Y l E X post pc lo (.int y :: .int x :: st) g := by
  obtain ⟨p, e, R, s, m, args, below, meth, c⟩ := X
  obtain ⟨hx, hb, hml, hown, hts, hK, hE, hlk, hr, hfr, hll⟩ := hC
  intro H locs ls hP hS hl
  exact lv_iand hx hb hd (kk H locs ls hP hS hl)
theorem y_ior (hC : yC l E X own cc nL ret fr ll) {x y : Int32} (hd : decode cc pc = .ok (.ior, 1)) (kk : Y l E X post (pc + 1) lo (.int (x ||| y) :: st) g) : Y l E X post pc lo (.int y :: .int x :: st) g := by
  obtain ⟨p, e, R, s, m, args, below, meth, c⟩ := X
  obtain ⟨hx, hb, hml, hown, hts, hK, hE, hlk, hr, hfr, hll⟩ := hC
  intro H locs ls hP hS hl
  exact lv_ior hx hb hd (kk H locs ls hP hS hl)
theorem y_ixor (hC : yC l E X own cc nL ret fr ll) {x y : Int32} (hd : decode cc pc = .ok (.ixor, 1)) (kk : Y l E X post (pc + 1) lo (.int (x ^^^ y) :: st) g) : Y l E X post pc lo (.int y :: .int x :: st) g := by
  obtain ⟨p, e, R, s, m, args, below, meth, c⟩ := X
  obtain ⟨hx, hb, hml, hown, hts, hK, hE, hlk, hr, hfr, hll⟩ := hC
  intro H locs ls hP hS hl
  exact lv_ixor hx hb hd (kk H locs ls hP hS hl)
theorem y_ishl (hC : yC l E X own cc nL ret fr ll) {x y : Int32} (hd : decode cc pc = .ok (.ishl, 1)) (kk : Y l E X post (pc + 1) lo (.int (x <<< (y &&& 31)) :: st) g) : Y l E X post pc lo (.int y :: .int x :: st) g := by
  obtain ⟨p, e, R, s, m, args, below, meth, c⟩ := X
  obtain ⟨hx, hb, hml, hown, hts, hK, hE, hlk, hr, hfr, hll⟩ := hC
  intro H locs ls hP hS hl
  exact lv_ishl hx hb hd (kk H locs ls hP hS hl)
theorem y_ishr (hC : yC l E X own cc nL ret fr ll) {x y : Int32} (hd : decode cc pc = .ok (.ishr, 1)) (kk : Y l E X post (pc + 1) lo (.int (x >>> (y &&& 31)) :: st) g) : Y l E X post pc lo (.int y :: .int x :: st) g := by
  obtain ⟨p, e, R, s, m, args, below, meth, c⟩ := X
  obtain ⟨hx, hb, hml, hown, hts, hK, hE, hlk, hr, hfr, hll⟩ := hC
  intro H locs ls hP hS hl
  exact lv_ishr hx hb hd (kk H locs ls hP hS hl)
theorem y_idiv (hC : yC l E X own cc nL ret fr ll) {x y : Int32} (hd : decode cc pc = .ok (.idiv, 1)) (hne : ¬ y = 0) (kk : Y l E X post (pc + 1) lo (.int (x / y) :: st) g) : Y l E X post pc lo (.int y :: .int x :: st) g := by
  obtain ⟨p, e, R, s, m, args, below, meth, c⟩ := X
  obtain ⟨hx, hb, hml, hown, hts, hK, hE, hlk, hr, hfr, hll⟩ := hC
  intro H locs ls hP hS hl
  exact lv_idiv hx hb hd hne (kk H locs ls hP hS hl)
theorem y_irem (hC : yC l E X own cc nL ret fr ll) {x y : Int32} (hd : decode cc pc = .ok (.irem, 1)) (hne : ¬ y = 0) (kk : Y l E X post (pc + 1) lo (.int (x - x / y * y) :: st) g) : Y l E X post pc lo (.int y :: .int x :: st) g := by
  obtain ⟨p, e, R, s, m, args, below, meth, c⟩ := X
  obtain ⟨hx, hb, hml, hown, hts, hK, hE, hlk, hr, hfr, hll⟩ := hC
  intro H locs ls hP hS hl
  exact lv_irem hx hb hd hne (kk H locs ls hP hS hl)
theorem y_ladd (hC : yC l E X own cc nL ret fr ll) {x y : Int64} (hd : decode cc pc = .ok (.ladd, 1)) (kk : Y l E X post (pc + 1) lo (.long (x + y) :: st) g) : Y l E X post pc lo (.long y :: .long x :: st) g := by
  obtain ⟨p, e, R, s, m, args, below, meth, c⟩ := X
  obtain ⟨hx, hb, hml, hown, hts, hK, hE, hlk, hr, hfr, hll⟩ := hC
  intro H locs ls hP hS hl
  exact lv_ladd hx hb hd (kk H locs ls hP hS hl)
theorem y_lsub (hC : yC l E X own cc nL ret fr ll) {x y : Int64} (hd : decode cc pc = .ok (.lsub, 1)) (kk : Y l E X post (pc + 1) lo (.long (x - y) :: st) g) : Y l E X post pc lo (.long y :: .long x :: st) g := by
  obtain ⟨p, e, R, s, m, args, below, meth, c⟩ := X
  obtain ⟨hx, hb, hml, hown, hts, hK, hE, hlk, hr, hfr, hll⟩ := hC
  intro H locs ls hP hS hl
  exact lv_lsub hx hb hd (kk H locs ls hP hS hl)
theorem y_lmul (hC : yC l E X own cc nL ret fr ll) {x y : Int64} (hd : decode cc pc = .ok (.lmul, 1)) (kk : Y l E X post (pc + 1) lo (.long (x * y) :: st) g) : Y l E X post pc lo (.long y :: .long x :: st) g := by
  obtain ⟨p, e, R, s, m, args, below, meth, c⟩ := X
  obtain ⟨hx, hb, hml, hown, hts, hK, hE, hlk, hr, hfr, hll⟩ := hC
  intro H locs ls hP hS hl
  exact lv_lmul hx hb hd (kk H locs ls hP hS hl)
theorem y_ldiv (hC : yC l E X own cc nL ret fr ll) {x y : Int64} (hd : decode cc pc = .ok (.ldiv, 1)) (hne : ¬ y = 0) (kk : Y l E X post (pc + 1) lo (.long (x / y) :: st) g) : Y l E X post pc lo (.long y :: .long x :: st) g := by
  obtain ⟨p, e, R, s, m, args, below, meth, c⟩ := X
  obtain ⟨hx, hb, hml, hown, hts, hK, hE, hlk, hr, hfr, hll⟩ := hC
  intro H locs ls hP hS hl
  exact lv_ldiv hx hb hd hne (kk H locs ls hP hS hl)
theorem y_lrem (hC : yC l E X own cc nL ret fr ll) {x y : Int64} (hd : decode cc pc = .ok (.lrem, 1)) (hne : ¬ y = 0) (kk : Y l E X post (pc + 1) lo (.long (x - x / y * y) :: st) g) : Y l E X post pc lo (.long y :: .long x :: st) g := by
  obtain ⟨p, e, R, s, m, args, below, meth, c⟩ := X
  obtain ⟨hx, hb, hml, hown, hts, hK, hE, hlk, hr, hfr, hll⟩ := hC
  intro H locs ls hP hS hl
  exact lv_lrem hx hb hd hne (kk H locs ls hP hS hl)
theorem y_lcmp (hC : yC l E X own cc nL ret fr ll) {x y : Int64} (hd : decode cc pc = .ok (.lcmp, 1)) (kk : Y l E X post (pc + 1) lo (.int (lg_cmp x y) :: st) g) : Y l E X post pc lo (.long y :: .long x :: st) g := by
  obtain ⟨p, e, R, s, m, args, below, meth, c⟩ := X
  obtain ⟨hx, hb, hml, hown, hts, hK, hE, hlk, hr, hfr, hll⟩ := hC
  intro H locs ls hP hS hl
  exact W.lcmp hx hb hd (kk H locs ls hP hS hl)
theorem y_i2l (hC : yC l E X own cc nL ret fr ll) {x : Int32} (hd : decode cc pc = .ok (.i2l, 1)) (kk : Y l E X post (pc + 1) lo (.long x.toInt64 :: st) g) : Y l E X post pc lo (.int x :: st) g := by
  obtain ⟨p, e, R, s, m, args, below, meth, c⟩ := X
  obtain ⟨hx, hb, hml, hown, hts, hK, hE, hlk, hr, hfr, hll⟩ := hC
  intro H locs ls hP hS hl
  exact lv_i2l hx hb hd rfl (kk H locs ls hP hS hl)
theorem y_i2c (hC : yC l E X own cc nL ret fr ll) {x v : Int32} (hd : decode cc pc = .ok (.i2c, 1)) (hv : (x.toUInt32 % 65536).toInt32 = v) (kk : Y l E X post (pc + 1) lo (.int v :: st) g) : Y l E X post pc lo (.int x :: st) g := by
  obtain ⟨p, e, R, s, m, args, below, meth, c⟩ := X
  obtain ⟨hx, hb, hml, hown, hts, hK, hE, hlk, hr, hfr, hll⟩ := hC
  intro H locs ls hP hS hl
  exact lv_i2c hx hb hd hv (kk H locs ls hP hS hl)
theorem y_dup (hC : yC l E X own cc nL ret fr ll) {v : Value} (hd : decode cc pc = .ok (.dup, 1)) (hv : v.category = 1) (kk : Y l E X post (pc + 1) lo (v :: v :: st) g) : Y l E X post pc lo (v :: st) g := by
  obtain ⟨p, e, R, s, m, args, below, meth, c⟩ := X
  obtain ⟨hx, hb, hml, hown, hts, hK, hE, hlk, hr, hfr, hll⟩ := hC
  intro H locs ls hP hS hl
  exact lv_dup hx hb hd hv (kk H locs ls hP hS hl)
theorem y_pop (hC : yC l E X own cc nL ret fr ll) {v : Value} (hd : decode cc pc = .ok (.pop, 1)) (hv : v.category = 1) (kk : Y l E X post (pc + 1) lo st g) : Y l E X post pc lo (v :: st) g := by
  obtain ⟨p, e, R, s, m, args, below, meth, c⟩ := X
  obtain ⟨hx, hb, hml, hown, hts, hK, hE, hlk, hr, hfr, hll⟩ := hC
  intro H locs ls hP hS hl
  exact lv_pop hx hb hd hv (kk H locs ls hP hS hl)
theorem y_dup2 (hC : yC l E X own cc nL ret fr ll) {v w : Value} (hd : decode cc pc = .ok (.dup2, 1)) (hv : v.category = 1) (hw : w.category = 1) (kk : Y l E X post (pc + 1) lo (v :: w :: v :: w :: st) g) : Y l E X post pc lo (v :: w :: st) g := by
  obtain ⟨p, e, R, s, m, args, below, meth, c⟩ := X
  obtain ⟨hx, hb, hml, hown, hts, hK, hE, hlk, hr, hfr, hll⟩ := hC
  intro H locs ls hP hS hl
  exact lv_dup2_11 hx hb hd hv hw (kk H locs ls hP hS hl)
theorem y_dup_x1 (hC : yC l E X own cc nL ret fr ll) {v w : Value} (hd : decode cc pc = .ok (.dup_x1, 1)) (hv : v.category = 1) (hw : w.category = 1) (kk : Y l E X post (pc + 1) lo (v :: w :: v :: st) g) : Y l E X post pc lo (v :: w :: st) g := by
  obtain ⟨p, e, R, s, m, args, below, meth, c⟩ := X
  obtain ⟨hx, hb, hml, hown, hts, hK, hE, hlk, hr, hfr, hll⟩ := hC
  intro H locs ls hP hS hl
  exact lv_dup_x1 hx hb hd hv hw (kk H locs ls hP hS hl)
theorem y_if_eq (hC : yC l E X own cc nL ret fr ll) {x : Int32} {off : Int} {tgt : Nat} (hd : decode cc pc = .ok (.ifCond .eq off, 3)) (ht : (pc : Int) + off = (tgt : Int)) (kt : x = 0 → Y l E X post tgt lo st g) (kf : ¬ x = 0 → Y l E X post (pc + 3) lo st g) : Y l E X post pc lo (.int x :: st) g := by
  obtain ⟨p, e, R, s, m, args, below, meth, c⟩ := X
  obtain ⟨hx, hb, hml, hown, hts, hK, hE, hlk, hr, hfr, hll⟩ := hC
  intro H locs ls hP hS hl
  exact lv_if_eq hx hb hd ht (fun q => kt q H locs ls hP hS hl) (fun q => kf q H locs ls hP hS hl)
theorem y_icmp_eq (hC : yC l E X own cc nL ret fr ll) {x y : Int32} {off : Int} {tgt : Nat} (hd : decode cc pc = .ok (.if_icmp .eq off, 3)) (ht : (pc : Int) + off = (tgt : Int)) (kt : x = y → Y l E X post tgt lo st g) (kf : ¬ x = y → Y l E X post (pc + 3) lo st g) : Y l E X post pc lo (.int y :: .int x :: st) g := by
  obtain ⟨p, e, R, s, m, args, below, meth, c⟩ := X
  obtain ⟨hx, hb, hml, hown, hts, hK, hE, hlk, hr, hfr, hll⟩ := hC
  intro H locs ls hP hS hl
  exact lv_icmp_eq hx hb hd ht (fun q => kt q H locs ls hP hS hl) (fun q => kf q H locs ls hP hS hl)
theorem y_if_ne (hC : yC l E X own cc nL ret fr ll) {x : Int32} {off : Int} {tgt : Nat} (hd : decode cc pc = .ok (.ifCond .ne off, 3)) (ht : (pc : Int) + off = (tgt : Int)) (kt : ¬ x = 0 → Y l E X post tgt lo st g) (kf : x = 0 → Y l E X post (pc + 3) lo st g) : Y l E X post pc lo (.int x :: st) g := by
  obtain ⟨p, e, R, s, m, args, below, meth, c⟩ := X
  obtain ⟨hx, hb, hml, hown, hts, hK, hE, hlk, hr, hfr, hll⟩ := hC
  intro H locs ls hP hS hl
  exact lv_if_ne hx hb hd ht (fun q => kt q H locs ls hP hS hl) (fun q => kf q H locs ls hP hS hl)
theorem y_icmp_ne (hC : yC l E X own cc nL ret fr ll) {x y : Int32} {off : Int} {tgt : Nat} (hd : decode cc pc = .ok (.if_icmp .ne off, 3)) (ht : (pc : Int) + off = (tgt : Int)) (kt : ¬ x = y → Y l E X post tgt lo st g) (kf : x = y → Y l E X post (pc + 3) lo st g) : Y l E X post pc lo (.int y :: .int x :: st) g := by
  obtain ⟨p, e, R, s, m, args, below, meth, c⟩ := X
  obtain ⟨hx, hb, hml, hown, hts, hK, hE, hlk, hr, hfr, hll⟩ := hC
  intro H locs ls hP hS hl
  exact lv_icmp_ne hx hb hd ht (fun q => kt q H locs ls hP hS hl) (fun q => kf q H locs ls hP hS hl)
theorem y_if_lt (hC : yC l E X own cc nL ret fr ll) {x : Int32} {off : Int} {tgt : Nat} (hd : decode cc pc = .ok (.ifCond .lt off, 3)) (ht : (pc : Int) + off = (tgt : Int)) (kt : x < 0 → Y l E X post tgt lo st g) (kf : ¬ x < 0 → Y l E X post (pc + 3) lo st g) : Y l E X post pc lo (.int x :: st) g := by
  obtain ⟨p, e, R, s, m, args, below, meth, c⟩ := X
  obtain ⟨hx, hb, hml, hown, hts, hK, hE, hlk, hr, hfr, hll⟩ := hC
  intro H locs ls hP hS hl
  exact lv_if_lt hx hb hd ht (fun q => kt q H locs ls hP hS hl) (fun q => kf q H locs ls hP hS hl)
theorem y_icmp_lt (hC : yC l E X own cc nL ret fr ll) {x y : Int32} {off : Int} {tgt : Nat} (hd : decode cc pc = .ok (.if_icmp .lt off, 3)) (ht : (pc : Int) + off = (tgt : Int)) (kt : x < y → Y l E X post tgt lo st g) (kf : ¬ x < y → Y l E X post (pc + 3) lo st g) : Y l E X post pc lo (.int y :: .int x :: st) g := by
  obtain ⟨p, e, R, s, m, args, below, meth, c⟩ := X
  obtain ⟨hx, hb, hml, hown, hts, hK, hE, hlk, hr, hfr, hll⟩ := hC
  intro H locs ls hP hS hl
  exact lv_icmp_lt hx hb hd ht (fun q => kt q H locs ls hP hS hl) (fun q => kf q H locs ls hP hS hl)
theorem y_if_ge (hC : yC l E X own cc nL ret fr ll) {x : Int32} {off : Int} {tgt : Nat} (hd : decode cc pc = .ok (.ifCond .ge off, 3)) (ht : (pc : Int) + off = (tgt : Int)) (kt : 0 ≤ x → Y l E X post tgt lo st g) (kf : ¬ 0 ≤ x → Y l E X post (pc + 3) lo st g) : Y l E X post pc lo (.int x :: st) g := by
  obtain ⟨p, e, R, s, m, args, below, meth, c⟩ := X
  obtain ⟨hx, hb, hml, hown, hts, hK, hE, hlk, hr, hfr, hll⟩ := hC
  intro H locs ls hP hS hl
  exact lv_if_ge hx hb hd ht (fun q => kt q H locs ls hP hS hl) (fun q => kf q H locs ls hP hS hl)
theorem y_icmp_ge (hC : yC l E X own cc nL ret fr ll) {x y : Int32} {off : Int} {tgt : Nat} (hd : decode cc pc = .ok (.if_icmp .ge off, 3)) (ht : (pc : Int) + off = (tgt : Int)) (kt : y ≤ x → Y l E X post tgt lo st g) (kf : ¬ y ≤ x → Y l E X post (pc + 3) lo st g) : Y l E X post pc lo (.int y :: .int x :: st) g := by
  obtain ⟨p, e, R, s, m, args, below, meth, c⟩ := X
  obtain ⟨hx, hb, hml, hown, hts, hK, hE, hlk, hr, hfr, hll⟩ := hC
  intro H locs ls hP hS hl
  exact lv_icmp_ge hx hb hd ht (fun q => kt q H locs ls hP hS hl) (fun q => kf q H locs ls hP hS hl)
theorem y_if_gt (hC : yC l E X own cc nL ret fr ll) {x : Int32} {off : Int} {tgt : Nat} (hd : decode cc pc = .ok (.ifCond .gt off, 3)) (ht : (pc : Int) + off = (tgt : Int)) (kt : 0 < x → Y l E X post tgt lo st g) (kf : ¬ 0 < x → Y l E X post (pc + 3) lo st g) : Y l E X post pc lo (.int x :: st) g := by
  obtain ⟨p, e, R, s, m, args, below, meth, c⟩ := X
  obtain ⟨hx, hb, hml, hown, hts, hK, hE, hlk, hr, hfr, hll⟩ := hC
  intro H locs ls hP hS hl
  exact lv_if_gt hx hb hd ht (fun q => kt q H locs ls hP hS hl) (fun q => kf q H locs ls hP hS hl)
theorem y_icmp_gt (hC : yC l E X own cc nL ret fr ll) {x y : Int32} {off : Int} {tgt : Nat} (hd : decode cc pc = .ok (.if_icmp .gt off, 3)) (ht : (pc : Int) + off = (tgt : Int)) (kt : y < x → Y l E X post tgt lo st g) (kf : ¬ y < x → Y l E X post (pc + 3) lo st g) : Y l E X post pc lo (.int y :: .int x :: st) g := by
  obtain ⟨p, e, R, s, m, args, below, meth, c⟩ := X
  obtain ⟨hx, hb, hml, hown, hts, hK, hE, hlk, hr, hfr, hll⟩ := hC
  intro H locs ls hP hS hl
  exact lv_icmp_gt hx hb hd ht (fun q => kt q H locs ls hP hS hl) (fun q => kf q H locs ls hP hS hl)
theorem y_if_le (hC : yC l E X own cc nL ret fr ll) {x : Int32} {off : Int} {tgt : Nat} (hd : decode cc pc = .ok (.ifCond .le off, 3)) (ht : (pc : Int) + off = (tgt : Int)) (kt : x ≤ 0 → Y l E X post tgt lo st g) (kf : ¬ x ≤ 0 → Y l E X post (pc + 3) lo st g) : Y l E X post pc lo (.int x :: st) g := by
  obtain ⟨p, e, R, s, m, args, below, meth, c⟩ := X
  obtain ⟨hx, hb, hml, hown, hts, hK, hE, hlk, hr, hfr, hll⟩ := hC
  intro H locs ls hP hS hl
  exact lv_if_le hx hb hd ht (fun q => kt q H locs ls hP hS hl) (fun q => kf q H locs ls hP hS hl)
theorem y_icmp_le (hC : yC l E X own cc nL ret fr ll) {x y : Int32} {off : Int} {tgt : Nat} (hd : decode cc pc = .ok (.if_icmp .le off, 3)) (ht : (pc : Int) + off = (tgt : Int)) (kt : x ≤ y → Y l E X post tgt lo st g) (kf : ¬ x ≤ y → Y l E X post (pc + 3) lo st g) : Y l E X post pc lo (.int y :: .int x :: st) g := by
  obtain ⟨p, e, R, s, m, args, below, meth, c⟩ := X
  obtain ⟨hx, hb, hml, hown, hts, hK, hE, hlk, hr, hfr, hll⟩ := hC
  intro H locs ls hP hS hl
  exact lv_icmp_le hx hb hd ht (fun q => kt q H locs ls hP hS hl) (fun q => kf q H locs ls hP hS hl)
theorem y_goto (hC : yC l E X own cc nL ret fr ll) {off : Int} {tgt : Nat} (hd : decode cc pc = .ok (.goto off, 3)) (ht : (pc : Int) + off = (tgt : Int)) (kk : Y l E X post tgt lo st g) : Y l E X post pc lo st g := by
  obtain ⟨p, e, R, s, m, args, below, meth, c⟩ := X
  obtain ⟨hx, hb, hml, hown, hts, hK, hE, hlk, hr, hfr, hll⟩ := hC
  intro H locs ls hP hS hl
  exact lv_goto hx hb hd ht (kk H locs ls hP hS hl)
theorem y_ifnull (hC : yC l E X own cc nL ret fr ll) {o : Option Nat} {off : Int} {tgt : Nat} (hd : decode cc pc = .ok (.ifnull off, 3)) (ht : (pc : Int) + off = (tgt : Int)) (kt : o = none → Y l E X post tgt lo st g) (kf : ∀ k, o = some k → Y l E X post (pc + 3) lo st g) : Y l E X post pc lo (rfo E o :: st) g := by
  obtain ⟨p, e, R, s, m, args, below, meth, c⟩ := X
  obtain ⟨hx, hb, hml, hown, hts, hK, hE, hlk, hr, hfr, hll⟩ := hC
  intro H locs ls hP hS hl
  cases o with
  | none => exact lv_ifnullN hx hb hd ht (kt rfl H locs ls hP hS hl)
  | some a => exact lv_ifnull hx hb hd (kf a rfl H locs ls hP hS hl)
theorem y_ifnonnull (hC : yC l E X own cc nL ret fr ll) {o : Option Nat} {off : Int} {tgt : Nat} (hd : decode cc pc = .ok (.ifnonnull off, 3)) (ht : (pc : Int) + off = (tgt : Int)) (kt : ∀ k, o = some k → Y l E X post tgt lo st g) (kf : o = none → Y l E X post (pc + 3) lo st g) : Y l E X post pc lo (rfo E o :: st) g := by
  obtain ⟨p, e, R, s, m, args, below, meth, c⟩ := X
  obtain ⟨hx, hb, hml, hown, hts, hK, hE, hlk, hr, hfr, hll⟩ := hC
  intro H locs ls hP hS hl
  cases o with
  | none => exact lv_ifnonnullN hx hb hd (kf rfl H locs ls hP hS hl)
  | some a => exact lv_ifnonnull hx hb hd ht (kt a rfl H locs ls hP hS hl)
theorem y_tabOut (hC : yC l E X own cc nL ret fr ll) {d lw hg : Int} {offs : Array Int} {len : Nat} {x : Int32} {tgt : Nat} (hd : decode cc pc = .ok (.tableswitch d lw hg offs, len)) (h : x.toInt < lw ∨ hg < x.toInt) (ht : (pc : Int) + d = (tgt : Int)) (kk : Y l E X post tgt lo st g) : Y l E X post pc lo (.int x :: st) g := by
  obtain ⟨p, e, R, s, m, args, below, meth, c⟩ := X
  obtain ⟨hx, hb, hml, hown, hts, hK, hE, hlk, hr, hfr, hll⟩ := hC
  intro H locs ls hP hS hl
  exact lv_tableOut hx hb hd h ht (kk H locs ls hP hS hl)
theorem y_tabIn (hC : yC l E X own cc nL ret fr ll) {d lw hg : Int} {offs : Array Int} {len : Nat} {x : Int32} {off : Int} {tgt : Nat} (hd : decode cc pc = .ok (.tableswitch d lw hg offs, len)) (h1 : ¬ x.toInt < lw) (h2 : ¬ hg < x.toInt) (ho : offs[(x.toInt - lw).toNat]? = some off) (ht : (pc : Int) + off = (tgt : Int)) (kk : Y l E X post tgt lo st g) : Y l E X post pc lo (.int x :: st) g := by
  obtain ⟨p, e, R, s, m, args, below, meth, c⟩ := X
  obtain ⟨hx, hb, hml, hown, hts, hK, hE, hlk, hr, hfr, hll⟩ := hC
  intro H locs ls hP hS hl
  exact lv_tableIn hx hb hd h1 h2 ho ht (kk H locs ls hP hS hl)
theorem y_look (hC : yC l E X own cc nL ret fr ll) {d : Int} {ps : Array (Int × Int)} {len : Nat} {x : Int32} {off : Int} {tgt : Nat} (hd : decode cc pc = .ok (.lookupswitch d ps, len)) (hq : (ps.toList.zip (ps.toList.drop 1)).all (fun (a, next) => a.1 < next.1) = true) (ho : Op.lookupswitch.offset ps.toList d x.toInt = off) (ht : (pc : Int) + off = (tgt : Int)) (kk : Y l E X post tgt lo st g) : Y l E X post pc lo (.int x :: st) g := by
  obtain ⟨p, e, R, s, m, args, below, meth, c⟩ := X
  obtain ⟨hx, hb, hml, hown, hts, hK, hE, hlk, hr, hfr, hll⟩ := hC
  intro H locs ls hP hS hl
  exact lv_lookup hx hb hd hq ho ht (kk H locs ls hP hS hl)
theorem y_iret (hC : yC l E X own cc nL (some .int) fr ll) {v : Int32} {q : Int32 → Mem → Prop} (hd : decode cc pc = .ok (.ireturn, 1)) (hq : q v g) : Y l E X (pI q) pc lo [.int v] g := by
  obtain ⟨p, e, R, s, m, args, below, meth, c⟩ := X
  obtain ⟨hx, hb, hml, hown, hts, hK, hE, hlk, hr, hfr, hll⟩ := hC
  intro H locs ls hP hS hl
  exact W.iret hx hb hr (fun t ht _ => ⟨⟨_, g, rfl, ⟨v, rfl, hq⟩, by rw [ht]; exact hP⟩, hS.F ht⟩) hS.2.2 hd hlk
theorem y_lret (hC : yC l E X own cc nL (some .long) fr ll) {v : Int64} {q : Int64 → Mem → Prop} (hd : decode cc pc = .ok (.lreturn, 1)) (hq : q v g) : Y l E X (pL q) pc lo [.long v] g := by
  obtain ⟨p, e, R, s, m, args, below, meth, c⟩ := X
  obtain ⟨hx, hb, hml, hown, hts, hK, hE, hlk, hr, hfr, hll⟩ := hC
  intro H locs ls hP hS hl
  exact W.lret hx hb hr (fun t ht _ => ⟨⟨_, g, rfl, ⟨v, rfl, hq⟩, by rw [ht]; exact hP⟩, hS.F ht⟩) hS.2.2 hd hlk
theorem y_zret (hC : yC l E X own cc nL ret fr ll) {v : Int32} {ty : FieldType} {q : Int32 → Mem → Prop} (hrt : ret = some ty) (hn : narrow ty (.int v) = .int v) (hd : decode cc pc = .ok (.ireturn, 1)) (hq : q v g) : Y l E X (pI q) pc lo [.int v] g := by
  obtain ⟨p, e, R, s, m, args, below, meth, c⟩ := X
  obtain ⟨hx, hb, hml, hown, hts, hK, hE, hlk, hr, hfr, hll⟩ := hC
  intro H locs ls hP hS hl
  exact W.zret hx hb (hr.trans hrt) hn (fun t ht _ => ⟨⟨_, g, rfl, ⟨v, rfl, hq⟩, by rw [ht]; exact hP⟩, hS.F ht⟩) hS.2.2 hd hlk
theorem y_vret (hC : yC l E X own cc nL none fr ll) {q : Mem → Prop} (hd : decode cc pc = .ok (.return_, 1)) (hq : q g) : Y l E X (pV q) pc lo [] g := by
  obtain ⟨p, e, R, s, m, args, below, meth, c⟩ := X
  obtain ⟨hx, hb, hml, hown, hts, hK, hE, hlk, hr, hfr, hll⟩ := hC
  intro H locs ls hP hS hl
  exact W.vret hx hb hr (fun t ht _ => ⟨⟨_, g, rfl, ⟨rfl, hq⟩, by rw [ht]; exact hP⟩, hS.F ht⟩) hS.2.2 hd hlk
theorem y_aret (hC : yC l E X own cc nL ret fr ll) {o : Option Nat} {nm : String} {q : Option Nat → Mem → Prop} (hrt : ret = some (.object nm)) (hd : decode cc pc = .ok (.areturn, 1)) (hq : q o g) : Y l E X (pR E q) pc lo [rfo E o] g := by
  obtain ⟨p, e, R, s, m, args, below, meth, c⟩ := X
  obtain ⟨hx, hb, hml, hown, hts, hK, hE, hlk, hr, hfr, hll⟩ := hC
  intro H locs ls hP hS hl
  exact W.aret hx hb (hr.trans hrt) (Or.inl ⟨_, rfl⟩) (va_rf_or _) (fun t ht _ => ⟨⟨_, g, rfl, ⟨o, rfl, hq⟩, by rw [ht]; exact hP⟩, hS.F ht⟩) hS.2.2 hd hlk
def yF (own : String) (idx ci kf : Nat) : Prop := ∃ (C : String) (T : u_T) (N : Nat), gC[ci]? = some (C, T, N) ∧ kf < N ∧ (∀ w ∈ u_ws C T N, w ∈ lw_gt) ∧ Cond.fieldLink own idx (T kf).1 (T kf).2.1 (T kf).2.2.1 ∈ lw_gt
def yFp (own : String) (idx ci kf : Nat) (ty : FieldType) : Prop := ∃ (C : String) (T : u_T) (N : Nat) (ty0 : Nat → FieldType), gC[ci]? = some (C, T, N) ∧ kf < N ∧ (∀ w ∈ u_ws C T N, w ∈ lw_gt) ∧ Cond.fieldLink own idx (T kf).1 (T kf).2.1 (T kf).2.2.1 ∈ lw_gt ∧ (∀ k, k < N → parseFieldDescriptor (T k).2.2.1 = some (ty0 k)) ∧ (∀ a, a < N → ∀ b, b < N → a ≠ b → (T a).2.1 ≠ (T b).2.1) ∧ (T kf).2.2.2 = false ∧ parseFieldDescriptor (T kf).2.2.1 = some ty
theorem gA_top {E : gE} {k : Nat} (hk : k < eK E) : gA E (eA E k) := ⟨k, hk, rfl⟩
theorem gA_id (E : gE) : ∀ q, gA E q → gA E q := fun _ h => h
theorem y_get (hC : yC l E X own cc nL ret fr ll) {idx ci kf k : Nat} {fs : List Value} {v : Value} (hf : yF own idx ci kf) (hd : decode cc pc = .ok (.getfield idx, 3)) (hk : k < eK E) (hg : g k = oB ci fs) (hv : fs[kf]? = some v) (kk : Y l E X post (pc + 3) lo (v :: st) g) : Y l E X post pc lo (rf E k :: st) g := by
  obtain ⟨p, e, R, s, m, args, below, meth, c⟩ := X
  obtain ⟨hx, hb, hml, hown, hts, hK, hE, hlk, hr, hfr, hll⟩ := hC
  intro H locs ls hP hS hl
  obtain ⟨C, T, N, h1, h2, h3, h4⟩ := hf
  exact va_get (D := E.1) (ci := ci) (v := v) (C := C) (T := T) (N := N) hx hb hts h3 hown hK hP k (by rw [gW_at hk, hg]; rfl) h1 kf h2 (hts _ h4) (fun _ h9 => h9) hv hd (kk H locs ls hP hS hl)
theorem y_put (hC : yC l E X own cc nL ret fr ll) {idx ci kf k : Nat} {fs fs' : List Value} {v : Value} {ty : FieldType} (hf : yFp own idx ci kf ty) (hd : decode cc pc = .ok (.putfield idx, 3)) (hk : k < eK E) (hg : g k = oB ci fs) (hlen : kf < fs.length) (hn : narrow ty v = v) (hfit : fits ty v = true) (hs : fs.set kf v = fs') (kk : Y l E X post (pc + 3) lo st (va_up g k (oB ci fs'))) : Y l E X post pc lo (v :: rf E k :: st) g := by
  obtain ⟨p, e, R, s, m, args, below, meth, c⟩ := X
  obtain ⟨hx, hb, hml, hown, hts, hK, hE, hlk, hr, hfr, hll⟩ := hC
  intro H locs ls hP hS hl
  obtain ⟨C, T, N, ty0, h1, h2, h3, h4, h5, h6, h7, h8⟩ := hf
  refine va_put (D := E.1) (ci := ci) (v := v) (ty := ty) (C := C) (T := T) (N := N) hx hb hts h3 ty0 h5 h6 hown hK hP (gW_D hE (gA_id E)) hS k (by rw [gW_at hk, hg]; rfl) h1 kf h2 (hts _ h4) (fun _ h9 => h9) h7 h8 hn hfit hlen hd (fun H1 locs1 hP1 _ hS1 => ?_)
  rw [gW_set hk, hs] at hP1
  exact kk H1 locs1 ls hP1 hS1 hl
theorem y_ix {i : Int32} {j n : Nat} (hi : i = nI j) (hj : j < n) (hn : n < 2147483648) : vp_in i n ∧ i.toNatClampNeg = j := by
  subst hi
  exact ⟨vp_in_nI hj hn, nI_clamp (by omega)⟩
theorem y_iald (hC : yC l E X own cc nL ret fr ll) {k n j : Nat} {f : Nat → Int32} {i : Int32} (hd : decode cc pc = .ok (.iaload, 1)) (hk : k < eK E) (hg : g k = aI E 0 n f) (hi : i = nI j) (hj : j < n) (hn : n < 2147483648) (kk : Y l E X post (pc + 1) lo (.int (f j) :: st) g) : Y l E X post pc lo (.int i :: rf E k :: st) g := by
  obtain ⟨p, e, R, s, m, args, below, meth, c⟩ := X
  obtain ⟨hx, hb, hml, hown, hts, hK, hE, hlk, hr, hfr, hll⟩ := hC
  intro H locs ls hP hS hl
  obtain ⟨h1, h2⟩ := y_ix hi hj hn
  exact va_iald hx hb hK hP k 0 (by rw [gW_at hk, hg]; rfl) rfl h1 hd (by rw [h2]; exact kk H locs ls hP hS hl)
theorem y_zald (hC : yC l E X own cc nL ret fr ll) {k n j : Nat} {f : Nat → Int32} {i : Int32} (hd : decode cc pc = .ok (.baload, 1)) (hk : k < eK E) (hg : g k = aI E 2 n f) (hi : i = nI j) (hj : j < n) (hn : n < 2147483648) (kk : Y l E X post (pc + 1) lo (.int (f j) :: st) g) : Y l E X post pc lo (.int i :: rf E k :: st) g := by
  obtain ⟨p, e, R, s, m, args, below, meth, c⟩ := X
  obtain ⟨hx, hb, hml, hown, hts, hK, hE, hlk, hr, hfr, hll⟩ := hC
  intro H locs ls hP hS hl
  obtain ⟨h1, h2⟩ := y_ix hi hj hn
  exact va_zald hx hb hK hP k 2 (by rw [gW_at hk, hg]; rfl) rfl h1 hd (by rw [h2]; exact kk H locs ls hP hS hl)
theorem y_cald (hC : yC l E X own cc nL ret fr ll) {k n j : Nat} {f : Nat → Int32} {i : Int32} (hd : decode cc pc = .ok (.caload, 1)) (hk : k < eK E) (hg : g k = aI E 1 n f) (hi : i = nI j) (hj : j < n) (hn : n < 2147483648) (kk : Y l E X post (pc + 1) lo (.int (f j) :: st) g) : Y l E X post pc lo (.int i :: rf E k :: st) g := by
  obtain ⟨p, e, R, s, m, args, below, meth, c⟩ := X
  obtain ⟨hx, hb, hml, hown, hts, hK, hE, hlk, hr, hfr, hll⟩ := hC
  intro H locs ls hP hS hl
  obtain ⟨h1, h2⟩ := y_ix hi hj hn
  exact va_cald hx hb hK hP k 1 (by rw [gW_at hk, hg]; rfl) rfl h1 hd (by rw [h2]; exact kk H locs ls hP hS hl)
theorem y_iast (hC : yC l E X own cc nL ret fr ll) {k n j : Nat} {f : Nat → Int32} {i x : Int32} (hd : decode cc pc = .ok (.iastore, 1)) (hk : k < eK E) (hg : g k = aI E 0 n f) (hi : i = nI j) (hj : j < n) (hn : n < 2147483648) (kk : Y l E X post (pc + 1) lo st (va_up g k (aI E 0 n (upd f j x)))) : Y l E X post pc lo (.int x :: .int i :: rf E k :: st) g := by
  obtain ⟨p, e, R, s, m, args, below, meth, c⟩ := X
  obtain ⟨hx, hb, hml, hown, hts, hK, hE, hlk, hr, hfr, hll⟩ := hC
  intro H locs ls hP hS hl
  obtain ⟨h1, h2⟩ := y_ix hi hj hn
  refine va_iast hx hb hK hP (gW_D hE (gA_id E)) hS k 0 (by rw [gW_at hk, hg]; rfl) rfl h1 hd (fun H1 locs1 hP1 _ hS1 => ?_)
  rw [gW_set hk, h2] at hP1
  exact kk H1 locs1 ls hP1 hS1 hl
theorem y_zast (hC : yC l E X own cc nL ret fr ll) {k n j : Nat} {f : Nat → Int32} {i x : Int32} (hd : decode cc pc = .ok (.bastore, 1)) (hk : k < eK E) (hg : g k = aI E 2 n f) (hi : i = nI j) (hj : j < n) (hn : n < 2147483648) (hx : vp_nar .boolean x = x) (kk : Y l E X post (pc + 1) lo st (va_up g k (aI E 2 n (upd f j x)))) : Y l E X post pc lo (.int x :: .int i :: rf E k :: st) g := by
  obtain ⟨p, e, R, s, m, args, below, meth, c⟩ := X
  obtain ⟨hx, hb, hml, hown, hts, hK, hE, hlk, hr, hfr, hll⟩ := hC
  intro H locs ls hP hS hl
  rename_i hnar
  obtain ⟨h1, h2⟩ := y_ix hi hj hn
  refine va_zast hx hb hK hP (gW_D hE (gA_id E)) hS k 2 (by rw [gW_at hk, hg]; rfl) rfl h1 hd (fun H1 locs1 hP1 _ hS1 => ?_)
  rw [gW_set hk, h2, hnar] at hP1
  exact kk H1 locs1 ls hP1 hS1 hl
theorem y_cast (hC : yC l E X own cc nL ret fr ll) {k n j : Nat} {f : Nat → Int32} {i x : Int32} (hd : decode cc pc = .ok (.castore, 1)) (hk : k < eK E) (hg : g k = aI E 1 n f) (hi : i = nI j) (hj : j < n) (hn : n < 2147483648) (hx : vp_nar .char x = x) (kk : Y l E X post (pc + 1) lo st (va_up g k (aI E 1 n (upd f j x)))) : Y l E X post pc lo (.int x :: .int i :: rf E k :: st) g := by
  obtain ⟨p, e, R, s, m, args, below, meth, c⟩ := X
  obtain ⟨hx, hb, hml, hown, hts, hK, hE, hlk, hr, hfr, hll⟩ := hC
  intro H locs ls hP hS hl
  rename_i hnar
  obtain ⟨h1, h2⟩ := y_ix hi hj hn
  refine va_cast hx hb hK hP (gW_D hE (gA_id E)) hS k 1 (by rw [gW_at hk, hg]; rfl) rfl h1 hd (fun H1 locs1 hP1 _ hS1 => ?_)
  rw [gW_set hk, h2, hnar] at hP1
  exact kk H1 locs1 ls hP1 hS1 hl
/-- of the three kinds of rows of references, which class each holds -/
def yT (t ci : Nat) (C : String) : Prop := (t = 3 ∧ ci = 3 ∧ C = RX3) ∨ (t = 4 ∧ ci = 0 ∧ C = RX0) ∨ (t = 5 ∧ ci = 4 ∧ C = RX4)
theorem yT_tys {E : gE} {t ci : Nat} {C : String} (h : yT t ci C) : (eTys E)[t]? = some (eT E t, .object C) := by
  rcases h with ⟨rfl, -, rfl⟩ | ⟨rfl, -, rfl⟩ | ⟨rfl, -, rfl⟩ <;> rfl
theorem yT_cls {t ci : Nat} {C : String} (h : yT t ci C) : ∃ r : vw_C, gC[ci]? = some r ∧ r.1 = C := by
  rcases h with ⟨-, rfl, rfl⟩ | ⟨-, rfl, rfl⟩ | ⟨-, rfl, rfl⟩ <;> exact ⟨_, rfl, rfl⟩
theorem y_aald (hC : yC l E X own cc nL ret fr ll) {k n j t ci : Nat} {C : String} {π : Nat → Nat} {i : Int32} (ht : yT t ci C) (hd : decode cc pc = .ok (.aaload, 1)) (hk : k < eK E) (hg : g k = aR E t n π) (hi : i = nI j) (hj : j < n) (hn : n < 2147483648) (kk : Y l E X post (pc + 1) lo (rf E (π j) :: st) g) : Y l E X post pc lo (.int i :: rf E k :: st) g := by
  obtain ⟨p, e, R, s, m, args, below, meth, c⟩ := X
  obtain ⟨hx, hb, hml, hown, hts, hK, hE, hlk, hr, hfr, hll⟩ := hC
  intro H locs ls hP hS hl
  obtain ⟨h1, h2⟩ := y_ix hi hj hn
  exact va_aldq hx hb hK hP k t (by rw [gW_at hk, hg]; rfl) (yT_tys ht) h1 hd (by rw [h2]; exact kk H locs ls hP hS hl)
theorem y_aast (hC : yC l E X own cc nL ret fr ll) {k n j t ci r : Nat} {C : String} {π : Nat → Nat} {vs : List Value} {i : Int32} (ht : yT t ci C) (hd : decode cc pc = .ok (.aastore, 1)) (hk : k < eK E) (hg : g k = aR E t n π) (hr0 : r < eK E) (hgr : g r = oB ci vs) (hi : i = nI j) (hj : j < n) (hn : n < 2147483648) (kk : Y l E X post (pc + 1) lo st (va_up g k (aR E t n (va_up π j r)))) : Y l E X post pc lo (rf E r :: .int i :: rf E k :: st) g := by
  obtain ⟨p, e, R, s, m, args, below, meth, c⟩ := X
  obtain ⟨hx, hb, hml, hown, hts, hK, hE, hlk, hr, hfr, hll⟩ := hC
  intro H locs ls hP hS hl
  obtain ⟨h1, h2⟩ := y_ix hi hj hn
  obtain ⟨rc, h3, h4⟩ := yT_cls ht
  refine va_astq hx hb hK hP (gW_D hE (gA_id E)) hS k t r ci (r := rc) (by rw [gW_at hk, hg]; rfl) (by rw [yT_tys ht, h4]) (by rw [gW_at hr0, hgr]; rfl) h3 h1 hd (fun H1 locs1 hP1 _ hS1 => ?_)
  have h5 : (Sum.inl (eT E t, n, Sum.inr (Sum.inr (Sum.inr (Sum.inr (va_up (fun i => some (eA E (π i))) i.toNatClampNeg (some (eA E r))))))) : va_E) = aR E t n (va_up π j r) := by
    unfold aR
    congr 7
    funext z
    unfold va_up
    rw [h2]
    by_cases hz : z = j <;> simp [hz]
  rw [gW_set hk, h5] at hP1
  exact kk H1 locs1 ls hP1 hS1 hl
theorem y_copy (hC : yC l E X own cc nL ret fr ll) {idx k k2 n n2 a b z : Nat} {f h : Nat → Int32} {sp dp nn : Int32} (hnL : nL = lo.length) (hl1 : Cond.methodLink own idx arraycopyName ∈ lw_gt) (hl2 : Cond.native arraycopyName ∈ lw_gt) (hl3 : Cond.static arraycopyName ∈ lw_gt) (hl4 : Cond.initialized "java/lang/System" ∈ lw_gt) (hd : decode cc pc = .ok (.invokestatic idx, 3)) (hk : k < eK E) (hg : g k = aI E 0 n f) (hk2 : k2 < eK E) (hg2 : g k2 = aI E 0 n2 h) (hsp : sp = nI a) (hdp : dp = nI b) (hnn : nn = nI z) (h4 : a + z ≤ n) (h5 : b + z ≤ n2) (hn1 : n < 2147483648) (hn2 : n2 < 2147483648) (hfr1 : 1 ≤ fr) (hll1 : (st.map fun v => v.category).sum + (nativeFrameWords "java/lang/System" "arraycopy" 5 + 11) ≤ ll) (kk : Y l E X post (pc + 3) lo st (va_up g k2 (aI E 0 n2 (va_cpy f h a b z)))) : Y l E X post pc lo (.int nn :: .int dp :: rf E k2 :: .int sp :: rf E k :: st) g := by
  obtain ⟨p, e, R, s, m, args, below, meth, c⟩ := X
  obtain ⟨hx, hb, hml, hown, hts, hK, hE, hlk, hr, hfr, hll⟩ := hC
  intro H locs ls hP hS hl
  subst hsp; subst hdp; subst hnn
  have ca : (nI a).toNatClampNeg = a := nI_clamp (by omega)
  have cb : (nI b).toNatClampNeg = b := nI_clamp (by omega)
  have cz : (nI z).toNatClampNeg = z := nI_clamp (by omega)
  refine va_copyi hx hb (hml.trans ?_) hown (hts _ hl1) (hts _ hl2) (hts _ hl3) (hts _ hl4) hK hP (gW_D hE (gA_id E)) hS k k2 0 0 (by rw [gW_at hk, hg]; rfl) (by rw [gW_at hk2, hg2]; rfl) rfl rfl rfl (nI_pos (by omega)) (nI_pos (by omega)) (nI_pos (by omega)) (by rw [ca, cz]; exact h4) (by rw [cb, cz]; exact h5) (fun _ _ => rfl) (by rw [hfr]; exact hfr1) (by rw [hll]; exact hll1) hd (fun H1 locs1 hP1 _ hS1 => ?_)
  · exact (hnL.trans hl.1.symm)
  · rw [gW_set hk2, ca, cb, cz] at hP1
    exact kk H1 locs1 ls hP1 hS1 hl
theorem y_mmax (hC : yC l E X own cc nL ret fr ll) {idx : Nat} {x y : Int32} (hnL : nL = lo.length) (hl1 : Cond.methodLink own idx Lib.Math.max.name ∈ lw_gt) (hl2 : Cond.static Lib.Math.max.name ∈ lw_gt) (hl3 : Cond.initialized "java/lang/Math" ∈ lw_gt) (hl4 : Cond.code Lib.Math.max.name Lib.Math.max.code 2 (some .int) ∈ lw_gt) (hd : decode cc pc = .ok (.invokestatic idx, 3)) (hfr1 : 1 ≤ fr) (hll1 : (st.map fun v => v.category).sum + 13 ≤ ll) (kk : Y l E X post (pc + 3) lo (.int (if x < y then y else x) :: st) g) : Y l E X post pc lo (.int y :: .int x :: st) g := by
  obtain ⟨p, e, R, s, m, args, below, meth, c⟩ := X
  obtain ⟨hx, hb, hml, hown, hts, hK, hE, hlk, hr, hfr, hll⟩ := hC
  intro H locs ls hP hS hl
  exact va_mmax hx hb (hml.trans (hnL.trans hl.1.symm)) hown (hts _ hl1) (hts _ hl2) (hts _ hl3) (hts _ hl4) (by rw [hfr]; exact hfr1) (by rw [hll]; exact hll1) (Nat.zero_le _) (Nat.zero_le _) hd (kk H locs ls hP hS hl)
theorem y_mmin (hC : yC l E X own cc nL ret fr ll) {idx : Nat} {x y : Int32} (hnL : nL = lo.length) (hl1 : Cond.methodLink own idx Lib.Math.min.name ∈ lw_gt) (hl2 : Cond.static Lib.Math.min.name ∈ lw_gt) (hl3 : Cond.initialized "java/lang/Math" ∈ lw_gt) (hl4 : Cond.code Lib.Math.min.name Lib.Math.min.code 2 (some .int) ∈ lw_gt) (hd : decode cc pc = .ok (.invokestatic idx, 3)) (hfr1 : 1 ≤ fr) (hll1 : (st.map fun v => v.category).sum + 13 ≤ ll) (kk : Y l E X post (pc + 3) lo (.int (if y < x then y else x) :: st) g) : Y l E X post pc lo (.int y :: .int x :: st) g := by
  obtain ⟨p, e, R, s, m, args, below, meth, c⟩ := X
  obtain ⟨hx, hb, hml, hown, hts, hK, hE, hlk, hr, hfr, hll⟩ := hC
  intro H locs ls hP hS hl
  exact va_mmin hx hb (hml.trans (hnL.trans hl.1.symm)) hown (hts _ hl1) (hts _ hl2) (hts _ hl3) (hts _ hl4) (by rw [hfr]; exact hfr1) (by rw [hll]; exact hll1) (Nat.zero_le _) (Nat.zero_le _) hd (kk H locs ls hP hS hl)
theorem y_run {l : Launch} {E : gE} {p : Program} {e : Jvm.Env} {R : Room} {s : State} {m : MethodId} {args : Array Value} {below : List Frame} {meth : Method} {c : Code} {H : Heap} {locs : List Loc} {Q : State → Prop} {pc : Nat} {ls : Array Slot} {rest st0 : List Value} {a : Array Value} {postc : Option Value → Mem → Prop}
    (hr : va_Run p l e R s m args below meth c H locs 0 0 0 0 (F0 m pc ls st0) rest (gQ E postc a) (gA E)) (hS : va_S (gA E) s.heap H locs)
    (kk : ∀ (v : Option Value) (g' : Mem) (H1 : Heap) (locs1 : List Loc), postc v g' → gP E g' H1 → va_S (gA E) s.heap H1 locs1 → W p l e R s m args below meth c H1 locs1 0 0 Q (F0 m (pc + 3) ls (v.toList ++ rest))) : W p l e R s m args below meth c H locs 0 0 Q (F0 m pc ls st0) := by
  intro T hT X
  obtain ⟨v, st₀, t, T', L, h0, X', hL, e1, e2, ⟨⟨w, g', hv, hp, hb⟩, hz, hk⟩, st⟩ := hr T hT X
  cases hv
  rw [h0] at hz hk
  obtain ⟨t2, a1, b1⟩ := kk v g' T'.heap (locs ++ L) hp (by rw [e1]; exact hb)
    ⟨Nat.le_trans hS.1 (by rw [e1]; exact hz), fun q h1 h2 => by rw [e1, hk q (Nat.lt_of_lt_of_le h1 hS.1) h2]; exact hS.2.1 q h1 h2, fun q hq => by
      rcases List.mem_append.mp hq with h | h
      · exact hS.2.2 q h
      · exact hL q h⟩ T' rfl X'
  exact ⟨t2, st t2 a1, b1⟩
/-- what the tables say of a method: an instance's, a class's own -/
def yMv (ci : Nat) (y : MethodName) (bytes : ByteArray) (mL : Nat) (rt : Option FieldType) (n : Nat) : Prop := ∃ q : vw_C, gC[ci]? = some q ∧ q.1 = y.cls ∧ (y.cls ≠ "java/lang/invoke/MethodHandle" ∧ y.cls ≠ "java/lang/invoke/VarHandle" ∧ (parseMethodDescriptor y.desc).map (fun d => d.parameters.length) = some n) ∧ Cond.instanceMethod y ∈ lw_gt ∧ Cond.selects y.cls y y ∈ lw_gt ∧ Cond.initialized y.cls ∈ lw_gt ∧ Cond.code y bytes mL rt ∈ lw_gt
def yMs (y : MethodName) (bytes : ByteArray) (mL : Nat) (rt : Option FieldType) (n : Nat) : Prop := (y.cls ≠ "java/lang/invoke/MethodHandle" ∧ y.cls ≠ "java/lang/invoke/VarHandle" ∧ (parseMethodDescriptor y.desc).map (fun d => d.parameters.length) = some n) ∧ Cond.static y ∈ lw_gt ∧ Cond.initialized y.cls ∈ lw_gt ∧ Cond.code y bytes mL rt ∈ lw_gt
theorem mt_blind {E : gE} {av : List Value} {g : Mem} : FrameBlind (va_Pc av (fun U => gP E g U.heap ∧ va_K E.1 gC (eTys E) U ∧ eOk E)) := fun a U g mk q => by
  obtain ⟨q0, qP, qK, qE⟩ := q
  exact ⟨q0, qP, va_K.moved (u := U) (U := U.calling g mk a) (Vm.Alike.refl U.vm) qK, qE⟩
theorem y_callV (hC : yC l E X own cc nL ret fr ll) {idx ci b n mL fr2 ll2 : Nat} {y : MethodName} {bytes : ByteArray} {rt : Option FieldType} {fs As rest : List Value} {postc : Option Value → Mem → Prop} (hw : yMv ci y bytes mL rt n) (hlink : Cond.methodLink own idx y ∈ lw_gt) (hd : decode cc pc = .ok (.invokevirtual idx, 3)) (hM : Mt l E y bytes mL rt fr2 ll2 (rf E b :: As) g postc) (hk : b < eK E) (hg : g b = oB ci fs) (hnL : nL = lo.length) (hlen : As.length = n) (hst : st = As.reverse ++ rf E b :: rest) (hcat : (rest.map fun v => v.category).sum ≤ 8) (hroom : fr2 + 1 ≤ fr ∧ 8 + (mL + 11) + ll2 ≤ ll) (kk : ∀ (v : Option Value) (g' : Mem), postc v g' → Y l E X post (pc + 3) lo (v.toList ++ rest) g') : Y l E X post pc lo st g := by
  obtain ⟨p, e, R, s, m, args, below, meth, c⟩ := X
  obtain ⟨hx, hb, hml, hown, hts, hK, hE, hlk, hr, hfr, hll⟩ := hC
  intro H locs ls hP hS hl
  obtain ⟨q, w1, w2, w3, w4, w5, w6, w7⟩ := hw
  refine y_run (E := E) (postc := postc) (rest := rest) (va_runV (C := y.cls) (index := idx) (n := n) (As := As) (rest := rest) (free := gA E) (Ts := lw_gt) (own := own) (nL := nL) ⟨hx, hb, hml, hown, hts⟩ hM ⟨callB_of n hts (lw_good w7) rfl rfl rfl (hts _ w6) (hts _ hlink) w3 ⟨by rw [hfr]; exact hroom.1, by rw [hll]; exact hroom.2⟩, hts _ w4, hts _ w5⟩ ⟨mt_blind, ?_, fun U hU hW => ⟨rfl, by rw [hU]; exact hP, va_K.moved hW.alike hK, hE⟩⟩ rfl hlen (hl.1.trans hnL.symm) hst (lv_room hcat) hd ⟨Nat.zero_le _, Nat.zero_le _⟩) hS (fun v g' H1 locs1 hp hP1 hS1 => kk v g' hp H1 locs1 ls hP1 hS1 hl)
  rw [← w2]
  exact va_recv hK hP (ci := ci) (q0 := b) w1 (by rw [gW_at hk, hg]; rfl)
theorem y_callS (hC : yC l E X own cc nL ret fr ll) {idx n mL fr2 ll2 : Nat} {y : MethodName} {bytes : ByteArray} {rt : Option FieldType} {As rest : List Value} {postc : Option Value → Mem → Prop} (hw : yMs y bytes mL rt n) (hlink : Cond.methodLink own idx y ∈ lw_gt) (hd : decode cc pc = .ok (.invokestatic idx, 3)) (hM : Mt l E y bytes mL rt fr2 ll2 As g postc) (hnL : nL = lo.length) (hlen : As.length = n) (hst : st = As.reverse ++ rest) (hcat : (rest.map fun v => v.category).sum ≤ 8) (hroom : fr2 + 1 ≤ fr ∧ 8 + (mL + 11) + ll2 ≤ ll) (kk : ∀ (v : Option Value) (g' : Mem), postc v g' → Y l E X post (pc + 3) lo (v.toList ++ rest) g') : Y l E X post pc lo st g := by
  obtain ⟨p, e, R, s, m, args, below, meth, c⟩ := X
  obtain ⟨hx, hb, hml, hown, hts, hK, hE, hlk, hr, hfr, hll⟩ := hC
  intro H locs ls hP hS hl
  obtain ⟨w3, w4, w6, w7⟩ := hw
  exact y_run (E := E) (postc := postc) (rest := rest) (va_runS (index := idx) (n := n) (As := As) (rest := rest) (free := gA E) (Ts := lw_gt) (own := own) (nL := nL) ⟨hx, hb, hml, hown, hts⟩ hM ⟨callB_of n hts (lw_good w7) rfl rfl rfl (hts _ w6) (hts _ hlink) w3 ⟨by rw [hfr]; exact hroom.1, by rw [hll]; exact hroom.2⟩, hts _ w4⟩ ⟨mt_blind, fun U hU hW => ⟨rfl, by rw [hU]; exact hP, va_K.moved hW.alike hK, hE⟩⟩ rfl hlen (hl.1.trans hnL.symm) hst (lv_room hcat) hd ⟨Nat.zero_le _, Nat.zero_le _⟩) hS (fun v g' H1 locs1 hp hP1 hS1 => kk v g' hp H1 locs1 ls hP1 hS1 hl)
theorem pk_i {p : Int32 → Mem → Prop} {rest : List Value} (kk : ∀ (r : Int32) (g' : Mem), p r g' → Y l E X post pc lo (.int r :: rest) g') : ∀ (v : Option Value) (g' : Mem), pI p v g' → Y l E X post pc lo (v.toList ++ rest) g' := fun v g' h => by
  obtain ⟨r, rfl, h⟩ := h
  exact kk r g' h
theorem pk_l {p : Int64 → Mem → Prop} {rest : List Value} (kk : ∀ (r : Int64) (g' : Mem), p r g' → Y l E X post pc lo (.long r :: rest) g') : ∀ (v : Option Value) (g' : Mem), pL p v g' → Y l E X post pc lo (v.toList ++ rest) g' := fun v g' h => by
  obtain ⟨r, rfl, h⟩ := h
  exact kk r g' h
theorem pk_v {p : Mem → Prop} {rest : List Value} (kk : ∀ (g' : Mem), p g' → Y l E X post pc lo rest g') : ∀ (v : Option Value) (g' : Mem), pV p v g' → Y l E X post pc lo (v.toList ++ rest) g' := fun v g' h => by
  obtain ⟨rfl, h⟩ := h
  exact kk g' h
theorem pk_r {p : Option Nat → Mem → Prop} {rest : List Value} (kk : ∀ (o : Option Nat) (g' : Mem), p o g' → Y l E X post pc lo (rfo E o :: rest) g') : ∀ (v : Option Value) (g' : Mem), pR E p v g' → Y l E X post pc lo (v.toList ++ rest) g' := fun v g' h => by
  obtain ⟨o, rfl, h⟩ := h
  exact kk o g' h
end YR
end
