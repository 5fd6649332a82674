section
/-- a private method of a class that the tables say can be made, by its rows of tables_1 -/
def lw_okq (q : MethodName × Nat) : Prop := (q.1.cls ≠ "java/lang/invoke/MethodHandle" ∧ q.1.cls ≠ "java/lang/invoke/VarHandle") ∧ Cond.instantiable q.1.cls q.2 ∈ tables_1 ∧ Cond.privateMethod q.1 ∈ tables_1 ∧ Cond.instanceMethod q.1 ∈ tables_1
theorem lw_p0 : lw_okq (⟨"PaletteTurns", "otherShades", "(II)I"⟩, 6) := ⟨⟨by decide +kernel, by decide +kernel⟩, List.mem_of_getElem? (i := 11) (by decide +kernel), List.mem_of_getElem? (i := 246) (by decide +kernel), List.mem_of_getElem? (i := 247) (by decide +kernel)⟩
theorem lw_p1 : lw_okq (⟨"PaletteTurns", "setShades", "(II)V"⟩, 6) := ⟨⟨by decide +kernel, by decide +kernel⟩, List.mem_of_getElem? (i := 11) (by decide +kernel), List.mem_of_getElem? (i := 250) (by decide +kernel), List.mem_of_getElem? (i := 251) (by decide +kernel)⟩
theorem lw_p2 : lw_okq (⟨"PaletteTurns", "findShades", "()V"⟩, 6) := ⟨⟨by decide +kernel, by decide +kernel⟩, List.mem_of_getElem? (i := 11) (by decide +kernel), List.mem_of_getElem? (i := 258) (by decide +kernel), List.mem_of_getElem? (i := 259) (by decide +kernel)⟩
theorem lw_p3 : lw_okq (⟨"PaletteTurns", "isRange", "(I)Z"⟩, 6) := ⟨⟨by decide +kernel, by decide +kernel⟩, List.mem_of_getElem? (i := 11) (by decide +kernel), List.mem_of_getElem? (i := 349) (by decide +kernel), List.mem_of_getElem? (i := 350) (by decide +kernel)⟩
theorem lw_p4 : lw_okq (⟨"PaletteTurns", "isGlow", "(I)Z"⟩, 6) := ⟨⟨by decide +kernel, by decide +kernel⟩, List.mem_of_getElem? (i := 11) (by decide +kernel), List.mem_of_getElem? (i := 387) (by decide +kernel), List.mem_of_getElem? (i := 388) (by decide +kernel)⟩
theorem lw_p5 : lw_okq (⟨"PaletteTurns", "flood", "(II)I"⟩, 6) := ⟨⟨by decide +kernel, by decide +kernel⟩, List.mem_of_getElem? (i := 11) (by decide +kernel), List.mem_of_getElem? (i := 505) (by decide +kernel), List.mem_of_getElem? (i := 506) (by decide +kernel)⟩
theorem lw_p6 : lw_okq (⟨"PaletteTurns", "enter", "(IIII)I"⟩, 6) := ⟨⟨by decide +kernel, by decide +kernel⟩, List.mem_of_getElem? (i := 11) (by decide +kernel), List.mem_of_getElem? (i := 509) (by decide +kernel), List.mem_of_getElem? (i := 510) (by decide +kernel)⟩
theorem lw_p7 : lw_okq (⟨"PaletteTurns", "differentColours", "()I"⟩, 6) := ⟨⟨by decide +kernel, by decide +kernel⟩, List.mem_of_getElem? (i := 11) (by decide +kernel), List.mem_of_getElem? (i := 561) (by decide +kernel), List.mem_of_getElem? (i := 562) (by decide +kernel)⟩
theorem lw_p8 : lw_okq (⟨"PaletteTurns", "markPlacesOfPicture", "()V"⟩, 6) := ⟨⟨by decide +kernel, by decide +kernel⟩, List.mem_of_getElem? (i := 11) (by decide +kernel), List.mem_of_getElem? (i := 565) (by decide +kernel), List.mem_of_getElem? (i := 566) (by decide +kernel)⟩
theorem lw_p9 : lw_okq (⟨"PaletteTurns", "isMarkedBefore", "(I)Z"⟩, 6) := ⟨⟨by decide +kernel, by decide +kernel⟩, List.mem_of_getElem? (i := 11) (by decide +kernel), List.mem_of_getElem? (i := 569) (by decide +kernel), List.mem_of_getElem? (i := 570) (by decide +kernel)⟩
theorem lw_p10 : lw_okq (⟨"PaletteTurns", "movingPixels", "()I"⟩, 6) := ⟨⟨by decide +kernel, by decide +kernel⟩, List.mem_of_getElem? (i := 11) (by decide +kernel), List.mem_of_getElem? (i := 573) (by decide +kernel), List.mem_of_getElem? (i := 574) (by decide +kernel)⟩
theorem lw_p11 : lw_okq (⟨"PaletteTurns", "markedPixels", "()I"⟩, 6) := ⟨⟨by decide +kernel, by decide +kernel⟩, List.mem_of_getElem? (i := 11) (by decide +kernel), List.mem_of_getElem? (i := 581) (by decide +kernel), List.mem_of_getElem? (i := 582) (by decide +kernel)⟩
theorem lw_p12 : lw_okq (⟨"PaletteTurns", "markMovingPlacesOfPicture", "()V"⟩, 6) := ⟨⟨by decide +kernel, by decide +kernel⟩, List.mem_of_getElem? (i := 11) (by decide +kernel), List.mem_of_getElem? (i := 622) (by decide +kernel), List.mem_of_getElem? (i := 623) (by decide +kernel)⟩
theorem lw_p13 : lw_okq (⟨"PaletteTurns", "markedPlacesShowShades", "(I)Z"⟩, 6) := ⟨⟨by decide +kernel, by decide +kernel⟩, List.mem_of_getElem? (i := 11) (by decide +kernel), List.mem_of_getElem? (i := 626) (by decide +kernel), List.mem_of_getElem? (i := 627) (by decide +kernel)⟩
theorem lw_p14 : lw_okq (⟨"PaletteTurns", "pixelDistance", "(II)I"⟩, 6) := ⟨⟨by decide +kernel, by decide +kernel⟩, List.mem_of_getElem? (i := 11) (by decide +kernel), List.mem_of_getElem? (i := 634) (by decide +kernel), List.mem_of_getElem? (i := 635) (by decide +kernel)⟩
theorem lw_p15 : lw_okq (⟨"PaletteTurnsModel", "record", "()V"⟩, 19) := ⟨⟨by decide +kernel, by decide +kernel⟩, List.mem_of_getElem? (i := 639) (by decide +kernel), List.mem_of_getElem? (i := 715) (by decide +kernel), List.mem_of_getElem? (i := 716) (by decide +kernel)⟩
def lw_privs_1 : List (MethodName × Nat) := [(⟨"PaletteTurns", "otherShades", "(II)I"⟩, 6), (⟨"PaletteTurns", "setShades", "(II)V"⟩, 6), (⟨"PaletteTurns", "findShades", "()V"⟩, 6), (⟨"PaletteTurns", "isRange", "(I)Z"⟩, 6), (⟨"PaletteTurns", "isGlow", "(I)Z"⟩, 6), (⟨"PaletteTurns", "flood", "(II)I"⟩, 6), (⟨"PaletteTurns", "enter", "(IIII)I"⟩, 6), (⟨"PaletteTurns", "differentColours", "()I"⟩, 6), (⟨"PaletteTurns", "markPlacesOfPicture", "()V"⟩, 6), (⟨"PaletteTurns", "isMarkedBefore", "(I)Z"⟩, 6), (⟨"PaletteTurns", "movingPixels", "()I"⟩, 6), (⟨"PaletteTurns", "markedPixels", "()I"⟩, 6), (⟨"PaletteTurns", "markMovingPlacesOfPicture", "()V"⟩, 6), (⟨"PaletteTurns", "markedPlacesShowShades", "(I)Z"⟩, 6), (⟨"PaletteTurns", "pixelDistance", "(II)I"⟩, 6), (⟨"PaletteTurnsModel", "record", "()V"⟩, 19)]
theorem lw_r1 : ∀ q ∈ lw_privs_1, lw_okq q := List.forall_mem_cons.mpr ⟨lw_p0, List.forall_mem_cons.mpr ⟨lw_p1, List.forall_mem_cons.mpr ⟨lw_p2, List.forall_mem_cons.mpr ⟨lw_p3, List.forall_mem_cons.mpr ⟨lw_p4, List.forall_mem_cons.mpr ⟨lw_p5, List.forall_mem_cons.mpr ⟨lw_p6, List.forall_mem_cons.mpr ⟨lw_p7, List.forall_mem_cons.mpr ⟨lw_p8, List.forall_mem_cons.mpr ⟨lw_p9, List.forall_mem_cons.mpr ⟨lw_p10, List.forall_mem_cons.mpr ⟨lw_p11, List.forall_mem_cons.mpr ⟨lw_p12, List.forall_mem_cons.mpr ⟨lw_p13, List.forall_mem_cons.mpr ⟨lw_p14, List.forall_mem_cons.mpr ⟨lw_p15, fun _ h => absurd h List.not_mem_nil⟩⟩⟩⟩⟩⟩⟩⟩⟩⟩⟩⟩⟩⟩⟩⟩
theorem lw_p16 : lw_okq (⟨"PaletteTurnsModel", "blended", "(IIIII)I"⟩, 19) := ⟨⟨by decide +kernel, by decide +kernel⟩, List.mem_of_getElem? (i := 639) (by decide +kernel), List.mem_of_getElem? (i := 737) (by decide +kernel), List.mem_of_getElem? (i := 738) (by decide +kernel)⟩
theorem lw_p17 : lw_okq (⟨"PaletteTurnsModel", "show", "()V"⟩, 19) := ⟨⟨by decide +kernel, by decide +kernel⟩, List.mem_of_getElem? (i := 639) (by decide +kernel), List.mem_of_getElem? (i := 751) (by decide +kernel), List.mem_of_getElem? (i := 752) (by decide +kernel)⟩
theorem lw_p18 : lw_okq (⟨"PaletteTurnsModel", "shownAt", "(I)I"⟩, 19) := ⟨⟨by decide +kernel, by decide +kernel⟩, List.mem_of_getElem? (i := 639) (by decide +kernel), List.mem_of_getElem? (i := 755) (by decide +kernel), List.mem_of_getElem? (i := 756) (by decide +kernel)⟩
theorem lw_p19 : lw_okq (⟨"PaletteTurnsModel", "glowAt", "(I)I"⟩, 19) := ⟨⟨by decide +kernel, by decide +kernel⟩, List.mem_of_getElem? (i := 639) (by decide +kernel), List.mem_of_getElem? (i := 759) (by decide +kernel), List.mem_of_getElem? (i := 760) (by decide +kernel)⟩
theorem lw_p20 : lw_okq (⟨"PaletteTurnsModel", "ofGlow", "(II)I"⟩, 19) := ⟨⟨by decide +kernel, by decide +kernel⟩, List.mem_of_getElem? (i := 639) (by decide +kernel), List.mem_of_getElem? (i := 763) (by decide +kernel), List.mem_of_getElem? (i := 764) (by decide +kernel)⟩
theorem lw_p21 : lw_okq (⟨"PaletteTurnsModel", "turned", "(I)I"⟩, 19) := ⟨⟨by decide +kernel, by decide +kernel⟩, List.mem_of_getElem? (i := 639) (by decide +kernel), List.mem_of_getElem? (i := 767) (by decide +kernel), List.mem_of_getElem? (i := 768) (by decide +kernel)⟩
theorem lw_p22 : lw_okq (⟨"PaletteTurnsModel", "rangeAt", "(I)I"⟩, 19) := ⟨⟨by decide +kernel, by decide +kernel⟩, List.mem_of_getElem? (i := 639) (by decide +kernel), List.mem_of_getElem? (i := 771) (by decide +kernel), List.mem_of_getElem? (i := 772) (by decide +kernel)⟩
theorem lw_p23 : lw_okq (⟨"PaletteTurnsModel", "of", "(II)I"⟩, 19) := ⟨⟨by decide +kernel, by decide +kernel⟩, List.mem_of_getElem? (i := 639) (by decide +kernel), List.mem_of_getElem? (i := 775) (by decide +kernel), List.mem_of_getElem? (i := 776) (by decide +kernel)⟩
theorem lw_p24 : lw_okq (⟨"PaletteTurnsModel", "turn", "(I)I"⟩, 19) := ⟨⟨by decide +kernel, by decide +kernel⟩, List.mem_of_getElem? (i := 639) (by decide +kernel), List.mem_of_getElem? (i := 779) (by decide +kernel), List.mem_of_getElem? (i := 780) (by decide +kernel)⟩
theorem lw_p25 : lw_okq (⟨"PaletteTurnsModel", "places", "(I)I"⟩, 19) := ⟨⟨by decide +kernel, by decide +kernel⟩, List.mem_of_getElem? (i := 639) (by decide +kernel), List.mem_of_getElem? (i := 783) (by decide +kernel), List.mem_of_getElem? (i := 784) (by decide +kernel)⟩
theorem lw_p26 : lw_okq (⟨"PaletteTurnsModel", "strength", "(I)I"⟩, 19) := ⟨⟨by decide +kernel, by decide +kernel⟩, List.mem_of_getElem? (i := 639) (by decide +kernel), List.mem_of_getElem? (i := 790) (by decide +kernel), List.mem_of_getElem? (i := 791) (by decide +kernel)⟩
theorem lw_p27 : lw_okq (⟨"PaletteTurnsModel", "isTaken", "(II)Z"⟩, 19) := ⟨⟨by decide +kernel, by decide +kernel⟩, List.mem_of_getElem? (i := 639) (by decide +kernel), List.mem_of_getElem? (i := 798) (by decide +kernel), List.mem_of_getElem? (i := 799) (by decide +kernel)⟩
theorem lw_p28 : lw_okq (⟨"PaletteTurnsModel", "isRange", "(I)Z"⟩, 19) := ⟨⟨by decide +kernel, by decide +kernel⟩, List.mem_of_getElem? (i := 639) (by decide +kernel), List.mem_of_getElem? (i := 806) (by decide +kernel), List.mem_of_getElem? (i := 807) (by decide +kernel)⟩
theorem lw_p29 : lw_okq (⟨"PaletteTurnsModel", "running", "()I"⟩, 19) := ⟨⟨by decide +kernel, by decide +kernel⟩, List.mem_of_getElem? (i := 639) (by decide +kernel), List.mem_of_getElem? (i := 818) (by decide +kernel), List.mem_of_getElem? (i := 819) (by decide +kernel)⟩
theorem lw_p30 : lw_okq (⟨"PaletteTurnsModel", "isGlow", "(I)Z"⟩, 19) := ⟨⟨by decide +kernel, by decide +kernel⟩, List.mem_of_getElem? (i := 639) (by decide +kernel), List.mem_of_getElem? (i := 830) (by decide +kernel), List.mem_of_getElem? (i := 831) (by decide +kernel)⟩
theorem lw_p31 : lw_okq (⟨"PaletteTurnsModel", "ticks", "(I)V"⟩, 19) := ⟨⟨by decide +kernel, by decide +kernel⟩, List.mem_of_getElem? (i := 639) (by decide +kernel), List.mem_of_getElem? (i := 838) (by decide +kernel), List.mem_of_getElem? (i := 839) (by decide +kernel)⟩
def lw_privs_2 : List (MethodName × Nat) := [(⟨"PaletteTurnsModel", "blended", "(IIIII)I"⟩, 19), (⟨"PaletteTurnsModel", "show", "()V"⟩, 19), (⟨"PaletteTurnsModel", "shownAt", "(I)I"⟩, 19), (⟨"PaletteTurnsModel", "glowAt", "(I)I"⟩, 19), (⟨"PaletteTurnsModel", "ofGlow", "(II)I"⟩, 19), (⟨"PaletteTurnsModel", "turned", "(I)I"⟩, 19), (⟨"PaletteTurnsModel", "rangeAt", "(I)I"⟩, 19), (⟨"PaletteTurnsModel", "of", "(II)I"⟩, 19), (⟨"PaletteTurnsModel", "turn", "(I)I"⟩, 19), (⟨"PaletteTurnsModel", "places", "(I)I"⟩, 19), (⟨"PaletteTurnsModel", "strength", "(I)I"⟩, 19), (⟨"PaletteTurnsModel", "isTaken", "(II)Z"⟩, 19), (⟨"PaletteTurnsModel", "isRange", "(I)Z"⟩, 19), (⟨"PaletteTurnsModel", "running", "()I"⟩, 19), (⟨"PaletteTurnsModel", "isGlow", "(I)Z"⟩, 19), (⟨"PaletteTurnsModel", "ticks", "(I)V"⟩, 19)]
theorem lw_r2 : ∀ q ∈ lw_privs_2, lw_okq q := List.forall_mem_cons.mpr ⟨lw_p16, List.forall_mem_cons.mpr ⟨lw_p17, List.forall_mem_cons.mpr ⟨lw_p18, List.forall_mem_cons.mpr ⟨lw_p19, List.forall_mem_cons.mpr ⟨lw_p20, List.forall_mem_cons.mpr ⟨lw_p21, List.forall_mem_cons.mpr ⟨lw_p22, List.forall_mem_cons.mpr ⟨lw_p23, List.forall_mem_cons.mpr ⟨lw_p24, List.forall_mem_cons.mpr ⟨lw_p25, List.forall_mem_cons.mpr ⟨lw_p26, List.forall_mem_cons.mpr ⟨lw_p27, List.forall_mem_cons.mpr ⟨lw_p28, List.forall_mem_cons.mpr ⟨lw_p29, List.forall_mem_cons.mpr ⟨lw_p30, List.forall_mem_cons.mpr ⟨lw_p31, fun _ h => absurd h List.not_mem_nil⟩⟩⟩⟩⟩⟩⟩⟩⟩⟩⟩⟩⟩⟩⟩⟩
theorem lw_p32 : lw_okq (⟨"PaletteTurnsModel", "tick", "()V"⟩, 19) := ⟨⟨by decide +kernel, by decide +kernel⟩, List.mem_of_getElem? (i := 639) (by decide +kernel), List.mem_of_getElem? (i := 842) (by decide +kernel), List.mem_of_getElem? (i := 843) (by decide +kernel)⟩
theorem lw_p33 : lw_okq (⟨"PaletteTurnsModel", "tickRange", "(I)V"⟩, 19) := ⟨⟨by decide +kernel, by decide +kernel⟩, List.mem_of_getElem? (i := 639) (by decide +kernel), List.mem_of_getElem? (i := 846) (by decide +kernel), List.mem_of_getElem? (i := 847) (by decide +kernel)⟩
theorem lw_p34 : lw_okq (⟨"PaletteTurnsModel", "step", "(I)V"⟩, 19) := ⟨⟨by decide +kernel, by decide +kernel⟩, List.mem_of_getElem? (i := 639) (by decide +kernel), List.mem_of_getElem? (i := 850) (by decide +kernel), List.mem_of_getElem? (i := 851) (by decide +kernel)⟩
theorem lw_p35 : lw_okq (⟨"PaletteTurnsModel", "isProgram", "()Z"⟩, 19) := ⟨⟨by decide +kernel, by decide +kernel⟩, List.mem_of_getElem? (i := 639) (by decide +kernel), List.mem_of_getElem? (i := 866) (by decide +kernel), List.mem_of_getElem? (i := 867) (by decide +kernel)⟩
theorem lw_p36 : lw_okq (⟨"PaletteTurnsModel", "isAt", "(III)Z"⟩, 19) := ⟨⟨by decide +kernel, by decide +kernel⟩, List.mem_of_getElem? (i := 639) (by decide +kernel), List.mem_of_getElem? (i := 870) (by decide +kernel), List.mem_of_getElem? (i := 871) (by decide +kernel)⟩
theorem lw_p37 : lw_okq (⟨"PaletteTurnsModel", "readRepeat", "()Z"⟩, 19) := ⟨⟨by decide +kernel, by decide +kernel⟩, List.mem_of_getElem? (i := 639) (by decide +kernel), List.mem_of_getElem? (i := 874) (by decide +kernel), List.mem_of_getElem? (i := 875) (by decide +kernel)⟩
theorem lw_p38 : lw_okq (⟨"PaletteTurnsModel", "readEnd", "()Z"⟩, 19) := ⟨⟨by decide +kernel, by decide +kernel⟩, List.mem_of_getElem? (i := 639) (by decide +kernel), List.mem_of_getElem? (i := 881) (by decide +kernel), List.mem_of_getElem? (i := 882) (by decide +kernel)⟩
theorem lw_p39 : lw_okq (⟨"PaletteTurnsModel", "readItem", "()Z"⟩, 19) := ⟨⟨by decide +kernel, by decide +kernel⟩, List.mem_of_getElem? (i := 639) (by decide +kernel), List.mem_of_getElem? (i := 885) (by decide +kernel), List.mem_of_getElem? (i := 886) (by decide +kernel)⟩
theorem lw_p40 : lw_okq (⟨"PaletteTurnsModel", "readTicks", "()Z"⟩, 19) := ⟨⟨by decide +kernel, by decide +kernel⟩, List.mem_of_getElem? (i := 639) (by decide +kernel), List.mem_of_getElem? (i := 889) (by decide +kernel), List.mem_of_getElem? (i := 890) (by decide +kernel)⟩
theorem lw_p41 : lw_okq (⟨"PaletteTurnsModel", "number", "()I"⟩, 19) := ⟨⟨by decide +kernel, by decide +kernel⟩, List.mem_of_getElem? (i := 639) (by decide +kernel), List.mem_of_getElem? (i := 893) (by decide +kernel), List.mem_of_getElem? (i := 894) (by decide +kernel)⟩
theorem lw_p42 : lw_okq (⟨"PaletteTurnsModel", "readRange", "()Z"⟩, 19) := ⟨⟨by decide +kernel, by decide +kernel⟩, List.mem_of_getElem? (i := 639) (by decide +kernel), List.mem_of_getElem? (i := 897) (by decide +kernel), List.mem_of_getElem? (i := 898) (by decide +kernel)⟩
theorem lw_p43 : lw_okq (⟨"PaletteTurnsModel", "carryOut", "()V"⟩, 19) := ⟨⟨by decide +kernel, by decide +kernel⟩, List.mem_of_getElem? (i := 639) (by decide +kernel), List.mem_of_getElem? (i := 901) (by decide +kernel), List.mem_of_getElem? (i := 902) (by decide +kernel)⟩
theorem lw_p44 : lw_okq (⟨"PaletteTurnsModel", "carryOutItem", "()V"⟩, 19) := ⟨⟨by decide +kernel, by decide +kernel⟩, List.mem_of_getElem? (i := 639) (by decide +kernel), List.mem_of_getElem? (i := 905) (by decide +kernel), List.mem_of_getElem? (i := 906) (by decide +kernel)⟩
theorem lw_p45 : lw_okq (⟨"PaletteTurnsModel", "pixelAt", "(II)I"⟩, 19) := ⟨⟨by decide +kernel, by decide +kernel⟩, List.mem_of_getElem? (i := 639) (by decide +kernel), List.mem_of_getElem? (i := 916) (by decide +kernel), List.mem_of_getElem? (i := 917) (by decide +kernel)⟩
theorem lw_p46 : lw_okq (⟨"PaletteTurnsModel", "mark", "(I)I"⟩, 19) := ⟨⟨by decide +kernel, by decide +kernel⟩, List.mem_of_getElem? (i := 639) (by decide +kernel), List.mem_of_getElem? (i := 924) (by decide +kernel), List.mem_of_getElem? (i := 925) (by decide +kernel)⟩
theorem lw_p47 : lw_okq (⟨"PaletteTurnsModel", "hasMarkedNeighbour", "(I)Z"⟩, 19) := ⟨⟨by decide +kernel, by decide +kernel⟩, List.mem_of_getElem? (i := 639) (by decide +kernel), List.mem_of_getElem? (i := 928) (by decide +kernel), List.mem_of_getElem? (i := 929) (by decide +kernel)⟩
def lw_privs_3 : List (MethodName × Nat) := [(⟨"PaletteTurnsModel", "tick", "()V"⟩, 19), (⟨"PaletteTurnsModel", "tickRange", "(I)V"⟩, 19), (⟨"PaletteTurnsModel", "step", "(I)V"⟩, 19), (⟨"PaletteTurnsModel", "isProgram", "()Z"⟩, 19), (⟨"PaletteTurnsModel", "isAt", "(III)Z"⟩, 19), (⟨"PaletteTurnsModel", "readRepeat", "()Z"⟩, 19), (⟨"PaletteTurnsModel", "readEnd", "()Z"⟩, 19), (⟨"PaletteTurnsModel", "readItem", "()Z"⟩, 19), (⟨"PaletteTurnsModel", "readTicks", "()Z"⟩, 19), (⟨"PaletteTurnsModel", "number", "()I"⟩, 19), (⟨"PaletteTurnsModel", "readRange", "()Z"⟩, 19), (⟨"PaletteTurnsModel", "carryOut", "()V"⟩, 19), (⟨"PaletteTurnsModel", "carryOutItem", "()V"⟩, 19), (⟨"PaletteTurnsModel", "pixelAt", "(II)I"⟩, 19), (⟨"PaletteTurnsModel", "mark", "(I)I"⟩, 19), (⟨"PaletteTurnsModel", "hasMarkedNeighbour", "(I)Z"⟩, 19)]
theorem lw_r3 : ∀ q ∈ lw_privs_3, lw_okq q := List.forall_mem_cons.mpr ⟨lw_p32, List.forall_mem_cons.mpr ⟨lw_p33, List.forall_mem_cons.mpr ⟨lw_p34, List.forall_mem_cons.mpr ⟨lw_p35, List.forall_mem_cons.mpr ⟨lw_p36, List.forall_mem_cons.mpr ⟨lw_p37, List.forall_mem_cons.mpr ⟨lw_p38, List.forall_mem_cons.mpr ⟨lw_p39, List.forall_mem_cons.mpr ⟨lw_p40, List.forall_mem_cons.mpr ⟨lw_p41, List.forall_mem_cons.mpr ⟨lw_p42, List.forall_mem_cons.mpr ⟨lw_p43, List.forall_mem_cons.mpr ⟨lw_p44, List.forall_mem_cons.mpr ⟨lw_p45, List.forall_mem_cons.mpr ⟨lw_p46, List.forall_mem_cons.mpr ⟨lw_p47, fun _ h => absurd h List.not_mem_nil⟩⟩⟩⟩⟩⟩⟩⟩⟩⟩⟩⟩⟩⟩⟩⟩
theorem lw_p48 : lw_okq (⟨"PaletteTurnsModel", "placesInRanges", "()I"⟩, 19) := ⟨⟨by decide +kernel, by decide +kernel⟩, List.mem_of_getElem? (i := 639) (by decide +kernel), List.mem_of_getElem? (i := 956) (by decide +kernel), List.mem_of_getElem? (i := 957) (by decide +kernel)⟩
theorem lw_p49 : lw_okq (⟨"PaletteTurnsModel", "coloursInPicture", "()I"⟩, 19) := ⟨⟨by decide +kernel, by decide +kernel⟩, List.mem_of_getElem? (i := 639) (by decide +kernel), List.mem_of_getElem? (i := 960) (by decide +kernel), List.mem_of_getElem? (i := 961) (by decide +kernel)⟩
theorem lw_p50 : lw_okq (⟨"PaletteTurnsModel", "livelyPixels", "()I"⟩, 19) := ⟨⟨by decide +kernel, by decide +kernel⟩, List.mem_of_getElem? (i := 639) (by decide +kernel), List.mem_of_getElem? (i := 964) (by decide +kernel), List.mem_of_getElem? (i := 965) (by decide +kernel)⟩
theorem lw_p51 : lw_okq (⟨"PaletteTurnsModel", "putAside", "()V"⟩, 19) := ⟨⟨by decide +kernel, by decide +kernel⟩, List.mem_of_getElem? (i := 639) (by decide +kernel), List.mem_of_getElem? (i := 972) (by decide +kernel), List.mem_of_getElem? (i := 973) (by decide +kernel)⟩
theorem lw_p52 : lw_okq (⟨"PaletteTurnsModel", "putBack", "()V"⟩, 19) := ⟨⟨by decide +kernel, by decide +kernel⟩, List.mem_of_getElem? (i := 639) (by decide +kernel), List.mem_of_getElem? (i := 976) (by decide +kernel), List.mem_of_getElem? (i := 977) (by decide +kernel)⟩
theorem lw_p53 : lw_okq (⟨"PaletteTurnsModel", "notePicture", "()V"⟩, 19) := ⟨⟨by decide +kernel, by decide +kernel⟩, List.mem_of_getElem? (i := 639) (by decide +kernel), List.mem_of_getElem? (i := 1001) (by decide +kernel), List.mem_of_getElem? (i := 1002) (by decide +kernel)⟩
theorem lw_p54 : lw_okq (⟨"PaletteTurnsModel", "otherPixels", "()I"⟩, 19) := ⟨⟨by decide +kernel, by decide +kernel⟩, List.mem_of_getElem? (i := 639) (by decide +kernel), List.mem_of_getElem? (i := 1005) (by decide +kernel), List.mem_of_getElem? (i := 1006) (by decide +kernel)⟩
def lw_privs_4 : List (MethodName × Nat) := [(⟨"PaletteTurnsModel", "placesInRanges", "()I"⟩, 19), (⟨"PaletteTurnsModel", "coloursInPicture", "()I"⟩, 19), (⟨"PaletteTurnsModel", "livelyPixels", "()I"⟩, 19), (⟨"PaletteTurnsModel", "putAside", "()V"⟩, 19), (⟨"PaletteTurnsModel", "putBack", "()V"⟩, 19), (⟨"PaletteTurnsModel", "notePicture", "()V"⟩, 19), (⟨"PaletteTurnsModel", "otherPixels", "()I"⟩, 19)]
theorem lw_r4 : ∀ q ∈ lw_privs_4, lw_okq q := List.forall_mem_cons.mpr ⟨lw_p48, List.forall_mem_cons.mpr ⟨lw_p49, List.forall_mem_cons.mpr ⟨lw_p50, List.forall_mem_cons.mpr ⟨lw_p51, List.forall_mem_cons.mpr ⟨lw_p52, List.forall_mem_cons.mpr ⟨lw_p53, List.forall_mem_cons.mpr ⟨lw_p54, fun _ h => absurd h List.not_mem_nil⟩⟩⟩⟩⟩⟩⟩
def lw_privs : List (MethodName × Nat) := lw_privs_1 ++ (lw_privs_2 ++ (lw_privs_3 ++ (lw_privs_4)))
def lw_tbl : List Cond := k2_sels lw_privs ++ tables_1
theorem lw_privs_ok : ∀ q ∈ lw_privs, lw_okq q := by
  show ∀ q ∈ lw_privs_1 ++ (lw_privs_2 ++ (lw_privs_3 ++ (lw_privs_4))), lw_okq q
  exact List.forall_mem_append.mpr ⟨lw_r1, List.forall_mem_append.mpr ⟨lw_r2, List.forall_mem_append.mpr ⟨lw_r3, lw_r4⟩⟩⟩
end
section
def RX0 : String := "PaletteTurns$Glow"
def TX0 : u_T := fun k => match k with
  | 0 => ("PaletteTurns$Glow", "place", "I", false)
  | 1 => ("PaletteTurns$Glow", "colour", "I", false)
  | 2 => ("PaletteTurns$Glow", "length", "I", false)
  | _ => ("PaletteTurns$Glow", "ticks", "I", false)
def tyX0 : Nat → FieldType := fun k => match k with
  | 0 => .int
  | 1 => .int
  | 2 => .int
  | _ => .int
abbrev wsX00 : List Cond := u_ws RX0 TX0 4
theorem nmX0 : ∀ a, a < 4 → ∀ b, b < 4 → a ≠ b → (TX0 a).2.1 ≠ (TX0 b).2.1 := by decide +kernel
theorem tyX0_ok : ∀ k, k < 4 → parseFieldDescriptor (TX0 k).2.2.1 = some (tyX0 k) := by decide +kernel
abbrev cX0_init : ByteArray := prog_2_method_1_code
def yX0_init : MethodName := ⟨RX0, "<init>", "()V"⟩
abbrev cX0_begin : ByteArray := prog_2_method_2_code
def yX0_begin : MethodName := ⟨RX0, "begin", "(III)V"⟩
abbrev cX0_copy : ByteArray := prog_2_method_3_code
def yX0_copy : MethodName := ⟨RX0, "copy", "(LPaletteTurns$Glow;)V"⟩
abbrev cX0_fullTicks : ByteArray := prog_2_method_4_code
def yX0_fullTicks : MethodName := ⟨RX0, "fullTicks", "()I"⟩
abbrev cX0_advance : ByteArray := prog_2_method_5_code
def yX0_advance : MethodName := ⟨RX0, "advance", "(I)V"⟩
abbrev cX0_strength : ByteArray := prog_2_method_6_code
def yX0_strength : MethodName := ⟨RX0, "strength", "(I)I"⟩
abbrev cX0_shade : ByteArray := prog_2_method_7_code
def yX0_shade : MethodName := ⟨RX0, "shade", "(II)I"⟩
def RX1 : String := "PaletteTurns$History"
def TX1 : u_T := fun k => match k with
  | 0 => ("PaletteTurns$History", "states", "[LPaletteTurns$State;", true)
  | 1 => ("PaletteTurns$History", "snapshot", "LPaletteTurns$State;", true)
  | 2 => ("PaletteTurns$History", "count", "I", false)
  | _ => ("PaletteTurns$History", "hasSnapshot", "Z", false)
def tyX1 : Nat → FieldType := fun k => match k with
  | 0 => .array (.object "PaletteTurns$State")
  | 1 => .object "PaletteTurns$State"
  | 2 => .int
  | _ => .boolean
abbrev wsX10 : List Cond := u_ws RX1 TX1 4
theorem nmX1 : ∀ a, a < 4 → ∀ b, b < 4 → a ≠ b → (TX1 a).2.1 ≠ (TX1 b).2.1 := by decide +kernel
theorem tyX1_ok : ∀ k, k < 4 → parseFieldDescriptor (TX1 k).2.2.1 = some (tyX1 k) := by decide +kernel
abbrev cX1_init : ByteArray := prog_3_method_1_code
def yX1_init : MethodName := ⟨RX1, "<init>", "()V"⟩
abbrev cX1_record : ByteArray := prog_3_method_2_code
def yX1_record : MethodName := ⟨RX1, "record", "(LPaletteTurns$State;)V"⟩
abbrev cX1_dropOldest : ByteArray := prog_3_method_3_code
def yX1_dropOldest : MethodName := ⟨RX1, "dropOldest", "()V"⟩
abbrev cX1_takeBack : ByteArray := prog_3_method_4_code
def yX1_takeBack : MethodName := ⟨RX1, "takeBack", "(LPaletteTurns$State;)V"⟩
def RX2 : String := "PaletteTurns$Program"
def TX2 : u_T := fun k => match k with
  | 0 => ("PaletteTurns$Program", "signs", "[C", true)
  | 1 => ("PaletteTurns$Program", "starts", "[I", true)
  | 2 => ("PaletteTurns$Program", "times", "[I", true)
  | 3 => ("PaletteTurns$Program", "length", "I", false)
  | 4 => ("PaletteTurns$Program", "ticks", "I", false)
  | _ => ("PaletteTurns$Program", "items", "I", false)
def tyX2 : Nat → FieldType := fun k => match k with
  | 0 => .array .char
  | 1 => .array .int
  | 2 => .array .int
  | 3 => .int
  | 4 => .int
  | _ => .int
abbrev wsX20 : List Cond := u_ws RX2 TX2 6
theorem nmX2 : ∀ a, a < 6 → ∀ b, b < 6 → a ≠ b → (TX2 a).2.1 ≠ (TX2 b).2.1 := by decide +kernel
theorem tyX2_ok : ∀ k, k < 6 → parseFieldDescriptor (TX2 k).2.2.1 = some (tyX2 k) := by decide +kernel
abbrev cX2_init : ByteArray := prog_4_method_1_code
def yX2_init : MethodName := ⟨RX2, "<init>", "()V"⟩
abbrev cX2_append : ByteArray := prog_4_method_2_code
def yX2_append : MethodName := ⟨RX2, "append", "(C)V"⟩
abbrev cX2_signAt : ByteArray := prog_4_method_3_code
def yX2_signAt : MethodName := ⟨RX2, "signAt", "(I)C"⟩
abbrev cX2_isDigit : ByteArray := prog_4_method_4_code
def yX2_isDigit : MethodName := ⟨RX2, "isDigit", "(CCC)Z"⟩
abbrev cX2_isRepeat : ByteArray := prog_4_method_5_code
def yX2_isRepeat : MethodName := ⟨RX2, "isRepeat", "(C)Z"⟩
abbrev cX2_isForRange : ByteArray := prog_4_method_6_code
def yX2_isForRange : MethodName := ⟨RX2, "isForRange", "(C)Z"⟩
abbrev cX2_isBeginning : ByteArray := prog_4_method_7_code
def yX2_isBeginning : MethodName := ⟨RX2, "isBeginning", "(C)Z"⟩
abbrev cX2_isAllowedBehind : ByteArray := prog_4_method_8_code
def yX2_isAllowedBehind : MethodName := ⟨RX2, "isAllowedBehind", "(CC)Z"⟩
abbrev cX2_behind : ByteArray := prog_4_method_9_code
def yX2_behind : MethodName := ⟨RX2, "behind", "(I)I"⟩
abbrev cX2_digitAt : ByteArray := prog_4_method_10_code
def yX2_digitAt : MethodName := ⟨RX2, "digitAt", "(I)I"⟩
abbrev cX2_numberAt : ByteArray := prog_4_method_11_code
def yX2_numberAt : MethodName := ⟨RX2, "numberAt", "(I)I"⟩
abbrev cX2_fault : ByteArray := prog_4_method_12_code
def yX2_fault : MethodName := ⟨RX2, "fault", "()I"⟩
abbrev cX2_highestRange : ByteArray := prog_4_method_13_code
def yX2_highestRange : MethodName := ⟨RX2, "highestRange", "()I"⟩
abbrev cX2_count : ByteArray := prog_4_method_14_code
def yX2_count : MethodName := ⟨RX2, "count", "()V"⟩
abbrev cX2_carryOut : ByteArray := prog_4_method_15_code
def yX2_carryOut : MethodName := ⟨RX2, "carryOut", "(LPaletteTurns$State;)V"⟩
abbrev cX2_carryOutItem : ByteArray := prog_4_method_16_code
def yX2_carryOutItem : MethodName := ⟨RX2, "carryOutItem", "(ILPaletteTurns$State;)V"⟩
def RX3 : String := "PaletteTurns$Range"
def TX3 : u_T := fun k => match k with
  | 0 => ("PaletteTurns$Range", "first", "I", false)
  | 1 => ("PaletteTurns$Range", "last", "I", false)
  | 2 => ("PaletteTurns$Range", "speed", "I", false)
  | 3 => ("PaletteTurns$Range", "way", "I", false)
  | 4 => ("PaletteTurns$Range", "runs", "Z", false)
  | 5 => ("PaletteTurns$Range", "ticks", "I", false)
  | _ => ("PaletteTurns$Range", "steps", "I", false)
def tyX3 : Nat → FieldType := fun k => match k with
  | 0 => .int
  | 1 => .int
  | 2 => .int
  | 3 => .int
  | 4 => .boolean
  | 5 => .int
  | _ => .int
abbrev wsX30 : List Cond := u_ws RX3 TX3 7
theorem nmX3 : ∀ a, a < 7 → ∀ b, b < 7 → a ≠ b → (TX3 a).2.1 ≠ (TX3 b).2.1 := by decide +kernel
theorem tyX3_ok : ∀ k, k < 7 → parseFieldDescriptor (TX3 k).2.2.1 = some (tyX3 k) := by decide +kernel
abbrev cX3_init : ByteArray := prog_5_method_1_code
def yX3_init : MethodName := ⟨RX3, "<init>", "()V"⟩
abbrev cX3_begin : ByteArray := prog_5_method_2_code
def yX3_begin : MethodName := ⟨RX3, "begin", "(IIII)V"⟩
abbrev cX3_changeSpeed : ByteArray := prog_5_method_3_code
def yX3_changeSpeed : MethodName := ⟨RX3, "changeSpeed", "(II)V"⟩
abbrev cX3_beginAgain : ByteArray := prog_5_method_4_code
def yX3_beginAgain : MethodName := ⟨RX3, "beginAgain", "()V"⟩
abbrev cX3_copy : ByteArray := prog_5_method_5_code
def yX3_copy : MethodName := ⟨RX3, "copy", "(LPaletteTurns$Range;)V"⟩
abbrev cX3_holds : ByteArray := prog_5_method_6_code
def yX3_holds : MethodName := ⟨RX3, "holds", "(I)Z"⟩
abbrev cX3_places : ByteArray := prog_5_method_7_code
def yX3_places : MethodName := ⟨RX3, "places", "()I"⟩
abbrev cX3_fullSteps : ByteArray := prog_5_method_8_code
def yX3_fullSteps : MethodName := ⟨RX3, "fullSteps", "()I"⟩
abbrev cX3_fullTicks : ByteArray := prog_5_method_9_code
def yX3_fullTicks : MethodName := ⟨RX3, "fullTicks", "()I"⟩
abbrev cX3_advance : ByteArray := prog_5_method_10_code
def yX3_advance : MethodName := ⟨RX3, "advance", "(I)I"⟩
abbrev cX3_turn : ByteArray := prog_5_method_11_code
def yX3_turn : MethodName := ⟨RX3, "turn", "(I)I"⟩
abbrev cX3_source : ByteArray := prog_5_method_12_code
def yX3_source : MethodName := ⟨RX3, "source", "(II)I"⟩
def RX4 : String := "PaletteTurns$State"
def TX4 : u_T := fun k => match k with
  | 0 => ("PaletteTurns$State", "colours", "[I", true)
  | 1 => ("PaletteTurns$State", "pixels", "[I", true)
  | 2 => ("PaletteTurns$State", "ranges", "[LPaletteTurns$Range;", true)
  | 3 => ("PaletteTurns$State", "glows", "[LPaletteTurns$Glow;", true)
  | 4 => ("PaletteTurns$State", "rangeCount", "I", false)
  | 5 => ("PaletteTurns$State", "glowCount", "I", false)
  | 6 => ("PaletteTurns$State", "ticks", "I", false)
  | _ => ("PaletteTurns$State", "steps", "I", false)
def tyX4 : Nat → FieldType := fun k => match k with
  | 0 => .array .int
  | 1 => .array .int
  | 2 => .array (.object "PaletteTurns$Range")
  | 3 => .array (.object "PaletteTurns$Glow")
  | 4 => .int
  | 5 => .int
  | 6 => .int
  | _ => .int
abbrev wsX40 : List Cond := u_ws RX4 TX4 8
theorem nmX4 : ∀ a, a < 8 → ∀ b, b < 8 → a ≠ b → (TX4 a).2.1 ≠ (TX4 b).2.1 := by decide +kernel
theorem tyX4_ok : ∀ k, k < 8 → parseFieldDescriptor (TX4 k).2.2.1 = some (tyX4 k) := by decide +kernel
abbrev cX4_init : ByteArray := prog_6_method_1_code
def yX4_init : MethodName := ⟨RX4, "<init>", "()V"⟩
abbrev cX4_copy : ByteArray := prog_6_method_2_code
def yX4_copy : MethodName := ⟨RX4, "copy", "(LPaletteTurns$State;)V"⟩
abbrev cX4_rangeAt : ByteArray := prog_6_method_3_code
def yX4_rangeAt : MethodName := ⟨RX4, "rangeAt", "(I)LPaletteTurns$Range;"⟩
abbrev cX4_glowAt : ByteArray := prog_6_method_4_code
def yX4_glowAt : MethodName := ⟨RX4, "glowAt", "(I)LPaletteTurns$Glow;"⟩
abbrev cX4_hasRangeBetween : ByteArray := prog_6_method_5_code
def yX4_hasRangeBetween : MethodName := ⟨RX4, "hasRangeBetween", "(II)Z"⟩
abbrev cX4_appendRange : ByteArray := prog_6_method_6_code
def yX4_appendRange : MethodName := ⟨RX4, "appendRange", "(IIII)I"⟩
abbrev cX4_dropRange : ByteArray := prog_6_method_7_code
def yX4_dropRange : MethodName := ⟨RX4, "dropRange", "(I)V"⟩
abbrev cX4_appendGlow : ByteArray := prog_6_method_8_code
def yX4_appendGlow : MethodName := ⟨RX4, "appendGlow", "(III)I"⟩
abbrev cX4_dropGlow : ByteArray := prog_6_method_9_code
def yX4_dropGlow : MethodName := ⟨RX4, "dropGlow", "(I)V"⟩
abbrev cX4_beginAgain : ByteArray := prog_6_method_10_code
def yX4_beginAgain : MethodName := ⟨RX4, "beginAgain", "()V"⟩
abbrev cX4_advance : ByteArray := prog_6_method_11_code
def yX4_advance : MethodName := ⟨RX4, "advance", "(I)I"⟩
abbrev cX4_stepAtOnce : ByteArray := prog_6_method_12_code
def yX4_stepAtOnce : MethodName := ⟨RX4, "stepAtOnce", "(I)V"⟩
abbrev cX4_runOrPause : ByteArray := prog_6_method_13_code
def yX4_runOrPause : MethodName := ⟨RX4, "runOrPause", "(I)V"⟩
abbrev cX4_runningRanges : ByteArray := prog_6_method_14_code
def yX4_runningRanges : MethodName := ⟨RX4, "runningRanges", "()I"⟩
abbrev cX4_placesInRanges : ByteArray := prog_6_method_15_code
def yX4_placesInRanges : MethodName := ⟨RX4, "placesInRanges", "()I"⟩
abbrev cX4_moves : ByteArray := prog_6_method_16_code
def yX4_moves : MethodName := ⟨RX4, "moves", "(I)Z"⟩
abbrev cX4_shade : ByteArray := prog_6_method_17_code
def yX4_shade : MethodName := ⟨RX4, "shade", "(II)I"⟩
def RX5 : String := "PaletteTurns"
def TX5 : u_T := fun k => match k with
  | 0 => ("PaletteTurns", "now", "LPaletteTurns$State;", true)
  | 1 => ("PaletteTurns", "history", "LPaletteTurns$History;", true)
  | 2 => ("PaletteTurns", "program", "LPaletteTurns$Program;", true)
  | 3 => ("PaletteTurns", "shades", "[I", true)
  | 4 => ("PaletteTurns", "marked", "[Z", true)
  | _ => ("PaletteTurns", "waiting", "[I", true)
def tyX5 : Nat → FieldType := fun k => match k with
  | 0 => .object "PaletteTurns$State"
  | 1 => .object "PaletteTurns$History"
  | 2 => .object "PaletteTurns$Program"
  | 3 => .array .int
  | 4 => .array .boolean
  | _ => .array .int
abbrev wsX50 : List Cond := u_ws RX5 TX5 6
theorem nmX5 : ∀ a, a < 6 → ∀ b, b < 6 → a ≠ b → (TX5 a).2.1 ≠ (TX5 b).2.1 := by decide +kernel
theorem tyX5_ok : ∀ k, k < 6 → parseFieldDescriptor (TX5 k).2.2.1 = some (tyX5 k) := by decide +kernel
abbrev cX5_init : ByteArray := prog_1_method_1_code
def yX5_init : MethodName := ⟨RX5, "<init>", "()V"⟩
abbrev cX5_setColour : ByteArray := prog_1_method_2_code
def yX5_setColour : MethodName := ⟨RX5, "setColour", "(II)I"⟩
abbrev cX5_blend : ByteArray := prog_1_method_3_code
def yX5_blend : MethodName := ⟨RX5, "blend", "(IIII)I"⟩
abbrev cX5_freeze : ByteArray := prog_1_method_4_code
def yX5_freeze : MethodName := ⟨RX5, "freeze", "()I"⟩
abbrev cX5_addRange : ByteArray := prog_1_method_5_code
def yX5_addRange : MethodName := ⟨RX5, "addRange", "(IIII)I"⟩
abbrev cX5_removeRange : ByteArray := prog_1_method_6_code
def yX5_removeRange : MethodName := ⟨RX5, "removeRange", "(I)I"⟩
abbrev cX5_setSpeed : ByteArray := prog_1_method_7_code
def yX5_setSpeed : MethodName := ⟨RX5, "setSpeed", "(III)I"⟩
abbrev cX5_run : ByteArray := prog_1_method_8_code
def yX5_run : MethodName := ⟨RX5, "run", "(IZ)I"⟩
abbrev cX5_addGlow : ByteArray := prog_1_method_9_code
def yX5_addGlow : MethodName := ⟨RX5, "addGlow", "(III)I"⟩
abbrev cX5_removeGlow : ByteArray := prog_1_method_10_code
def yX5_removeGlow : MethodName := ⟨RX5, "removeGlow", "(I)I"⟩
abbrev cX5_pass : ByteArray := prog_1_method_11_code
def yX5_pass : MethodName := ⟨RX5, "pass", "(I)I"⟩
abbrev cX5_perform : ByteArray := prog_1_method_12_code
def yX5_perform : MethodName := ⟨RX5, "perform", "()I"⟩
abbrev cX5_type : ByteArray := prog_1_method_13_code
def yX5_type : MethodName := ⟨RX5, "type", "(C)I"⟩
abbrev cX5_clearText : ByteArray := prog_1_method_14_code
def yX5_clearText : MethodName := ⟨RX5, "clearText", "()I"⟩
abbrev cX5_paint : ByteArray := prog_1_method_15_code
def yX5_paint : MethodName := ⟨RX5, "paint", "(III)I"⟩
abbrev cX5_fill : ByteArray := prog_1_method_16_code
def yX5_fill : MethodName := ⟨RX5, "fill", "(III)I"⟩
abbrev cX5_undo : ByteArray := prog_1_method_17_code
def yX5_undo : MethodName := ⟨RX5, "undo", "()I"⟩
abbrev cX5_keep : ByteArray := prog_1_method_18_code
def yX5_keep : MethodName := ⟨RX5, "keep", "()I"⟩
abbrev cX5_restore : ByteArray := prog_1_method_19_code
def yX5_restore : MethodName := ⟨RX5, "restore", "()I"⟩
abbrev cX5_colour : ByteArray := prog_1_method_20_code
def yX5_colour : MethodName := ⟨RX5, "colour", "(I)I"⟩
abbrev cX5_shown : ByteArray := prog_1_method_21_code
def yX5_shown : MethodName := ⟨RX5, "shown", "(I)I"⟩
abbrev cX5_range : ByteArray := prog_1_method_22_code
def yX5_range : MethodName := ⟨RX5, "range", "(II)I"⟩
abbrev cX5_glow : ByteArray := prog_1_method_23_code
def yX5_glow : MethodName := ⟨RX5, "glow", "(II)I"⟩
abbrev cX5_pixel : ByteArray := prog_1_method_24_code
def yX5_pixel : MethodName := ⟨RX5, "pixel", "(IIZ)I"⟩
abbrev cX5_total : ByteArray := prog_1_method_25_code
def yX5_total : MethodName := ⟨RX5, "total", "(I)I"⟩
abbrev cX5_shownIn : ByteArray := prog_1_method_26_code
def yX5_shownIn : MethodName := ⟨RX5, "shownIn", "(II)I"⟩
abbrev cX5_fullTurn : ByteArray := prog_1_method_27_code
def yX5_fullTurn : MethodName := ⟨RX5, "fullTurn", "()J"⟩
abbrev cX5_nearest : ByteArray := prog_1_method_28_code
def yX5_nearest : MethodName := ⟨RX5, "nearest", "(I)I"⟩
abbrev cX5_changes : ByteArray := prog_1_method_29_code
def yX5_changes : MethodName := ⟨RX5, "changes", "(I)I"⟩
abbrev cX5_pictureBack : ByteArray := prog_1_method_30_code
def yX5_pictureBack : MethodName := ⟨RX5, "pictureBack", "()I"⟩
abbrev cX5_contrast : ByteArray := prog_1_method_31_code
def yX5_contrast : MethodName := ⟨RX5, "contrast", "()I"⟩
abbrev cX5_isPlace : ByteArray := prog_1_method_32_code
def yX5_isPlace : MethodName := ⟨RX5, "isPlace", "(I)Z"⟩
abbrev cX5_isColour : ByteArray := prog_1_method_33_code
def yX5_isColour : MethodName := ⟨RX5, "isColour", "(I)Z"⟩
abbrev cX5_isLength : ByteArray := prog_1_method_34_code
def yX5_isLength : MethodName := ⟨RX5, "isLength", "(I)Z"⟩
abbrev cX5_isWay : ByteArray := prog_1_method_35_code
def yX5_isWay : MethodName := ⟨RX5, "isWay", "(I)Z"⟩
abbrev cX5_isPixel : ByteArray := prog_1_method_36_code
def yX5_isPixel : MethodName := ⟨RX5, "isPixel", "(II)Z"⟩
abbrev cX5_isLater : ByteArray := prog_1_method_37_code
def yX5_isLater : MethodName := ⟨RX5, "isLater", "(I)Z"⟩
abbrev cX5_isRange : ByteArray := prog_1_method_38_code
def yX5_isRange : MethodName := ⟨RX5, "isRange", "(I)Z"⟩
abbrev cX5_isGlow : ByteArray := prog_1_method_39_code
def yX5_isGlow : MethodName := ⟨RX5, "isGlow", "(I)Z"⟩
abbrev cX5_mixed : ByteArray := prog_1_method_40_code
def yX5_mixed : MethodName := ⟨RX5, "mixed", "(IIII)I"⟩
abbrev cX5_mixedPart : ByteArray := prog_1_method_41_code
def yX5_mixedPart : MethodName := ⟨RX5, "mixedPart", "(IIII)I"⟩
abbrev cX5_part : ByteArray := prog_1_method_42_code
def yX5_part : MethodName := ⟨RX5, "part", "(II)I"⟩
abbrev cX5_distance : ByteArray := prog_1_method_43_code
def yX5_distance : MethodName := ⟨RX5, "distance", "(II)I"⟩
abbrev cX5_findShades : ByteArray := prog_1_method_44_code
def yX5_findShades : MethodName := ⟨RX5, "findShades", "()V"⟩
abbrev cX5_otherShades : ByteArray := prog_1_method_45_code
def yX5_otherShades : MethodName := ⟨RX5, "otherShades", "(II)I"⟩
abbrev cX5_setShades : ByteArray := prog_1_method_46_code
def yX5_setShades : MethodName := ⟨RX5, "setShades", "(II)V"⟩
abbrev cX5_flood : ByteArray := prog_1_method_47_code
def yX5_flood : MethodName := ⟨RX5, "flood", "(II)I"⟩
abbrev cX5_enter : ByteArray := prog_1_method_48_code
def yX5_enter : MethodName := ⟨RX5, "enter", "(IIII)I"⟩
abbrev cX5_pixelDistance : ByteArray := prog_1_method_49_code
def yX5_pixelDistance : MethodName := ⟨RX5, "pixelDistance", "(II)I"⟩
abbrev cX5_markPlacesOfPicture : ByteArray := prog_1_method_50_code
def yX5_markPlacesOfPicture : MethodName := ⟨RX5, "markPlacesOfPicture", "()V"⟩
abbrev cX5_markMovingPlacesOfPicture : ByteArray := prog_1_method_51_code
def yX5_markMovingPlacesOfPicture : MethodName := ⟨RX5, "markMovingPlacesOfPicture", "()V"⟩
abbrev cX5_markedPlacesShowShades : ByteArray := prog_1_method_52_code
def yX5_markedPlacesShowShades : MethodName := ⟨RX5, "markedPlacesShowShades", "(I)Z"⟩
abbrev cX5_markedPixels : ByteArray := prog_1_method_53_code
def yX5_markedPixels : MethodName := ⟨RX5, "markedPixels", "()I"⟩
abbrev cX5_movingPixels : ByteArray := prog_1_method_54_code
def yX5_movingPixels : MethodName := ⟨RX5, "movingPixels", "()I"⟩
abbrev cX5_differentColours : ByteArray := prog_1_method_55_code
def yX5_differentColours : MethodName := ⟨RX5, "differentColours", "()I"⟩
abbrev cX5_isMarkedBefore : ByteArray := prog_1_method_56_code
def yX5_isMarkedBefore : MethodName := ⟨RX5, "isMarkedBefore", "(I)Z"⟩
abbrev cX5_commonMultiple : ByteArray := prog_1_method_57_code
def yX5_commonMultiple : MethodName := ⟨RX5, "commonMultiple", "(JJ)J"⟩
abbrev cX5_commonDivisor : ByteArray := prog_1_method_58_code
def yX5_commonDivisor : MethodName := ⟨RX5, "commonDivisor", "(JJ)J"⟩
def RX6 : String := "PaletteTurnsModel"
def TX6 : u_T := fun k => match k with
  | 0 => ("PaletteTurnsModel", "row", "[I", true)
  | 1 => ("PaletteTurnsModel", "history", "[I", true)
  | 2 => ("PaletteTurnsModel", "states", "I", false)
  | 3 => ("PaletteTurnsModel", "snapshot", "[I", true)
  | 4 => ("PaletteTurnsModel", "isKept", "Z", false)
  | 5 => ("PaletteTurnsModel", "aside", "[I", true)
  | 6 => ("PaletteTurnsModel", "colours", "[I", true)
  | 7 => ("PaletteTurnsModel", "text", "[I", true)
  | 8 => ("PaletteTurnsModel", "length", "I", false)
  | 9 => ("PaletteTurnsModel", "place", "I", false)
  | 10 => ("PaletteTurnsModel", "depth", "I", false)
  | 11 => ("PaletteTurnsModel", "hasItem", "[Z", true)
  | 12 => ("PaletteTurnsModel", "times", "[I", true)
  | 13 => ("PaletteTurnsModel", "begin", "[I", true)
  | 14 => ("PaletteTurnsModel", "allTicks", "I", false)
  | 15 => ("PaletteTurnsModel", "allItems", "I", false)
  | 16 => ("PaletteTurnsModel", "greatest", "I", false)
  | 17 => ("PaletteTurnsModel", "isMarked", "[Z", true)
  | _ => ("PaletteTurnsModel", "before", "[I", true)
def tyX6 : Nat → FieldType := fun k => match k with
  | 0 => .array .int
  | 1 => .array .int
  | 2 => .int
  | 3 => .array .int
  | 4 => .boolean
  | 5 => .array .int
  | 6 => .array .int
  | 7 => .array .int
  | 8 => .int
  | 9 => .int
  | 10 => .int
  | 11 => .array .boolean
  | 12 => .array .int
  | 13 => .array .int
  | 14 => .int
  | 15 => .int
  | 16 => .int
  | 17 => .array .boolean
  | _ => .array .int
abbrev wsX60 : List Cond := u_ws RX6 TX6 19
theorem nmX6 : ∀ a, a < 19 → ∀ b, b < 19 → a ≠ b → (TX6 a).2.1 ≠ (TX6 b).2.1 := by decide +kernel
theorem tyX6_ok : ∀ k, k < 19 → parseFieldDescriptor (TX6 k).2.2.1 = some (tyX6 k) := by decide +kernel
abbrev cX6_init : ByteArray := prog_8_method_1_code
def yX6_init : MethodName := ⟨RX6, "<init>", "()V"⟩
abbrev cX6_in : ByteArray := prog_8_method_2_code
def yX6_in : MethodName := ⟨RX6, "in", "(III)Z"⟩
abbrev cX6_isPlace : ByteArray := prog_8_method_3_code
def yX6_isPlace : MethodName := ⟨RX6, "isPlace", "(I)Z"⟩
abbrev cX6_isColour : ByteArray := prog_8_method_4_code
def yX6_isColour : MethodName := ⟨RX6, "isColour", "(I)Z"⟩
abbrev cX6_isRange : ByteArray := prog_8_method_5_code
def yX6_isRange : MethodName := ⟨RX6, "isRange", "(I)Z"⟩
abbrev cX6_isGlow : ByteArray := prog_8_method_6_code
def yX6_isGlow : MethodName := ⟨RX6, "isGlow", "(I)Z"⟩
abbrev cX6_isPixel : ByteArray := prog_8_method_7_code
def yX6_isPixel : MethodName := ⟨RX6, "isPixel", "(II)Z"⟩
abbrev cX6_record : ByteArray := prog_8_method_8_code
def yX6_record : MethodName := ⟨RX6, "record", "()V"⟩
abbrev cX6_putAside : ByteArray := prog_8_method_9_code
def yX6_putAside : MethodName := ⟨RX6, "putAside", "()V"⟩
abbrev cX6_putBack : ByteArray := prog_8_method_10_code
def yX6_putBack : MethodName := ⟨RX6, "putBack", "()V"⟩
abbrev cX6_undo : ByteArray := prog_8_method_11_code
def yX6_undo : MethodName := ⟨RX6, "undo", "()I"⟩
abbrev cX6_keep : ByteArray := prog_8_method_12_code
def yX6_keep : MethodName := ⟨RX6, "keep", "()I"⟩
abbrev cX6_restore : ByteArray := prog_8_method_13_code
def yX6_restore : MethodName := ⟨RX6, "restore", "()I"⟩
abbrev cX6_of : ByteArray := prog_8_method_14_code
def yX6_of : MethodName := ⟨RX6, "of", "(II)I"⟩
abbrev cX6_ofGlow : ByteArray := prog_8_method_15_code
def yX6_ofGlow : MethodName := ⟨RX6, "ofGlow", "(II)I"⟩
abbrev cX6_modulo : ByteArray := prog_8_method_16_code
def yX6_modulo : MethodName := ⟨RX6, "modulo", "(II)I"⟩
abbrev cX6_places : ByteArray := prog_8_method_17_code
def yX6_places : MethodName := ⟨RX6, "places", "(I)I"⟩
abbrev cX6_turn : ByteArray := prog_8_method_18_code
def yX6_turn : MethodName := ⟨RX6, "turn", "(I)I"⟩
abbrev cX6_rangeAt : ByteArray := prog_8_method_19_code
def yX6_rangeAt : MethodName := ⟨RX6, "rangeAt", "(I)I"⟩
abbrev cX6_glowAt : ByteArray := prog_8_method_20_code
def yX6_glowAt : MethodName := ⟨RX6, "glowAt", "(I)I"⟩
abbrev cX6_turned : ByteArray := prog_8_method_21_code
def yX6_turned : MethodName := ⟨RX6, "turned", "(I)I"⟩
abbrev cX6_strength : ByteArray := prog_8_method_22_code
def yX6_strength : MethodName := ⟨RX6, "strength", "(I)I"⟩
abbrev cX6_part : ByteArray := prog_8_method_23_code
def yX6_part : MethodName := ⟨RX6, "part", "(II)I"⟩
abbrev cX6_between : ByteArray := prog_8_method_24_code
def yX6_between : MethodName := ⟨RX6, "between", "(IIII)I"⟩
abbrev cX6_shownAt : ByteArray := prog_8_method_25_code
def yX6_shownAt : MethodName := ⟨RX6, "shownAt", "(I)I"⟩
abbrev cX6_distance : ByteArray := prog_8_method_26_code
def yX6_distance : MethodName := ⟨RX6, "distance", "(II)I"⟩
abbrev cX6_show : ByteArray := prog_8_method_27_code
def yX6_show : MethodName := ⟨RX6, "show", "()V"⟩
abbrev cX6_setColour : ByteArray := prog_8_method_28_code
def yX6_setColour : MethodName := ⟨RX6, "setColour", "(II)I"⟩
abbrev cX6_blended : ByteArray := prog_8_method_29_code
def yX6_blended : MethodName := ⟨RX6, "blended", "(IIIII)I"⟩
abbrev cX6_blend : ByteArray := prog_8_method_30_code
def yX6_blend : MethodName := ⟨RX6, "blend", "(IIII)I"⟩
abbrev cX6_freeze : ByteArray := prog_8_method_31_code
def yX6_freeze : MethodName := ⟨RX6, "freeze", "()I"⟩
abbrev cX6_isTaken : ByteArray := prog_8_method_32_code
def yX6_isTaken : MethodName := ⟨RX6, "isTaken", "(II)Z"⟩
abbrev cX6_addRange : ByteArray := prog_8_method_33_code
def yX6_addRange : MethodName := ⟨RX6, "addRange", "(IIII)I"⟩
abbrev cX6_removeRange : ByteArray := prog_8_method_34_code
def yX6_removeRange : MethodName := ⟨RX6, "removeRange", "(I)I"⟩
abbrev cX6_setSpeed : ByteArray := prog_8_method_35_code
def yX6_setSpeed : MethodName := ⟨RX6, "setSpeed", "(III)I"⟩
abbrev cX6_running : ByteArray := prog_8_method_36_code
def yX6_running : MethodName := ⟨RX6, "running", "()I"⟩
abbrev cX6_run : ByteArray := prog_8_method_37_code
def yX6_run : MethodName := ⟨RX6, "run", "(IZ)I"⟩
abbrev cX6_addGlow : ByteArray := prog_8_method_38_code
def yX6_addGlow : MethodName := ⟨RX6, "addGlow", "(III)I"⟩
abbrev cX6_removeGlow : ByteArray := prog_8_method_39_code
def yX6_removeGlow : MethodName := ⟨RX6, "removeGlow", "(I)I"⟩
abbrev cX6_step : ByteArray := prog_8_method_40_code
def yX6_step : MethodName := ⟨RX6, "step", "(I)V"⟩
abbrev cX6_tickRange : ByteArray := prog_8_method_41_code
def yX6_tickRange : MethodName := ⟨RX6, "tickRange", "(I)V"⟩
abbrev cX6_tick : ByteArray := prog_8_method_42_code
def yX6_tick : MethodName := ⟨RX6, "tick", "()V"⟩
abbrev cX6_ticks : ByteArray := prog_8_method_43_code
def yX6_ticks : MethodName := ⟨RX6, "ticks", "(I)V"⟩
abbrev cX6_pass : ByteArray := prog_8_method_44_code
def yX6_pass : MethodName := ⟨RX6, "pass", "(I)I"⟩
abbrev cX6_type : ByteArray := prog_8_method_45_code
def yX6_type : MethodName := ⟨RX6, "type", "(C)I"⟩
abbrev cX6_clearText : ByteArray := prog_8_method_46_code
def yX6_clearText : MethodName := ⟨RX6, "clearText", "()I"⟩
abbrev cX6_isAt : ByteArray := prog_8_method_47_code
def yX6_isAt : MethodName := ⟨RX6, "isAt", "(III)Z"⟩
abbrev cX6_capped : ByteArray := prog_8_method_48_code
def yX6_capped : MethodName := ⟨RX6, "capped", "(I)I"⟩
abbrev cX6_number : ByteArray := prog_8_method_49_code
def yX6_number : MethodName := ⟨RX6, "number", "()I"⟩
abbrev cX6_readTicks : ByteArray := prog_8_method_50_code
def yX6_readTicks : MethodName := ⟨RX6, "readTicks", "()Z"⟩
abbrev cX6_readRange : ByteArray := prog_8_method_51_code
def yX6_readRange : MethodName := ⟨RX6, "readRange", "()Z"⟩
abbrev cX6_readItem : ByteArray := prog_8_method_52_code
def yX6_readItem : MethodName := ⟨RX6, "readItem", "()Z"⟩
abbrev cX6_readRepeat : ByteArray := prog_8_method_53_code
def yX6_readRepeat : MethodName := ⟨RX6, "readRepeat", "()Z"⟩
abbrev cX6_readEnd : ByteArray := prog_8_method_54_code
def yX6_readEnd : MethodName := ⟨RX6, "readEnd", "()Z"⟩
abbrev cX6_isProgram : ByteArray := prog_8_method_55_code
def yX6_isProgram : MethodName := ⟨RX6, "isProgram", "()Z"⟩
abbrev cX6_carryOutItem : ByteArray := prog_8_method_56_code
def yX6_carryOutItem : MethodName := ⟨RX6, "carryOutItem", "()V"⟩
abbrev cX6_carryOut : ByteArray := prog_8_method_57_code
def yX6_carryOut : MethodName := ⟨RX6, "carryOut", "()V"⟩
abbrev cX6_perform : ByteArray := prog_8_method_58_code
def yX6_perform : MethodName := ⟨RX6, "perform", "()I"⟩
abbrev cX6_pixelAt : ByteArray := prog_8_method_59_code
def yX6_pixelAt : MethodName := ⟨RX6, "pixelAt", "(II)I"⟩
abbrev cX6_paint : ByteArray := prog_8_method_60_code
def yX6_paint : MethodName := ⟨RX6, "paint", "(III)I"⟩
abbrev cX6_hasMarkedNeighbour : ByteArray := prog_8_method_61_code
def yX6_hasMarkedNeighbour : MethodName := ⟨RX6, "hasMarkedNeighbour", "(I)Z"⟩
abbrev cX6_mark : ByteArray := prog_8_method_62_code
def yX6_mark : MethodName := ⟨RX6, "mark", "(I)I"⟩
abbrev cX6_fill : ByteArray := prog_8_method_63_code
def yX6_fill : MethodName := ⟨RX6, "fill", "(III)I"⟩
abbrev cX6_colour : ByteArray := prog_8_method_64_code
def yX6_colour : MethodName := ⟨RX6, "colour", "(I)I"⟩
abbrev cX6_shown : ByteArray := prog_8_method_65_code
def yX6_shown : MethodName := ⟨RX6, "shown", "(I)I"⟩
abbrev cX6_range : ByteArray := prog_8_method_66_code
def yX6_range : MethodName := ⟨RX6, "range", "(II)I"⟩
abbrev cX6_glow : ByteArray := prog_8_method_67_code
def yX6_glow : MethodName := ⟨RX6, "glow", "(II)I"⟩
abbrev cX6_pixel : ByteArray := prog_8_method_68_code
def yX6_pixel : MethodName := ⟨RX6, "pixel", "(IIZ)I"⟩
abbrev cX6_placesInRanges : ByteArray := prog_8_method_69_code
def yX6_placesInRanges : MethodName := ⟨RX6, "placesInRanges", "()I"⟩
abbrev cX6_coloursInPicture : ByteArray := prog_8_method_70_code
def yX6_coloursInPicture : MethodName := ⟨RX6, "coloursInPicture", "()I"⟩
abbrev cX6_livelyPixels : ByteArray := prog_8_method_71_code
def yX6_livelyPixels : MethodName := ⟨RX6, "livelyPixels", "()I"⟩
abbrev cX6_total : ByteArray := prog_8_method_72_code
def yX6_total : MethodName := ⟨RX6, "total", "(I)I"⟩
abbrev cX6_shownIn : ByteArray := prog_8_method_73_code
def yX6_shownIn : MethodName := ⟨RX6, "shownIn", "(II)I"⟩
abbrev cX6_common : ByteArray := prog_8_method_74_code
def yX6_common : MethodName := ⟨RX6, "common", "(JJ)J"⟩
abbrev cX6_both : ByteArray := prog_8_method_75_code
def yX6_both : MethodName := ⟨RX6, "both", "(JJ)J"⟩
abbrev cX6_fullTurn : ByteArray := prog_8_method_76_code
def yX6_fullTurn : MethodName := ⟨RX6, "fullTurn", "()J"⟩
abbrev cX6_nearest : ByteArray := prog_8_method_77_code
def yX6_nearest : MethodName := ⟨RX6, "nearest", "(I)I"⟩
abbrev cX6_notePicture : ByteArray := prog_8_method_78_code
def yX6_notePicture : MethodName := ⟨RX6, "notePicture", "()V"⟩
abbrev cX6_otherPixels : ByteArray := prog_8_method_79_code
def yX6_otherPixels : MethodName := ⟨RX6, "otherPixels", "()I"⟩
abbrev cX6_changes : ByteArray := prog_8_method_80_code
def yX6_changes : MethodName := ⟨RX6, "changes", "(I)I"⟩
abbrev cX6_pictureBack : ByteArray := prog_8_method_81_code
def yX6_pictureBack : MethodName := ⟨RX6, "pictureBack", "()I"⟩
abbrev cX6_contrast : ByteArray := prog_8_method_82_code
def yX6_contrast : MethodName := ⟨RX6, "contrast", "()I"⟩
end
section
/-! ===== the judgement over memories: a world is a function from roles to cells; nothing is made ===== -/
abbrev Mem : Type := Nat → va_E
abbrev gC : List vw_C := [(RX0, TX0, 4), (RX1, TX1, 4), (RX2, TX2, 6), (RX3, TX3, 7), (RX4, TX4, 8), (RX5, TX5, 6), (RX6, TX6, 19)]
/-- class numbers and slots; array classes (int, char, boolean, Range, Glow, State); addresses; how many roles -/
abbrev gE : Type := va_G × (Nat → ClassId) × (Nat → Nat) × Nat
def eA (E : gE) (k : Nat) : Nat := E.2.2.1 k
def eK (E : gE) : Nat := E.2.2.2
def eT (E : gE) (k : Nat) : ClassId := E.2.1 k
def eTys (E : gE) : List (ClassId × FieldType) := [(eT E 0, .int), (eT E 1, .char), (eT E 2, .boolean), (eT E 3, .object RX3), (eT E 4, .object RX0), (eT E 5, .object RX4)]
def rf (E : gE) (k : Nat) : Value := .ref (eA E k)
def eOk (E : gE) : Prop := ∀ i j, i < eK E → j < eK E → eA E i = eA E j → i = j
def gW (E : gE) (g : Mem) : va_W := (List.range (eK E)).map (fun k => (eA E k, g k))
def gP (E : gE) (g : Mem) (H : Heap) : Prop := va_P E.1 gC (gW E g) H
def gA (E : gE) : Nat → Prop := fun q => ∃ k, k < eK E ∧ eA E k = q
def oB (ci : Nat) (fs : List Value) : va_E := .inr (ci, fs)
def aI (E : gE) (t n : Nat) (f : Nat → Int32) : va_E := .inl (eT E t, n, .inl f)
def aR (E : gE) (t n : Nat) (π : Nat → Nat) : va_E := .inl (eT E t, n, .inr (.inr (.inr (.inr (fun i => some (eA E (π i)))))))
theorem gW_at {E : gE} {g : Mem} {k : Nat} (hk : k < eK E) : (gW E g)[k]? = some (eA E k, g k) := by
  unfold gW
  rw [List.getElem?_map, List.getElem?_range hk]
  rfl
theorem gW_inv {E : gE} {g : Mem} {k : Nat} {q : Nat × va_E} (h : (gW E g)[k]? = some q) : k < eK E ∧ q = (eA E k, g k) := by
  have hl := (List.getElem?_eq_some_iff.mp h).1
  unfold gW at hl
  rw [List.length_map, List.length_range] at hl
  rw [gW_at hl] at h
  exact ⟨hl, (Option.some.inj h).symm⟩
theorem gW_D {E : gE} {g : Mem} {A : Nat → Prop} (hE : eOk E) (hA : ∀ q, gA E q → A q) : va_D A (gW E g) := by
  refine ⟨fun i j p q hi hj hpq => ?_, fun k q hk => ?_⟩
  · obtain ⟨h1, rfl⟩ := gW_inv hi
    obtain ⟨h2, rfl⟩ := gW_inv hj
    exact hE i j h1 h2 hpq
  · obtain ⟨h1, rfl⟩ := gW_inv hk
    exact hA _ ⟨k, h1, rfl⟩
theorem gW_set {E : gE} {g : Mem} {k : Nat} {e : va_E} (hk : k < eK E) : (gW E g).set k (eA E k, e) = gW E (va_up g k e) := by
  apply List.ext_getElem?
  intro j
  by_cases hj : j = k
  · subst hj
    rw [List.getElem?_set_self (by simpa [gW] using hk), gW_at hk, va_up_self]
  · rw [List.getElem?_set_ne (Ne.symm hj)]
    by_cases hl : j < eK E
    · rw [gW_at hl, gW_at hl, va_up_ne _ _ hj]
    · rw [List.getElem?_eq_none (by simp [gW]; omega), List.getElem?_eq_none (by simp [gW]; omega)]
/-! the locals, a list of slots -/
def y_has (ls : Array Slot) (lo : List (Option Value)) : Prop := ls.size = lo.length ∧ lv_wf ls ∧ ∀ (i : Nat) (v : Value), lo[i]? = some (some v) → ls[i]? = some (.val v)
def y_l (lo : List (Option Value)) : List (Nat × Value) := (List.range lo.length).filterMap (fun j => (lo[j]?.join).map (fun w => (j, w)))
theorem y_l_mem {lo : List (Option Value)} {i : Nat} {v : Value} (h : lo[i]? = some (some v)) : (i, v) ∈ y_l lo := by
  unfold y_l
  rw [List.mem_filterMap]
  refine ⟨i, List.mem_range.mpr (List.getElem?_eq_some_iff.mp h).1, ?_⟩
  simp [h]
theorem y_l_inv {lo : List (Option Value)} {i : Nat} {v : Value} (h : (i, v) ∈ y_l lo) : lo[i]? = some (some v) := by
  unfold y_l at h
  rw [List.mem_filterMap] at h
  obtain ⟨j, -, hj⟩ := h
  cases hq : lo[j]? with
  | none => simp [hq] at hj
  | some o =>
    cases o with
    | none => simp [hq] at hj
    | some w =>
      simp [hq] at hj
      obtain ⟨h1, h2⟩ := hj
      subst h1; subst h2
      exact hq
theorem y_has.lv {ls : Array Slot} {lo : List (Option Value)} (h : y_has ls lo) : lv_has ls lo.length (y_l lo) := ⟨h.1, h.2.1, fun q hq => h.2.2 q.1 q.2 (y_l_inv hq)⟩
/-- the slot ahead of i holds no long -/
def y_nl (lo : List (Option Value)) (i : Nat) : Bool := match i with
  | 0 => true
  | k + 1 => match lo[k]? with
    | some (some (.long _)) => false
    | some (some (.double _)) => false
    | _ => true
theorem y_nl_spec {lo : List (Option Value)} {i j : Nat} {v : Value} (h : y_nl lo i = true) (hj : lo[j]? = some (some v)) (hij : j + 1 = i) : ¬ v.category = 2 := by
  subst hij
  simp only [y_nl, hj] at h
  cases v <;> simp_all [Value.category]
theorem y_has_st1 {ls' : Array Slot} {lo : List (Option Value)} {i n : Nat} {v : Value} (hn : n = lo.length) (hi : i < lo.length) (hp : y_nl lo i = true)
    (h : lv_has ls' n ((i, v) :: (y_l lo).filter (fun q => !(q.1 == i) && !(q.1 + 1 == i && q.2.category == 2)))) : y_has ls' (lo.set i (some v)) := by
  refine ⟨by rw [List.length_set, ← hn]; exact h.1, h.2.1, fun j w hj => ?_⟩
  by_cases hji : j = i
  · subst hji
    rw [List.getElem?_set_self hi] at hj
    cases hj
    exact h.2.2 (j, v) List.mem_cons_self
  · rw [List.getElem?_set_ne (Ne.symm hji)] at hj
    refine h.2.2 (j, w) (List.mem_cons_of_mem _ (List.mem_filter.mpr ⟨y_l_mem hj, ?_⟩))
    have h1 : (j == i) = false := by simpa using hji
    by_cases h2 : j + 1 = i
    · have h3 := y_nl_spec hp hj h2
      have h4 : (w.category == 2) = false := by simpa using h3
      simp [h1, h4]
    · have h4 : (j + 1 == i) = false := by simpa using h2
      simp [h1, h4]
theorem y_has_st2 {ls' : Array Slot} {lo : List (Option Value)} {i n : Nat} {v : Value} (hn : n = lo.length) (hi : i + 1 < lo.length) (hp : y_nl lo i = true)
    (h : lv_has ls' n ((i, v) :: (y_l lo).filter (fun q => !(q.1 == i) && (!(q.1 == i + 1) && !(q.1 + 1 == i && q.2.category == 2))))) : y_has ls' ((lo.set i (some v)).set (i + 1) none) := by
  refine ⟨by rw [List.length_set, List.length_set, ← hn]; exact h.1, h.2.1, fun j w hj => ?_⟩
  by_cases hji2 : j = i + 1
  · subst hji2
    rw [List.getElem?_set_self (by rw [List.length_set]; exact hi)] at hj
    cases hj
  rw [List.getElem?_set_ne (Ne.symm hji2)] at hj
  by_cases hji : j = i
  · subst hji
    rw [List.getElem?_set_self (by omega)] at hj
    cases hj
    exact h.2.2 (j, v) List.mem_cons_self
  · rw [List.getElem?_set_ne (Ne.symm hji)] at hj
    refine h.2.2 (j, w) (List.mem_cons_of_mem _ (List.mem_filter.mpr ⟨y_l_mem hj, ?_⟩))
    have h1 : (j == i) = false := by simpa using hji
    have h5 : (j == i + 1) = false := by simpa using hji2
    by_cases h2 : j + 1 = i
    · have h3 := y_nl_spec hp hj h2
      have h4 : (w.category == 2) = false := by simpa using h3
      simp [h1, h4, h5]
    · have h4 : (j + 1 == i) = false := by simpa using h2
      simp [h1, h4, h5]
/-- the slots with which a method begins -/
def y_ent : List Value → List (Option Value)
  | [] => []
  | v :: vs => if v.category = 2 then some v :: none :: y_ent vs else some v :: y_ent vs
theorem y_ent_len : ∀ vs : List Value, (y_ent vs).length = (lg_sl vs).length
  | [] => rfl
  | v :: vs => by
    have ih := y_ent_len vs
    simp only [lg_sl] at ih
    by_cases h : v.category = 2
    · simp [y_ent, lg_sl, h, ih]
    · simp [y_ent, lg_sl, h, ih]
theorem y_ent_args : ∀ (vs : List Value) (o i : Nat) (v : Value), (y_ent vs)[i]? = some (some v) → (o + i, v) ∈ lv_args o vs
  | [], o, i, v, h => by simp [y_ent] at h
  | u :: vs, o, i, v, h => by
    by_cases hc : u.category = 2
    · rw [y_ent, if_pos hc] at h
      rw [lv_args, if_pos hc]
      match i with
      | 0 => simp at h; subst h; exact List.mem_cons_self
      | 1 => simp at h
      | i + 2 =>
        have h' : (y_ent vs)[i]? = some (some v) := by simpa using h
        have := y_ent_args vs (o + 2) i v h'
        exact List.mem_cons_of_mem _ (by rw [show o + (i + 2) = o + 2 + i by omega]; exact this)
    · rw [y_ent, if_neg hc] at h
      rw [lv_args, if_neg hc]
      match i with
      | 0 => simp at h; subst h; exact List.mem_cons_self
      | i + 1 =>
        have h' : (y_ent vs)[i]? = some (some v) := by simpa using h
        have := y_ent_args vs (o + 1) i v h'
        exact List.mem_cons_of_mem _ (by rw [show o + (i + 1) = o + 1 + i by omega]; exact this)
theorem y_entry (vs : List Value) {n : Nat} {lo : List (Option Value)} (hlo : y_ent vs ++ List.replicate (n - (y_ent vs).length) none = lo) (h : (y_ent vs).length ≤ n) : y_has ((lg_sl vs ++ List.replicate (n - (lg_sl vs).length) Slot.unset).toArray) lo := by
  have h0 : (lg_sl vs).length ≤ n := by rw [← y_ent_len]; exact h
  obtain ⟨h1, h2, h3⟩ := lv_entry vs h0
  refine ⟨by rw [h1, ← hlo, List.length_append, List.length_replicate]; omega, h2, fun i v hi => ?_⟩
  rw [← hlo] at hi
  by_cases hl : i < (y_ent vs).length
  · rw [List.getElem?_append_left hl] at hi
    have := y_ent_args vs 0 i v hi
    rw [Nat.zero_add] at this
    exact h3 (i, v) this
  · rw [List.getElem?_append_right (by omega), List.getElem?_replicate] at hi
    split at hi <;> cases hi
/-! the judgement -/
/-- the tables' words that a callee may be given -/
def lw_gt : List Cond := lw_tbl.filter goodWord
abbrev gX : Type := Program × Jvm.Env × Room × State × MethodId × Array Value × List Frame × Method × Code
def gQ (E : gE) (post : Option Value → Mem → Prop) : Array Value → State → Outcome → State → Prop := fun _ st oc t => (∃ (v : Option Value) (g : Mem), oc = .returned v ∧ post v g ∧ gP E g t.heap) ∧ va_F (gA E) st t
/-- Y l E X post pc lo st g: from this place with these slots, this stack and this memory the method comes to its end with post -/
def Y (l : Launch) (E : gE) (X : gX) (post : Option Value → Mem → Prop) (pc : Nat) (lo : List (Option Value)) (st : List Value) (g : Mem) : Prop :=
  ∀ (H : Heap) (locs : List Loc) (ls : Array Slot), gP E g H → va_S (gA E) X.2.2.2.1.heap H locs → y_has ls lo →
    W X.1 l X.2.1 X.2.2.1 X.2.2.2.1 X.2.2.2.2.1 X.2.2.2.2.2.1 X.2.2.2.2.2.2.1 X.2.2.2.2.2.2.2.1 X.2.2.2.2.2.2.2.2 H locs 0 0 (MQ X.2.2.2.2.2.2.1 (gQ E post) X.2.2.2.2.2.1 X.2.2.2.1 0 0 (gA E)) (F0 X.2.2.2.2.1 pc ls st)
/-- a nest mate's private method, as the class of glows names it -/
def gN (U : State) : Prop := va_Nw (.methodLinkNest RX0 30 yX5_mixed "PaletteTurns") U
/-- what holds all along a method: the machine, its bytes, its class, the tables' words, the classes, its room -/
def yC (l : Launch) (E : gE) (X : gX) (own : String) (cc : ByteArray) (nL : Nat) (ret : Option FieldType) (fr ll : Nat) : Prop :=
  X.1.tables.exec = Jvm.exec ∧ X.2.2.2.2.2.2.2.2.code = cc ∧ X.2.2.2.2.2.2.2.2.maxLocals = nL ∧ X.2.2.2.1.vm.findClass own = some X.2.2.2.2.1.cls ∧ (∀ w ∈ lw_gt, w.before X.2.2.2.2.2.1 X.2.2.2.1 = true) ∧
  va_K E.1 gC (eTys E) X.2.2.2.1 ∧ eOk E ∧ X.2.2.2.2.2.2.2.1.locks = false ∧ X.2.2.2.2.2.2.2.1.sig.returnType = ret ∧ X.2.2.1.frames = fr ∧ X.2.2.1.locals = ll ∧ gN X.2.2.2.1
/-- a method's contract: from the memory g with the arguments av it returns, with post -/
def Mt (l : Launch) (E : gE) (y : MethodName) (cc : ByteArray) (nL : Nat) (ret : Option FieldType) (fr ll : Nat) (av : List Value) (g : Mem) (post : Option Value → Mem → Prop) : Prop :=
  Met l y (.code y cc nL ret :: lw_gt) { frames := fr, cells := 0, slots := 0, locals := ll } (va_Pc av (fun U => gP E g U.heap ∧ va_K E.1 gC (eTys E) U ∧ eOk E ∧ gN U)) (gQ E post) 0 0 (gA E)
def pI (post : Int32 → Mem → Prop) : Option Value → Mem → Prop := fun v g => ∃ r : Int32, v = some (.int r) ∧ post r g
def pL (post : Int64 → Mem → Prop) : Option Value → Mem → Prop := fun v g => ∃ r : Int64, v = some (.long r) ∧ post r g
def pV (post : Mem → Prop) : Option Value → Mem → Prop := fun v g => v = none ∧ post g
/-- an answer that is a cell of this world, or null -/
def rfo (E : gE) (o : Option Nat) : Value := va_rf (o.map (eA E))
def pR (E : gE) (post : Option Nat → Mem → Prop) : Option Value → Mem → Prop := fun v g => ∃ o : Option Nat, v = some (rfo E o) ∧ post o g
theorem lw_good {y : MethodName} {cc : ByteArray} {nL : Nat} {ret : Option FieldType} (h : Cond.code y cc nL ret ∈ lw_gt) : GoodIn lw_gt (.code y cc nL ret :: lw_gt) := by
  intro w hw
  have hw' : w ∈ lw_gt := by
    rcases List.mem_cons.mp hw with rfl | hw
    · exact h
    · exact hw
  exact ⟨hw', good_of_word (List.mem_filter.mp hw').2⟩
theorem lw_g {w : Cond} (h : w ∈ lw_tbl) (hg : goodWord w = true) : w ∈ lw_gt := List.mem_filter.mpr ⟨h, hg⟩
theorem mt_go {l : Launch} {E : gE} {y : MethodName} {cc : ByteArray} {nL : Nat} {ret : Option FieldType} {fr ll : Nat} {av : List Value} {g : Mem} {post : Option Value → Mem → Prop} {own : String} (hy : plainName y.cls = true) (hown : y.cls = own) {lo : List (Option Value)}
    (hlo : y_ent av ++ List.replicate (nL - (y_ent av).length) none = lo) (hn : (y_ent av).length ≤ nL)
    (body : ∀ X : gX, yC l E X own cc nL ret fr ll → Y l E X post 0 lo [] g) : Mt l E y cc nL ret fr ll av g post := by
  refine Met.ofW (cc := cc) (maxL := nL) (ret := ret) hy rfl ?_
  intro p e s m args below meth c s₁ B hml hv
  obtain ⟨rfl, hP, hK, hE, hN⟩ := hv
  have hx := B.exec
  have hb := B.bytes
  have hr := B.returns
  have hts0 := atoms_spec (ws := .code y cc nL ret :: lw_gt) B.pre
  have hts : ∀ w ∈ lw_gt, w.before av.toArray s = true := fun w hw => hts0 w (List.mem_cons_of_mem _ hw)
  have hown2 : s.vm.findClass own = some m.cls := by rw [← hown]; exact findClass_of_methodNamed B.named
  have hlocks := B.notSynchronized
  rw [lg_entry_eq]
  exact body (p, e, (headSpec (Cond.code y cc nL ret :: lw_gt) { frames := fr, cells := 0, slots := 0, locals := ll }).room, s, m, av.toArray, below, meth, c) ⟨hx, hb, hml, hown2, hts, hK, hE, hlocks, hr, rfl, rfl, hN⟩ s.heap [] _ hP va_S.rf (y_entry av hlo hn)
end
section
/-! ===== one row an instruction, over memories ===== -/
section YR
variable {l : Launch} {E : gE} {X : gX} {own : String} {cc : ByteArray} {nL : Nat} {ret : Option FieldType} {fr ll : Nat} {post : Option Value → Mem → Prop} {pc : Nat} {lo lo' : List (Option Value)} {st : List Value} {g : Mem}
theorem y_iconst (hC : yC l E X own cc nL ret fr ll) {n : Int} {v : Int32} (hd : decode cc pc = .ok (.iconst n, 1)) (hv : Int32.ofInt n = v) (kk : Y l E X post (pc + 1) lo (.int v :: st) g) : Y l E X post pc lo st g := by
  obtain ⟨p, e, R, s, m, args, below, meth, c⟩ := X
  obtain ⟨hx, hb, hml, hown, hts, hK, hE, hlk, hr, hfr, hll, hN⟩ := hC
  intro H locs ls hP hS hl
  exact lv_iconst hx hb hd hv (kk H locs ls hP hS hl)
theorem y_bipush (hC : yC l E X own cc nL ret fr ll) {n : Int} {v : Int32} (hd : decode cc pc = .ok (.bipush n, 2)) (hv : (Int8.ofInt n).toInt32 = v) (kk : Y l E X post (pc + 2) lo (.int v :: st) g) : Y l E X post pc lo st g := by
  obtain ⟨p, e, R, s, m, args, below, meth, c⟩ := X
  obtain ⟨hx, hb, hml, hown, hts, hK, hE, hlk, hr, hfr, hll, hN⟩ := hC
  intro H locs ls hP hS hl
  exact lv_bipush hx hb hd hv (kk H locs ls hP hS hl)
theorem y_sipush (hC : yC l E X own cc nL ret fr ll) {n : Int} {v : Int32} (hd : decode cc pc = .ok (.sipush n, 3)) (hv : (Int16.ofInt n).toInt32 = v) (kk : Y l E X post (pc + 3) lo (.int v :: st) g) : Y l E X post pc lo st g := by
  obtain ⟨p, e, R, s, m, args, below, meth, c⟩ := X
  obtain ⟨hx, hb, hml, hown, hts, hK, hE, hlk, hr, hfr, hll, hN⟩ := hC
  intro H locs ls hP hS hl
  exact lv_sipush hx hb hd hv (kk H locs ls hP hS hl)
theorem y_lconst (hC : yC l E X own cc nL ret fr ll) {n : Fin 2} {v : Int64} (hd : decode cc pc = .ok (.lconst n, 1)) (hv : Int64.ofNat (n : Nat) = v) (kk : Y l E X post (pc + 1) lo (.long v :: st) g) : Y l E X post pc lo st g := by
  obtain ⟨p, e, R, s, m, args, below, meth, c⟩ := X
  obtain ⟨hx, hb, hml, hown, hts, hK, hE, hlk, hr, hfr, hll, hN⟩ := hC
  intro H locs ls hP hS hl
  exact lv_lconst hx hb hd hv (kk H locs ls hP hS hl)
theorem y_null (hC : yC l E X own cc nL ret fr ll) (hd : decode cc pc = .ok (.aconst_null, 1)) (kk : Y l E X post (pc + 1) lo (rfo E none :: st) g) : Y l E X post pc lo st g := by
  obtain ⟨p, e, R, s, m, args, below, meth, c⟩ := X
  obtain ⟨hx, hb, hml, hown, hts, hK, hE, hlk, hr, hfr, hll, hN⟩ := hC
  intro H locs ls hP hS hl
  exact lv_null hx hb hd (kk H locs ls hP hS hl)
theorem y_ldc (hC : yC l E X own cc nL ret fr ll) {idx : Nat} {v : Int32} (hc : Cond.constant own idx v ∈ lw_gt) (hd : decode cc pc = .ok (.ldc idx, 2)) (kk : Y l E X post (pc + 2) lo (.int v :: st) g) : Y l E X post pc lo st g := by
  obtain ⟨p, e, R, s, m, args, below, meth, c⟩ := X
  obtain ⟨hx, hb, hml, hown, hts, hK, hE, hlk, hr, hfr, hll, hN⟩ := hC
  intro H locs ls hP hS hl
  exact lv_ldc hx hb hown (hts _ hc) hd (kk H locs ls hP hS hl)
theorem y_ldcw (hC : yC l E X own cc nL ret fr ll) {idx : Nat} {v : Int32} (hc : Cond.constant own idx v ∈ lw_gt) (hd : decode cc pc = .ok (.ldc_w idx, 3)) (kk : Y l E X post (pc + 3) lo (.int v :: st) g) : Y l E X post pc lo st g := by
  obtain ⟨p, e, R, s, m, args, below, meth, c⟩ := X
  obtain ⟨hx, hb, hml, hown, hts, hK, hE, hlk, hr, hfr, hll, hN⟩ := hC
  intro H locs ls hP hS hl
  exact lv_ldcw hx hb hown (hts _ hc) hd (kk H locs ls hP hS hl)
theorem y_iload_n (hC : yC l E X own cc nL ret fr ll) {k : Fin 4} {i : Nat} {x : Int32} (hd : decode cc pc = .ok (.iload_n k, 1)) (hi : (k : Nat) = i) (ho : lo[i]? = some (some (.int x))) (kk : Y l E X post (pc + 1) lo (.int x :: st) g) : Y l E X post pc lo st g := by
  obtain ⟨p, e, R, s, m, args, below, meth, c⟩ := X
  obtain ⟨hx, hb, hml, hown, hts, hK, hE, hlk, hr, hfr, hll, hN⟩ := hC
  intro H locs ls hP hS hl
  exact lv_iload_n hx hb hd hi (hl.2.2 _ _ ho) (kk H locs ls hP hS hl)
theorem y_iload (hC : yC l E X own cc nL ret fr ll) {i : Nat} {x : Int32} (hd : decode cc pc = .ok (.iload i, 2)) (ho : lo[i]? = some (some (.int x))) (kk : Y l E X post (pc + 2) lo (.int x :: st) g) : Y l E X post pc lo st g := by
  obtain ⟨p, e, R, s, m, args, below, meth, c⟩ := X
  obtain ⟨hx, hb, hml, hown, hts, hK, hE, hlk, hr, hfr, hll, hN⟩ := hC
  intro H locs ls hP hS hl
  exact lv_iload hx hb hd (hl.2.2 _ _ ho) (kk H locs ls hP hS hl)
theorem y_lload_n (hC : yC l E X own cc nL ret fr ll) {k : Fin 4} {i : Nat} {x : Int64} (hd : decode cc pc = .ok (.lload_n k, 1)) (hi : (k : Nat) = i) (ho : lo[i]? = some (some (.long x))) (kk : Y l E X post (pc + 1) lo (.long x :: st) g) : Y l E X post pc lo st g := by
  obtain ⟨p, e, R, s, m, args, below, meth, c⟩ := X
  obtain ⟨hx, hb, hml, hown, hts, hK, hE, hlk, hr, hfr, hll, hN⟩ := hC
  intro H locs ls hP hS hl
  exact lv_lload_n hx hb hd hi (hl.2.2 _ _ ho) (kk H locs ls hP hS hl)
theorem y_lload (hC : yC l E X own cc nL ret fr ll) {i : Nat} {x : Int64} (hd : decode cc pc = .ok (.lload i, 2)) (ho : lo[i]? = some (some (.long x))) (kk : Y l E X post (pc + 2) lo (.long x :: st) g) : Y l E X post pc lo st g := by
  obtain ⟨p, e, R, s, m, args, below, meth, c⟩ := X
  obtain ⟨hx, hb, hml, hown, hts, hK, hE, hlk, hr, hfr, hll, hN⟩ := hC
  intro H locs ls hP hS hl
  exact lv_lload hx hb hd (hl.2.2 _ _ ho) (kk H locs ls hP hS hl)
theorem y_aload_n (hC : yC l E X own cc nL ret fr ll) {k : Fin 4} {i a : Nat} (hd : decode cc pc = .ok (.aload_n k, 1)) (hi : (k : Nat) = i) (ho : lo[i]? = some (some (rf E a))) (kk : Y l E X post (pc + 1) lo (rf E a :: st) g) : Y l E X post pc lo st g := by
  obtain ⟨p, e, R, s, m, args, below, meth, c⟩ := X
  obtain ⟨hx, hb, hml, hown, hts, hK, hE, hlk, hr, hfr, hll, hN⟩ := hC
  intro H locs ls hP hS hl
  exact lv_aload_n hx hb hd hi (hl.2.2 _ _ ho) (kk H locs ls hP hS hl)
theorem y_aload (hC : yC l E X own cc nL ret fr ll) {i a : Nat} (hd : decode cc pc = .ok (.aload i, 2)) (ho : lo[i]? = some (some (rf E a))) (kk : Y l E X post (pc + 2) lo (rf E a :: st) g) : Y l E X post pc lo st g := by
  obtain ⟨p, e, R, s, m, args, below, meth, c⟩ := X
  obtain ⟨hx, hb, hml, hown, hts, hK, hE, hlk, hr, hfr, hll, hN⟩ := hC
  intro H locs ls hP hS hl
  exact lv_aload hx hb hd (hl.2.2 _ _ ho) (kk H locs ls hP hS hl)
theorem y_aload_no (hC : yC l E X own cc nL ret fr ll) {k : Fin 4} {i : Nat} {o : Option Nat} (hd : decode cc pc = .ok (.aload_n k, 1)) (hi : (k : Nat) = i) (ho : lo[i]? = some (some (rfo E o))) (kk : Y l E X post (pc + 1) lo (rfo E o :: st) g) : Y l E X post pc lo st g := by
  obtain ⟨p, e, R, s, m, args, below, meth, c⟩ := X
  obtain ⟨hx, hb, hml, hown, hts, hK, hE, hlk, hr, hfr, hll, hN⟩ := hC
  intro H locs ls hP hS hl
  cases o with
  | none => exact lv_aload_nN hx hb hd hi (hl.2.2 _ _ ho) (kk H locs ls hP hS hl)
  | some a => exact lv_aload_n hx hb hd hi (hl.2.2 _ _ ho) (kk H locs ls hP hS hl)
theorem y_aload_o (hC : yC l E X own cc nL ret fr ll) {i : Nat} {o : Option Nat} (hd : decode cc pc = .ok (.aload i, 2)) (ho : lo[i]? = some (some (rfo E o))) (kk : Y l E X post (pc + 2) lo (rfo E o :: st) g) : Y l E X post pc lo st g := by
  obtain ⟨p, e, R, s, m, args, below, meth, c⟩ := X
  obtain ⟨hx, hb, hml, hown, hts, hK, hE, hlk, hr, hfr, hll, hN⟩ := hC
  intro H locs ls hP hS hl
  cases o with
  | none => exact lv_aloadN hx hb hd (hl.2.2 _ _ ho) (kk H locs ls hP hS hl)
  | some a => exact lv_aload hx hb hd (hl.2.2 _ _ ho) (kk H locs ls hP hS hl)
theorem y_istore_n (hC : yC l E X own cc nL ret fr ll) {k : Fin 4} {i : Nat} {x : Int32} (hd : decode cc pc = .ok (.istore_n k, 1)) (hi : (k : Nat) = i) (hn : i < lo.length) (hp : y_nl lo i = true) (ho : lo.set i (some (.int x)) = lo') (kk : Y l E X post (pc + 1) lo' st g) : Y l E X post pc lo (.int x :: st) g := by
  obtain ⟨p, e, R, s, m, args, below, meth, c⟩ := X
  obtain ⟨hx, hb, hml, hown, hts, hK, hE, hlk, hr, hfr, hll, hN⟩ := hC
  intro H locs ls hP hS hl
  exact lv_istore_n hx hb hd hi hl.lv hn rfl (fun ls' h' => kk H locs ls' hP hS (ho ▸ y_has_st1 rfl hn hp h'))
theorem y_istore (hC : yC l E X own cc nL ret fr ll) {i : Nat} {x : Int32} (hd : decode cc pc = .ok (.istore i, 2)) (hn : i < lo.length) (hp : y_nl lo i = true) (ho : lo.set i (some (.int x)) = lo') (kk : Y l E X post (pc + 2) lo' st g) : Y l E X post pc lo (.int x :: st) g := by
  obtain ⟨p, e, R, s, m, args, below, meth, c⟩ := X
  obtain ⟨hx, hb, hml, hown, hts, hK, hE, hlk, hr, hfr, hll, hN⟩ := hC
  intro H locs ls hP hS hl
  exact lv_istore hx hb hd hl.lv hn rfl (fun ls' h' => kk H locs ls' hP hS (ho ▸ y_has_st1 rfl hn hp h'))
theorem y_lstore_n (hC : yC l E X own cc nL ret fr ll) {k : Fin 4} {i : Nat} {x : Int64} (hd : decode cc pc = .ok (.lstore_n k, 1)) (hi : (k : Nat) = i) (hn : i + 1 < lo.length) (hp : y_nl lo i = true) (ho : (lo.set i (some (.long x))).set (i + 1) none = lo') (kk : Y l E X post (pc + 1) lo' st g) : Y l E X post pc lo (.long x :: st) g := by
  obtain ⟨p, e, R, s, m, args, below, meth, c⟩ := X
  obtain ⟨hx, hb, hml, hown, hts, hK, hE, hlk, hr, hfr, hll, hN⟩ := hC
  intro H locs ls hP hS hl
  exact lv_lstore_n hx hb hd hi hl.lv hn rfl (fun ls' h' => kk H locs ls' hP hS (ho ▸ y_has_st2 rfl hn hp h'))
theorem y_lstore (hC : yC l E X own cc nL ret fr ll) {i : Nat} {x : Int64} (hd : decode cc pc = .ok (.lstore i, 2)) (hn : i + 1 < lo.length) (hp : y_nl lo i = true) (ho : (lo.set i (some (.long x))).set (i + 1) none = lo') (kk : Y l E X post (pc + 2) lo' st g) : Y l E X post pc lo (.long x :: st) g := by
  obtain ⟨p, e, R, s, m, args, below, meth, c⟩ := X
  obtain ⟨hx, hb, hml, hown, hts, hK, hE, hlk, hr, hfr, hll, hN⟩ := hC
  intro H locs ls hP hS hl
  exact lv_lstore hx hb hd hl.lv hn rfl (fun ls' h' => kk H locs ls' hP hS (ho ▸ y_has_st2 rfl hn hp h'))
theorem y_astore_n (hC : yC l E X own cc nL ret fr ll) {k : Fin 4} {i : Nat} {o : Option Nat} (hd : decode cc pc = .ok (.astore_n k, 1)) (hi : (k : Nat) = i) (hn : i < lo.length) (hp : y_nl lo i = true) (ho : lo.set i (some (rfo E o)) = lo') (kk : Y l E X post (pc + 1) lo' st g) : Y l E X post pc lo (rfo E o :: st) g := by
  obtain ⟨p, e, R, s, m, args, below, meth, c⟩ := X
  obtain ⟨hx, hb, hml, hown, hts, hK, hE, hlk, hr, hfr, hll, hN⟩ := hC
  intro H locs ls hP hS hl
  cases o with
  | none => exact lv_astore_nN hx hb hd hi hl.lv hn rfl (fun ls' h' => kk H locs ls' hP hS (ho ▸ y_has_st1 rfl hn hp h'))
  | some a => exact lv_astore_n hx hb hd hi hl.lv hn rfl (fun ls' h' => kk H locs ls' hP hS (ho ▸ y_has_st1 rfl hn hp h'))
theorem y_astore (hC : yC l E X own cc nL ret fr ll) {i : Nat} {o : Option Nat} (hd : decode cc pc = .ok (.astore i, 2)) (hn : i < lo.length) (hp : y_nl lo i = true) (ho : lo.set i (some (rfo E o)) = lo') (kk : Y l E X post (pc + 2) lo' st g) : Y l E X post pc lo (rfo E o :: st) g := by
  obtain ⟨p, e, R, s, m, args, below, meth, c⟩ := X
  obtain ⟨hx, hb, hml, hown, hts, hK, hE, hlk, hr, hfr, hll, hN⟩ := hC
  intro H locs ls hP hS hl
  cases o with
  | none => exact lv_astoreN hx hb hd hl.lv hn rfl (fun ls' h' => kk H locs ls' hP hS (ho ▸ y_has_st1 rfl hn hp h'))
  | some a => exact lv_astore hx hb hd hl.lv hn rfl (fun ls' h' => kk H locs ls' hP hS (ho ▸ y_has_st1 rfl hn hp h'))
theorem y_iinc (hC : yC l E X own cc nL ret fr ll) {i : Nat} {n : Int} {x v : Int32} (hd : decode cc pc = .ok (.iinc i n, 3)) (hx0 : lo[i]? = some (some (.int x))) (hv : x + Int32.ofInt n = v) (hn : i < lo.length) (hp : y_nl lo i = true) (ho : lo.set i (some (.int v)) = lo') (kk : Y l E X post (pc + 3) lo' st g) : Y l E X post pc lo st g := by
  obtain ⟨p, e, R, s, m, args, below, meth, c⟩ := X
  obtain ⟨hx, hb, hml, hown, hts, hK, hE, hlk, hr, hfr, hll, hN⟩ := hC
  intro H locs ls hP hS hl
  obtain ⟨k, hk⟩ := List.getElem?_of_mem (y_l_mem hx0)
  exact lv_iinc hx hb hd hl.lv hk hv hn rfl (fun ls' h' => kk H locs ls' hP hS (ho ▸ y_has_st1 rfl hn hp h'))
theorem y_iadd (hC : yC l E X own cc nL ret fr ll) {x y : Int32} (hd : decode cc pc = .ok (.iadd, 1)) (kk : Y l E X post (pc + 1) lo (.int (x + y) :: st) g) : Y l E X post pc lo (.int y :: .int x :: st) g := by
  obtain ⟨p, e, R, s, m, args, below, meth, c⟩ := X
  obtain ⟨hx, hb, hml, hown, hts, hK, hE, hlk, hr, hfr, hll, hN⟩ := hC
  intro H locs ls hP hS hl
  exact lv_iadd hx hb hd (kk H locs ls hP hS hl)
theorem y_isub (hC : yC l E X own cc nL ret fr ll) {x y : Int32} (hd : decode cc pc = .ok (.isub, 1)) (kk : Y l E X post (pc + 1) lo (.int (x - y) :: st) g) : Y l E X post pc lo (.int y :: .int x :: st) g := by
  obtain ⟨p, e, R, s, m, args, below, meth, c⟩ := X
  obtain ⟨hx, hb, hml, hown, hts, hK, hE, hlk, hr, hfr, hll, hN⟩ := hC
  intro H locs ls hP hS hl
  exact lv_isub hx hb hd (kk H locs ls hP hS hl)
theorem y_imul (hC : yC l E X own cc nL ret fr ll) {x y : Int32} (hd : decode cc pc = .ok (.imul, 1)) (kk : Y l E X post (pc + 1) lo (.int (x * y) :: st) g) : Y l E X post pc lo (.int y :: .int x :: st) g := by
  obtain ⟨p, e, R, s, m, args, below, meth, c⟩ := X
  obtain ⟨hx, hb, hml, hown, hts, hK, hE, hlk, hr, hfr, hll, hN⟩ := hC
  intro H locs ls hP hS hl
  exact lv_imul hx hb hd (kk H locs ls hP hS hl)
theorem y_iand (hC : yC l E X own cc nL ret fr ll) {x y : Int32} (hd : decode cc pc = .ok (.iand, 1)) (kk : Y l E X post (pc + 1) lo (.int (x &&& y) :: st) g) : Y l E X post pc lo (.int y :: .int x :: st) g := by
  obtain ⟨p, e, R, s, m, args, below, meth, c⟩ := X
  obtain ⟨hx, hb, hml, hown, hts, hK, hE, hlk, hr, hfr, hll, hN⟩ := hC
  intro H locs ls hP hS hl
  exact lv_iand hx hb hd (kk H locs ls hP hS hl)
theorem y_ior (hC : yC l E X own cc nL ret fr ll) {x y : Int32} (hd : decode cc pc = .ok (.ior, 1)) (kk : Y l E X post (pc + 1) lo (.int (x ||| y) :: st) g) : Y l E X post pc lo (.int y :: .int x :: st) g := by
  obtain ⟨p, e, R, s, m, args, below, meth, c⟩ := X
  obtain ⟨hx, hb, hml, hown, hts, hK, hE, hlk, hr, hfr, hll, hN⟩ := hC
  intro H locs ls hP hS hl
  exact lv_ior hx hb hd (kk H locs ls hP hS hl)
theorem y_ixor (hC : yC l E X own cc nL ret fr ll) {x y : Int32} (hd : decode cc pc = .ok (.ixor, 1)) (kk : Y l E X post (pc + 1) lo (.int (x ^^^ y) :: st) g) : Y l E X post pc lo (.int y :: .int x :: st) g := by
  obtain ⟨p, e, R, s, m, args, below, meth, c⟩ := X
  obtain ⟨hx, hb, hml, hown, hts, hK, hE, hlk, hr, hfr, hll, hN⟩ := hC
  intro H locs ls hP hS hl
  exact lv_ixor hx hb hd (kk H locs ls hP hS hl)
theorem y_ishl (hC : yC l E X own cc nL ret fr ll) {x y : Int32} (hd : decode cc pc = .ok (.ishl, 1)) (kk : Y l E X post (pc + 1) lo (.int (x <<< (y &&& 31)) :: st) g) : Y l E X post pc lo (.int y :: .int x :: st) g := by
  obtain ⟨p, e, R, s, m, args, below, meth, c⟩ := X
  obtain ⟨hx, hb, hml, hown, hts, hK, hE, hlk, hr, hfr, hll, hN⟩ := hC
  intro H locs ls hP hS hl
  exact lv_ishl hx hb hd (kk H locs ls hP hS hl)
theorem y_ishr (hC : yC l E X own cc nL ret fr ll) {x y : Int32} (hd : decode cc pc = .ok (.ishr, 1)) (kk : Y l E X post (pc + 1) lo (.int (x >>> (y &&& 31)) :: st) g) : Y l E X post pc lo (.int y :: .int x :: st) g := by
  obtain ⟨p, e, R, s, m, args, below, meth, c⟩ := X
  obtain ⟨hx, hb, hml, hown, hts, hK, hE, hlk, hr, hfr, hll, hN⟩ := hC
  intro H locs ls hP hS hl
  exact lv_ishr hx hb hd (kk H locs ls hP hS hl)
theorem y_idiv (hC : yC l E X own cc nL ret fr ll) {x y : Int32} (hd : decode cc pc = .ok (.idiv, 1)) (hne : ¬ y = 0) (kk : Y l E X post (pc + 1) lo (.int (x / y) :: st) g) : Y l E X post pc lo (.int y :: .int x :: st) g := by
  obtain ⟨p, e, R, s, m, args, below, meth, c⟩ := X
  obtain ⟨hx, hb, hml, hown, hts, hK, hE, hlk, hr, hfr, hll, hN⟩ := hC
  intro H locs ls hP hS hl
  exact lv_idiv hx hb hd hne (kk H locs ls hP hS hl)
theorem y_irem (hC : yC l E X own cc nL ret fr ll) {x y : Int32} (hd : decode cc pc = .ok (.irem, 1)) (hne : ¬ y = 0) (kk : Y l E X post (pc + 1) lo (.int (x - x / y * y) :: st) g) : Y l E X post pc lo (.int y :: .int x :: st) g := by
  obtain ⟨p, e, R, s, m, args, below, meth, c⟩ := X
  obtain ⟨hx, hb, hml, hown, hts, hK, hE, hlk, hr, hfr, hll, hN⟩ := hC
  intro H locs ls hP hS hl
  exact lv_irem hx hb hd hne (kk H locs ls hP hS hl)
theorem y_ladd (hC : yC l E X own cc nL ret fr ll) {x y : Int64} (hd : decode cc pc = .ok (.ladd, 1)) (kk : Y l E X post (pc + 1) lo (.long (x + y) :: st) g) : Y l E X post pc lo (.long y :: .long x :: st) g := by
  obtain ⟨p, e, R, s, m, args, below, meth, c⟩ := X
  obtain ⟨hx, hb, hml, hown, hts, hK, hE, hlk, hr, hfr, hll, hN⟩ := hC
  intro H locs ls hP hS hl
  exact lv_ladd hx hb hd (kk H locs ls hP hS hl)
theorem y_lsub (hC : yC l E X own cc nL ret fr ll) {x y : Int64} (hd : decode cc pc = .ok (.lsub, 1)) (kk : Y l E X post (pc + 1) lo (.long (x - y) :: st) g) : Y l E X post pc lo (.long y :: .long x :: st) g := by
  obtain ⟨p, e, R, s, m, args, below, meth, c⟩ := X
  obtain ⟨hx, hb, hml, hown, hts, hK, hE, hlk, hr, hfr, hll, hN⟩ := hC
  intro H locs ls hP hS hl
  exact lv_lsub hx hb hd (kk H locs ls hP hS hl)
theorem y_lmul (hC : yC l E X own cc nL ret fr ll) {x y : Int64} (hd : decode cc pc = .ok (.lmul, 1)) (kk : Y l E X post (pc + 1) lo (.long (x * y) :: st) g) : Y l E X post pc lo (.long y :: .long x :: st) g := by
  obtain ⟨p, e, R, s, m, args, below, meth, c⟩ := X
  obtain ⟨hx, hb, hml, hown, hts, hK, hE, hlk, hr, hfr, hll, hN⟩ := hC
  intro H locs ls hP hS hl
  exact lv_lmul hx hb hd (kk H locs ls hP hS hl)
theorem y_ldiv (hC : yC l E X own cc nL ret fr ll) {x y : Int64} (hd : decode cc pc = .ok (.ldiv, 1)) (hne : ¬ y = 0) (kk : Y l E X post (pc + 1) lo (.long (x / y) :: st) g) : Y l E X post pc lo (.long y :: .long x :: st) g := by
  obtain ⟨p, e, R, s, m, args, below, meth, c⟩ := X
  obtain ⟨hx, hb, hml, hown, hts, hK, hE, hlk, hr, hfr, hll, hN⟩ := hC
  intro H locs ls hP hS hl
  exact lv_ldiv hx hb hd hne (kk H locs ls hP hS hl)
theorem y_lrem (hC : yC l E X own cc nL ret fr ll) {x y : Int64} (hd : decode cc pc = .ok (.lrem, 1)) (hne : ¬ y = 0) (kk : Y l E X post (pc + 1) lo (.long (x - x / y * y) :: st) g) : Y l E X post pc lo (.long y :: .long x :: st) g := by
  obtain ⟨p, e, R, s, m, args, below, meth, c⟩ := X
  obtain ⟨hx, hb, hml, hown, hts, hK, hE, hlk, hr, hfr, hll, hN⟩ := hC
  intro H locs ls hP hS hl
  exact lv_lrem hx hb hd hne (kk H locs ls hP hS hl)
theorem y_lcmp (hC : yC l E X own cc nL ret fr ll) {x y : Int64} (hd : decode cc pc = .ok (.lcmp, 1)) (kk : Y l E X post (pc + 1) lo (.int (lg_cmp x y) :: st) g) : Y l E X post pc lo (.long y :: .long x :: st) g := by
  obtain ⟨p, e, R, s, m, args, below, meth, c⟩ := X
  obtain ⟨hx, hb, hml, hown, hts, hK, hE, hlk, hr, hfr, hll, hN⟩ := hC
  intro H locs ls hP hS hl
  exact W.lcmp hx hb hd (kk H locs ls hP hS hl)
theorem y_i2l (hC : yC l E X own cc nL ret fr ll) {x : Int32} (hd : decode cc pc = .ok (.i2l, 1)) (kk : Y l E X post (pc + 1) lo (.long x.toInt64 :: st) g) : Y l E X post pc lo (.int x :: st) g := by
  obtain ⟨p, e, R, s, m, args, below, meth, c⟩ := X
  obtain ⟨hx, hb, hml, hown, hts, hK, hE, hlk, hr, hfr, hll, hN⟩ := hC
  intro H locs ls hP hS hl
  exact lv_i2l hx hb hd rfl (kk H locs ls hP hS hl)
theorem y_i2c (hC : yC l E X own cc nL ret fr ll) {x v : Int32} (hd : decode cc pc = .ok (.i2c, 1)) (hv : (x.toUInt32 % 65536).toInt32 = v) (kk : Y l E X post (pc + 1) lo (.int v :: st) g) : Y l E X post pc lo (.int x :: st) g := by
  obtain ⟨p, e, R, s, m, args, below, meth, c⟩ := X
  obtain ⟨hx, hb, hml, hown, hts, hK, hE, hlk, hr, hfr, hll, hN⟩ := hC
  intro H locs ls hP hS hl
  exact lv_i2c hx hb hd hv (kk H locs ls hP hS hl)
theorem y_dup (hC : yC l E X own cc nL ret fr ll) {v : Value} (hd : decode cc pc = .ok (.dup, 1)) (hv : v.category = 1) (kk : Y l E X post (pc + 1) lo (v :: v :: st) g) : Y l E X post pc lo (v :: st) g := by
  obtain ⟨p, e, R, s, m, args, below, meth, c⟩ := X
  obtain ⟨hx, hb, hml, hown, hts, hK, hE, hlk, hr, hfr, hll, hN⟩ := hC
  intro H locs ls hP hS hl
  exact lv_dup hx hb hd hv (kk H locs ls hP hS hl)
theorem y_pop (hC : yC l E X own cc nL ret fr ll) {v : Value} (hd : decode cc pc = .ok (.pop, 1)) (hv : v.category = 1) (kk : Y l E X post (pc + 1) lo st g) : Y l E X post pc lo (v :: st) g := by
  obtain ⟨p, e, R, s, m, args, below, meth, c⟩ := X
  obtain ⟨hx, hb, hml, hown, hts, hK, hE, hlk, hr, hfr, hll, hN⟩ := hC
  intro H locs ls hP hS hl
  exact lv_pop hx hb hd hv (kk H locs ls hP hS hl)
theorem y_dup2 (hC : yC l E X own cc nL ret fr ll) {v w : Value} (hd : decode cc pc = .ok (.dup2, 1)) (hv : v.category = 1) (hw : w.category = 1) (kk : Y l E X post (pc + 1) lo (v :: w :: v :: w :: st) g) : Y l E X post pc lo (v :: w :: st) g := by
  obtain ⟨p, e, R, s, m, args, below, meth, c⟩ := X
  obtain ⟨hx, hb, hml, hown, hts, hK, hE, hlk, hr, hfr, hll, hN⟩ := hC
  intro H locs ls hP hS hl
  exact lv_dup2_11 hx hb hd hv hw (kk H locs ls hP hS hl)
theorem y_dup_x1 (hC : yC l E X own cc nL ret fr ll) {v w : Value} (hd : decode cc pc = .ok (.dup_x1, 1)) (hv : v.category = 1) (hw : w.category = 1) (kk : Y l E X post (pc + 1) lo (v :: w :: v :: st) g) : Y l E X post pc lo (v :: w :: st) g := by
  obtain ⟨p, e, R, s, m, args, below, meth, c⟩ := X
  obtain ⟨hx, hb, hml, hown, hts, hK, hE, hlk, hr, hfr, hll, hN⟩ := hC
  intro H locs ls hP hS hl
  exact lv_dup_x1 hx hb hd hv hw (kk H locs ls hP hS hl)
theorem y_if_eq (hC : yC l E X own cc nL ret fr ll) {x : Int32} {off : Int} {tgt : Nat} (hd : decode cc pc = .ok (.ifCond .eq off, 3)) (ht : (pc : Int) + off = (tgt : Int)) (kt : x = 0 → Y l E X post tgt lo st g) (kf : ¬ x = 0 → Y l E X post (pc + 3) lo st g) : Y l E X post pc lo (.int x :: st) g := by
  obtain ⟨p, e, R, s, m, args, below, meth, c⟩ := X
  obtain ⟨hx, hb, hml, hown, hts, hK, hE, hlk, hr, hfr, hll, hN⟩ := hC
  intro H locs ls hP hS hl
  exact lv_if_eq hx hb hd ht (fun q => kt q H locs ls hP hS hl) (fun q => kf q H locs ls hP hS hl)
theorem y_icmp_eq (hC : yC l E X own cc nL ret fr ll) {x y : Int32} {off : Int} {tgt : Nat} (hd : decode cc pc = .ok (.if_icmp .eq off, 3)) (ht : (pc : Int) + off = (tgt : Int)) (kt : x = y → Y l E X post tgt lo st g) (kf : ¬ x = y → Y l E X post (pc + 3) lo st g) : Y l E X post pc lo (.int y :: .int x :: st) g := by
  obtain ⟨p, e, R, s, m, args, below, meth, c⟩ := X
  obtain ⟨hx, hb, hml, hown, hts, hK, hE, hlk, hr, hfr, hll, hN⟩ := hC
  intro H locs ls hP hS hl
  exact lv_icmp_eq hx hb hd ht (fun q => kt q H locs ls hP hS hl) (fun q => kf q H locs ls hP hS hl)
theorem y_if_ne (hC : yC l E X own cc nL ret fr ll) {x : Int32} {off : Int} {tgt : Nat} (hd : decode cc pc = .ok (.ifCond .ne off, 3)) (ht : (pc : Int) + off = (tgt : Int)) (kt : ¬ x = 0 → Y l E X post tgt lo st g) (kf : x = 0 → Y l E X post (pc + 3) lo st g) : Y l E X post pc lo (.int x :: st) g := by
  obtain ⟨p, e, R, s, m, args, below, meth, c⟩ := X
  obtain ⟨hx, hb, hml, hown, hts, hK, hE, hlk, hr, hfr, hll, hN⟩ := hC
  intro H locs ls hP hS hl
  exact lv_if_ne hx hb hd ht (fun q => kt q H locs ls hP hS hl) (fun q => kf q H locs ls hP hS hl)
theorem y_icmp_ne (hC : yC l E X own cc nL ret fr ll) {x y : Int32} {off : Int} {tgt : Nat} (hd : decode cc pc = .ok (.if_icmp .ne off, 3)) (ht : (pc : Int) + off = (tgt : Int)) (kt : ¬ x = y → Y l E X post tgt lo st g) (kf : x = y → Y l E X post (pc + 3) lo st g) : Y l E X post pc lo (.int y :: .int x :: st) g := by
  obtain ⟨p, e, R, s, m, args, below, meth, c⟩ := X
  obtain ⟨hx, hb, hml, hown, hts, hK, hE, hlk, hr, hfr, hll, hN⟩ := hC
  intro H locs ls hP hS hl
  exact lv_icmp_ne hx hb hd ht (fun q => kt q H locs ls hP hS hl) (fun q => kf q H locs ls hP hS hl)
theorem y_if_lt (hC : yC l E X own cc nL ret fr ll) {x : Int32} {off : Int} {tgt : Nat} (hd : decode cc pc = .ok (.ifCond .lt off, 3)) (ht : (pc : Int) + off = (tgt : Int)) (kt : x < 0 → Y l E X post tgt lo st g) (kf : ¬ x < 0 → Y l E X post (pc + 3) lo st g) : Y l E X post pc lo (.int x :: st) g := by
  obtain ⟨p, e, R, s, m, args, below, meth, c⟩ := X
  obtain ⟨hx, hb, hml, hown, hts, hK, hE, hlk, hr, hfr, hll, hN⟩ := hC
  intro H locs ls hP hS hl
  exact lv_if_lt hx hb hd ht (fun q => kt q H locs ls hP hS hl) (fun q => kf q H locs ls hP hS hl)
theorem y_icmp_lt (hC : yC l E X own cc nL ret fr ll) {x y : Int32} {off : Int} {tgt : Nat} (hd : decode cc pc = .ok (.if_icmp .lt off, 3)) (ht : (pc : Int) + off = (tgt : Int)) (kt : x < y → Y l E X post tgt lo st g) (kf : ¬ x < y → Y l E X post (pc + 3) lo st g) : Y l E X post pc lo (.int y :: .int x :: st) g := by
  obtain ⟨p, e, R, s, m, args, below, meth, c⟩ := X
  obtain ⟨hx, hb, hml, hown, hts, hK, hE, hlk, hr, hfr, hll, hN⟩ := hC
  intro H locs ls hP hS hl
  exact lv_icmp_lt hx hb hd ht (fun q => kt q H locs ls hP hS hl) (fun q => kf q H locs ls hP hS hl)
theorem y_if_ge (hC : yC l E X own cc nL ret fr ll) {x : Int32} {off : Int} {tgt : Nat} (hd : decode cc pc = .ok (.ifCond .ge off, 3)) (ht : (pc : Int) + off = (tgt : Int)) (kt : 0 ≤ x → Y l E X post tgt lo st g) (kf : ¬ 0 ≤ x → Y l E X post (pc + 3) lo st g) : Y l E X post pc lo (.int x :: st) g := by
  obtain ⟨p, e, R, s, m, args, below, meth, c⟩ := X
  obtain ⟨hx, hb, hml, hown, hts, hK, hE, hlk, hr, hfr, hll, hN⟩ := hC
  intro H locs ls hP hS hl
  exact lv_if_ge hx hb hd ht (fun q => kt q H locs ls hP hS hl) (fun q => kf q H locs ls hP hS hl)
theorem y_icmp_ge (hC : yC l E X own cc nL ret fr ll) {x y : Int32} {off : Int} {tgt : Nat} (hd : decode cc pc = .ok (.if_icmp .ge off, 3)) (ht : (pc : Int) + off = (tgt : Int)) (kt : y ≤ x → Y l E X post tgt lo st g) (kf : ¬ y ≤ x → Y l E X post (pc + 3) lo st g) : Y l E X post pc lo (.int y :: .int x :: st) g := by
  obtain ⟨p, e, R, s, m, args, below, meth, c⟩ := X
  obtain ⟨hx, hb, hml, hown, hts, hK, hE, hlk, hr, hfr, hll, hN⟩ := hC
  intro H locs ls hP hS hl
  exact lv_icmp_ge hx hb hd ht (fun q => kt q H locs ls hP hS hl) (fun q => kf q H locs ls hP hS hl)
theorem y_if_gt (hC : yC l E X own cc nL ret fr ll) {x : Int32} {off : Int} {tgt : Nat} (hd : decode cc pc = .ok (.ifCond .gt off, 3)) (ht : (pc : Int) + off = (tgt : Int)) (kt : 0 < x → Y l E X post tgt lo st g) (kf : ¬ 0 < x → Y l E X post (pc + 3) lo st g) : Y l E X post pc lo (.int x :: st) g := by
  obtain ⟨p, e, R, s, m, args, below, meth, c⟩ := X
  obtain ⟨hx, hb, hml, hown, hts, hK, hE, hlk, hr, hfr, hll, hN⟩ := hC
  intro H locs ls hP hS hl
  exact lv_if_gt hx hb hd ht (fun q => kt q H locs ls hP hS hl) (fun q => kf q H locs ls hP hS hl)
theorem y_icmp_gt (hC : yC l E X own cc nL ret fr ll) {x y : Int32} {off : Int} {tgt : Nat} (hd : decode cc pc = .ok (.if_icmp .gt off, 3)) (ht : (pc : Int) + off = (tgt : Int)) (kt : y < x → Y l E X post tgt lo st g) (kf : ¬ y < x → Y l E X post (pc + 3) lo st g) : Y l E X post pc lo (.int y :: .int x :: st) g := by
  obtain ⟨p, e, R, s, m, args, below, meth, c⟩ := X
  obtain ⟨hx, hb, hml, hown, hts, hK, hE, hlk, hr, hfr, hll, hN⟩ := hC
  intro H locs ls hP hS hl
  exact lv_icmp_gt hx hb hd ht (fun q => kt q H locs ls hP hS hl) (fun q => kf q H locs ls hP hS hl)
theorem y_if_le (hC : yC l E X own cc nL ret fr ll) {x : Int32} {off : Int} {tgt : Nat} (hd : decode cc pc = .ok (.ifCond .le off, 3)) (ht : (pc : Int) + off = (tgt : Int)) (kt : x ≤ 0 → Y l E X post tgt lo st g) (kf : ¬ x ≤ 0 → Y l E X post (pc + 3) lo st g) : Y l E X post pc lo (.int x :: st) g := by
  obtain ⟨p, e, R, s, m, args, below, meth, c⟩ := X
  obtain ⟨hx, hb, hml, hown, hts, hK, hE, hlk, hr, hfr, hll, hN⟩ := hC
  intro H locs ls hP hS hl
  exact lv_if_le hx hb hd ht (fun q => kt q H locs ls hP hS hl) (fun q => kf q H locs ls hP hS hl)
theorem y_icmp_le (hC : yC l E X own cc nL ret fr ll) {x y : Int32} {off : Int} {tgt : Nat} (hd : decode cc pc = .ok (.if_icmp .le off, 3)) (ht : (pc : Int) + off = (tgt : Int)) (kt : x ≤ y → Y l E X post tgt lo st g) (kf : ¬ x ≤ y → Y l E X post (pc + 3) lo st g) : Y l E X post pc lo (.int y :: .int x :: st) g := by
  obtain ⟨p, e, R, s, m, args, below, meth, c⟩ := X
  obtain ⟨hx, hb, hml, hown, hts, hK, hE, hlk, hr, hfr, hll, hN⟩ := hC
  intro H locs ls hP hS hl
  exact lv_icmp_le hx hb hd ht (fun q => kt q H locs ls hP hS hl) (fun q => kf q H locs ls hP hS hl)
theorem y_goto (hC : yC l E X own cc nL ret fr ll) {off : Int} {tgt : Nat} (hd : decode cc pc = .ok (.goto off, 3)) (ht : (pc : Int) + off = (tgt : Int)) (kk : Y l E X post tgt lo st g) : Y l E X post pc lo st g := by
  obtain ⟨p, e, R, s, m, args, below, meth, c⟩ := X
  obtain ⟨hx, hb, hml, hown, hts, hK, hE, hlk, hr, hfr, hll, hN⟩ := hC
  intro H locs ls hP hS hl
  exact lv_goto hx hb hd ht (kk H locs ls hP hS hl)
theorem y_ifnull (hC : yC l E X own cc nL ret fr ll) {o : Option Nat} {off : Int} {tgt : Nat} (hd : decode cc pc = .ok (.ifnull off, 3)) (ht : (pc : Int) + off = (tgt : Int)) (kt : o = none → Y l E X post tgt lo st g) (kf : ∀ k, o = some k → Y l E X post (pc + 3) lo st g) : Y l E X post pc lo (rfo E o :: st) g := by
  obtain ⟨p, e, R, s, m, args, below, meth, c⟩ := X
  obtain ⟨hx, hb, hml, hown, hts, hK, hE, hlk, hr, hfr, hll, hN⟩ := hC
  intro H locs ls hP hS hl
  cases o with
  | none => exact lv_ifnullN hx hb hd ht (kt rfl H locs ls hP hS hl)
  | some a => exact lv_ifnull hx hb hd (kf a rfl H locs ls hP hS hl)
theorem y_ifnonnull (hC : yC l E X own cc nL ret fr ll) {o : Option Nat} {off : Int} {tgt : Nat} (hd : decode cc pc = .ok (.ifnonnull off, 3)) (ht : (pc : Int) + off = (tgt : Int)) (kt : ∀ k, o = some k → Y l E X post tgt lo st g) (kf : o = none → Y l E X post (pc + 3) lo st g) : Y l E X post pc lo (rfo E o :: st) g := by
  obtain ⟨p, e, R, s, m, args, below, meth, c⟩ := X
  obtain ⟨hx, hb, hml, hown, hts, hK, hE, hlk, hr, hfr, hll, hN⟩ := hC
  intro H locs ls hP hS hl
  cases o with
  | none => exact lv_ifnonnullN hx hb hd (kf rfl H locs ls hP hS hl)
  | some a => exact lv_ifnonnull hx hb hd ht (kt a rfl H locs ls hP hS hl)
theorem y_tabOut (hC : yC l E X own cc nL ret fr ll) {d lw hg : Int} {offs : Array Int} {len : Nat} {x : Int32} {tgt : Nat} (hd : decode cc pc = .ok (.tableswitch d lw hg offs, len)) (h : x.toInt < lw ∨ hg < x.toInt) (ht : (pc : Int) + d = (tgt : Int)) (kk : Y l E X post tgt lo st g) : Y l E X post pc lo (.int x :: st) g := by
  obtain ⟨p, e, R, s, m, args, below, meth, c⟩ := X
  obtain ⟨hx, hb, hml, hown, hts, hK, hE, hlk, hr, hfr, hll, hN⟩ := hC
  intro H locs ls hP hS hl
  exact lv_tableOut hx hb hd h ht (kk H locs ls hP hS hl)
theorem y_tabIn (hC : yC l E X own cc nL ret fr ll) {d lw hg : Int} {offs : Array Int} {len : Nat} {x : Int32} {off : Int} {tgt : Nat} (hd : decode cc pc = .ok (.tableswitch d lw hg offs, len)) (h1 : ¬ x.toInt < lw) (h2 : ¬ hg < x.toInt) (ho : offs[(x.toInt - lw).toNat]? = some off) (ht : (pc : Int) + off = (tgt : Int)) (kk : Y l E X post tgt lo st g) : Y l E X post pc lo (.int x :: st) g := by
  obtain ⟨p, e, R, s, m, args, below, meth, c⟩ := X
  obtain ⟨hx, hb, hml, hown, hts, hK, hE, hlk, hr, hfr, hll, hN⟩ := hC
  intro H locs ls hP hS hl
  exact lv_tableIn hx hb hd h1 h2 ho ht (kk H locs ls hP hS hl)
theorem y_look (hC : yC l E X own cc nL ret fr ll) {d : Int} {ps : Array (Int × Int)} {len : Nat} {x : Int32} {off : Int} {tgt : Nat} (hd : decode cc pc = .ok (.lookupswitch d ps, len)) (hq : (ps.toList.zip (ps.toList.drop 1)).all (fun (a, next) => a.1 < next.1) = true) (ho : Op.lookupswitch.offset ps.toList d x.toInt = off) (ht : (pc : Int) + off = (tgt : Int)) (kk : Y l E X post tgt lo st g) : Y l E X post pc lo (.int x :: st) g := by
  obtain ⟨p, e, R, s, m, args, below, meth, c⟩ := X
  obtain ⟨hx, hb, hml, hown, hts, hK, hE, hlk, hr, hfr, hll, hN⟩ := hC
  intro H locs ls hP hS hl
  exact lv_lookup hx hb hd hq ho ht (kk H locs ls hP hS hl)
theorem y_iret (hC : yC l E X own cc nL (some .int) fr ll) {v : Int32} {q : Int32 → Mem → Prop} (hd : decode cc pc = .ok (.ireturn, 1)) (hq : q v g) : Y l E X (pI q) pc lo [.int v] g := by
  obtain ⟨p, e, R, s, m, args, below, meth, c⟩ := X
  obtain ⟨hx, hb, hml, hown, hts, hK, hE, hlk, hr, hfr, hll, hN⟩ := hC
  intro H locs ls hP hS hl
  exact W.iret hx hb hr (fun t ht _ => ⟨⟨_, g, rfl, ⟨v, rfl, hq⟩, by rw [ht]; exact hP⟩, hS.F ht⟩) hS.2.2 hd hlk
theorem y_lret (hC : yC l E X own cc nL (some .long) fr ll) {v : Int64} {q : Int64 → Mem → Prop} (hd : decode cc pc = .ok (.lreturn, 1)) (hq : q v g) : Y l E X (pL q) pc lo [.long v] g := by
  obtain ⟨p, e, R, s, m, args, below, meth, c⟩ := X
  obtain ⟨hx, hb, hml, hown, hts, hK, hE, hlk, hr, hfr, hll, hN⟩ := hC
  intro H locs ls hP hS hl
  exact W.lret hx hb hr (fun t ht _ => ⟨⟨_, g, rfl, ⟨v, rfl, hq⟩, by rw [ht]; exact hP⟩, hS.F ht⟩) hS.2.2 hd hlk
theorem y_zret (hC : yC l E X own cc nL ret fr ll) {v : Int32} {ty : FieldType} {q : Int32 → Mem → Prop} (hrt : ret = some ty) (hn : narrow ty (.int v) = .int v) (hd : decode cc pc = .ok (.ireturn, 1)) (hq : q v g) : Y l E X (pI q) pc lo [.int v] g := by
  obtain ⟨p, e, R, s, m, args, below, meth, c⟩ := X
  obtain ⟨hx, hb, hml, hown, hts, hK, hE, hlk, hr, hfr, hll, hN⟩ := hC
  intro H locs ls hP hS hl
  exact W.zret hx hb (hr.trans hrt) hn (fun t ht _ => ⟨⟨_, g, rfl, ⟨v, rfl, hq⟩, by rw [ht]; exact hP⟩, hS.F ht⟩) hS.2.2 hd hlk
theorem y_vret (hC : yC l E X own cc nL none fr ll) {q : Mem → Prop} (hd : decode cc pc = .ok (.return_, 1)) (hq : q g) : Y l E X (pV q) pc lo [] g := by
  obtain ⟨p, e, R, s, m, args, below, meth, c⟩ := X
  obtain ⟨hx, hb, hml, hown, hts, hK, hE, hlk, hr, hfr, hll, hN⟩ := hC
  intro H locs ls hP hS hl
  exact W.vret hx hb hr (fun t ht _ => ⟨⟨_, g, rfl, ⟨rfl, hq⟩, by rw [ht]; exact hP⟩, hS.F ht⟩) hS.2.2 hd hlk
theorem y_aret (hC : yC l E X own cc nL ret fr ll) {o : Option Nat} {nm : String} {q : Option Nat → Mem → Prop} (hrt : ret = some (.object nm)) (hd : decode cc pc = .ok (.areturn, 1)) (hq : q o g) : Y l E X (pR E q) pc lo [rfo E o] g := by
  obtain ⟨p, e, R, s, m, args, below, meth, c⟩ := X
  obtain ⟨hx, hb, hml, hown, hts, hK, hE, hlk, hr, hfr, hll, hN⟩ := hC
  intro H locs ls hP hS hl
  exact W.aret hx hb (hr.trans hrt) (Or.inl ⟨_, rfl⟩) (va_rf_or _) (fun t ht _ => ⟨⟨_, g, rfl, ⟨o, rfl, hq⟩, by rw [ht]; exact hP⟩, hS.F ht⟩) hS.2.2 hd hlk
def yF (own : String) (idx ci kf : Nat) : Prop := ∃ (C : String) (T : u_T) (N : Nat), gC[ci]? = some (C, T, N) ∧ kf < N ∧ (∀ w ∈ u_ws C T N, w ∈ lw_gt) ∧ Cond.fieldLink own idx (T kf).1 (T kf).2.1 (T kf).2.2.1 ∈ lw_gt
def yFp (own : String) (idx ci kf : Nat) (ty : FieldType) : Prop := ∃ (C : String) (T : u_T) (N : Nat) (ty0 : Nat → FieldType), gC[ci]? = some (C, T, N) ∧ kf < N ∧ (∀ w ∈ u_ws C T N, w ∈ lw_gt) ∧ Cond.fieldLink own idx (T kf).1 (T kf).2.1 (T kf).2.2.1 ∈ lw_gt ∧ (∀ k, k < N → parseFieldDescriptor (T k).2.2.1 = some (ty0 k)) ∧ (∀ a, a < N → ∀ b, b < N → a ≠ b → (T a).2.1 ≠ (T b).2.1) ∧ (T kf).2.2.2 = false ∧ parseFieldDescriptor (T kf).2.2.1 = some ty
theorem gA_top {E : gE} {k : Nat} (hk : k < eK E) : gA E (eA E k) := ⟨k, hk, rfl⟩
theorem gA_id (E : gE) : ∀ q, gA E q → gA E q := fun _ h => h
theorem y_get (hC : yC l E X own cc nL ret fr ll) {idx ci kf k : Nat} {fs : List Value} {v : Value} (hf : yF own idx ci kf) (hd : decode cc pc = .ok (.getfield idx, 3)) (hk : k < eK E) (hg : g k = oB ci fs) (hv : fs[kf]? = some v) (kk : Y l E X post (pc + 3) lo (v :: st) g) : Y l E X post pc lo (rf E k :: st) g := by
  obtain ⟨p, e, R, s, m, args, below, meth, c⟩ := X
  obtain ⟨hx, hb, hml, hown, hts, hK, hE, hlk, hr, hfr, hll, hN⟩ := hC
  intro H locs ls hP hS hl
  obtain ⟨C, T, N, h1, h2, h3, h4⟩ := hf
  exact va_get (D := E.1) (ci := ci) (v := v) (C := C) (T := T) (N := N) hx hb hts h3 hown hK hP k (by rw [gW_at hk, hg]; rfl) h1 kf h2 (hts _ h4) (fun _ h9 => h9) hv hd (kk H locs ls hP hS hl)
theorem y_put (hC : yC l E X own cc nL ret fr ll) {idx ci kf k : Nat} {fs fs' : List Value} {v : Value} {ty : FieldType} (hf : yFp own idx ci kf ty) (hd : decode cc pc = .ok (.putfield idx, 3)) (hk : k < eK E) (hg : g k = oB ci fs) (hlen : kf < fs.length) (hn : narrow ty v = v) (hfit : fits ty v = true) (hs : fs.set kf v = fs') (kk : Y l E X post (pc + 3) lo st (va_up g k (oB ci fs'))) : Y l E X post pc lo (v :: rf E k :: st) g := by
  obtain ⟨p, e, R, s, m, args, below, meth, c⟩ := X
  obtain ⟨hx, hb, hml, hown, hts, hK, hE, hlk, hr, hfr, hll, hN⟩ := hC
  intro H locs ls hP hS hl
  obtain ⟨C, T, N, ty0, h1, h2, h3, h4, h5, h6, h7, h8⟩ := hf
  refine va_put (D := E.1) (ci := ci) (v := v) (ty := ty) (C := C) (T := T) (N := N) hx hb hts h3 ty0 h5 h6 hown hK hP (gW_D hE (gA_id E)) hS k (by rw [gW_at hk, hg]; rfl) h1 kf h2 (hts _ h4) (fun _ h9 => h9) h7 h8 hn hfit hlen hd (fun H1 locs1 hP1 _ hS1 => ?_)
  rw [gW_set hk, hs] at hP1
  exact kk H1 locs1 ls hP1 hS1 hl
theorem y_ix {i : Int32} {j n : Nat} (hi : i = nI j) (hj : j < n) (hn : n < 2147483648) : vp_in i n ∧ i.toNatClampNeg = j := by
  subst hi
  exact ⟨vp_in_nI hj hn, nI_clamp (by omega)⟩
theorem y_iald (hC : yC l E X own cc nL ret fr ll) {k n j : Nat} {f : Nat → Int32} {i : Int32} (hd : decode cc pc = .ok (.iaload, 1)) (hk : k < eK E) (hg : g k = aI E 0 n f) (hi : i = nI j) (hj : j < n) (hn : n < 2147483648) (kk : Y l E X post (pc + 1) lo (.int (f j) :: st) g) : Y l E X post pc lo (.int i :: rf E k :: st) g := by
  obtain ⟨p, e, R, s, m, args, below, meth, c⟩ := X
  obtain ⟨hx, hb, hml, hown, hts, hK, hE, hlk, hr, hfr, hll, hN⟩ := hC
  intro H locs ls hP hS hl
  obtain ⟨h1, h2⟩ := y_ix hi hj hn
  exact va_iald hx hb hK hP k 0 (by rw [gW_at hk, hg]; rfl) rfl h1 hd (by rw [h2]; exact kk H locs ls hP hS hl)
theorem y_zald (hC : yC l E X own cc nL ret fr ll) {k n j : Nat} {f : Nat → Int32} {i : Int32} (hd : decode cc pc = .ok (.baload, 1)) (hk : k < eK E) (hg : g k = aI E 2 n f) (hi : i = nI j) (hj : j < n) (hn : n < 2147483648) (kk : Y l E X post (pc + 1) lo (.int (f j) :: st) g) : Y l E X post pc lo (.int i :: rf E k :: st) g := by
  obtain ⟨p, e, R, s, m, args, below, meth, c⟩ := X
  obtain ⟨hx, hb, hml, hown, hts, hK, hE, hlk, hr, hfr, hll, hN⟩ := hC
  intro H locs ls hP hS hl
  obtain ⟨h1, h2⟩ := y_ix hi hj hn
  exact va_zald hx hb hK hP k 2 (by rw [gW_at hk, hg]; rfl) rfl h1 hd (by rw [h2]; exact kk H locs ls hP hS hl)
theorem y_cald (hC : yC l E X own cc nL ret fr ll) {k n j : Nat} {f : Nat → Int32} {i : Int32} (hd : decode cc pc = .ok (.caload, 1)) (hk : k < eK E) (hg : g k = aI E 1 n f) (hi : i = nI j) (hj : j < n) (hn : n < 2147483648) (kk : Y l E X post (pc + 1) lo (.int (f j) :: st) g) : Y l E X post pc lo (.int i :: rf E k :: st) g := by
  obtain ⟨p, e, R, s, m, args, below, meth, c⟩ := X
  obtain ⟨hx, hb, hml, hown, hts, hK, hE, hlk, hr, hfr, hll, hN⟩ := hC
  intro H locs ls hP hS hl
  obtain ⟨h1, h2⟩ := y_ix hi hj hn
  exact va_cald hx hb hK hP k 1 (by rw [gW_at hk, hg]; rfl) rfl h1 hd (by rw [h2]; exact kk H locs ls hP hS hl)
theorem y_iast (hC : yC l E X own cc nL ret fr ll) {k n j : Nat} {f : Nat → Int32} {i x : Int32} (hd : decode cc pc = .ok (.iastore, 1)) (hk : k < eK E) (hg : g k = aI E 0 n f) (hi : i = nI j) (hj : j < n) (hn : n < 2147483648) (kk : Y l E X post (pc + 1) lo st (va_up g k (aI E 0 n (upd f j x)))) : Y l E X post pc lo (.int x :: .int i :: rf E k :: st) g := by
  obtain ⟨p, e, R, s, m, args, below, meth, c⟩ := X
  obtain ⟨hx, hb, hml, hown, hts, hK, hE, hlk, hr, hfr, hll, hN⟩ := hC
  intro H locs ls hP hS hl
  obtain ⟨h1, h2⟩ := y_ix hi hj hn
  refine va_iast hx hb hK hP (gW_D hE (gA_id E)) hS k 0 (by rw [gW_at hk, hg]; rfl) rfl h1 hd (fun H1 locs1 hP1 _ hS1 => ?_)
  rw [gW_set hk, h2] at hP1
  exact kk H1 locs1 ls hP1 hS1 hl
theorem y_zast (hC : yC l E X own cc nL ret fr ll) {k n j : Nat} {f : Nat → Int32} {i x : Int32} (hd : decode cc pc = .ok (.bastore, 1)) (hk : k < eK E) (hg : g k = aI E 2 n f) (hi : i = nI j) (hj : j < n) (hn : n < 2147483648) (hx : vp_nar .boolean x = x) (kk : Y l E X post (pc + 1) lo st (va_up g k (aI E 2 n (upd f j x)))) : Y l E X post pc lo (.int x :: .int i :: rf E k :: st) g := by
  obtain ⟨p, e, R, s, m, args, below, meth, c⟩ := X
  obtain ⟨hx, hb, hml, hown, hts, hK, hE, hlk, hr, hfr, hll, hN⟩ := hC
  intro H locs ls hP hS hl
  rename_i hnar
  obtain ⟨h1, h2⟩ := y_ix hi hj hn
  refine va_zast hx hb hK hP (gW_D hE (gA_id E)) hS k 2 (by rw [gW_at hk, hg]; rfl) rfl h1 hd (fun H1 locs1 hP1 _ hS1 => ?_)
  rw [gW_set hk, h2, hnar] at hP1
  exact kk H1 locs1 ls hP1 hS1 hl
theorem y_cast (hC : yC l E X own cc nL ret fr ll) {k n j : Nat} {f : Nat → Int32} {i x : Int32} (hd : decode cc pc = .ok (.castore, 1)) (hk : k < eK E) (hg : g k = aI E 1 n f) (hi : i = nI j) (hj : j < n) (hn : n < 2147483648) (hx : vp_nar .char x = x) (kk : Y l E X post (pc + 1) lo st (va_up g k (aI E 1 n (upd f j x)))) : Y l E X post pc lo (.int x :: .int i :: rf E k :: st) g := by
  obtain ⟨p, e, R, s, m, args, below, meth, c⟩ := X
  obtain ⟨hx, hb, hml, hown, hts, hK, hE, hlk, hr, hfr, hll, hN⟩ := hC
  intro H locs ls hP hS hl
  rename_i hnar
  obtain ⟨h1, h2⟩ := y_ix hi hj hn
  refine va_cast hx hb hK hP (gW_D hE (gA_id E)) hS k 1 (by rw [gW_at hk, hg]; rfl) rfl h1 hd (fun H1 locs1 hP1 _ hS1 => ?_)
  rw [gW_set hk, h2, hnar] at hP1
  exact kk H1 locs1 ls hP1 hS1 hl
/-- of the three kinds of rows of references, which class each holds -/
def yT (t ci : Nat) (C : String) : Prop := (t = 3 ∧ ci = 3 ∧ C = RX3) ∨ (t = 4 ∧ ci = 0 ∧ C = RX0) ∨ (t = 5 ∧ ci = 4 ∧ C = RX4)
theorem yT_tys {E : gE} {t ci : Nat} {C : String} (h : yT t ci C) : (eTys E)[t]? = some (eT E t, .object C) := by
  rcases h with ⟨rfl, -, rfl⟩ | ⟨rfl, -, rfl⟩ | ⟨rfl, -, rfl⟩ <;> rfl
theorem yT_cls {t ci : Nat} {C : String} (h : yT t ci C) : ∃ r : vw_C, gC[ci]? = some r ∧ r.1 = C := by
  rcases h with ⟨-, rfl, rfl⟩ | ⟨-, rfl, rfl⟩ | ⟨-, rfl, rfl⟩ <;> exact ⟨_, rfl, rfl⟩
theorem y_aald (hC : yC l E X own cc nL ret fr ll) {k n j t ci : Nat} {C : String} {π : Nat → Nat} {i : Int32} (ht : yT t ci C) (hd : decode cc pc = .ok (.aaload, 1)) (hk : k < eK E) (hg : g k = aR E t n π) (hi : i = nI j) (hj : j < n) (hn : n < 2147483648) (kk : Y l E X post (pc + 1) lo (rf E (π j) :: st) g) : Y l E X post pc lo (.int i :: rf E k :: st) g := by
  obtain ⟨p, e, R, s, m, args, below, meth, c⟩ := X
  obtain ⟨hx, hb, hml, hown, hts, hK, hE, hlk, hr, hfr, hll, hN⟩ := hC
  intro H locs ls hP hS hl
  obtain ⟨h1, h2⟩ := y_ix hi hj hn
  exact va_aldq hx hb hK hP k t (by rw [gW_at hk, hg]; rfl) (yT_tys ht) h1 hd (by rw [h2]; exact kk H locs ls hP hS hl)
theorem y_aast (hC : yC l E X own cc nL ret fr ll) {k n j t ci r : Nat} {C : String} {π : Nat → Nat} {vs : List Value} {i : Int32} (ht : yT t ci C) (hd : decode cc pc = .ok (.aastore, 1)) (hk : k < eK E) (hg : g k = aR E t n π) (hr0 : r < eK E) (hgr : g r = oB ci vs) (hi : i = nI j) (hj : j < n) (hn : n < 2147483648) (kk : Y l E X post (pc + 1) lo st (va_up g k (aR E t n (va_up π j r)))) : Y l E X post pc lo (rf E r :: .int i :: rf E k :: st) g := by
  obtain ⟨p, e, R, s, m, args, below, meth, c⟩ := X
  obtain ⟨hx, hb, hml, hown, hts, hK, hE, hlk, hr, hfr, hll, hN⟩ := hC
  intro H locs ls hP hS hl
  obtain ⟨h1, h2⟩ := y_ix hi hj hn
  obtain ⟨rc, h3, h4⟩ := yT_cls ht
  refine va_astq hx hb hK hP (gW_D hE (gA_id E)) hS k t r ci (r := rc) (by rw [gW_at hk, hg]; rfl) (by rw [yT_tys ht, h4]) (by rw [gW_at hr0, hgr]; rfl) h3 h1 hd (fun H1 locs1 hP1 _ hS1 => ?_)
  have h5 : (Sum.inl (eT E t, n, Sum.inr (Sum.inr (Sum.inr (Sum.inr (va_up (fun i => some (eA E (π i))) i.toNatClampNeg (some (eA E r))))))) : va_E) = aR E t n (va_up π j r) := by
    unfold aR
    congr 7
    funext z
    unfold va_up
    rw [h2]
    by_cases hz : z = j <;> simp [hz]
  rw [gW_set hk, h5] at hP1
  exact kk H1 locs1 ls hP1 hS1 hl
theorem y_copy (hC : yC l E X own cc nL ret fr ll) {idx k k2 n n2 a b z : Nat} {f h : Nat → Int32} {sp dp nn : Int32} (hnL : nL = lo.length) (hl1 : Cond.methodLink own idx arraycopyName ∈ lw_gt) (hl2 : Cond.native arraycopyName ∈ lw_gt) (hl3 : Cond.static arraycopyName ∈ lw_gt) (hl4 : Cond.initialized "java/lang/System" ∈ lw_gt) (hd : decode cc pc = .ok (.invokestatic idx, 3)) (hk : k < eK E) (hg : g k = aI E 0 n f) (hk2 : k2 < eK E) (hg2 : g k2 = aI E 0 n2 h) (hsp : sp = nI a) (hdp : dp = nI b) (hnn : nn = nI z) (h4 : a + z ≤ n) (h5 : b + z ≤ n2) (hn1 : n < 2147483648) (hn2 : n2 < 2147483648) (hfr1 : 1 ≤ fr) (hll1 : (st.map fun v => v.category).sum + (nativeFrameWords "java/lang/System" "arraycopy" 5 + 11) ≤ ll) (kk : Y l E X post (pc + 3) lo st (va_up g k2 (aI E 0 n2 (va_cpy f h a b z)))) : Y l E X post pc lo (.int nn :: .int dp :: rf E k2 :: .int sp :: rf E k :: st) g := by
  obtain ⟨p, e, R, s, m, args, below, meth, c⟩ := X
  obtain ⟨hx, hb, hml, hown, hts, hK, hE, hlk, hr, hfr, hll, hN⟩ := hC
  intro H locs ls hP hS hl
  subst hsp; subst hdp; subst hnn
  have ca : (nI a).toNatClampNeg = a := nI_clamp (by omega)
  have cb : (nI b).toNatClampNeg = b := nI_clamp (by omega)
  have cz : (nI z).toNatClampNeg = z := nI_clamp (by omega)
  refine va_copyi hx hb (hml.trans ?_) hown (hts _ hl1) (hts _ hl2) (hts _ hl3) (hts _ hl4) hK hP (gW_D hE (gA_id E)) hS k k2 0 0 (by rw [gW_at hk, hg]; rfl) (by rw [gW_at hk2, hg2]; rfl) rfl rfl rfl (nI_pos (by omega)) (nI_pos (by omega)) (nI_pos (by omega)) (by rw [ca, cz]; exact h4) (by rw [cb, cz]; exact h5) (fun _ _ => rfl) (by rw [hfr]; exact hfr1) (by rw [hll]; exact hll1) hd (fun H1 locs1 hP1 _ hS1 => ?_)
  · exact (hnL.trans hl.1.symm)
  · rw [gW_set hk2, ca, cb, cz] at hP1
    exact kk H1 locs1 ls hP1 hS1 hl
theorem y_mmax (hC : yC l E X own cc nL ret fr ll) {idx : Nat} {x y : Int32} (hnL : nL = lo.length) (hl1 : Cond.methodLink own idx Lib.Math.max.name ∈ lw_gt) (hl2 : Cond.static Lib.Math.max.name ∈ lw_gt) (hl3 : Cond.initialized "java/lang/Math" ∈ lw_gt) (hl4 : Cond.code Lib.Math.max.name Lib.Math.max.code 2 (some .int) ∈ lw_gt) (hd : decode cc pc = .ok (.invokestatic idx, 3)) (hfr1 : 1 ≤ fr) (hll1 : (st.map fun v => v.category).sum + 13 ≤ ll) (kk : Y l E X post (pc + 3) lo (.int (if x < y then y else x) :: st) g) : Y l E X post pc lo (.int y :: .int x :: st) g := by
  obtain ⟨p, e, R, s, m, args, below, meth, c⟩ := X
  obtain ⟨hx, hb, hml, hown, hts, hK, hE, hlk, hr, hfr, hll, hN⟩ := hC
  intro H locs ls hP hS hl
  exact va_mmax hx hb (hml.trans (hnL.trans hl.1.symm)) hown (hts _ hl1) (hts _ hl2) (hts _ hl3) (hts _ hl4) (by rw [hfr]; exact hfr1) (by rw [hll]; exact hll1) (Nat.zero_le _) (Nat.zero_le _) hd (kk H locs ls hP hS hl)
theorem y_mmin (hC : yC l E X own cc nL ret fr ll) {idx : Nat} {x y : Int32} (hnL : nL = lo.length) (hl1 : Cond.methodLink own idx Lib.Math.min.name ∈ lw_gt) (hl2 : Cond.static Lib.Math.min.name ∈ lw_gt) (hl3 : Cond.initialized "java/lang/Math" ∈ lw_gt) (hl4 : Cond.code Lib.Math.min.name Lib.Math.min.code 2 (some .int) ∈ lw_gt) (hd : decode cc pc = .ok (.invokestatic idx, 3)) (hfr1 : 1 ≤ fr) (hll1 : (st.map fun v => v.category).sum + 13 ≤ ll) (kk : Y l E X post (pc + 3) lo (.int (if y < x then y else x) :: st) g) : Y l E X post pc lo (.int y :: .int x :: st) g := by
  obtain ⟨p, e, R, s, m, args, below, meth, c⟩ := X
  obtain ⟨hx, hb, hml, hown, hts, hK, hE, hlk, hr, hfr, hll, hN⟩ := hC
  intro H locs ls hP hS hl
  exact va_mmin hx hb (hml.trans (hnL.trans hl.1.symm)) hown (hts _ hl1) (hts _ hl2) (hts _ hl3) (hts _ hl4) (by rw [hfr]; exact hfr1) (by rw [hll]; exact hll1) (Nat.zero_le _) (Nat.zero_le _) hd (kk H locs ls hP hS hl)
theorem y_run {l : Launch} {E : gE} {p : Program} {e : Jvm.Env} {R : Room} {s : State} {m : MethodId} {args : Array Value} {below : List Frame} {meth : Method} {c : Code} {H : Heap} {locs : List Loc} {Q : State → Prop} {pc : Nat} {ls : Array Slot} {rest st0 : List Value} {a : Array Value} {postc : Option Value → Mem → Prop}
    (hr : va_Run p l e R s m args below meth c H locs 0 0 0 0 (F0 m pc ls st0) rest (gQ E postc a) (gA E)) (hS : va_S (gA E) s.heap H locs)
    (kk : ∀ (v : Option Value) (g' : Mem) (H1 : Heap) (locs1 : List Loc), postc v g' → gP E g' H1 → va_S (gA E) s.heap H1 locs1 → W p l e R s m args below meth c H1 locs1 0 0 Q (F0 m (pc + 3) ls (v.toList ++ rest))) : W p l e R s m args below meth c H locs 0 0 Q (F0 m pc ls st0) := by
  intro T hT X
  obtain ⟨v, st₀, t, T', L, h0, X', hL, e1, e2, ⟨⟨w, g', hv, hp, hb⟩, hz, hk⟩, st⟩ := hr T hT X
  cases hv
  rw [h0] at hz hk
  obtain ⟨t2, a1, b1⟩ := kk v g' T'.heap (locs ++ L) hp (by rw [e1]; exact hb)
    ⟨Nat.le_trans hS.1 (by rw [e1]; exact hz), fun q h1 h2 => by rw [e1, hk q (Nat.lt_of_lt_of_le h1 hS.1) h2]; exact hS.2.1 q h1 h2, fun q hq => by
      rcases List.mem_append.mp hq with h | h
      · exact hS.2.2 q h
      · exact hL q h⟩ T' rfl X'
  exact ⟨t2, st t2 a1, b1⟩
/-- what the tables say of a method: an instance's, a class's own -/
def yMv (ci : Nat) (y : MethodName) (bytes : ByteArray) (mL : Nat) (rt : Option FieldType) (n : Nat) : Prop := ∃ q : vw_C, gC[ci]? = some q ∧ q.1 = y.cls ∧ (y.cls ≠ "java/lang/invoke/MethodHandle" ∧ y.cls ≠ "java/lang/invoke/VarHandle" ∧ (parseMethodDescriptor y.desc).map (fun d => d.parameters.length) = some n) ∧ Cond.instanceMethod y ∈ lw_gt ∧ Cond.selects y.cls y y ∈ lw_gt ∧ Cond.initialized y.cls ∈ lw_gt ∧ Cond.code y bytes mL rt ∈ lw_gt
def yMs (y : MethodName) (bytes : ByteArray) (mL : Nat) (rt : Option FieldType) (n : Nat) : Prop := (y.cls ≠ "java/lang/invoke/MethodHandle" ∧ y.cls ≠ "java/lang/invoke/VarHandle" ∧ (parseMethodDescriptor y.desc).map (fun d => d.parameters.length) = some n) ∧ Cond.static y ∈ lw_gt ∧ Cond.initialized y.cls ∈ lw_gt ∧ Cond.code y bytes mL rt ∈ lw_gt
theorem mt_blind {E : gE} {av : List Value} {g : Mem} : FrameBlind (va_Pc av (fun U => gP E g U.heap ∧ va_K E.1 gC (eTys E) U ∧ eOk E ∧ gN U)) := fun a U g mk q => by
  obtain ⟨q0, qP, qK, qE, qN⟩ := q
  exact ⟨q0, qP, va_K.moved (u := U) (U := U.calling g mk a) (Vm.Alike.refl U.vm) qK, qE, va_Nw.same (U := U.calling g mk a) rfl rfl qN⟩
theorem y_callV (hC : yC l E X own cc nL ret fr ll) {idx ci b n mL fr2 ll2 : Nat} {y : MethodName} {bytes : ByteArray} {rt : Option FieldType} {fs As rest : List Value} {postc : Option Value → Mem → Prop} (hw : yMv ci y bytes mL rt n) (hlink : Cond.methodLink own idx y ∈ lw_gt) (hd : decode cc pc = .ok (.invokevirtual idx, 3)) (hM : Mt l E y bytes mL rt fr2 ll2 (rf E b :: As) g postc) (hk : b < eK E) (hg : g b = oB ci fs) (hnL : nL = lo.length) (hlen : As.length = n) (hst : st = As.reverse ++ rf E b :: rest) (hcat : (rest.map fun v => v.category).sum ≤ 8) (hroom : fr2 + 1 ≤ fr ∧ 8 + (mL + 11) + ll2 ≤ ll) (kk : ∀ (v : Option Value) (g' : Mem), postc v g' → Y l E X post (pc + 3) lo (v.toList ++ rest) g') : Y l E X post pc lo st g := by
  obtain ⟨p, e, R, s, m, args, below, meth, c⟩ := X
  obtain ⟨hx, hb, hml, hown, hts, hK, hE, hlk, hr, hfr, hll, hN⟩ := hC
  intro H locs ls hP hS hl
  obtain ⟨q, w1, w2, w3, w4, w5, w6, w7⟩ := hw
  refine y_run (E := E) (postc := postc) (rest := rest) (va_runV (C := y.cls) (index := idx) (n := n) (As := As) (rest := rest) (free := gA E) (Ts := lw_gt) (own := own) (nL := nL) ⟨hx, hb, hml, hown, hts⟩ hM ⟨callB_of n hts (lw_good w7) rfl rfl rfl (hts _ w6) (hts _ hlink) w3 ⟨by rw [hfr]; exact hroom.1, by rw [hll]; exact hroom.2⟩, hts _ w4, hts _ w5⟩ ⟨mt_blind, ?_, fun U hU hW => ⟨rfl, by rw [hU]; exact hP, va_K.moved hW.alike hK, hE, va_Nw.warmM hW hN⟩⟩ rfl hlen (hl.1.trans hnL.symm) hst (lv_room hcat) hd ⟨Nat.zero_le _, Nat.zero_le _⟩) hS (fun v g' H1 locs1 hp hP1 hS1 => kk v g' hp H1 locs1 ls hP1 hS1 hl)
  rw [← w2]
  exact va_recv hK hP (ci := ci) (q0 := b) w1 (by rw [gW_at hk, hg]; rfl)
theorem y_callS (hC : yC l E X own cc nL ret fr ll) {idx n mL fr2 ll2 : Nat} {y : MethodName} {bytes : ByteArray} {rt : Option FieldType} {As rest : List Value} {postc : Option Value → Mem → Prop} (hw : yMs y bytes mL rt n) (hlink : Cond.methodLink own idx y ∈ lw_gt) (hd : decode cc pc = .ok (.invokestatic idx, 3)) (hM : Mt l E y bytes mL rt fr2 ll2 As g postc) (hnL : nL = lo.length) (hlen : As.length = n) (hst : st = As.reverse ++ rest) (hcat : (rest.map fun v => v.category).sum ≤ 8) (hroom : fr2 + 1 ≤ fr ∧ 8 + (mL + 11) + ll2 ≤ ll) (kk : ∀ (v : Option Value) (g' : Mem), postc v g' → Y l E X post (pc + 3) lo (v.toList ++ rest) g') : Y l E X post pc lo st g := by
  obtain ⟨p, e, R, s, m, args, below, meth, c⟩ := X
  obtain ⟨hx, hb, hml, hown, hts, hK, hE, hlk, hr, hfr, hll, hN⟩ := hC
  intro H locs ls hP hS hl
  obtain ⟨w3, w4, w6, w7⟩ := hw
  exact y_run (E := E) (postc := postc) (rest := rest) (va_runS (index := idx) (n := n) (As := As) (rest := rest) (free := gA E) (Ts := lw_gt) (own := own) (nL := nL) ⟨hx, hb, hml, hown, hts⟩ hM ⟨callB_of n hts (lw_good w7) rfl rfl rfl (hts _ w6) (hts _ hlink) w3 ⟨by rw [hfr]; exact hroom.1, by rw [hll]; exact hroom.2⟩, hts _ w4⟩ ⟨mt_blind, fun U hU hW => ⟨rfl, by rw [hU]; exact hP, va_K.moved hW.alike hK, hE, va_Nw.warmM hW hN⟩⟩ rfl hlen (hl.1.trans hnL.symm) hst (lv_room hcat) hd ⟨Nat.zero_le _, Nat.zero_le _⟩) hS (fun v g' H1 locs1 hp hP1 hS1 => kk v g' hp H1 locs1 ls hP1 hS1 hl)
theorem y_callSN (hC : yC l E X own cc nL ret fr ll) {idx n mL fr2 ll2 : Nat} {y : MethodName} {host : String} {bytes : ByteArray} {rt : Option FieldType} {As rest : List Value} {postc : Option Value → Mem → Prop} (hw : yMs y bytes mL rt n) (hlink : gN X.2.2.2.1 → va_Nw (.methodLinkNest own idx y host) X.2.2.2.1) (hd : decode cc pc = .ok (.invokestatic idx, 3)) (hM : Mt l E y bytes mL rt fr2 ll2 As g postc) (hnL : nL = lo.length) (hlen : As.length = n) (hst : st = As.reverse ++ rest) (hcat : (rest.map fun v => v.category).sum ≤ 8) (hroom : fr2 + 1 ≤ fr ∧ 8 + (mL + 11) + ll2 ≤ ll) (kk : ∀ (v : Option Value) (g' : Mem), postc v g' → Y l E X post (pc + 3) lo (v.toList ++ rest) g') : Y l E X post pc lo st g := by
  obtain ⟨p, e, R, s, m, args, below, meth, c⟩ := X
  obtain ⟨hx, hb, hml, hown, hts, hK, hE, hlk, hr, hfr, hll, hN⟩ := hC
  intro H locs ls hP hS hl
  obtain ⟨w3, w4, w6, w7⟩ := hw
  exact y_run (E := E) (postc := postc) (rest := rest) (va_runSN (index := idx) (n := n) (As := As) (rest := rest) (free := gA E) (Ts := lw_gt) (own := own) (nL := nL) ⟨hx, hb, hml, hown, hts⟩ hM ⟨va_cnB n hts (lw_good w7) rfl rfl rfl (hlink hN) (hts _ w6) w3 ⟨by rw [hfr]; exact hroom.1, by rw [hll]; exact hroom.2⟩, hts _ w4, trivial⟩ ⟨mt_blind, fun U hU hW => ⟨rfl, by rw [hU]; exact hP, va_K.moved hW.alike hK, hE, va_Nw.warmM hW hN⟩⟩ rfl hlen (hl.1.trans hnL.symm) hst (lv_room hcat) hd ⟨Nat.zero_le _, Nat.zero_le _⟩) hS (fun v g' H1 locs1 hp hP1 hS1 => kk v g' hp H1 locs1 ls hP1 hS1 hl)
theorem pk_i {p : Int32 → Mem → Prop} {rest : List Value} (kk : ∀ (r : Int32) (g' : Mem), p r g' → Y l E X post pc lo (.int r :: rest) g') : ∀ (v : Option Value) (g' : Mem), pI p v g' → Y l E X post pc lo (v.toList ++ rest) g' := fun v g' h => by
  obtain ⟨r, rfl, h⟩ := h
  exact kk r g' h
theorem pk_l {p : Int64 → Mem → Prop} {rest : List Value} (kk : ∀ (r : Int64) (g' : Mem), p r g' → Y l E X post pc lo (.long r :: rest) g') : ∀ (v : Option Value) (g' : Mem), pL p v g' → Y l E X post pc lo (v.toList ++ rest) g' := fun v g' h => by
  obtain ⟨r, rfl, h⟩ := h
  exact kk r g' h
theorem pk_v {p : Mem → Prop} {rest : List Value} (kk : ∀ (g' : Mem), p g' → Y l E X post pc lo rest g') : ∀ (v : Option Value) (g' : Mem), pV p v g' → Y l E X post pc lo (v.toList ++ rest) g' := fun v g' h => by
  obtain ⟨rfl, h⟩ := h
  exact kk g' h
theorem pk_r {p : Option Nat → Mem → Prop} {rest : List Value} (kk : ∀ (o : Option Nat) (g' : Mem), p o g' → Y l E X post pc lo (rfo E o :: rest) g') : ∀ (v : Option Value) (g' : Mem), pR E p v g' → Y l E X post pc lo (v.toList ++ rest) g' := fun v g' h => by
  obtain ⟨o, rfl, h⟩ := h
  exact kk o g' h
end YR
end
section
/-! ===== what the tables say: fields, methods, links ===== -/
set_option maxRecDepth 20000 in
theorem uwX0 : ∀ w ∈ u_ws RX0 TX0 4, w ∈ lw_gt := by decide +kernel
set_option maxRecDepth 20000 in
theorem uwX1 : ∀ w ∈ u_ws RX1 TX1 4, w ∈ lw_gt := by decide +kernel
set_option maxRecDepth 20000 in
theorem uwX2 : ∀ w ∈ u_ws RX2 TX2 6, w ∈ lw_gt := by decide +kernel
set_option maxRecDepth 20000 in
theorem uwX3 : ∀ w ∈ u_ws RX3 TX3 7, w ∈ lw_gt := by decide +kernel
set_option maxRecDepth 20000 in
theorem uwX4 : ∀ w ∈ u_ws RX4 TX4 8, w ∈ lw_gt := by decide +kernel
set_option maxRecDepth 20000 in
theorem uwX5 : ∀ w ∈ u_ws RX5 TX5 6, w ∈ lw_gt := by decide +kernel
set_option maxRecDepth 20000 in
theorem uwX6 : ∀ w ∈ u_ws RX6 TX6 19, w ∈ lw_gt := by decide +kernel
theorem wcX5_init : Cond.code yX5_init cX5_init 1 none ∈ lw_gt := lw_g (List.mem_append_right _ (List.mem_of_getElem? (i := 14) (by decide +kernel))) rfl
theorem wiX5_init : Cond.instanceMethod yX5_init ∈ lw_gt := lw_g (List.mem_append_right _ (List.mem_of_getElem? (i := 13) (by decide +kernel))) rfl
theorem wcX4_init : Cond.code yX4_init cX4_init 2 none ∈ lw_gt := lw_g (List.mem_append_right _ (List.mem_of_getElem? (i := 22) (by decide +kernel))) rfl
theorem wiX4_init : Cond.instanceMethod yX4_init ∈ lw_gt := lw_g (List.mem_append_right _ (List.mem_of_getElem? (i := 21) (by decide +kernel))) rfl
theorem wcX3_init : Cond.code yX3_init cX3_init 1 none ∈ lw_gt := lw_g (List.mem_append_right _ (List.mem_of_getElem? (i := 31) (by decide +kernel))) rfl
theorem wiX3_init : Cond.instanceMethod yX3_init ∈ lw_gt := lw_g (List.mem_append_right _ (List.mem_of_getElem? (i := 30) (by decide +kernel))) rfl
theorem wcX0_init : Cond.code yX0_init cX0_init 1 none ∈ lw_gt := lw_g (List.mem_append_right _ (List.mem_of_getElem? (i := 70) (by decide +kernel))) rfl
theorem wiX0_init : Cond.instanceMethod yX0_init ∈ lw_gt := lw_g (List.mem_append_right _ (List.mem_of_getElem? (i := 69) (by decide +kernel))) rfl
theorem wcX1_init : Cond.code yX1_init cX1_init 2 none ∈ lw_gt := lw_g (List.mem_append_right _ (List.mem_of_getElem? (i := 128) (by decide +kernel))) rfl
theorem wiX1_init : Cond.instanceMethod yX1_init ∈ lw_gt := lw_g (List.mem_append_right _ (List.mem_of_getElem? (i := 127) (by decide +kernel))) rfl
theorem wcX2_init : Cond.code yX2_init cX2_init 1 none ∈ lw_gt := lw_g (List.mem_append_right _ (List.mem_of_getElem? (i := 153) (by decide +kernel))) rfl
theorem wiX2_init : Cond.instanceMethod yX2_init ∈ lw_gt := lw_g (List.mem_append_right _ (List.mem_of_getElem? (i := 152) (by decide +kernel))) rfl
theorem mX5_setColour : yMv 5 yX5_setColour cX5_setColour 4 (some .int) 2 := ⟨_, rfl, by decide +kernel, ⟨by decide +kernel, by decide +kernel, by decide +kernel⟩, lw_g (List.mem_append_right _ (List.mem_of_getElem? (i := 199) (by decide +kernel))) rfl, lw_g (List.mem_append_right _ (List.mem_of_getElem? (i := 200) (by decide +kernel))) rfl, lw_g (List.mem_append_right _ (List.mem_of_getElem? (i := 1) (by decide +kernel))) rfl, lw_g (List.mem_append_right _ (List.mem_of_getElem? (i := 201) (by decide +kernel))) rfl⟩
theorem mX5_isPlace : yMs yX5_isPlace cX5_isPlace 1 (some .boolean) 1 := ⟨⟨by decide +kernel, by decide +kernel, by decide +kernel⟩, lw_g (List.mem_append_right _ (List.mem_of_getElem? (i := 203) (by decide +kernel))) rfl, lw_g (List.mem_append_right _ (List.mem_of_getElem? (i := 1) (by decide +kernel))) rfl, lw_g (List.mem_append_right _ (List.mem_of_getElem? (i := 204) (by decide +kernel))) rfl⟩
theorem mX5_isColour : yMs yX5_isColour cX5_isColour 1 (some .boolean) 1 := ⟨⟨by decide +kernel, by decide +kernel, by decide +kernel⟩, lw_g (List.mem_append_right _ (List.mem_of_getElem? (i := 206) (by decide +kernel))) rfl, lw_g (List.mem_append_right _ (List.mem_of_getElem? (i := 1) (by decide +kernel))) rfl, lw_g (List.mem_append_right _ (List.mem_of_getElem? (i := 207) (by decide +kernel))) rfl⟩
theorem mX1_record : yMv 1 yX1_record cX1_record 2 none 1 := ⟨_, rfl, by decide +kernel, ⟨by decide +kernel, by decide +kernel, by decide +kernel⟩, lw_g (List.mem_append_right _ (List.mem_of_getElem? (i := 210) (by decide +kernel))) rfl, lw_g (List.mem_append_right _ (List.mem_of_getElem? (i := 211) (by decide +kernel))) rfl, lw_g (List.mem_append_right _ (List.mem_of_getElem? (i := 5) (by decide +kernel))) rfl, lw_g (List.mem_append_right _ (List.mem_of_getElem? (i := 212) (by decide +kernel))) rfl⟩
theorem mX1_dropOldest : yMv 1 yX1_dropOldest cX1_dropOldest 3 none 0 := ⟨_, rfl, by decide +kernel, ⟨by decide +kernel, by decide +kernel, by decide +kernel⟩, lw_g (List.mem_append_right _ (List.mem_of_getElem? (i := 214) (by decide +kernel))) rfl, lw_g (List.mem_append_right _ (List.mem_of_getElem? (i := 215) (by decide +kernel))) rfl, lw_g (List.mem_append_right _ (List.mem_of_getElem? (i := 5) (by decide +kernel))) rfl, lw_g (List.mem_append_right _ (List.mem_of_getElem? (i := 216) (by decide +kernel))) rfl⟩
theorem mX4_copy : yMv 4 yX4_copy cX4_copy 3 none 1 := ⟨_, rfl, by decide +kernel, ⟨by decide +kernel, by decide +kernel, by decide +kernel⟩, lw_g (List.mem_append_right _ (List.mem_of_getElem? (i := 218) (by decide +kernel))) rfl, lw_g (List.mem_append_right _ (List.mem_of_getElem? (i := 219) (by decide +kernel))) rfl, lw_g (List.mem_append_right _ (List.mem_of_getElem? (i := 2) (by decide +kernel))) rfl, lw_g (List.mem_append_right _ (List.mem_of_getElem? (i := 220) (by decide +kernel))) rfl⟩
theorem mX3_copy : yMv 3 yX3_copy cX3_copy 2 none 1 := ⟨_, rfl, by decide +kernel, ⟨by decide +kernel, by decide +kernel, by decide +kernel⟩, lw_g (List.mem_append_right _ (List.mem_of_getElem? (i := 225) (by decide +kernel))) rfl, lw_g (List.mem_append_right _ (List.mem_of_getElem? (i := 226) (by decide +kernel))) rfl, lw_g (List.mem_append_right _ (List.mem_of_getElem? (i := 3) (by decide +kernel))) rfl, lw_g (List.mem_append_right _ (List.mem_of_getElem? (i := 227) (by decide +kernel))) rfl⟩
theorem mX0_copy : yMv 0 yX0_copy cX0_copy 2 none 1 := ⟨_, rfl, by decide +kernel, ⟨by decide +kernel, by decide +kernel, by decide +kernel⟩, lw_g (List.mem_append_right _ (List.mem_of_getElem? (i := 229) (by decide +kernel))) rfl, lw_g (List.mem_append_right _ (List.mem_of_getElem? (i := 230) (by decide +kernel))) rfl, lw_g (List.mem_append_right _ (List.mem_of_getElem? (i := 4) (by decide +kernel))) rfl, lw_g (List.mem_append_right _ (List.mem_of_getElem? (i := 231) (by decide +kernel))) rfl⟩
theorem mX5_blend : yMv 5 yX5_blend cX5_blend 6 (some .int) 4 := ⟨_, rfl, by decide +kernel, ⟨by decide +kernel, by decide +kernel, by decide +kernel⟩, lw_g (List.mem_append_right _ (List.mem_of_getElem? (i := 233) (by decide +kernel))) rfl, lw_g (List.mem_append_right _ (List.mem_of_getElem? (i := 234) (by decide +kernel))) rfl, lw_g (List.mem_append_right _ (List.mem_of_getElem? (i := 1) (by decide +kernel))) rfl, lw_g (List.mem_append_right _ (List.mem_of_getElem? (i := 235) (by decide +kernel))) rfl⟩
theorem mX5_mixed : yMs yX5_mixed cX5_mixed 7 (some .int) 4 := ⟨⟨by decide +kernel, by decide +kernel, by decide +kernel⟩, lw_g (List.mem_append_right _ (List.mem_of_getElem? (i := 237) (by decide +kernel))) rfl, lw_g (List.mem_append_right _ (List.mem_of_getElem? (i := 1) (by decide +kernel))) rfl, lw_g (List.mem_append_right _ (List.mem_of_getElem? (i := 238) (by decide +kernel))) rfl⟩
theorem mX5_part : yMs yX5_part cX5_part 2 (some .int) 2 := ⟨⟨by decide +kernel, by decide +kernel, by decide +kernel⟩, lw_g (List.mem_append_right _ (List.mem_of_getElem? (i := 240) (by decide +kernel))) rfl, lw_g (List.mem_append_right _ (List.mem_of_getElem? (i := 1) (by decide +kernel))) rfl, lw_g (List.mem_append_right _ (List.mem_of_getElem? (i := 241) (by decide +kernel))) rfl⟩
theorem mX5_mixedPart : yMs yX5_mixedPart cX5_mixedPart 4 (some .int) 4 := ⟨⟨by decide +kernel, by decide +kernel, by decide +kernel⟩, lw_g (List.mem_append_right _ (List.mem_of_getElem? (i := 243) (by decide +kernel))) rfl, lw_g (List.mem_append_right _ (List.mem_of_getElem? (i := 1) (by decide +kernel))) rfl, lw_g (List.mem_append_right _ (List.mem_of_getElem? (i := 244) (by decide +kernel))) rfl⟩
theorem mX5_otherShades : yMv 5 yX5_otherShades cX5_otherShades 5 (some .int) 2 := ⟨_, rfl, by decide +kernel, ⟨by decide +kernel, by decide +kernel, by decide +kernel⟩, lw_g (List.mem_append_right _ (List.mem_of_getElem? (i := 247) (by decide +kernel))) rfl, lw_g (List.mem_append_left _ (List.mem_of_getElem? (i := 0) (by decide +kernel))) rfl, lw_g (List.mem_append_right _ (List.mem_of_getElem? (i := 1) (by decide +kernel))) rfl, lw_g (List.mem_append_right _ (List.mem_of_getElem? (i := 248) (by decide +kernel))) rfl⟩
theorem mX5_setShades : yMv 5 yX5_setShades cX5_setShades 4 none 2 := ⟨_, rfl, by decide +kernel, ⟨by decide +kernel, by decide +kernel, by decide +kernel⟩, lw_g (List.mem_append_right _ (List.mem_of_getElem? (i := 251) (by decide +kernel))) rfl, lw_g (List.mem_append_left _ (List.mem_of_getElem? (i := 1) (by decide +kernel))) rfl, lw_g (List.mem_append_right _ (List.mem_of_getElem? (i := 1) (by decide +kernel))) rfl, lw_g (List.mem_append_right _ (List.mem_of_getElem? (i := 252) (by decide +kernel))) rfl⟩
theorem mX5_freeze : yMv 5 yX5_freeze cX5_freeze 2 (some .int) 0 := ⟨_, rfl, by decide +kernel, ⟨by decide +kernel, by decide +kernel, by decide +kernel⟩, lw_g (List.mem_append_right _ (List.mem_of_getElem? (i := 254) (by decide +kernel))) rfl, lw_g (List.mem_append_right _ (List.mem_of_getElem? (i := 255) (by decide +kernel))) rfl, lw_g (List.mem_append_right _ (List.mem_of_getElem? (i := 1) (by decide +kernel))) rfl, lw_g (List.mem_append_right _ (List.mem_of_getElem? (i := 256) (by decide +kernel))) rfl⟩
theorem mX5_findShades : yMv 5 yX5_findShades cX5_findShades 2 none 0 := ⟨_, rfl, by decide +kernel, ⟨by decide +kernel, by decide +kernel, by decide +kernel⟩, lw_g (List.mem_append_right _ (List.mem_of_getElem? (i := 259) (by decide +kernel))) rfl, lw_g (List.mem_append_left _ (List.mem_of_getElem? (i := 2) (by decide +kernel))) rfl, lw_g (List.mem_append_right _ (List.mem_of_getElem? (i := 1) (by decide +kernel))) rfl, lw_g (List.mem_append_right _ (List.mem_of_getElem? (i := 260) (by decide +kernel))) rfl⟩
theorem mX4_shade : yMv 4 yX4_shade cX4_shade 6 (some .int) 2 := ⟨_, rfl, by decide +kernel, ⟨by decide +kernel, by decide +kernel, by decide +kernel⟩, lw_g (List.mem_append_right _ (List.mem_of_getElem? (i := 262) (by decide +kernel))) rfl, lw_g (List.mem_append_right _ (List.mem_of_getElem? (i := 263) (by decide +kernel))) rfl, lw_g (List.mem_append_right _ (List.mem_of_getElem? (i := 2) (by decide +kernel))) rfl, lw_g (List.mem_append_right _ (List.mem_of_getElem? (i := 264) (by decide +kernel))) rfl⟩
theorem mX4_rangeAt : yMv 4 yX4_rangeAt cX4_rangeAt 3 (some (.object "PaletteTurns$Range")) 1 := ⟨_, rfl, by decide +kernel, ⟨by decide +kernel, by decide +kernel, by decide +kernel⟩, lw_g (List.mem_append_right _ (List.mem_of_getElem? (i := 266) (by decide +kernel))) rfl, lw_g (List.mem_append_right _ (List.mem_of_getElem? (i := 267) (by decide +kernel))) rfl, lw_g (List.mem_append_right _ (List.mem_of_getElem? (i := 2) (by decide +kernel))) rfl, lw_g (List.mem_append_right _ (List.mem_of_getElem? (i := 268) (by decide +kernel))) rfl⟩
theorem mX3_holds : yMv 3 yX3_holds cX3_holds 2 (some .boolean) 1 := ⟨_, rfl, by decide +kernel, ⟨by decide +kernel, by decide +kernel, by decide +kernel⟩, lw_g (List.mem_append_right _ (List.mem_of_getElem? (i := 270) (by decide +kernel))) rfl, lw_g (List.mem_append_right _ (List.mem_of_getElem? (i := 271) (by decide +kernel))) rfl, lw_g (List.mem_append_right _ (List.mem_of_getElem? (i := 3) (by decide +kernel))) rfl, lw_g (List.mem_append_right _ (List.mem_of_getElem? (i := 272) (by decide +kernel))) rfl⟩
theorem mX3_source : yMv 3 yX3_source cX3_source 3 (some .int) 2 := ⟨_, rfl, by decide +kernel, ⟨by decide +kernel, by decide +kernel, by decide +kernel⟩, lw_g (List.mem_append_right _ (List.mem_of_getElem? (i := 274) (by decide +kernel))) rfl, lw_g (List.mem_append_right _ (List.mem_of_getElem? (i := 275) (by decide +kernel))) rfl, lw_g (List.mem_append_right _ (List.mem_of_getElem? (i := 3) (by decide +kernel))) rfl, lw_g (List.mem_append_right _ (List.mem_of_getElem? (i := 276) (by decide +kernel))) rfl⟩
theorem mX3_turn : yMv 3 yX3_turn cX3_turn 4 (some .int) 1 := ⟨_, rfl, by decide +kernel, ⟨by decide +kernel, by decide +kernel, by decide +kernel⟩, lw_g (List.mem_append_right _ (List.mem_of_getElem? (i := 278) (by decide +kernel))) rfl, lw_g (List.mem_append_right _ (List.mem_of_getElem? (i := 279) (by decide +kernel))) rfl, lw_g (List.mem_append_right _ (List.mem_of_getElem? (i := 3) (by decide +kernel))) rfl, lw_g (List.mem_append_right _ (List.mem_of_getElem? (i := 280) (by decide +kernel))) rfl⟩
theorem mX3_fullSteps : yMv 3 yX3_fullSteps cX3_fullSteps 2 (some .int) 0 := ⟨_, rfl, by decide +kernel, ⟨by decide +kernel, by decide +kernel, by decide +kernel⟩, lw_g (List.mem_append_right _ (List.mem_of_getElem? (i := 282) (by decide +kernel))) rfl, lw_g (List.mem_append_right _ (List.mem_of_getElem? (i := 283) (by decide +kernel))) rfl, lw_g (List.mem_append_right _ (List.mem_of_getElem? (i := 3) (by decide +kernel))) rfl, lw_g (List.mem_append_right _ (List.mem_of_getElem? (i := 284) (by decide +kernel))) rfl⟩
abbrev cJ9_floorMod : ByteArray := prog_9_method_50_code
def yJ9_floorMod : MethodName := ⟨"java/lang/Math", "floorMod", "(II)I"⟩
theorem mJ9_floorMod : yMs yJ9_floorMod cJ9_floorMod 3 (some .int) 2 := ⟨⟨by decide +kernel, by decide +kernel, by decide +kernel⟩, lw_g (List.mem_append_right _ (List.mem_of_getElem? (i := 286) (by decide +kernel))) rfl, lw_g (List.mem_append_right _ (List.mem_of_getElem? (i := 9) (by decide +kernel))) rfl, lw_g (List.mem_append_right _ (List.mem_of_getElem? (i := 287) (by decide +kernel))) rfl⟩
theorem mX3_places : yMv 3 yX3_places cX3_places 1 (some .int) 0 := ⟨_, rfl, by decide +kernel, ⟨by decide +kernel, by decide +kernel, by decide +kernel⟩, lw_g (List.mem_append_right _ (List.mem_of_getElem? (i := 289) (by decide +kernel))) rfl, lw_g (List.mem_append_right _ (List.mem_of_getElem? (i := 290) (by decide +kernel))) rfl, lw_g (List.mem_append_right _ (List.mem_of_getElem? (i := 3) (by decide +kernel))) rfl, lw_g (List.mem_append_right _ (List.mem_of_getElem? (i := 291) (by decide +kernel))) rfl⟩
theorem mX4_glowAt : yMv 4 yX4_glowAt cX4_glowAt 3 (some (.object "PaletteTurns$Glow")) 1 := ⟨_, rfl, by decide +kernel, ⟨by decide +kernel, by decide +kernel, by decide +kernel⟩, lw_g (List.mem_append_right _ (List.mem_of_getElem? (i := 293) (by decide +kernel))) rfl, lw_g (List.mem_append_right _ (List.mem_of_getElem? (i := 294) (by decide +kernel))) rfl, lw_g (List.mem_append_right _ (List.mem_of_getElem? (i := 2) (by decide +kernel))) rfl, lw_g (List.mem_append_right _ (List.mem_of_getElem? (i := 295) (by decide +kernel))) rfl⟩
theorem mX0_shade : yMv 0 yX0_shade cX0_shade 3 (some .int) 2 := ⟨_, rfl, by decide +kernel, ⟨by decide +kernel, by decide +kernel, by decide +kernel⟩, lw_g (List.mem_append_right _ (List.mem_of_getElem? (i := 297) (by decide +kernel))) rfl, lw_g (List.mem_append_right _ (List.mem_of_getElem? (i := 298) (by decide +kernel))) rfl, lw_g (List.mem_append_right _ (List.mem_of_getElem? (i := 4) (by decide +kernel))) rfl, lw_g (List.mem_append_right _ (List.mem_of_getElem? (i := 299) (by decide +kernel))) rfl⟩
theorem mX0_strength : yMv 0 yX0_strength cX0_strength 3 (some .int) 1 := ⟨_, rfl, by decide +kernel, ⟨by decide +kernel, by decide +kernel, by decide +kernel⟩, lw_g (List.mem_append_right _ (List.mem_of_getElem? (i := 301) (by decide +kernel))) rfl, lw_g (List.mem_append_right _ (List.mem_of_getElem? (i := 302) (by decide +kernel))) rfl, lw_g (List.mem_append_right _ (List.mem_of_getElem? (i := 4) (by decide +kernel))) rfl, lw_g (List.mem_append_right _ (List.mem_of_getElem? (i := 303) (by decide +kernel))) rfl⟩
theorem mX0_fullTicks : yMv 0 yX0_fullTicks cX0_fullTicks 1 (some .int) 0 := ⟨_, rfl, by decide +kernel, ⟨by decide +kernel, by decide +kernel, by decide +kernel⟩, lw_g (List.mem_append_right _ (List.mem_of_getElem? (i := 305) (by decide +kernel))) rfl, lw_g (List.mem_append_right _ (List.mem_of_getElem? (i := 306) (by decide +kernel))) rfl, lw_g (List.mem_append_right _ (List.mem_of_getElem? (i := 4) (by decide +kernel))) rfl, lw_g (List.mem_append_right _ (List.mem_of_getElem? (i := 307) (by decide +kernel))) rfl⟩
theorem mX4_beginAgain : yMv 4 yX4_beginAgain cX4_beginAgain 2 none 0 := ⟨_, rfl, by decide +kernel, ⟨by decide +kernel, by decide +kernel, by decide +kernel⟩, lw_g (List.mem_append_right _ (List.mem_of_getElem? (i := 310) (by decide +kernel))) rfl, lw_g (List.mem_append_right _ (List.mem_of_getElem? (i := 311) (by decide +kernel))) rfl, lw_g (List.mem_append_right _ (List.mem_of_getElem? (i := 2) (by decide +kernel))) rfl, lw_g (List.mem_append_right _ (List.mem_of_getElem? (i := 312) (by decide +kernel))) rfl⟩
theorem mX3_beginAgain : yMv 3 yX3_beginAgain cX3_beginAgain 1 none 0 := ⟨_, rfl, by decide +kernel, ⟨by decide +kernel, by decide +kernel, by decide +kernel⟩, lw_g (List.mem_append_right _ (List.mem_of_getElem? (i := 314) (by decide +kernel))) rfl, lw_g (List.mem_append_right _ (List.mem_of_getElem? (i := 315) (by decide +kernel))) rfl, lw_g (List.mem_append_right _ (List.mem_of_getElem? (i := 3) (by decide +kernel))) rfl, lw_g (List.mem_append_right _ (List.mem_of_getElem? (i := 316) (by decide +kernel))) rfl⟩
theorem mX5_addRange : yMv 5 yX5_addRange cX5_addRange 5 (some .int) 4 := ⟨_, rfl, by decide +kernel, ⟨by decide +kernel, by decide +kernel, by decide +kernel⟩, lw_g (List.mem_append_right _ (List.mem_of_getElem? (i := 318) (by decide +kernel))) rfl, lw_g (List.mem_append_right _ (List.mem_of_getElem? (i := 319) (by decide +kernel))) rfl, lw_g (List.mem_append_right _ (List.mem_of_getElem? (i := 1) (by decide +kernel))) rfl, lw_g (List.mem_append_right _ (List.mem_of_getElem? (i := 320) (by decide +kernel))) rfl⟩
theorem mX5_isLength : yMs yX5_isLength cX5_isLength 1 (some .boolean) 1 := ⟨⟨by decide +kernel, by decide +kernel, by decide +kernel⟩, lw_g (List.mem_append_right _ (List.mem_of_getElem? (i := 322) (by decide +kernel))) rfl, lw_g (List.mem_append_right _ (List.mem_of_getElem? (i := 1) (by decide +kernel))) rfl, lw_g (List.mem_append_right _ (List.mem_of_getElem? (i := 323) (by decide +kernel))) rfl⟩
theorem mX5_isWay : yMs yX5_isWay cX5_isWay 1 (some .boolean) 1 := ⟨⟨by decide +kernel, by decide +kernel, by decide +kernel⟩, lw_g (List.mem_append_right _ (List.mem_of_getElem? (i := 325) (by decide +kernel))) rfl, lw_g (List.mem_append_right _ (List.mem_of_getElem? (i := 1) (by decide +kernel))) rfl, lw_g (List.mem_append_right _ (List.mem_of_getElem? (i := 326) (by decide +kernel))) rfl⟩
theorem mX4_hasRangeBetween : yMv 4 yX4_hasRangeBetween cX4_hasRangeBetween 4 (some .boolean) 2 := ⟨_, rfl, by decide +kernel, ⟨by decide +kernel, by decide +kernel, by decide +kernel⟩, lw_g (List.mem_append_right _ (List.mem_of_getElem? (i := 328) (by decide +kernel))) rfl, lw_g (List.mem_append_right _ (List.mem_of_getElem? (i := 329) (by decide +kernel))) rfl, lw_g (List.mem_append_right _ (List.mem_of_getElem? (i := 2) (by decide +kernel))) rfl, lw_g (List.mem_append_right _ (List.mem_of_getElem? (i := 330) (by decide +kernel))) rfl⟩
theorem mX4_appendRange : yMv 4 yX4_appendRange cX4_appendRange 5 (some .int) 4 := ⟨_, rfl, by decide +kernel, ⟨by decide +kernel, by decide +kernel, by decide +kernel⟩, lw_g (List.mem_append_right _ (List.mem_of_getElem? (i := 332) (by decide +kernel))) rfl, lw_g (List.mem_append_right _ (List.mem_of_getElem? (i := 333) (by decide +kernel))) rfl, lw_g (List.mem_append_right _ (List.mem_of_getElem? (i := 2) (by decide +kernel))) rfl, lw_g (List.mem_append_right _ (List.mem_of_getElem? (i := 334) (by decide +kernel))) rfl⟩
theorem mX3_begin : yMv 3 yX3_begin cX3_begin 5 none 4 := ⟨_, rfl, by decide +kernel, ⟨by decide +kernel, by decide +kernel, by decide +kernel⟩, lw_g (List.mem_append_right _ (List.mem_of_getElem? (i := 336) (by decide +kernel))) rfl, lw_g (List.mem_append_right _ (List.mem_of_getElem? (i := 337) (by decide +kernel))) rfl, lw_g (List.mem_append_right _ (List.mem_of_getElem? (i := 3) (by decide +kernel))) rfl, lw_g (List.mem_append_right _ (List.mem_of_getElem? (i := 338) (by decide +kernel))) rfl⟩
theorem mX3_changeSpeed : yMv 3 yX3_changeSpeed cX3_changeSpeed 3 none 2 := ⟨_, rfl, by decide +kernel, ⟨by decide +kernel, by decide +kernel, by decide +kernel⟩, lw_g (List.mem_append_right _ (List.mem_of_getElem? (i := 340) (by decide +kernel))) rfl, lw_g (List.mem_append_right _ (List.mem_of_getElem? (i := 341) (by decide +kernel))) rfl, lw_g (List.mem_append_right _ (List.mem_of_getElem? (i := 3) (by decide +kernel))) rfl, lw_g (List.mem_append_right _ (List.mem_of_getElem? (i := 342) (by decide +kernel))) rfl⟩
theorem mX5_removeRange : yMv 5 yX5_removeRange cX5_removeRange 2 (some .int) 1 := ⟨_, rfl, by decide +kernel, ⟨by decide +kernel, by decide +kernel, by decide +kernel⟩, lw_g (List.mem_append_right _ (List.mem_of_getElem? (i := 345) (by decide +kernel))) rfl, lw_g (List.mem_append_right _ (List.mem_of_getElem? (i := 346) (by decide +kernel))) rfl, lw_g (List.mem_append_right _ (List.mem_of_getElem? (i := 1) (by decide +kernel))) rfl, lw_g (List.mem_append_right _ (List.mem_of_getElem? (i := 347) (by decide +kernel))) rfl⟩
theorem mX5_isRange : yMv 5 yX5_isRange cX5_isRange 2 (some .boolean) 1 := ⟨_, rfl, by decide +kernel, ⟨by decide +kernel, by decide +kernel, by decide +kernel⟩, lw_g (List.mem_append_right _ (List.mem_of_getElem? (i := 350) (by decide +kernel))) rfl, lw_g (List.mem_append_left _ (List.mem_of_getElem? (i := 3) (by decide +kernel))) rfl, lw_g (List.mem_append_right _ (List.mem_of_getElem? (i := 1) (by decide +kernel))) rfl, lw_g (List.mem_append_right _ (List.mem_of_getElem? (i := 351) (by decide +kernel))) rfl⟩
theorem mX4_dropRange : yMv 4 yX4_dropRange cX4_dropRange 4 none 1 := ⟨_, rfl, by decide +kernel, ⟨by decide +kernel, by decide +kernel, by decide +kernel⟩, lw_g (List.mem_append_right _ (List.mem_of_getElem? (i := 353) (by decide +kernel))) rfl, lw_g (List.mem_append_right _ (List.mem_of_getElem? (i := 354) (by decide +kernel))) rfl, lw_g (List.mem_append_right _ (List.mem_of_getElem? (i := 2) (by decide +kernel))) rfl, lw_g (List.mem_append_right _ (List.mem_of_getElem? (i := 355) (by decide +kernel))) rfl⟩
theorem mX5_setSpeed : yMv 5 yX5_setSpeed cX5_setSpeed 5 (some .int) 3 := ⟨_, rfl, by decide +kernel, ⟨by decide +kernel, by decide +kernel, by decide +kernel⟩, lw_g (List.mem_append_right _ (List.mem_of_getElem? (i := 357) (by decide +kernel))) rfl, lw_g (List.mem_append_right _ (List.mem_of_getElem? (i := 358) (by decide +kernel))) rfl, lw_g (List.mem_append_right _ (List.mem_of_getElem? (i := 1) (by decide +kernel))) rfl, lw_g (List.mem_append_right _ (List.mem_of_getElem? (i := 359) (by decide +kernel))) rfl⟩
theorem mX5_run : yMv 5 yX5_run cX5_run 3 (some .int) 2 := ⟨_, rfl, by decide +kernel, ⟨by decide +kernel, by decide +kernel, by decide +kernel⟩, lw_g (List.mem_append_right _ (List.mem_of_getElem? (i := 362) (by decide +kernel))) rfl, lw_g (List.mem_append_right _ (List.mem_of_getElem? (i := 363) (by decide +kernel))) rfl, lw_g (List.mem_append_right _ (List.mem_of_getElem? (i := 1) (by decide +kernel))) rfl, lw_g (List.mem_append_right _ (List.mem_of_getElem? (i := 364) (by decide +kernel))) rfl⟩
theorem mX4_runningRanges : yMv 4 yX4_runningRanges cX4_runningRanges 3 (some .int) 0 := ⟨_, rfl, by decide +kernel, ⟨by decide +kernel, by decide +kernel, by decide +kernel⟩, lw_g (List.mem_append_right _ (List.mem_of_getElem? (i := 366) (by decide +kernel))) rfl, lw_g (List.mem_append_right _ (List.mem_of_getElem? (i := 367) (by decide +kernel))) rfl, lw_g (List.mem_append_right _ (List.mem_of_getElem? (i := 2) (by decide +kernel))) rfl, lw_g (List.mem_append_right _ (List.mem_of_getElem? (i := 368) (by decide +kernel))) rfl⟩
theorem mX5_addGlow : yMv 5 yX5_addGlow cX5_addGlow 4 (some .int) 3 := ⟨_, rfl, by decide +kernel, ⟨by decide +kernel, by decide +kernel, by decide +kernel⟩, lw_g (List.mem_append_right _ (List.mem_of_getElem? (i := 370) (by decide +kernel))) rfl, lw_g (List.mem_append_right _ (List.mem_of_getElem? (i := 371) (by decide +kernel))) rfl, lw_g (List.mem_append_right _ (List.mem_of_getElem? (i := 1) (by decide +kernel))) rfl, lw_g (List.mem_append_right _ (List.mem_of_getElem? (i := 372) (by decide +kernel))) rfl⟩
theorem mX4_appendGlow : yMv 4 yX4_appendGlow cX4_appendGlow 4 (some .int) 3 := ⟨_, rfl, by decide +kernel, ⟨by decide +kernel, by decide +kernel, by decide +kernel⟩, lw_g (List.mem_append_right _ (List.mem_of_getElem? (i := 375) (by decide +kernel))) rfl, lw_g (List.mem_append_right _ (List.mem_of_getElem? (i := 376) (by decide +kernel))) rfl, lw_g (List.mem_append_right _ (List.mem_of_getElem? (i := 2) (by decide +kernel))) rfl, lw_g (List.mem_append_right _ (List.mem_of_getElem? (i := 377) (by decide +kernel))) rfl⟩
theorem mX0_begin : yMv 0 yX0_begin cX0_begin 4 none 3 := ⟨_, rfl, by decide +kernel, ⟨by decide +kernel, by decide +kernel, by decide +kernel⟩, lw_g (List.mem_append_right _ (List.mem_of_getElem? (i := 379) (by decide +kernel))) rfl, lw_g (List.mem_append_right _ (List.mem_of_getElem? (i := 380) (by decide +kernel))) rfl, lw_g (List.mem_append_right _ (List.mem_of_getElem? (i := 4) (by decide +kernel))) rfl, lw_g (List.mem_append_right _ (List.mem_of_getElem? (i := 381) (by decide +kernel))) rfl⟩
theorem mX5_removeGlow : yMv 5 yX5_removeGlow cX5_removeGlow 2 (some .int) 1 := ⟨_, rfl, by decide +kernel, ⟨by decide +kernel, by decide +kernel, by decide +kernel⟩, lw_g (List.mem_append_right _ (List.mem_of_getElem? (i := 383) (by decide +kernel))) rfl, lw_g (List.mem_append_right _ (List.mem_of_getElem? (i := 384) (by decide +kernel))) rfl, lw_g (List.mem_append_right _ (List.mem_of_getElem? (i := 1) (by decide +kernel))) rfl, lw_g (List.mem_append_right _ (List.mem_of_getElem? (i := 385) (by decide +kernel))) rfl⟩
theorem mX5_isGlow : yMv 5 yX5_isGlow cX5_isGlow 2 (some .boolean) 1 := ⟨_, rfl, by decide +kernel, ⟨by decide +kernel, by decide +kernel, by decide +kernel⟩, lw_g (List.mem_append_right _ (List.mem_of_getElem? (i := 388) (by decide +kernel))) rfl, lw_g (List.mem_append_left _ (List.mem_of_getElem? (i := 4) (by decide +kernel))) rfl, lw_g (List.mem_append_right _ (List.mem_of_getElem? (i := 1) (by decide +kernel))) rfl, lw_g (List.mem_append_right _ (List.mem_of_getElem? (i := 389) (by decide +kernel))) rfl⟩
theorem mX4_dropGlow : yMv 4 yX4_dropGlow cX4_dropGlow 4 none 1 := ⟨_, rfl, by decide +kernel, ⟨by decide +kernel, by decide +kernel, by decide +kernel⟩, lw_g (List.mem_append_right _ (List.mem_of_getElem? (i := 391) (by decide +kernel))) rfl, lw_g (List.mem_append_right _ (List.mem_of_getElem? (i := 392) (by decide +kernel))) rfl, lw_g (List.mem_append_right _ (List.mem_of_getElem? (i := 2) (by decide +kernel))) rfl, lw_g (List.mem_append_right _ (List.mem_of_getElem? (i := 393) (by decide +kernel))) rfl⟩
theorem mX5_pass : yMv 5 yX5_pass cX5_pass 2 (some .int) 1 := ⟨_, rfl, by decide +kernel, ⟨by decide +kernel, by decide +kernel, by decide +kernel⟩, lw_g (List.mem_append_right _ (List.mem_of_getElem? (i := 395) (by decide +kernel))) rfl, lw_g (List.mem_append_right _ (List.mem_of_getElem? (i := 396) (by decide +kernel))) rfl, lw_g (List.mem_append_right _ (List.mem_of_getElem? (i := 1) (by decide +kernel))) rfl, lw_g (List.mem_append_right _ (List.mem_of_getElem? (i := 397) (by decide +kernel))) rfl⟩
theorem mX4_advance : yMv 4 yX4_advance cX4_advance 4 (some .int) 1 := ⟨_, rfl, by decide +kernel, ⟨by decide +kernel, by decide +kernel, by decide +kernel⟩, lw_g (List.mem_append_right _ (List.mem_of_getElem? (i := 399) (by decide +kernel))) rfl, lw_g (List.mem_append_right _ (List.mem_of_getElem? (i := 400) (by decide +kernel))) rfl, lw_g (List.mem_append_right _ (List.mem_of_getElem? (i := 2) (by decide +kernel))) rfl, lw_g (List.mem_append_right _ (List.mem_of_getElem? (i := 401) (by decide +kernel))) rfl⟩
theorem mX3_advance : yMv 3 yX3_advance cX3_advance 3 (some .int) 1 := ⟨_, rfl, by decide +kernel, ⟨by decide +kernel, by decide +kernel, by decide +kernel⟩, lw_g (List.mem_append_right _ (List.mem_of_getElem? (i := 403) (by decide +kernel))) rfl, lw_g (List.mem_append_right _ (List.mem_of_getElem? (i := 404) (by decide +kernel))) rfl, lw_g (List.mem_append_right _ (List.mem_of_getElem? (i := 3) (by decide +kernel))) rfl, lw_g (List.mem_append_right _ (List.mem_of_getElem? (i := 405) (by decide +kernel))) rfl⟩
theorem mX0_advance : yMv 0 yX0_advance cX0_advance 2 none 1 := ⟨_, rfl, by decide +kernel, ⟨by decide +kernel, by decide +kernel, by decide +kernel⟩, lw_g (List.mem_append_right _ (List.mem_of_getElem? (i := 407) (by decide +kernel))) rfl, lw_g (List.mem_append_right _ (List.mem_of_getElem? (i := 408) (by decide +kernel))) rfl, lw_g (List.mem_append_right _ (List.mem_of_getElem? (i := 4) (by decide +kernel))) rfl, lw_g (List.mem_append_right _ (List.mem_of_getElem? (i := 409) (by decide +kernel))) rfl⟩
theorem mX5_perform : yMv 5 yX5_perform cX5_perform 2 (some .int) 0 := ⟨_, rfl, by decide +kernel, ⟨by decide +kernel, by decide +kernel, by decide +kernel⟩, lw_g (List.mem_append_right _ (List.mem_of_getElem? (i := 411) (by decide +kernel))) rfl, lw_g (List.mem_append_right _ (List.mem_of_getElem? (i := 412) (by decide +kernel))) rfl, lw_g (List.mem_append_right _ (List.mem_of_getElem? (i := 1) (by decide +kernel))) rfl, lw_g (List.mem_append_right _ (List.mem_of_getElem? (i := 413) (by decide +kernel))) rfl⟩
theorem mX2_fault : yMv 2 yX2_fault cX2_fault 6 (some .int) 0 := ⟨_, rfl, by decide +kernel, ⟨by decide +kernel, by decide +kernel, by decide +kernel⟩, lw_g (List.mem_append_right _ (List.mem_of_getElem? (i := 415) (by decide +kernel))) rfl, lw_g (List.mem_append_right _ (List.mem_of_getElem? (i := 416) (by decide +kernel))) rfl, lw_g (List.mem_append_right _ (List.mem_of_getElem? (i := 6) (by decide +kernel))) rfl, lw_g (List.mem_append_right _ (List.mem_of_getElem? (i := 417) (by decide +kernel))) rfl⟩
theorem mX2_signAt : yMv 2 yX2_signAt cX2_signAt 2 (some .char) 1 := ⟨_, rfl, by decide +kernel, ⟨by decide +kernel, by decide +kernel, by decide +kernel⟩, lw_g (List.mem_append_right _ (List.mem_of_getElem? (i := 419) (by decide +kernel))) rfl, lw_g (List.mem_append_right _ (List.mem_of_getElem? (i := 420) (by decide +kernel))) rfl, lw_g (List.mem_append_right _ (List.mem_of_getElem? (i := 6) (by decide +kernel))) rfl, lw_g (List.mem_append_right _ (List.mem_of_getElem? (i := 421) (by decide +kernel))) rfl⟩
theorem mX2_isBeginning : yMs yX2_isBeginning cX2_isBeginning 1 (some .boolean) 1 := ⟨⟨by decide +kernel, by decide +kernel, by decide +kernel⟩, lw_g (List.mem_append_right _ (List.mem_of_getElem? (i := 423) (by decide +kernel))) rfl, lw_g (List.mem_append_right _ (List.mem_of_getElem? (i := 6) (by decide +kernel))) rfl, lw_g (List.mem_append_right _ (List.mem_of_getElem? (i := 424) (by decide +kernel))) rfl⟩
theorem mX2_isForRange : yMs yX2_isForRange cX2_isForRange 1 (some .boolean) 1 := ⟨⟨by decide +kernel, by decide +kernel, by decide +kernel⟩, lw_g (List.mem_append_right _ (List.mem_of_getElem? (i := 426) (by decide +kernel))) rfl, lw_g (List.mem_append_right _ (List.mem_of_getElem? (i := 6) (by decide +kernel))) rfl, lw_g (List.mem_append_right _ (List.mem_of_getElem? (i := 427) (by decide +kernel))) rfl⟩
theorem mX2_isRepeat : yMs yX2_isRepeat cX2_isRepeat 1 (some .boolean) 1 := ⟨⟨by decide +kernel, by decide +kernel, by decide +kernel⟩, lw_g (List.mem_append_right _ (List.mem_of_getElem? (i := 429) (by decide +kernel))) rfl, lw_g (List.mem_append_right _ (List.mem_of_getElem? (i := 6) (by decide +kernel))) rfl, lw_g (List.mem_append_right _ (List.mem_of_getElem? (i := 430) (by decide +kernel))) rfl⟩
theorem mX2_isDigit : yMs yX2_isDigit cX2_isDigit 3 (some .boolean) 3 := ⟨⟨by decide +kernel, by decide +kernel, by decide +kernel⟩, lw_g (List.mem_append_right _ (List.mem_of_getElem? (i := 432) (by decide +kernel))) rfl, lw_g (List.mem_append_right _ (List.mem_of_getElem? (i := 6) (by decide +kernel))) rfl, lw_g (List.mem_append_right _ (List.mem_of_getElem? (i := 433) (by decide +kernel))) rfl⟩
theorem mX2_isAllowedBehind : yMs yX2_isAllowedBehind cX2_isAllowedBehind 2 (some .boolean) 2 := ⟨⟨by decide +kernel, by decide +kernel, by decide +kernel⟩, lw_g (List.mem_append_right _ (List.mem_of_getElem? (i := 435) (by decide +kernel))) rfl, lw_g (List.mem_append_right _ (List.mem_of_getElem? (i := 6) (by decide +kernel))) rfl, lw_g (List.mem_append_right _ (List.mem_of_getElem? (i := 436) (by decide +kernel))) rfl⟩
theorem mX2_behind : yMv 2 yX2_behind cX2_behind 3 (some .int) 1 := ⟨_, rfl, by decide +kernel, ⟨by decide +kernel, by decide +kernel, by decide +kernel⟩, lw_g (List.mem_append_right _ (List.mem_of_getElem? (i := 438) (by decide +kernel))) rfl, lw_g (List.mem_append_right _ (List.mem_of_getElem? (i := 439) (by decide +kernel))) rfl, lw_g (List.mem_append_right _ (List.mem_of_getElem? (i := 6) (by decide +kernel))) rfl, lw_g (List.mem_append_right _ (List.mem_of_getElem? (i := 440) (by decide +kernel))) rfl⟩
theorem mX2_highestRange : yMv 2 yX2_highestRange cX2_highestRange 3 (some .int) 0 := ⟨_, rfl, by decide +kernel, ⟨by decide +kernel, by decide +kernel, by decide +kernel⟩, lw_g (List.mem_append_right _ (List.mem_of_getElem? (i := 442) (by decide +kernel))) rfl, lw_g (List.mem_append_right _ (List.mem_of_getElem? (i := 443) (by decide +kernel))) rfl, lw_g (List.mem_append_right _ (List.mem_of_getElem? (i := 6) (by decide +kernel))) rfl, lw_g (List.mem_append_right _ (List.mem_of_getElem? (i := 444) (by decide +kernel))) rfl⟩
theorem mX2_digitAt : yMv 2 yX2_digitAt cX2_digitAt 2 (some .int) 1 := ⟨_, rfl, by decide +kernel, ⟨by decide +kernel, by decide +kernel, by decide +kernel⟩, lw_g (List.mem_append_right _ (List.mem_of_getElem? (i := 446) (by decide +kernel))) rfl, lw_g (List.mem_append_right _ (List.mem_of_getElem? (i := 447) (by decide +kernel))) rfl, lw_g (List.mem_append_right _ (List.mem_of_getElem? (i := 6) (by decide +kernel))) rfl, lw_g (List.mem_append_right _ (List.mem_of_getElem? (i := 448) (by decide +kernel))) rfl⟩
theorem mX2_count : yMv 2 yX2_count cX2_count 6 none 0 := ⟨_, rfl, by decide +kernel, ⟨by decide +kernel, by decide +kernel, by decide +kernel⟩, lw_g (List.mem_append_right _ (List.mem_of_getElem? (i := 453) (by decide +kernel))) rfl, lw_g (List.mem_append_right _ (List.mem_of_getElem? (i := 454) (by decide +kernel))) rfl, lw_g (List.mem_append_right _ (List.mem_of_getElem? (i := 6) (by decide +kernel))) rfl, lw_g (List.mem_append_right _ (List.mem_of_getElem? (i := 455) (by decide +kernel))) rfl⟩
theorem mX2_numberAt : yMv 2 yX2_numberAt cX2_numberAt 3 (some .int) 1 := ⟨_, rfl, by decide +kernel, ⟨by decide +kernel, by decide +kernel, by decide +kernel⟩, lw_g (List.mem_append_right _ (List.mem_of_getElem? (i := 460) (by decide +kernel))) rfl, lw_g (List.mem_append_right _ (List.mem_of_getElem? (i := 461) (by decide +kernel))) rfl, lw_g (List.mem_append_right _ (List.mem_of_getElem? (i := 6) (by decide +kernel))) rfl, lw_g (List.mem_append_right _ (List.mem_of_getElem? (i := 462) (by decide +kernel))) rfl⟩
theorem mX2_carryOut : yMv 2 yX2_carryOut cX2_carryOut 7 none 1 := ⟨_, rfl, by decide +kernel, ⟨by decide +kernel, by decide +kernel, by decide +kernel⟩, lw_g (List.mem_append_right _ (List.mem_of_getElem? (i := 464) (by decide +kernel))) rfl, lw_g (List.mem_append_right _ (List.mem_of_getElem? (i := 465) (by decide +kernel))) rfl, lw_g (List.mem_append_right _ (List.mem_of_getElem? (i := 6) (by decide +kernel))) rfl, lw_g (List.mem_append_right _ (List.mem_of_getElem? (i := 466) (by decide +kernel))) rfl⟩
theorem mX2_carryOutItem : yMv 2 yX2_carryOutItem cX2_carryOutItem 3 none 2 := ⟨_, rfl, by decide +kernel, ⟨by decide +kernel, by decide +kernel, by decide +kernel⟩, lw_g (List.mem_append_right _ (List.mem_of_getElem? (i := 469) (by decide +kernel))) rfl, lw_g (List.mem_append_right _ (List.mem_of_getElem? (i := 470) (by decide +kernel))) rfl, lw_g (List.mem_append_right _ (List.mem_of_getElem? (i := 6) (by decide +kernel))) rfl, lw_g (List.mem_append_right _ (List.mem_of_getElem? (i := 471) (by decide +kernel))) rfl⟩
theorem mX4_runOrPause : yMv 4 yX4_runOrPause cX4_runOrPause 2 none 1 := ⟨_, rfl, by decide +kernel, ⟨by decide +kernel, by decide +kernel, by decide +kernel⟩, lw_g (List.mem_append_right _ (List.mem_of_getElem? (i := 474) (by decide +kernel))) rfl, lw_g (List.mem_append_right _ (List.mem_of_getElem? (i := 475) (by decide +kernel))) rfl, lw_g (List.mem_append_right _ (List.mem_of_getElem? (i := 2) (by decide +kernel))) rfl, lw_g (List.mem_append_right _ (List.mem_of_getElem? (i := 476) (by decide +kernel))) rfl⟩
theorem mX4_stepAtOnce : yMv 4 yX4_stepAtOnce cX4_stepAtOnce 2 none 1 := ⟨_, rfl, by decide +kernel, ⟨by decide +kernel, by decide +kernel, by decide +kernel⟩, lw_g (List.mem_append_right _ (List.mem_of_getElem? (i := 478) (by decide +kernel))) rfl, lw_g (List.mem_append_right _ (List.mem_of_getElem? (i := 479) (by decide +kernel))) rfl, lw_g (List.mem_append_right _ (List.mem_of_getElem? (i := 2) (by decide +kernel))) rfl, lw_g (List.mem_append_right _ (List.mem_of_getElem? (i := 480) (by decide +kernel))) rfl⟩
theorem mX5_type : yMv 5 yX5_type cX5_type 2 (some .int) 1 := ⟨_, rfl, by decide +kernel, ⟨by decide +kernel, by decide +kernel, by decide +kernel⟩, lw_g (List.mem_append_right _ (List.mem_of_getElem? (i := 482) (by decide +kernel))) rfl, lw_g (List.mem_append_right _ (List.mem_of_getElem? (i := 483) (by decide +kernel))) rfl, lw_g (List.mem_append_right _ (List.mem_of_getElem? (i := 1) (by decide +kernel))) rfl, lw_g (List.mem_append_right _ (List.mem_of_getElem? (i := 484) (by decide +kernel))) rfl⟩
theorem mX2_append : yMv 2 yX2_append cX2_append 2 none 1 := ⟨_, rfl, by decide +kernel, ⟨by decide +kernel, by decide +kernel, by decide +kernel⟩, lw_g (List.mem_append_right _ (List.mem_of_getElem? (i := 486) (by decide +kernel))) rfl, lw_g (List.mem_append_right _ (List.mem_of_getElem? (i := 487) (by decide +kernel))) rfl, lw_g (List.mem_append_right _ (List.mem_of_getElem? (i := 6) (by decide +kernel))) rfl, lw_g (List.mem_append_right _ (List.mem_of_getElem? (i := 488) (by decide +kernel))) rfl⟩
theorem mX5_clearText : yMv 5 yX5_clearText cX5_clearText 2 (some .int) 0 := ⟨_, rfl, by decide +kernel, ⟨by decide +kernel, by decide +kernel, by decide +kernel⟩, lw_g (List.mem_append_right _ (List.mem_of_getElem? (i := 490) (by decide +kernel))) rfl, lw_g (List.mem_append_right _ (List.mem_of_getElem? (i := 491) (by decide +kernel))) rfl, lw_g (List.mem_append_right _ (List.mem_of_getElem? (i := 1) (by decide +kernel))) rfl, lw_g (List.mem_append_right _ (List.mem_of_getElem? (i := 492) (by decide +kernel))) rfl⟩
theorem mX5_paint : yMv 5 yX5_paint cX5_paint 6 (some .int) 3 := ⟨_, rfl, by decide +kernel, ⟨by decide +kernel, by decide +kernel, by decide +kernel⟩, lw_g (List.mem_append_right _ (List.mem_of_getElem? (i := 494) (by decide +kernel))) rfl, lw_g (List.mem_append_right _ (List.mem_of_getElem? (i := 495) (by decide +kernel))) rfl, lw_g (List.mem_append_right _ (List.mem_of_getElem? (i := 1) (by decide +kernel))) rfl, lw_g (List.mem_append_right _ (List.mem_of_getElem? (i := 496) (by decide +kernel))) rfl⟩
theorem mX5_isPixel : yMs yX5_isPixel cX5_isPixel 2 (some .boolean) 2 := ⟨⟨by decide +kernel, by decide +kernel, by decide +kernel⟩, lw_g (List.mem_append_right _ (List.mem_of_getElem? (i := 498) (by decide +kernel))) rfl, lw_g (List.mem_append_right _ (List.mem_of_getElem? (i := 1) (by decide +kernel))) rfl, lw_g (List.mem_append_right _ (List.mem_of_getElem? (i := 499) (by decide +kernel))) rfl⟩
theorem mX5_fill : yMv 5 yX5_fill cX5_fill 5 (some .int) 3 := ⟨_, rfl, by decide +kernel, ⟨by decide +kernel, by decide +kernel, by decide +kernel⟩, lw_g (List.mem_append_right _ (List.mem_of_getElem? (i := 501) (by decide +kernel))) rfl, lw_g (List.mem_append_right _ (List.mem_of_getElem? (i := 502) (by decide +kernel))) rfl, lw_g (List.mem_append_right _ (List.mem_of_getElem? (i := 1) (by decide +kernel))) rfl, lw_g (List.mem_append_right _ (List.mem_of_getElem? (i := 503) (by decide +kernel))) rfl⟩
theorem mX5_flood : yMv 5 yX5_flood cX5_flood 8 (some .int) 2 := ⟨_, rfl, by decide +kernel, ⟨by decide +kernel, by decide +kernel, by decide +kernel⟩, lw_g (List.mem_append_right _ (List.mem_of_getElem? (i := 506) (by decide +kernel))) rfl, lw_g (List.mem_append_left _ (List.mem_of_getElem? (i := 5) (by decide +kernel))) rfl, lw_g (List.mem_append_right _ (List.mem_of_getElem? (i := 1) (by decide +kernel))) rfl, lw_g (List.mem_append_right _ (List.mem_of_getElem? (i := 507) (by decide +kernel))) rfl⟩
theorem mX5_enter : yMv 5 yX5_enter cX5_enter 5 (some .int) 4 := ⟨_, rfl, by decide +kernel, ⟨by decide +kernel, by decide +kernel, by decide +kernel⟩, lw_g (List.mem_append_right _ (List.mem_of_getElem? (i := 510) (by decide +kernel))) rfl, lw_g (List.mem_append_left _ (List.mem_of_getElem? (i := 6) (by decide +kernel))) rfl, lw_g (List.mem_append_right _ (List.mem_of_getElem? (i := 1) (by decide +kernel))) rfl, lw_g (List.mem_append_right _ (List.mem_of_getElem? (i := 511) (by decide +kernel))) rfl⟩
theorem mX5_undo : yMv 5 yX5_undo cX5_undo 1 (some .int) 0 := ⟨_, rfl, by decide +kernel, ⟨by decide +kernel, by decide +kernel, by decide +kernel⟩, lw_g (List.mem_append_right _ (List.mem_of_getElem? (i := 513) (by decide +kernel))) rfl, lw_g (List.mem_append_right _ (List.mem_of_getElem? (i := 514) (by decide +kernel))) rfl, lw_g (List.mem_append_right _ (List.mem_of_getElem? (i := 1) (by decide +kernel))) rfl, lw_g (List.mem_append_right _ (List.mem_of_getElem? (i := 515) (by decide +kernel))) rfl⟩
theorem mX1_takeBack : yMv 1 yX1_takeBack cX1_takeBack 2 none 1 := ⟨_, rfl, by decide +kernel, ⟨by decide +kernel, by decide +kernel, by decide +kernel⟩, lw_g (List.mem_append_right _ (List.mem_of_getElem? (i := 517) (by decide +kernel))) rfl, lw_g (List.mem_append_right _ (List.mem_of_getElem? (i := 518) (by decide +kernel))) rfl, lw_g (List.mem_append_right _ (List.mem_of_getElem? (i := 5) (by decide +kernel))) rfl, lw_g (List.mem_append_right _ (List.mem_of_getElem? (i := 519) (by decide +kernel))) rfl⟩
theorem mX5_keep : yMv 5 yX5_keep cX5_keep 1 (some .int) 0 := ⟨_, rfl, by decide +kernel, ⟨by decide +kernel, by decide +kernel, by decide +kernel⟩, lw_g (List.mem_append_right _ (List.mem_of_getElem? (i := 521) (by decide +kernel))) rfl, lw_g (List.mem_append_right _ (List.mem_of_getElem? (i := 522) (by decide +kernel))) rfl, lw_g (List.mem_append_right _ (List.mem_of_getElem? (i := 1) (by decide +kernel))) rfl, lw_g (List.mem_append_right _ (List.mem_of_getElem? (i := 523) (by decide +kernel))) rfl⟩
theorem mX5_restore : yMv 5 yX5_restore cX5_restore 1 (some .int) 0 := ⟨_, rfl, by decide +kernel, ⟨by decide +kernel, by decide +kernel, by decide +kernel⟩, lw_g (List.mem_append_right _ (List.mem_of_getElem? (i := 526) (by decide +kernel))) rfl, lw_g (List.mem_append_right _ (List.mem_of_getElem? (i := 527) (by decide +kernel))) rfl, lw_g (List.mem_append_right _ (List.mem_of_getElem? (i := 1) (by decide +kernel))) rfl, lw_g (List.mem_append_right _ (List.mem_of_getElem? (i := 528) (by decide +kernel))) rfl⟩
theorem mX5_colour : yMv 5 yX5_colour cX5_colour 2 (some .int) 1 := ⟨_, rfl, by decide +kernel, ⟨by decide +kernel, by decide +kernel, by decide +kernel⟩, lw_g (List.mem_append_right _ (List.mem_of_getElem? (i := 530) (by decide +kernel))) rfl, lw_g (List.mem_append_right _ (List.mem_of_getElem? (i := 531) (by decide +kernel))) rfl, lw_g (List.mem_append_right _ (List.mem_of_getElem? (i := 1) (by decide +kernel))) rfl, lw_g (List.mem_append_right _ (List.mem_of_getElem? (i := 532) (by decide +kernel))) rfl⟩
theorem mX5_shown : yMv 5 yX5_shown cX5_shown 2 (some .int) 1 := ⟨_, rfl, by decide +kernel, ⟨by decide +kernel, by decide +kernel, by decide +kernel⟩, lw_g (List.mem_append_right _ (List.mem_of_getElem? (i := 534) (by decide +kernel))) rfl, lw_g (List.mem_append_right _ (List.mem_of_getElem? (i := 535) (by decide +kernel))) rfl, lw_g (List.mem_append_right _ (List.mem_of_getElem? (i := 1) (by decide +kernel))) rfl, lw_g (List.mem_append_right _ (List.mem_of_getElem? (i := 536) (by decide +kernel))) rfl⟩
theorem mX5_range : yMv 5 yX5_range cX5_range 4 (some .int) 2 := ⟨_, rfl, by decide +kernel, ⟨by decide +kernel, by decide +kernel, by decide +kernel⟩, lw_g (List.mem_append_right _ (List.mem_of_getElem? (i := 538) (by decide +kernel))) rfl, lw_g (List.mem_append_right _ (List.mem_of_getElem? (i := 539) (by decide +kernel))) rfl, lw_g (List.mem_append_right _ (List.mem_of_getElem? (i := 1) (by decide +kernel))) rfl, lw_g (List.mem_append_right _ (List.mem_of_getElem? (i := 540) (by decide +kernel))) rfl⟩
theorem mX5_glow : yMv 5 yX5_glow cX5_glow 4 (some .int) 2 := ⟨_, rfl, by decide +kernel, ⟨by decide +kernel, by decide +kernel, by decide +kernel⟩, lw_g (List.mem_append_right _ (List.mem_of_getElem? (i := 543) (by decide +kernel))) rfl, lw_g (List.mem_append_right _ (List.mem_of_getElem? (i := 544) (by decide +kernel))) rfl, lw_g (List.mem_append_right _ (List.mem_of_getElem? (i := 1) (by decide +kernel))) rfl, lw_g (List.mem_append_right _ (List.mem_of_getElem? (i := 545) (by decide +kernel))) rfl⟩
theorem mX5_pixel : yMv 5 yX5_pixel cX5_pixel 5 (some .int) 3 := ⟨_, rfl, by decide +kernel, ⟨by decide +kernel, by decide +kernel, by decide +kernel⟩, lw_g (List.mem_append_right _ (List.mem_of_getElem? (i := 548) (by decide +kernel))) rfl, lw_g (List.mem_append_right _ (List.mem_of_getElem? (i := 549) (by decide +kernel))) rfl, lw_g (List.mem_append_right _ (List.mem_of_getElem? (i := 1) (by decide +kernel))) rfl, lw_g (List.mem_append_right _ (List.mem_of_getElem? (i := 550) (by decide +kernel))) rfl⟩
theorem mX5_total : yMv 5 yX5_total cX5_total 2 (some .int) 1 := ⟨_, rfl, by decide +kernel, ⟨by decide +kernel, by decide +kernel, by decide +kernel⟩, lw_g (List.mem_append_right _ (List.mem_of_getElem? (i := 552) (by decide +kernel))) rfl, lw_g (List.mem_append_right _ (List.mem_of_getElem? (i := 553) (by decide +kernel))) rfl, lw_g (List.mem_append_right _ (List.mem_of_getElem? (i := 1) (by decide +kernel))) rfl, lw_g (List.mem_append_right _ (List.mem_of_getElem? (i := 554) (by decide +kernel))) rfl⟩
theorem mX4_placesInRanges : yMv 4 yX4_placesInRanges cX4_placesInRanges 3 (some .int) 0 := ⟨_, rfl, by decide +kernel, ⟨by decide +kernel, by decide +kernel, by decide +kernel⟩, lw_g (List.mem_append_right _ (List.mem_of_getElem? (i := 556) (by decide +kernel))) rfl, lw_g (List.mem_append_right _ (List.mem_of_getElem? (i := 557) (by decide +kernel))) rfl, lw_g (List.mem_append_right _ (List.mem_of_getElem? (i := 2) (by decide +kernel))) rfl, lw_g (List.mem_append_right _ (List.mem_of_getElem? (i := 558) (by decide +kernel))) rfl⟩
theorem mX5_differentColours : yMv 5 yX5_differentColours cX5_differentColours 3 (some .int) 0 := ⟨_, rfl, by decide +kernel, ⟨by decide +kernel, by decide +kernel, by decide +kernel⟩, lw_g (List.mem_append_right _ (List.mem_of_getElem? (i := 562) (by decide +kernel))) rfl, lw_g (List.mem_append_left _ (List.mem_of_getElem? (i := 7) (by decide +kernel))) rfl, lw_g (List.mem_append_right _ (List.mem_of_getElem? (i := 1) (by decide +kernel))) rfl, lw_g (List.mem_append_right _ (List.mem_of_getElem? (i := 563) (by decide +kernel))) rfl⟩
theorem mX5_markPlacesOfPicture : yMv 5 yX5_markPlacesOfPicture cX5_markPlacesOfPicture 2 none 0 := ⟨_, rfl, by decide +kernel, ⟨by decide +kernel, by decide +kernel, by decide +kernel⟩, lw_g (List.mem_append_right _ (List.mem_of_getElem? (i := 566) (by decide +kernel))) rfl, lw_g (List.mem_append_left _ (List.mem_of_getElem? (i := 8) (by decide +kernel))) rfl, lw_g (List.mem_append_right _ (List.mem_of_getElem? (i := 1) (by decide +kernel))) rfl, lw_g (List.mem_append_right _ (List.mem_of_getElem? (i := 567) (by decide +kernel))) rfl⟩
theorem mX5_isMarkedBefore : yMv 5 yX5_isMarkedBefore cX5_isMarkedBefore 3 (some .boolean) 1 := ⟨_, rfl, by decide +kernel, ⟨by decide +kernel, by decide +kernel, by decide +kernel⟩, lw_g (List.mem_append_right _ (List.mem_of_getElem? (i := 570) (by decide +kernel))) rfl, lw_g (List.mem_append_left _ (List.mem_of_getElem? (i := 9) (by decide +kernel))) rfl, lw_g (List.mem_append_right _ (List.mem_of_getElem? (i := 1) (by decide +kernel))) rfl, lw_g (List.mem_append_right _ (List.mem_of_getElem? (i := 571) (by decide +kernel))) rfl⟩
theorem mX5_movingPixels : yMv 5 yX5_movingPixels cX5_movingPixels 2 (some .int) 0 := ⟨_, rfl, by decide +kernel, ⟨by decide +kernel, by decide +kernel, by decide +kernel⟩, lw_g (List.mem_append_right _ (List.mem_of_getElem? (i := 574) (by decide +kernel))) rfl, lw_g (List.mem_append_left _ (List.mem_of_getElem? (i := 10) (by decide +kernel))) rfl, lw_g (List.mem_append_right _ (List.mem_of_getElem? (i := 1) (by decide +kernel))) rfl, lw_g (List.mem_append_right _ (List.mem_of_getElem? (i := 575) (by decide +kernel))) rfl⟩
theorem mX4_moves : yMv 4 yX4_moves cX4_moves 3 (some .boolean) 1 := ⟨_, rfl, by decide +kernel, ⟨by decide +kernel, by decide +kernel, by decide +kernel⟩, lw_g (List.mem_append_right _ (List.mem_of_getElem? (i := 577) (by decide +kernel))) rfl, lw_g (List.mem_append_right _ (List.mem_of_getElem? (i := 578) (by decide +kernel))) rfl, lw_g (List.mem_append_right _ (List.mem_of_getElem? (i := 2) (by decide +kernel))) rfl, lw_g (List.mem_append_right _ (List.mem_of_getElem? (i := 579) (by decide +kernel))) rfl⟩
theorem mX5_markedPixels : yMv 5 yX5_markedPixels cX5_markedPixels 3 (some .int) 0 := ⟨_, rfl, by decide +kernel, ⟨by decide +kernel, by decide +kernel, by decide +kernel⟩, lw_g (List.mem_append_right _ (List.mem_of_getElem? (i := 582) (by decide +kernel))) rfl, lw_g (List.mem_append_left _ (List.mem_of_getElem? (i := 11) (by decide +kernel))) rfl, lw_g (List.mem_append_right _ (List.mem_of_getElem? (i := 1) (by decide +kernel))) rfl, lw_g (List.mem_append_right _ (List.mem_of_getElem? (i := 583) (by decide +kernel))) rfl⟩
theorem mX5_shownIn : yMv 5 yX5_shownIn cX5_shownIn 3 (some .int) 2 := ⟨_, rfl, by decide +kernel, ⟨by decide +kernel, by decide +kernel, by decide +kernel⟩, lw_g (List.mem_append_right _ (List.mem_of_getElem? (i := 585) (by decide +kernel))) rfl, lw_g (List.mem_append_right _ (List.mem_of_getElem? (i := 586) (by decide +kernel))) rfl, lw_g (List.mem_append_right _ (List.mem_of_getElem? (i := 1) (by decide +kernel))) rfl, lw_g (List.mem_append_right _ (List.mem_of_getElem? (i := 587) (by decide +kernel))) rfl⟩
theorem mX5_isLater : yMs yX5_isLater cX5_isLater 1 (some .boolean) 1 := ⟨⟨by decide +kernel, by decide +kernel, by decide +kernel⟩, lw_g (List.mem_append_right _ (List.mem_of_getElem? (i := 589) (by decide +kernel))) rfl, lw_g (List.mem_append_right _ (List.mem_of_getElem? (i := 1) (by decide +kernel))) rfl, lw_g (List.mem_append_right _ (List.mem_of_getElem? (i := 590) (by decide +kernel))) rfl⟩
theorem mX5_fullTurn : yMv 5 yX5_fullTurn cX5_fullTurn 4 (some .long) 0 := ⟨_, rfl, by decide +kernel, ⟨by decide +kernel, by decide +kernel, by decide +kernel⟩, lw_g (List.mem_append_right _ (List.mem_of_getElem? (i := 592) (by decide +kernel))) rfl, lw_g (List.mem_append_right _ (List.mem_of_getElem? (i := 593) (by decide +kernel))) rfl, lw_g (List.mem_append_right _ (List.mem_of_getElem? (i := 1) (by decide +kernel))) rfl, lw_g (List.mem_append_right _ (List.mem_of_getElem? (i := 594) (by decide +kernel))) rfl⟩
theorem mX3_fullTicks : yMv 3 yX3_fullTicks cX3_fullTicks 1 (some .int) 0 := ⟨_, rfl, by decide +kernel, ⟨by decide +kernel, by decide +kernel, by decide +kernel⟩, lw_g (List.mem_append_right _ (List.mem_of_getElem? (i := 596) (by decide +kernel))) rfl, lw_g (List.mem_append_right _ (List.mem_of_getElem? (i := 597) (by decide +kernel))) rfl, lw_g (List.mem_append_right _ (List.mem_of_getElem? (i := 3) (by decide +kernel))) rfl, lw_g (List.mem_append_right _ (List.mem_of_getElem? (i := 598) (by decide +kernel))) rfl⟩
theorem mX5_commonMultiple : yMs yX5_commonMultiple cX5_commonMultiple 6 (some .long) 2 := ⟨⟨by decide +kernel, by decide +kernel, by decide +kernel⟩, lw_g (List.mem_append_right _ (List.mem_of_getElem? (i := 600) (by decide +kernel))) rfl, lw_g (List.mem_append_right _ (List.mem_of_getElem? (i := 1) (by decide +kernel))) rfl, lw_g (List.mem_append_right _ (List.mem_of_getElem? (i := 601) (by decide +kernel))) rfl⟩
theorem mX5_commonDivisor : yMs yX5_commonDivisor cX5_commonDivisor 11 (some .long) 2 := ⟨⟨by decide +kernel, by decide +kernel, by decide +kernel⟩, lw_g (List.mem_append_right _ (List.mem_of_getElem? (i := 603) (by decide +kernel))) rfl, lw_g (List.mem_append_right _ (List.mem_of_getElem? (i := 1) (by decide +kernel))) rfl, lw_g (List.mem_append_right _ (List.mem_of_getElem? (i := 604) (by decide +kernel))) rfl⟩
theorem mX5_nearest : yMv 5 yX5_nearest cX5_nearest 4 (some .int) 1 := ⟨_, rfl, by decide +kernel, ⟨by decide +kernel, by decide +kernel, by decide +kernel⟩, lw_g (List.mem_append_right _ (List.mem_of_getElem? (i := 607) (by decide +kernel))) rfl, lw_g (List.mem_append_right _ (List.mem_of_getElem? (i := 608) (by decide +kernel))) rfl, lw_g (List.mem_append_right _ (List.mem_of_getElem? (i := 1) (by decide +kernel))) rfl, lw_g (List.mem_append_right _ (List.mem_of_getElem? (i := 609) (by decide +kernel))) rfl⟩
theorem mX5_distance : yMs yX5_distance cX5_distance 5 (some .int) 2 := ⟨⟨by decide +kernel, by decide +kernel, by decide +kernel⟩, lw_g (List.mem_append_right _ (List.mem_of_getElem? (i := 611) (by decide +kernel))) rfl, lw_g (List.mem_append_right _ (List.mem_of_getElem? (i := 1) (by decide +kernel))) rfl, lw_g (List.mem_append_right _ (List.mem_of_getElem? (i := 612) (by decide +kernel))) rfl⟩
theorem mX5_changes : yMv 5 yX5_changes cX5_changes 3 (some .int) 1 := ⟨_, rfl, by decide +kernel, ⟨by decide +kernel, by decide +kernel, by decide +kernel⟩, lw_g (List.mem_append_right _ (List.mem_of_getElem? (i := 614) (by decide +kernel))) rfl, lw_g (List.mem_append_right _ (List.mem_of_getElem? (i := 615) (by decide +kernel))) rfl, lw_g (List.mem_append_right _ (List.mem_of_getElem? (i := 1) (by decide +kernel))) rfl, lw_g (List.mem_append_right _ (List.mem_of_getElem? (i := 616) (by decide +kernel))) rfl⟩
theorem mX5_pictureBack : yMv 5 yX5_pictureBack cX5_pictureBack 2 (some .int) 0 := ⟨_, rfl, by decide +kernel, ⟨by decide +kernel, by decide +kernel, by decide +kernel⟩, lw_g (List.mem_append_right _ (List.mem_of_getElem? (i := 618) (by decide +kernel))) rfl, lw_g (List.mem_append_right _ (List.mem_of_getElem? (i := 619) (by decide +kernel))) rfl, lw_g (List.mem_append_right _ (List.mem_of_getElem? (i := 1) (by decide +kernel))) rfl, lw_g (List.mem_append_right _ (List.mem_of_getElem? (i := 620) (by decide +kernel))) rfl⟩
theorem mX5_markMovingPlacesOfPicture : yMv 5 yX5_markMovingPlacesOfPicture cX5_markMovingPlacesOfPicture 2 none 0 := ⟨_, rfl, by decide +kernel, ⟨by decide +kernel, by decide +kernel, by decide +kernel⟩, lw_g (List.mem_append_right _ (List.mem_of_getElem? (i := 623) (by decide +kernel))) rfl, lw_g (List.mem_append_left _ (List.mem_of_getElem? (i := 12) (by decide +kernel))) rfl, lw_g (List.mem_append_right _ (List.mem_of_getElem? (i := 1) (by decide +kernel))) rfl, lw_g (List.mem_append_right _ (List.mem_of_getElem? (i := 624) (by decide +kernel))) rfl⟩
theorem mX5_markedPlacesShowShades : yMv 5 yX5_markedPlacesShowShades cX5_markedPlacesShowShades 3 (some .boolean) 1 := ⟨_, rfl, by decide +kernel, ⟨by decide +kernel, by decide +kernel, by decide +kernel⟩, lw_g (List.mem_append_right _ (List.mem_of_getElem? (i := 627) (by decide +kernel))) rfl, lw_g (List.mem_append_left _ (List.mem_of_getElem? (i := 13) (by decide +kernel))) rfl, lw_g (List.mem_append_right _ (List.mem_of_getElem? (i := 1) (by decide +kernel))) rfl, lw_g (List.mem_append_right _ (List.mem_of_getElem? (i := 628) (by decide +kernel))) rfl⟩
theorem mX5_contrast : yMv 5 yX5_contrast cX5_contrast 3 (some .int) 0 := ⟨_, rfl, by decide +kernel, ⟨by decide +kernel, by decide +kernel, by decide +kernel⟩, lw_g (List.mem_append_right _ (List.mem_of_getElem? (i := 630) (by decide +kernel))) rfl, lw_g (List.mem_append_right _ (List.mem_of_getElem? (i := 631) (by decide +kernel))) rfl, lw_g (List.mem_append_right _ (List.mem_of_getElem? (i := 1) (by decide +kernel))) rfl, lw_g (List.mem_append_right _ (List.mem_of_getElem? (i := 632) (by decide +kernel))) rfl⟩
theorem mX5_pixelDistance : yMv 5 yX5_pixelDistance cX5_pixelDistance 3 (some .int) 2 := ⟨_, rfl, by decide +kernel, ⟨by decide +kernel, by decide +kernel, by decide +kernel⟩, lw_g (List.mem_append_right _ (List.mem_of_getElem? (i := 635) (by decide +kernel))) rfl, lw_g (List.mem_append_left _ (List.mem_of_getElem? (i := 14) (by decide +kernel))) rfl, lw_g (List.mem_append_right _ (List.mem_of_getElem? (i := 1) (by decide +kernel))) rfl, lw_g (List.mem_append_right _ (List.mem_of_getElem? (i := 636) (by decide +kernel))) rfl⟩
theorem wcX6_init : Cond.code yX6_init cX6_init 1 none ∈ lw_gt := lw_g (List.mem_append_right _ (List.mem_of_getElem? (i := 642) (by decide +kernel))) rfl
theorem wiX6_init : Cond.instanceMethod yX6_init ∈ lw_gt := lw_g (List.mem_append_right _ (List.mem_of_getElem? (i := 641) (by decide +kernel))) rfl
theorem mX6_undo : yMv 6 yX6_undo cX6_undo 2 (some .int) 0 := ⟨_, rfl, by decide +kernel, ⟨by decide +kernel, by decide +kernel, by decide +kernel⟩, lw_g (List.mem_append_right _ (List.mem_of_getElem? (i := 703) (by decide +kernel))) rfl, lw_g (List.mem_append_right _ (List.mem_of_getElem? (i := 704) (by decide +kernel))) rfl, lw_g (List.mem_append_right _ (List.mem_of_getElem? (i := 7) (by decide +kernel))) rfl, lw_g (List.mem_append_right _ (List.mem_of_getElem? (i := 705) (by decide +kernel))) rfl⟩
theorem mX6_keep : yMv 6 yX6_keep cX6_keep 2 (some .int) 0 := ⟨_, rfl, by decide +kernel, ⟨by decide +kernel, by decide +kernel, by decide +kernel⟩, lw_g (List.mem_append_right _ (List.mem_of_getElem? (i := 707) (by decide +kernel))) rfl, lw_g (List.mem_append_right _ (List.mem_of_getElem? (i := 708) (by decide +kernel))) rfl, lw_g (List.mem_append_right _ (List.mem_of_getElem? (i := 7) (by decide +kernel))) rfl, lw_g (List.mem_append_right _ (List.mem_of_getElem? (i := 709) (by decide +kernel))) rfl⟩
theorem mX6_restore : yMv 6 yX6_restore cX6_restore 2 (some .int) 0 := ⟨_, rfl, by decide +kernel, ⟨by decide +kernel, by decide +kernel, by decide +kernel⟩, lw_g (List.mem_append_right _ (List.mem_of_getElem? (i := 711) (by decide +kernel))) rfl, lw_g (List.mem_append_right _ (List.mem_of_getElem? (i := 712) (by decide +kernel))) rfl, lw_g (List.mem_append_right _ (List.mem_of_getElem? (i := 7) (by decide +kernel))) rfl, lw_g (List.mem_append_right _ (List.mem_of_getElem? (i := 713) (by decide +kernel))) rfl⟩
theorem mX6_record : yMv 6 yX6_record cX6_record 2 none 0 := ⟨_, rfl, by decide +kernel, ⟨by decide +kernel, by decide +kernel, by decide +kernel⟩, lw_g (List.mem_append_right _ (List.mem_of_getElem? (i := 716) (by decide +kernel))) rfl, lw_g (List.mem_append_left _ (List.mem_of_getElem? (i := 15) (by decide +kernel))) rfl, lw_g (List.mem_append_right _ (List.mem_of_getElem? (i := 7) (by decide +kernel))) rfl, lw_g (List.mem_append_right _ (List.mem_of_getElem? (i := 717) (by decide +kernel))) rfl⟩
theorem mX6_setColour : yMv 6 yX6_setColour cX6_setColour 4 (some .int) 2 := ⟨_, rfl, by decide +kernel, ⟨by decide +kernel, by decide +kernel, by decide +kernel⟩, lw_g (List.mem_append_right _ (List.mem_of_getElem? (i := 719) (by decide +kernel))) rfl, lw_g (List.mem_append_right _ (List.mem_of_getElem? (i := 720) (by decide +kernel))) rfl, lw_g (List.mem_append_right _ (List.mem_of_getElem? (i := 7) (by decide +kernel))) rfl, lw_g (List.mem_append_right _ (List.mem_of_getElem? (i := 721) (by decide +kernel))) rfl⟩
theorem mX6_isPlace : yMs yX6_isPlace cX6_isPlace 1 (some .boolean) 1 := ⟨⟨by decide +kernel, by decide +kernel, by decide +kernel⟩, lw_g (List.mem_append_right _ (List.mem_of_getElem? (i := 723) (by decide +kernel))) rfl, lw_g (List.mem_append_right _ (List.mem_of_getElem? (i := 7) (by decide +kernel))) rfl, lw_g (List.mem_append_right _ (List.mem_of_getElem? (i := 724) (by decide +kernel))) rfl⟩
theorem mX6_in : yMs yX6_in cX6_in 3 (some .boolean) 3 := ⟨⟨by decide +kernel, by decide +kernel, by decide +kernel⟩, lw_g (List.mem_append_right _ (List.mem_of_getElem? (i := 726) (by decide +kernel))) rfl, lw_g (List.mem_append_right _ (List.mem_of_getElem? (i := 7) (by decide +kernel))) rfl, lw_g (List.mem_append_right _ (List.mem_of_getElem? (i := 727) (by decide +kernel))) rfl⟩
theorem mX6_isColour : yMs yX6_isColour cX6_isColour 1 (some .boolean) 1 := ⟨⟨by decide +kernel, by decide +kernel, by decide +kernel⟩, lw_g (List.mem_append_right _ (List.mem_of_getElem? (i := 729) (by decide +kernel))) rfl, lw_g (List.mem_append_right _ (List.mem_of_getElem? (i := 7) (by decide +kernel))) rfl, lw_g (List.mem_append_right _ (List.mem_of_getElem? (i := 730) (by decide +kernel))) rfl⟩
theorem mX6_blend : yMv 6 yX6_blend cX6_blend 7 (some .int) 4 := ⟨_, rfl, by decide +kernel, ⟨by decide +kernel, by decide +kernel, by decide +kernel⟩, lw_g (List.mem_append_right _ (List.mem_of_getElem? (i := 733) (by decide +kernel))) rfl, lw_g (List.mem_append_right _ (List.mem_of_getElem? (i := 734) (by decide +kernel))) rfl, lw_g (List.mem_append_right _ (List.mem_of_getElem? (i := 7) (by decide +kernel))) rfl, lw_g (List.mem_append_right _ (List.mem_of_getElem? (i := 735) (by decide +kernel))) rfl⟩
theorem mX6_blended : yMv 6 yX6_blended cX6_blended 6 (some .int) 5 := ⟨_, rfl, by decide +kernel, ⟨by decide +kernel, by decide +kernel, by decide +kernel⟩, lw_g (List.mem_append_right _ (List.mem_of_getElem? (i := 738) (by decide +kernel))) rfl, lw_g (List.mem_append_left _ (List.mem_of_getElem? (i := 16) (by decide +kernel))) rfl, lw_g (List.mem_append_right _ (List.mem_of_getElem? (i := 7) (by decide +kernel))) rfl, lw_g (List.mem_append_right _ (List.mem_of_getElem? (i := 739) (by decide +kernel))) rfl⟩
theorem mX6_between : yMs yX6_between cX6_between 7 (some .int) 4 := ⟨⟨by decide +kernel, by decide +kernel, by decide +kernel⟩, lw_g (List.mem_append_right _ (List.mem_of_getElem? (i := 741) (by decide +kernel))) rfl, lw_g (List.mem_append_right _ (List.mem_of_getElem? (i := 7) (by decide +kernel))) rfl, lw_g (List.mem_append_right _ (List.mem_of_getElem? (i := 742) (by decide +kernel))) rfl⟩
theorem mX6_part : yMs yX6_part cX6_part 2 (some .int) 2 := ⟨⟨by decide +kernel, by decide +kernel, by decide +kernel⟩, lw_g (List.mem_append_right _ (List.mem_of_getElem? (i := 744) (by decide +kernel))) rfl, lw_g (List.mem_append_right _ (List.mem_of_getElem? (i := 7) (by decide +kernel))) rfl, lw_g (List.mem_append_right _ (List.mem_of_getElem? (i := 745) (by decide +kernel))) rfl⟩
theorem mX6_freeze : yMv 6 yX6_freeze cX6_freeze 3 (some .int) 0 := ⟨_, rfl, by decide +kernel, ⟨by decide +kernel, by decide +kernel, by decide +kernel⟩, lw_g (List.mem_append_right _ (List.mem_of_getElem? (i := 747) (by decide +kernel))) rfl, lw_g (List.mem_append_right _ (List.mem_of_getElem? (i := 748) (by decide +kernel))) rfl, lw_g (List.mem_append_right _ (List.mem_of_getElem? (i := 7) (by decide +kernel))) rfl, lw_g (List.mem_append_right _ (List.mem_of_getElem? (i := 749) (by decide +kernel))) rfl⟩
theorem mX6_show : yMv 6 yX6_show cX6_show 2 none 0 := ⟨_, rfl, by decide +kernel, ⟨by decide +kernel, by decide +kernel, by decide +kernel⟩, lw_g (List.mem_append_right _ (List.mem_of_getElem? (i := 752) (by decide +kernel))) rfl, lw_g (List.mem_append_left _ (List.mem_of_getElem? (i := 17) (by decide +kernel))) rfl, lw_g (List.mem_append_right _ (List.mem_of_getElem? (i := 7) (by decide +kernel))) rfl, lw_g (List.mem_append_right _ (List.mem_of_getElem? (i := 753) (by decide +kernel))) rfl⟩
theorem mX6_shownAt : yMv 6 yX6_shownAt cX6_shownAt 3 (some .int) 1 := ⟨_, rfl, by decide +kernel, ⟨by decide +kernel, by decide +kernel, by decide +kernel⟩, lw_g (List.mem_append_right _ (List.mem_of_getElem? (i := 756) (by decide +kernel))) rfl, lw_g (List.mem_append_left _ (List.mem_of_getElem? (i := 18) (by decide +kernel))) rfl, lw_g (List.mem_append_right _ (List.mem_of_getElem? (i := 7) (by decide +kernel))) rfl, lw_g (List.mem_append_right _ (List.mem_of_getElem? (i := 757) (by decide +kernel))) rfl⟩
theorem mX6_glowAt : yMv 6 yX6_glowAt cX6_glowAt 4 (some .int) 1 := ⟨_, rfl, by decide +kernel, ⟨by decide +kernel, by decide +kernel, by decide +kernel⟩, lw_g (List.mem_append_right _ (List.mem_of_getElem? (i := 760) (by decide +kernel))) rfl, lw_g (List.mem_append_left _ (List.mem_of_getElem? (i := 19) (by decide +kernel))) rfl, lw_g (List.mem_append_right _ (List.mem_of_getElem? (i := 7) (by decide +kernel))) rfl, lw_g (List.mem_append_right _ (List.mem_of_getElem? (i := 761) (by decide +kernel))) rfl⟩
theorem mX6_ofGlow : yMv 6 yX6_ofGlow cX6_ofGlow 3 (some .int) 2 := ⟨_, rfl, by decide +kernel, ⟨by decide +kernel, by decide +kernel, by decide +kernel⟩, lw_g (List.mem_append_right _ (List.mem_of_getElem? (i := 764) (by decide +kernel))) rfl, lw_g (List.mem_append_left _ (List.mem_of_getElem? (i := 20) (by decide +kernel))) rfl, lw_g (List.mem_append_right _ (List.mem_of_getElem? (i := 7) (by decide +kernel))) rfl, lw_g (List.mem_append_right _ (List.mem_of_getElem? (i := 765) (by decide +kernel))) rfl⟩
theorem mX6_turned : yMv 6 yX6_turned cX6_turned 4 (some .int) 1 := ⟨_, rfl, by decide +kernel, ⟨by decide +kernel, by decide +kernel, by decide +kernel⟩, lw_g (List.mem_append_right _ (List.mem_of_getElem? (i := 768) (by decide +kernel))) rfl, lw_g (List.mem_append_left _ (List.mem_of_getElem? (i := 21) (by decide +kernel))) rfl, lw_g (List.mem_append_right _ (List.mem_of_getElem? (i := 7) (by decide +kernel))) rfl, lw_g (List.mem_append_right _ (List.mem_of_getElem? (i := 769) (by decide +kernel))) rfl⟩
theorem mX6_rangeAt : yMv 6 yX6_rangeAt cX6_rangeAt 4 (some .int) 1 := ⟨_, rfl, by decide +kernel, ⟨by decide +kernel, by decide +kernel, by decide +kernel⟩, lw_g (List.mem_append_right _ (List.mem_of_getElem? (i := 772) (by decide +kernel))) rfl, lw_g (List.mem_append_left _ (List.mem_of_getElem? (i := 22) (by decide +kernel))) rfl, lw_g (List.mem_append_right _ (List.mem_of_getElem? (i := 7) (by decide +kernel))) rfl, lw_g (List.mem_append_right _ (List.mem_of_getElem? (i := 773) (by decide +kernel))) rfl⟩
theorem mX6_of : yMv 6 yX6_of cX6_of 3 (some .int) 2 := ⟨_, rfl, by decide +kernel, ⟨by decide +kernel, by decide +kernel, by decide +kernel⟩, lw_g (List.mem_append_right _ (List.mem_of_getElem? (i := 776) (by decide +kernel))) rfl, lw_g (List.mem_append_left _ (List.mem_of_getElem? (i := 23) (by decide +kernel))) rfl, lw_g (List.mem_append_right _ (List.mem_of_getElem? (i := 7) (by decide +kernel))) rfl, lw_g (List.mem_append_right _ (List.mem_of_getElem? (i := 777) (by decide +kernel))) rfl⟩
theorem mX6_turn : yMv 6 yX6_turn cX6_turn 5 (some .int) 1 := ⟨_, rfl, by decide +kernel, ⟨by decide +kernel, by decide +kernel, by decide +kernel⟩, lw_g (List.mem_append_right _ (List.mem_of_getElem? (i := 780) (by decide +kernel))) rfl, lw_g (List.mem_append_left _ (List.mem_of_getElem? (i := 24) (by decide +kernel))) rfl, lw_g (List.mem_append_right _ (List.mem_of_getElem? (i := 7) (by decide +kernel))) rfl, lw_g (List.mem_append_right _ (List.mem_of_getElem? (i := 781) (by decide +kernel))) rfl⟩
theorem mX6_places : yMv 6 yX6_places cX6_places 2 (some .int) 1 := ⟨_, rfl, by decide +kernel, ⟨by decide +kernel, by decide +kernel, by decide +kernel⟩, lw_g (List.mem_append_right _ (List.mem_of_getElem? (i := 784) (by decide +kernel))) rfl, lw_g (List.mem_append_left _ (List.mem_of_getElem? (i := 25) (by decide +kernel))) rfl, lw_g (List.mem_append_right _ (List.mem_of_getElem? (i := 7) (by decide +kernel))) rfl, lw_g (List.mem_append_right _ (List.mem_of_getElem? (i := 785) (by decide +kernel))) rfl⟩
theorem mX6_modulo : yMs yX6_modulo cX6_modulo 3 (some .int) 2 := ⟨⟨by decide +kernel, by decide +kernel, by decide +kernel⟩, lw_g (List.mem_append_right _ (List.mem_of_getElem? (i := 787) (by decide +kernel))) rfl, lw_g (List.mem_append_right _ (List.mem_of_getElem? (i := 7) (by decide +kernel))) rfl, lw_g (List.mem_append_right _ (List.mem_of_getElem? (i := 788) (by decide +kernel))) rfl⟩
theorem mX6_strength : yMv 6 yX6_strength cX6_strength 3 (some .int) 1 := ⟨_, rfl, by decide +kernel, ⟨by decide +kernel, by decide +kernel, by decide +kernel⟩, lw_g (List.mem_append_right _ (List.mem_of_getElem? (i := 791) (by decide +kernel))) rfl, lw_g (List.mem_append_left _ (List.mem_of_getElem? (i := 26) (by decide +kernel))) rfl, lw_g (List.mem_append_right _ (List.mem_of_getElem? (i := 7) (by decide +kernel))) rfl, lw_g (List.mem_append_right _ (List.mem_of_getElem? (i := 792) (by decide +kernel))) rfl⟩
theorem mX6_addRange : yMv 6 yX6_addRange cX6_addRange 6 (some .int) 4 := ⟨_, rfl, by decide +kernel, ⟨by decide +kernel, by decide +kernel, by decide +kernel⟩, lw_g (List.mem_append_right _ (List.mem_of_getElem? (i := 794) (by decide +kernel))) rfl, lw_g (List.mem_append_right _ (List.mem_of_getElem? (i := 795) (by decide +kernel))) rfl, lw_g (List.mem_append_right _ (List.mem_of_getElem? (i := 7) (by decide +kernel))) rfl, lw_g (List.mem_append_right _ (List.mem_of_getElem? (i := 796) (by decide +kernel))) rfl⟩
theorem mX6_isTaken : yMv 6 yX6_isTaken cX6_isTaken 5 (some .boolean) 2 := ⟨_, rfl, by decide +kernel, ⟨by decide +kernel, by decide +kernel, by decide +kernel⟩, lw_g (List.mem_append_right _ (List.mem_of_getElem? (i := 799) (by decide +kernel))) rfl, lw_g (List.mem_append_left _ (List.mem_of_getElem? (i := 27) (by decide +kernel))) rfl, lw_g (List.mem_append_right _ (List.mem_of_getElem? (i := 7) (by decide +kernel))) rfl, lw_g (List.mem_append_right _ (List.mem_of_getElem? (i := 800) (by decide +kernel))) rfl⟩
theorem mX6_removeRange : yMv 6 yX6_removeRange cX6_removeRange 3 (some .int) 1 := ⟨_, rfl, by decide +kernel, ⟨by decide +kernel, by decide +kernel, by decide +kernel⟩, lw_g (List.mem_append_right _ (List.mem_of_getElem? (i := 802) (by decide +kernel))) rfl, lw_g (List.mem_append_right _ (List.mem_of_getElem? (i := 803) (by decide +kernel))) rfl, lw_g (List.mem_append_right _ (List.mem_of_getElem? (i := 7) (by decide +kernel))) rfl, lw_g (List.mem_append_right _ (List.mem_of_getElem? (i := 804) (by decide +kernel))) rfl⟩
theorem mX6_isRange : yMv 6 yX6_isRange cX6_isRange 2 (some .boolean) 1 := ⟨_, rfl, by decide +kernel, ⟨by decide +kernel, by decide +kernel, by decide +kernel⟩, lw_g (List.mem_append_right _ (List.mem_of_getElem? (i := 807) (by decide +kernel))) rfl, lw_g (List.mem_append_left _ (List.mem_of_getElem? (i := 28) (by decide +kernel))) rfl, lw_g (List.mem_append_right _ (List.mem_of_getElem? (i := 7) (by decide +kernel))) rfl, lw_g (List.mem_append_right _ (List.mem_of_getElem? (i := 808) (by decide +kernel))) rfl⟩
theorem mX6_setSpeed : yMv 6 yX6_setSpeed cX6_setSpeed 6 (some .int) 3 := ⟨_, rfl, by decide +kernel, ⟨by decide +kernel, by decide +kernel, by decide +kernel⟩, lw_g (List.mem_append_right _ (List.mem_of_getElem? (i := 810) (by decide +kernel))) rfl, lw_g (List.mem_append_right _ (List.mem_of_getElem? (i := 811) (by decide +kernel))) rfl, lw_g (List.mem_append_right _ (List.mem_of_getElem? (i := 7) (by decide +kernel))) rfl, lw_g (List.mem_append_right _ (List.mem_of_getElem? (i := 812) (by decide +kernel))) rfl⟩
theorem mX6_run : yMv 6 yX6_run cX6_run 3 (some .int) 2 := ⟨_, rfl, by decide +kernel, ⟨by decide +kernel, by decide +kernel, by decide +kernel⟩, lw_g (List.mem_append_right _ (List.mem_of_getElem? (i := 814) (by decide +kernel))) rfl, lw_g (List.mem_append_right _ (List.mem_of_getElem? (i := 815) (by decide +kernel))) rfl, lw_g (List.mem_append_right _ (List.mem_of_getElem? (i := 7) (by decide +kernel))) rfl, lw_g (List.mem_append_right _ (List.mem_of_getElem? (i := 816) (by decide +kernel))) rfl⟩
theorem mX6_running : yMv 6 yX6_running cX6_running 3 (some .int) 0 := ⟨_, rfl, by decide +kernel, ⟨by decide +kernel, by decide +kernel, by decide +kernel⟩, lw_g (List.mem_append_right _ (List.mem_of_getElem? (i := 819) (by decide +kernel))) rfl, lw_g (List.mem_append_left _ (List.mem_of_getElem? (i := 29) (by decide +kernel))) rfl, lw_g (List.mem_append_right _ (List.mem_of_getElem? (i := 7) (by decide +kernel))) rfl, lw_g (List.mem_append_right _ (List.mem_of_getElem? (i := 820) (by decide +kernel))) rfl⟩
theorem mX6_addGlow : yMv 6 yX6_addGlow cX6_addGlow 5 (some .int) 3 := ⟨_, rfl, by decide +kernel, ⟨by decide +kernel, by decide +kernel, by decide +kernel⟩, lw_g (List.mem_append_right _ (List.mem_of_getElem? (i := 822) (by decide +kernel))) rfl, lw_g (List.mem_append_right _ (List.mem_of_getElem? (i := 823) (by decide +kernel))) rfl, lw_g (List.mem_append_right _ (List.mem_of_getElem? (i := 7) (by decide +kernel))) rfl, lw_g (List.mem_append_right _ (List.mem_of_getElem? (i := 824) (by decide +kernel))) rfl⟩
theorem mX6_removeGlow : yMv 6 yX6_removeGlow cX6_removeGlow 3 (some .int) 1 := ⟨_, rfl, by decide +kernel, ⟨by decide +kernel, by decide +kernel, by decide +kernel⟩, lw_g (List.mem_append_right _ (List.mem_of_getElem? (i := 826) (by decide +kernel))) rfl, lw_g (List.mem_append_right _ (List.mem_of_getElem? (i := 827) (by decide +kernel))) rfl, lw_g (List.mem_append_right _ (List.mem_of_getElem? (i := 7) (by decide +kernel))) rfl, lw_g (List.mem_append_right _ (List.mem_of_getElem? (i := 828) (by decide +kernel))) rfl⟩
theorem mX6_isGlow : yMv 6 yX6_isGlow cX6_isGlow 2 (some .boolean) 1 := ⟨_, rfl, by decide +kernel, ⟨by decide +kernel, by decide +kernel, by decide +kernel⟩, lw_g (List.mem_append_right _ (List.mem_of_getElem? (i := 831) (by decide +kernel))) rfl, lw_g (List.mem_append_left _ (List.mem_of_getElem? (i := 30) (by decide +kernel))) rfl, lw_g (List.mem_append_right _ (List.mem_of_getElem? (i := 7) (by decide +kernel))) rfl, lw_g (List.mem_append_right _ (List.mem_of_getElem? (i := 832) (by decide +kernel))) rfl⟩
theorem mX6_pass : yMv 6 yX6_pass cX6_pass 3 (some .int) 1 := ⟨_, rfl, by decide +kernel, ⟨by decide +kernel, by decide +kernel, by decide +kernel⟩, lw_g (List.mem_append_right _ (List.mem_of_getElem? (i := 834) (by decide +kernel))) rfl, lw_g (List.mem_append_right _ (List.mem_of_getElem? (i := 835) (by decide +kernel))) rfl, lw_g (List.mem_append_right _ (List.mem_of_getElem? (i := 7) (by decide +kernel))) rfl, lw_g (List.mem_append_right _ (List.mem_of_getElem? (i := 836) (by decide +kernel))) rfl⟩
theorem mX6_ticks : yMv 6 yX6_ticks cX6_ticks 3 none 1 := ⟨_, rfl, by decide +kernel, ⟨by decide +kernel, by decide +kernel, by decide +kernel⟩, lw_g (List.mem_append_right _ (List.mem_of_getElem? (i := 839) (by decide +kernel))) rfl, lw_g (List.mem_append_left _ (List.mem_of_getElem? (i := 31) (by decide +kernel))) rfl, lw_g (List.mem_append_right _ (List.mem_of_getElem? (i := 7) (by decide +kernel))) rfl, lw_g (List.mem_append_right _ (List.mem_of_getElem? (i := 840) (by decide +kernel))) rfl⟩
theorem mX6_tick : yMv 6 yX6_tick cX6_tick 3 none 0 := ⟨_, rfl, by decide +kernel, ⟨by decide +kernel, by decide +kernel, by decide +kernel⟩, lw_g (List.mem_append_right _ (List.mem_of_getElem? (i := 843) (by decide +kernel))) rfl, lw_g (List.mem_append_left _ (List.mem_of_getElem? (i := 32) (by decide +kernel))) rfl, lw_g (List.mem_append_right _ (List.mem_of_getElem? (i := 7) (by decide +kernel))) rfl, lw_g (List.mem_append_right _ (List.mem_of_getElem? (i := 844) (by decide +kernel))) rfl⟩
theorem mX6_tickRange : yMv 6 yX6_tickRange cX6_tickRange 3 none 1 := ⟨_, rfl, by decide +kernel, ⟨by decide +kernel, by decide +kernel, by decide +kernel⟩, lw_g (List.mem_append_right _ (List.mem_of_getElem? (i := 847) (by decide +kernel))) rfl, lw_g (List.mem_append_left _ (List.mem_of_getElem? (i := 33) (by decide +kernel))) rfl, lw_g (List.mem_append_right _ (List.mem_of_getElem? (i := 7) (by decide +kernel))) rfl, lw_g (List.mem_append_right _ (List.mem_of_getElem? (i := 848) (by decide +kernel))) rfl⟩
theorem mX6_step : yMv 6 yX6_step cX6_step 2 none 1 := ⟨_, rfl, by decide +kernel, ⟨by decide +kernel, by decide +kernel, by decide +kernel⟩, lw_g (List.mem_append_right _ (List.mem_of_getElem? (i := 851) (by decide +kernel))) rfl, lw_g (List.mem_append_left _ (List.mem_of_getElem? (i := 34) (by decide +kernel))) rfl, lw_g (List.mem_append_right _ (List.mem_of_getElem? (i := 7) (by decide +kernel))) rfl, lw_g (List.mem_append_right _ (List.mem_of_getElem? (i := 852) (by decide +kernel))) rfl⟩
theorem mX6_type : yMv 6 yX6_type cX6_type 2 (some .int) 1 := ⟨_, rfl, by decide +kernel, ⟨by decide +kernel, by decide +kernel, by decide +kernel⟩, lw_g (List.mem_append_right _ (List.mem_of_getElem? (i := 854) (by decide +kernel))) rfl, lw_g (List.mem_append_right _ (List.mem_of_getElem? (i := 855) (by decide +kernel))) rfl, lw_g (List.mem_append_right _ (List.mem_of_getElem? (i := 7) (by decide +kernel))) rfl, lw_g (List.mem_append_right _ (List.mem_of_getElem? (i := 856) (by decide +kernel))) rfl⟩
theorem mX6_clearText : yMv 6 yX6_clearText cX6_clearText 2 (some .int) 0 := ⟨_, rfl, by decide +kernel, ⟨by decide +kernel, by decide +kernel, by decide +kernel⟩, lw_g (List.mem_append_right _ (List.mem_of_getElem? (i := 858) (by decide +kernel))) rfl, lw_g (List.mem_append_right _ (List.mem_of_getElem? (i := 859) (by decide +kernel))) rfl, lw_g (List.mem_append_right _ (List.mem_of_getElem? (i := 7) (by decide +kernel))) rfl, lw_g (List.mem_append_right _ (List.mem_of_getElem? (i := 860) (by decide +kernel))) rfl⟩
theorem mX6_perform : yMv 6 yX6_perform cX6_perform 2 (some .int) 0 := ⟨_, rfl, by decide +kernel, ⟨by decide +kernel, by decide +kernel, by decide +kernel⟩, lw_g (List.mem_append_right _ (List.mem_of_getElem? (i := 862) (by decide +kernel))) rfl, lw_g (List.mem_append_right _ (List.mem_of_getElem? (i := 863) (by decide +kernel))) rfl, lw_g (List.mem_append_right _ (List.mem_of_getElem? (i := 7) (by decide +kernel))) rfl, lw_g (List.mem_append_right _ (List.mem_of_getElem? (i := 864) (by decide +kernel))) rfl⟩
theorem mX6_isProgram : yMv 6 yX6_isProgram cX6_isProgram 2 (some .boolean) 0 := ⟨_, rfl, by decide +kernel, ⟨by decide +kernel, by decide +kernel, by decide +kernel⟩, lw_g (List.mem_append_right _ (List.mem_of_getElem? (i := 867) (by decide +kernel))) rfl, lw_g (List.mem_append_left _ (List.mem_of_getElem? (i := 35) (by decide +kernel))) rfl, lw_g (List.mem_append_right _ (List.mem_of_getElem? (i := 7) (by decide +kernel))) rfl, lw_g (List.mem_append_right _ (List.mem_of_getElem? (i := 868) (by decide +kernel))) rfl⟩
theorem mX6_isAt : yMv 6 yX6_isAt cX6_isAt 4 (some .boolean) 3 := ⟨_, rfl, by decide +kernel, ⟨by decide +kernel, by decide +kernel, by decide +kernel⟩, lw_g (List.mem_append_right _ (List.mem_of_getElem? (i := 871) (by decide +kernel))) rfl, lw_g (List.mem_append_left _ (List.mem_of_getElem? (i := 36) (by decide +kernel))) rfl, lw_g (List.mem_append_right _ (List.mem_of_getElem? (i := 7) (by decide +kernel))) rfl, lw_g (List.mem_append_right _ (List.mem_of_getElem? (i := 872) (by decide +kernel))) rfl⟩
theorem mX6_readRepeat : yMv 6 yX6_readRepeat cX6_readRepeat 2 (some .boolean) 0 := ⟨_, rfl, by decide +kernel, ⟨by decide +kernel, by decide +kernel, by decide +kernel⟩, lw_g (List.mem_append_right _ (List.mem_of_getElem? (i := 875) (by decide +kernel))) rfl, lw_g (List.mem_append_left _ (List.mem_of_getElem? (i := 37) (by decide +kernel))) rfl, lw_g (List.mem_append_right _ (List.mem_of_getElem? (i := 7) (by decide +kernel))) rfl, lw_g (List.mem_append_right _ (List.mem_of_getElem? (i := 876) (by decide +kernel))) rfl⟩
theorem mX6_capped : yMs yX6_capped cX6_capped 1 (some .int) 1 := ⟨⟨by decide +kernel, by decide +kernel, by decide +kernel⟩, lw_g (List.mem_append_right _ (List.mem_of_getElem? (i := 878) (by decide +kernel))) rfl, lw_g (List.mem_append_right _ (List.mem_of_getElem? (i := 7) (by decide +kernel))) rfl, lw_g (List.mem_append_right _ (List.mem_of_getElem? (i := 879) (by decide +kernel))) rfl⟩
theorem mX6_readEnd : yMv 6 yX6_readEnd cX6_readEnd 1 (some .boolean) 0 := ⟨_, rfl, by decide +kernel, ⟨by decide +kernel, by decide +kernel, by decide +kernel⟩, lw_g (List.mem_append_right _ (List.mem_of_getElem? (i := 882) (by decide +kernel))) rfl, lw_g (List.mem_append_left _ (List.mem_of_getElem? (i := 38) (by decide +kernel))) rfl, lw_g (List.mem_append_right _ (List.mem_of_getElem? (i := 7) (by decide +kernel))) rfl, lw_g (List.mem_append_right _ (List.mem_of_getElem? (i := 883) (by decide +kernel))) rfl⟩
theorem mX6_readItem : yMv 6 yX6_readItem cX6_readItem 2 (some .boolean) 0 := ⟨_, rfl, by decide +kernel, ⟨by decide +kernel, by decide +kernel, by decide +kernel⟩, lw_g (List.mem_append_right _ (List.mem_of_getElem? (i := 886) (by decide +kernel))) rfl, lw_g (List.mem_append_left _ (List.mem_of_getElem? (i := 39) (by decide +kernel))) rfl, lw_g (List.mem_append_right _ (List.mem_of_getElem? (i := 7) (by decide +kernel))) rfl, lw_g (List.mem_append_right _ (List.mem_of_getElem? (i := 887) (by decide +kernel))) rfl⟩
theorem mX6_readTicks : yMv 6 yX6_readTicks cX6_readTicks 2 (some .boolean) 0 := ⟨_, rfl, by decide +kernel, ⟨by decide +kernel, by decide +kernel, by decide +kernel⟩, lw_g (List.mem_append_right _ (List.mem_of_getElem? (i := 890) (by decide +kernel))) rfl, lw_g (List.mem_append_left _ (List.mem_of_getElem? (i := 40) (by decide +kernel))) rfl, lw_g (List.mem_append_right _ (List.mem_of_getElem? (i := 7) (by decide +kernel))) rfl, lw_g (List.mem_append_right _ (List.mem_of_getElem? (i := 891) (by decide +kernel))) rfl⟩
theorem mX6_number : yMv 6 yX6_number cX6_number 2 (some .int) 0 := ⟨_, rfl, by decide +kernel, ⟨by decide +kernel, by decide +kernel, by decide +kernel⟩, lw_g (List.mem_append_right _ (List.mem_of_getElem? (i := 894) (by decide +kernel))) rfl, lw_g (List.mem_append_left _ (List.mem_of_getElem? (i := 41) (by decide +kernel))) rfl, lw_g (List.mem_append_right _ (List.mem_of_getElem? (i := 7) (by decide +kernel))) rfl, lw_g (List.mem_append_right _ (List.mem_of_getElem? (i := 895) (by decide +kernel))) rfl⟩
theorem mX6_readRange : yMv 6 yX6_readRange cX6_readRange 2 (some .boolean) 0 := ⟨_, rfl, by decide +kernel, ⟨by decide +kernel, by decide +kernel, by decide +kernel⟩, lw_g (List.mem_append_right _ (List.mem_of_getElem? (i := 898) (by decide +kernel))) rfl, lw_g (List.mem_append_left _ (List.mem_of_getElem? (i := 42) (by decide +kernel))) rfl, lw_g (List.mem_append_right _ (List.mem_of_getElem? (i := 7) (by decide +kernel))) rfl, lw_g (List.mem_append_right _ (List.mem_of_getElem? (i := 899) (by decide +kernel))) rfl⟩
theorem mX6_carryOut : yMv 6 yX6_carryOut cX6_carryOut 1 none 0 := ⟨_, rfl, by decide +kernel, ⟨by decide +kernel, by decide +kernel, by decide +kernel⟩, lw_g (List.mem_append_right _ (List.mem_of_getElem? (i := 902) (by decide +kernel))) rfl, lw_g (List.mem_append_left _ (List.mem_of_getElem? (i := 43) (by decide +kernel))) rfl, lw_g (List.mem_append_right _ (List.mem_of_getElem? (i := 7) (by decide +kernel))) rfl, lw_g (List.mem_append_right _ (List.mem_of_getElem? (i := 903) (by decide +kernel))) rfl⟩
theorem mX6_carryOutItem : yMv 6 yX6_carryOutItem cX6_carryOutItem 4 none 0 := ⟨_, rfl, by decide +kernel, ⟨by decide +kernel, by decide +kernel, by decide +kernel⟩, lw_g (List.mem_append_right _ (List.mem_of_getElem? (i := 906) (by decide +kernel))) rfl, lw_g (List.mem_append_left _ (List.mem_of_getElem? (i := 44) (by decide +kernel))) rfl, lw_g (List.mem_append_right _ (List.mem_of_getElem? (i := 7) (by decide +kernel))) rfl, lw_g (List.mem_append_right _ (List.mem_of_getElem? (i := 907) (by decide +kernel))) rfl⟩
theorem mX6_paint : yMv 6 yX6_paint cX6_paint 5 (some .int) 3 := ⟨_, rfl, by decide +kernel, ⟨by decide +kernel, by decide +kernel, by decide +kernel⟩, lw_g (List.mem_append_right _ (List.mem_of_getElem? (i := 909) (by decide +kernel))) rfl, lw_g (List.mem_append_right _ (List.mem_of_getElem? (i := 910) (by decide +kernel))) rfl, lw_g (List.mem_append_right _ (List.mem_of_getElem? (i := 7) (by decide +kernel))) rfl, lw_g (List.mem_append_right _ (List.mem_of_getElem? (i := 911) (by decide +kernel))) rfl⟩
theorem mX6_isPixel : yMs yX6_isPixel cX6_isPixel 2 (some .boolean) 2 := ⟨⟨by decide +kernel, by decide +kernel, by decide +kernel⟩, lw_g (List.mem_append_right _ (List.mem_of_getElem? (i := 913) (by decide +kernel))) rfl, lw_g (List.mem_append_right _ (List.mem_of_getElem? (i := 7) (by decide +kernel))) rfl, lw_g (List.mem_append_right _ (List.mem_of_getElem? (i := 914) (by decide +kernel))) rfl⟩
theorem mX6_pixelAt : yMv 6 yX6_pixelAt cX6_pixelAt 3 (some .int) 2 := ⟨_, rfl, by decide +kernel, ⟨by decide +kernel, by decide +kernel, by decide +kernel⟩, lw_g (List.mem_append_right _ (List.mem_of_getElem? (i := 917) (by decide +kernel))) rfl, lw_g (List.mem_append_left _ (List.mem_of_getElem? (i := 45) (by decide +kernel))) rfl, lw_g (List.mem_append_right _ (List.mem_of_getElem? (i := 7) (by decide +kernel))) rfl, lw_g (List.mem_append_right _ (List.mem_of_getElem? (i := 918) (by decide +kernel))) rfl⟩
theorem mX6_fill : yMv 6 yX6_fill cX6_fill 6 (some .int) 3 := ⟨_, rfl, by decide +kernel, ⟨by decide +kernel, by decide +kernel, by decide +kernel⟩, lw_g (List.mem_append_right _ (List.mem_of_getElem? (i := 920) (by decide +kernel))) rfl, lw_g (List.mem_append_right _ (List.mem_of_getElem? (i := 921) (by decide +kernel))) rfl, lw_g (List.mem_append_right _ (List.mem_of_getElem? (i := 7) (by decide +kernel))) rfl, lw_g (List.mem_append_right _ (List.mem_of_getElem? (i := 922) (by decide +kernel))) rfl⟩
theorem mX6_mark : yMv 6 yX6_mark cX6_mark 6 (some .int) 1 := ⟨_, rfl, by decide +kernel, ⟨by decide +kernel, by decide +kernel, by decide +kernel⟩, lw_g (List.mem_append_right _ (List.mem_of_getElem? (i := 925) (by decide +kernel))) rfl, lw_g (List.mem_append_left _ (List.mem_of_getElem? (i := 46) (by decide +kernel))) rfl, lw_g (List.mem_append_right _ (List.mem_of_getElem? (i := 7) (by decide +kernel))) rfl, lw_g (List.mem_append_right _ (List.mem_of_getElem? (i := 926) (by decide +kernel))) rfl⟩
theorem mX6_hasMarkedNeighbour : yMv 6 yX6_hasMarkedNeighbour cX6_hasMarkedNeighbour 5 (some .boolean) 1 := ⟨_, rfl, by decide +kernel, ⟨by decide +kernel, by decide +kernel, by decide +kernel⟩, lw_g (List.mem_append_right _ (List.mem_of_getElem? (i := 929) (by decide +kernel))) rfl, lw_g (List.mem_append_left _ (List.mem_of_getElem? (i := 47) (by decide +kernel))) rfl, lw_g (List.mem_append_right _ (List.mem_of_getElem? (i := 7) (by decide +kernel))) rfl, lw_g (List.mem_append_right _ (List.mem_of_getElem? (i := 930) (by decide +kernel))) rfl⟩
theorem mX6_colour : yMv 6 yX6_colour cX6_colour 2 (some .int) 1 := ⟨_, rfl, by decide +kernel, ⟨by decide +kernel, by decide +kernel, by decide +kernel⟩, lw_g (List.mem_append_right _ (List.mem_of_getElem? (i := 932) (by decide +kernel))) rfl, lw_g (List.mem_append_right _ (List.mem_of_getElem? (i := 933) (by decide +kernel))) rfl, lw_g (List.mem_append_right _ (List.mem_of_getElem? (i := 7) (by decide +kernel))) rfl, lw_g (List.mem_append_right _ (List.mem_of_getElem? (i := 934) (by decide +kernel))) rfl⟩
theorem mX6_shown : yMv 6 yX6_shown cX6_shown 2 (some .int) 1 := ⟨_, rfl, by decide +kernel, ⟨by decide +kernel, by decide +kernel, by decide +kernel⟩, lw_g (List.mem_append_right _ (List.mem_of_getElem? (i := 936) (by decide +kernel))) rfl, lw_g (List.mem_append_right _ (List.mem_of_getElem? (i := 937) (by decide +kernel))) rfl, lw_g (List.mem_append_right _ (List.mem_of_getElem? (i := 7) (by decide +kernel))) rfl, lw_g (List.mem_append_right _ (List.mem_of_getElem? (i := 938) (by decide +kernel))) rfl⟩
theorem mX6_range : yMv 6 yX6_range cX6_range 3 (some .int) 2 := ⟨_, rfl, by decide +kernel, ⟨by decide +kernel, by decide +kernel, by decide +kernel⟩, lw_g (List.mem_append_right _ (List.mem_of_getElem? (i := 940) (by decide +kernel))) rfl, lw_g (List.mem_append_right _ (List.mem_of_getElem? (i := 941) (by decide +kernel))) rfl, lw_g (List.mem_append_right _ (List.mem_of_getElem? (i := 7) (by decide +kernel))) rfl, lw_g (List.mem_append_right _ (List.mem_of_getElem? (i := 942) (by decide +kernel))) rfl⟩
theorem mX6_glow : yMv 6 yX6_glow cX6_glow 3 (some .int) 2 := ⟨_, rfl, by decide +kernel, ⟨by decide +kernel, by decide +kernel, by decide +kernel⟩, lw_g (List.mem_append_right _ (List.mem_of_getElem? (i := 944) (by decide +kernel))) rfl, lw_g (List.mem_append_right _ (List.mem_of_getElem? (i := 945) (by decide +kernel))) rfl, lw_g (List.mem_append_right _ (List.mem_of_getElem? (i := 7) (by decide +kernel))) rfl, lw_g (List.mem_append_right _ (List.mem_of_getElem? (i := 946) (by decide +kernel))) rfl⟩
theorem mX6_pixel : yMv 6 yX6_pixel cX6_pixel 4 (some .int) 3 := ⟨_, rfl, by decide +kernel, ⟨by decide +kernel, by decide +kernel, by decide +kernel⟩, lw_g (List.mem_append_right _ (List.mem_of_getElem? (i := 948) (by decide +kernel))) rfl, lw_g (List.mem_append_right _ (List.mem_of_getElem? (i := 949) (by decide +kernel))) rfl, lw_g (List.mem_append_right _ (List.mem_of_getElem? (i := 7) (by decide +kernel))) rfl, lw_g (List.mem_append_right _ (List.mem_of_getElem? (i := 950) (by decide +kernel))) rfl⟩
theorem mX6_total : yMv 6 yX6_total cX6_total 2 (some .int) 1 := ⟨_, rfl, by decide +kernel, ⟨by decide +kernel, by decide +kernel, by decide +kernel⟩, lw_g (List.mem_append_right _ (List.mem_of_getElem? (i := 952) (by decide +kernel))) rfl, lw_g (List.mem_append_right _ (List.mem_of_getElem? (i := 953) (by decide +kernel))) rfl, lw_g (List.mem_append_right _ (List.mem_of_getElem? (i := 7) (by decide +kernel))) rfl, lw_g (List.mem_append_right _ (List.mem_of_getElem? (i := 954) (by decide +kernel))) rfl⟩
theorem mX6_placesInRanges : yMv 6 yX6_placesInRanges cX6_placesInRanges 3 (some .int) 0 := ⟨_, rfl, by decide +kernel, ⟨by decide +kernel, by decide +kernel, by decide +kernel⟩, lw_g (List.mem_append_right _ (List.mem_of_getElem? (i := 957) (by decide +kernel))) rfl, lw_g (List.mem_append_left _ (List.mem_of_getElem? (i := 48) (by decide +kernel))) rfl, lw_g (List.mem_append_right _ (List.mem_of_getElem? (i := 7) (by decide +kernel))) rfl, lw_g (List.mem_append_right _ (List.mem_of_getElem? (i := 958) (by decide +kernel))) rfl⟩
theorem mX6_coloursInPicture : yMv 6 yX6_coloursInPicture cX6_coloursInPicture 5 (some .int) 0 := ⟨_, rfl, by decide +kernel, ⟨by decide +kernel, by decide +kernel, by decide +kernel⟩, lw_g (List.mem_append_right _ (List.mem_of_getElem? (i := 961) (by decide +kernel))) rfl, lw_g (List.mem_append_left _ (List.mem_of_getElem? (i := 49) (by decide +kernel))) rfl, lw_g (List.mem_append_right _ (List.mem_of_getElem? (i := 7) (by decide +kernel))) rfl, lw_g (List.mem_append_right _ (List.mem_of_getElem? (i := 962) (by decide +kernel))) rfl⟩
theorem mX6_livelyPixels : yMv 6 yX6_livelyPixels cX6_livelyPixels 5 (some .int) 0 := ⟨_, rfl, by decide +kernel, ⟨by decide +kernel, by decide +kernel, by decide +kernel⟩, lw_g (List.mem_append_right _ (List.mem_of_getElem? (i := 965) (by decide +kernel))) rfl, lw_g (List.mem_append_left _ (List.mem_of_getElem? (i := 50) (by decide +kernel))) rfl, lw_g (List.mem_append_right _ (List.mem_of_getElem? (i := 7) (by decide +kernel))) rfl, lw_g (List.mem_append_right _ (List.mem_of_getElem? (i := 966) (by decide +kernel))) rfl⟩
theorem mX6_shownIn : yMv 6 yX6_shownIn cX6_shownIn 4 (some .int) 2 := ⟨_, rfl, by decide +kernel, ⟨by decide +kernel, by decide +kernel, by decide +kernel⟩, lw_g (List.mem_append_right _ (List.mem_of_getElem? (i := 968) (by decide +kernel))) rfl, lw_g (List.mem_append_right _ (List.mem_of_getElem? (i := 969) (by decide +kernel))) rfl, lw_g (List.mem_append_right _ (List.mem_of_getElem? (i := 7) (by decide +kernel))) rfl, lw_g (List.mem_append_right _ (List.mem_of_getElem? (i := 970) (by decide +kernel))) rfl⟩
theorem mX6_putAside : yMv 6 yX6_putAside cX6_putAside 2 none 0 := ⟨_, rfl, by decide +kernel, ⟨by decide +kernel, by decide +kernel, by decide +kernel⟩, lw_g (List.mem_append_right _ (List.mem_of_getElem? (i := 973) (by decide +kernel))) rfl, lw_g (List.mem_append_left _ (List.mem_of_getElem? (i := 51) (by decide +kernel))) rfl, lw_g (List.mem_append_right _ (List.mem_of_getElem? (i := 7) (by decide +kernel))) rfl, lw_g (List.mem_append_right _ (List.mem_of_getElem? (i := 974) (by decide +kernel))) rfl⟩
theorem mX6_putBack : yMv 6 yX6_putBack cX6_putBack 2 none 0 := ⟨_, rfl, by decide +kernel, ⟨by decide +kernel, by decide +kernel, by decide +kernel⟩, lw_g (List.mem_append_right _ (List.mem_of_getElem? (i := 977) (by decide +kernel))) rfl, lw_g (List.mem_append_left _ (List.mem_of_getElem? (i := 52) (by decide +kernel))) rfl, lw_g (List.mem_append_right _ (List.mem_of_getElem? (i := 7) (by decide +kernel))) rfl, lw_g (List.mem_append_right _ (List.mem_of_getElem? (i := 978) (by decide +kernel))) rfl⟩
theorem mX6_fullTurn : yMv 6 yX6_fullTurn cX6_fullTurn 5 (some .long) 0 := ⟨_, rfl, by decide +kernel, ⟨by decide +kernel, by decide +kernel, by decide +kernel⟩, lw_g (List.mem_append_right _ (List.mem_of_getElem? (i := 980) (by decide +kernel))) rfl, lw_g (List.mem_append_right _ (List.mem_of_getElem? (i := 981) (by decide +kernel))) rfl, lw_g (List.mem_append_right _ (List.mem_of_getElem? (i := 7) (by decide +kernel))) rfl, lw_g (List.mem_append_right _ (List.mem_of_getElem? (i := 982) (by decide +kernel))) rfl⟩
theorem mX6_both : yMs yX6_both cX6_both 4 (some .long) 2 := ⟨⟨by decide +kernel, by decide +kernel, by decide +kernel⟩, lw_g (List.mem_append_right _ (List.mem_of_getElem? (i := 984) (by decide +kernel))) rfl, lw_g (List.mem_append_right _ (List.mem_of_getElem? (i := 7) (by decide +kernel))) rfl, lw_g (List.mem_append_right _ (List.mem_of_getElem? (i := 985) (by decide +kernel))) rfl⟩
theorem mX6_common : yMs yX6_common cX6_common 10 (some .long) 2 := ⟨⟨by decide +kernel, by decide +kernel, by decide +kernel⟩, lw_g (List.mem_append_right _ (List.mem_of_getElem? (i := 987) (by decide +kernel))) rfl, lw_g (List.mem_append_right _ (List.mem_of_getElem? (i := 7) (by decide +kernel))) rfl, lw_g (List.mem_append_right _ (List.mem_of_getElem? (i := 988) (by decide +kernel))) rfl⟩
theorem mX6_nearest : yMv 6 yX6_nearest cX6_nearest 4 (some .int) 1 := ⟨_, rfl, by decide +kernel, ⟨by decide +kernel, by decide +kernel, by decide +kernel⟩, lw_g (List.mem_append_right _ (List.mem_of_getElem? (i := 990) (by decide +kernel))) rfl, lw_g (List.mem_append_right _ (List.mem_of_getElem? (i := 991) (by decide +kernel))) rfl, lw_g (List.mem_append_right _ (List.mem_of_getElem? (i := 7) (by decide +kernel))) rfl, lw_g (List.mem_append_right _ (List.mem_of_getElem? (i := 992) (by decide +kernel))) rfl⟩
theorem mX6_distance : yMs yX6_distance cX6_distance 5 (some .int) 2 := ⟨⟨by decide +kernel, by decide +kernel, by decide +kernel⟩, lw_g (List.mem_append_right _ (List.mem_of_getElem? (i := 994) (by decide +kernel))) rfl, lw_g (List.mem_append_right _ (List.mem_of_getElem? (i := 7) (by decide +kernel))) rfl, lw_g (List.mem_append_right _ (List.mem_of_getElem? (i := 995) (by decide +kernel))) rfl⟩
theorem mX6_changes : yMv 6 yX6_changes cX6_changes 3 (some .int) 1 := ⟨_, rfl, by decide +kernel, ⟨by decide +kernel, by decide +kernel, by decide +kernel⟩, lw_g (List.mem_append_right _ (List.mem_of_getElem? (i := 997) (by decide +kernel))) rfl, lw_g (List.mem_append_right _ (List.mem_of_getElem? (i := 998) (by decide +kernel))) rfl, lw_g (List.mem_append_right _ (List.mem_of_getElem? (i := 7) (by decide +kernel))) rfl, lw_g (List.mem_append_right _ (List.mem_of_getElem? (i := 999) (by decide +kernel))) rfl⟩
theorem mX6_notePicture : yMv 6 yX6_notePicture cX6_notePicture 2 none 0 := ⟨_, rfl, by decide +kernel, ⟨by decide +kernel, by decide +kernel, by decide +kernel⟩, lw_g (List.mem_append_right _ (List.mem_of_getElem? (i := 1002) (by decide +kernel))) rfl, lw_g (List.mem_append_left _ (List.mem_of_getElem? (i := 53) (by decide +kernel))) rfl, lw_g (List.mem_append_right _ (List.mem_of_getElem? (i := 7) (by decide +kernel))) rfl, lw_g (List.mem_append_right _ (List.mem_of_getElem? (i := 1003) (by decide +kernel))) rfl⟩
theorem mX6_otherPixels : yMv 6 yX6_otherPixels cX6_otherPixels 3 (some .int) 0 := ⟨_, rfl, by decide +kernel, ⟨by decide +kernel, by decide +kernel, by decide +kernel⟩, lw_g (List.mem_append_right _ (List.mem_of_getElem? (i := 1006) (by decide +kernel))) rfl, lw_g (List.mem_append_left _ (List.mem_of_getElem? (i := 54) (by decide +kernel))) rfl, lw_g (List.mem_append_right _ (List.mem_of_getElem? (i := 7) (by decide +kernel))) rfl, lw_g (List.mem_append_right _ (List.mem_of_getElem? (i := 1007) (by decide +kernel))) rfl⟩
theorem mX6_pictureBack : yMv 6 yX6_pictureBack cX6_pictureBack 3 (some .int) 0 := ⟨_, rfl, by decide +kernel, ⟨by decide +kernel, by decide +kernel, by decide +kernel⟩, lw_g (List.mem_append_right _ (List.mem_of_getElem? (i := 1009) (by decide +kernel))) rfl, lw_g (List.mem_append_right _ (List.mem_of_getElem? (i := 1010) (by decide +kernel))) rfl, lw_g (List.mem_append_right _ (List.mem_of_getElem? (i := 7) (by decide +kernel))) rfl, lw_g (List.mem_append_right _ (List.mem_of_getElem? (i := 1011) (by decide +kernel))) rfl⟩
theorem mX6_contrast : yMv 6 yX6_contrast cX6_contrast 5 (some .int) 0 := ⟨_, rfl, by decide +kernel, ⟨by decide +kernel, by decide +kernel, by decide +kernel⟩, lw_g (List.mem_append_right _ (List.mem_of_getElem? (i := 1013) (by decide +kernel))) rfl, lw_g (List.mem_append_right _ (List.mem_of_getElem? (i := 1014) (by decide +kernel))) rfl, lw_g (List.mem_append_right _ (List.mem_of_getElem? (i := 7) (by decide +kernel))) rfl, lw_g (List.mem_append_right _ (List.mem_of_getElem? (i := 1015) (by decide +kernel))) rfl⟩
theorem fX3_9 : yF RX3 9 3 0 := ⟨RX3, TX3, 7, rfl, by decide, uwX3, lw_g (List.mem_append_right _ (List.mem_of_getElem? (i := 33) (by decide +kernel))) rfl⟩
theorem fpX3_9 : yFp RX3 9 3 0 .int := ⟨RX3, TX3, 7, tyX3, rfl, by decide, uwX3, lw_g (List.mem_append_right _ (List.mem_of_getElem? (i := 33) (by decide +kernel))) rfl, tyX3_ok, nmX3, rfl, by decide +kernel⟩
theorem fX4_65 : yF RX4 65 3 0 := ⟨RX3, TX3, 7, rfl, by decide, uwX3, lw_g (List.mem_append_right _ (List.mem_of_getElem? (i := 34) (by decide +kernel))) rfl⟩
theorem fpX4_65 : yFp RX4 65 3 0 .int := ⟨RX3, TX3, 7, tyX3, rfl, by decide, uwX3, lw_g (List.mem_append_right _ (List.mem_of_getElem? (i := 34) (by decide +kernel))) rfl, tyX3_ok, nmX3, rfl, by decide +kernel⟩
theorem fX5_189 : yF RX5 189 3 0 := ⟨RX3, TX3, 7, rfl, by decide, uwX3, lw_g (List.mem_append_right _ (List.mem_of_getElem? (i := 35) (by decide +kernel))) rfl⟩
theorem fpX5_189 : yFp RX5 189 3 0 .int := ⟨RX3, TX3, 7, tyX3, rfl, by decide, uwX3, lw_g (List.mem_append_right _ (List.mem_of_getElem? (i := 35) (by decide +kernel))) rfl, tyX3_ok, nmX3, rfl, by decide +kernel⟩
theorem fX3_15 : yF RX3 15 3 1 := ⟨RX3, TX3, 7, rfl, by decide, uwX3, lw_g (List.mem_append_right _ (List.mem_of_getElem? (i := 36) (by decide +kernel))) rfl⟩
theorem fpX3_15 : yFp RX3 15 3 1 .int := ⟨RX3, TX3, 7, tyX3, rfl, by decide, uwX3, lw_g (List.mem_append_right _ (List.mem_of_getElem? (i := 36) (by decide +kernel))) rfl, tyX3_ok, nmX3, rfl, by decide +kernel⟩
theorem fX4_68 : yF RX4 68 3 1 := ⟨RX3, TX3, 7, rfl, by decide, uwX3, lw_g (List.mem_append_right _ (List.mem_of_getElem? (i := 37) (by decide +kernel))) rfl⟩
theorem fpX4_68 : yFp RX4 68 3 1 .int := ⟨RX3, TX3, 7, tyX3, rfl, by decide, uwX3, lw_g (List.mem_append_right _ (List.mem_of_getElem? (i := 37) (by decide +kernel))) rfl, tyX3_ok, nmX3, rfl, by decide +kernel⟩
theorem fX5_192 : yF RX5 192 3 1 := ⟨RX3, TX3, 7, rfl, by decide, uwX3, lw_g (List.mem_append_right _ (List.mem_of_getElem? (i := 38) (by decide +kernel))) rfl⟩
theorem fpX5_192 : yFp RX5 192 3 1 .int := ⟨RX3, TX3, 7, tyX3, rfl, by decide, uwX3, lw_g (List.mem_append_right _ (List.mem_of_getElem? (i := 38) (by decide +kernel))) rfl, tyX3_ok, nmX3, rfl, by decide +kernel⟩
theorem fX3_18 : yF RX3 18 3 2 := ⟨RX3, TX3, 7, rfl, by decide, uwX3, lw_g (List.mem_append_right _ (List.mem_of_getElem? (i := 39) (by decide +kernel))) rfl⟩
theorem fpX3_18 : yFp RX3 18 3 2 .int := ⟨RX3, TX3, 7, tyX3, rfl, by decide, uwX3, lw_g (List.mem_append_right _ (List.mem_of_getElem? (i := 39) (by decide +kernel))) rfl, tyX3_ok, nmX3, rfl, by decide +kernel⟩
theorem fX5_101 : yF RX5 101 3 2 := ⟨RX3, TX3, 7, rfl, by decide, uwX3, lw_g (List.mem_append_right _ (List.mem_of_getElem? (i := 40) (by decide +kernel))) rfl⟩
theorem fpX5_101 : yFp RX5 101 3 2 .int := ⟨RX3, TX3, 7, tyX3, rfl, by decide, uwX3, lw_g (List.mem_append_right _ (List.mem_of_getElem? (i := 40) (by decide +kernel))) rfl, tyX3_ok, nmX3, rfl, by decide +kernel⟩
theorem fX3_21 : yF RX3 21 3 3 := ⟨RX3, TX3, 7, rfl, by decide, uwX3, lw_g (List.mem_append_right _ (List.mem_of_getElem? (i := 41) (by decide +kernel))) rfl⟩
theorem fpX3_21 : yFp RX3 21 3 3 .int := ⟨RX3, TX3, 7, tyX3, rfl, by decide, uwX3, lw_g (List.mem_append_right _ (List.mem_of_getElem? (i := 41) (by decide +kernel))) rfl, tyX3_ok, nmX3, rfl, by decide +kernel⟩
theorem fX5_195 : yF RX5 195 3 3 := ⟨RX3, TX3, 7, rfl, by decide, uwX3, lw_g (List.mem_append_right _ (List.mem_of_getElem? (i := 42) (by decide +kernel))) rfl⟩
theorem fpX5_195 : yFp RX5 195 3 3 .int := ⟨RX3, TX3, 7, tyX3, rfl, by decide, uwX3, lw_g (List.mem_append_right _ (List.mem_of_getElem? (i := 42) (by decide +kernel))) rfl, tyX3_ok, nmX3, rfl, by decide +kernel⟩
theorem fX3_24 : yF RX3 24 3 4 := ⟨RX3, TX3, 7, rfl, by decide, uwX3, lw_g (List.mem_append_right _ (List.mem_of_getElem? (i := 43) (by decide +kernel))) rfl⟩
theorem fpX3_24 : yFp RX3 24 3 4 .boolean := ⟨RX3, TX3, 7, tyX3, rfl, by decide, uwX3, lw_g (List.mem_append_right _ (List.mem_of_getElem? (i := 43) (by decide +kernel))) rfl, tyX3_ok, nmX3, rfl, by decide +kernel⟩
theorem fX5_109 : yF RX5 109 3 4 := ⟨RX3, TX3, 7, rfl, by decide, uwX3, lw_g (List.mem_append_right _ (List.mem_of_getElem? (i := 44) (by decide +kernel))) rfl⟩
theorem fpX5_109 : yFp RX5 109 3 4 .boolean := ⟨RX3, TX3, 7, tyX3, rfl, by decide, uwX3, lw_g (List.mem_append_right _ (List.mem_of_getElem? (i := 44) (by decide +kernel))) rfl, tyX3_ok, nmX3, rfl, by decide +kernel⟩
theorem fX4_90 : yF RX4 90 3 4 := ⟨RX3, TX3, 7, rfl, by decide, uwX3, lw_g (List.mem_append_right _ (List.mem_of_getElem? (i := 45) (by decide +kernel))) rfl⟩
theorem fpX4_90 : yFp RX4 90 3 4 .boolean := ⟨RX3, TX3, 7, tyX3, rfl, by decide, uwX3, lw_g (List.mem_append_right _ (List.mem_of_getElem? (i := 45) (by decide +kernel))) rfl, tyX3_ok, nmX3, rfl, by decide +kernel⟩
theorem fX3_28 : yF RX3 28 3 5 := ⟨RX3, TX3, 7, rfl, by decide, uwX3, lw_g (List.mem_append_right _ (List.mem_of_getElem? (i := 46) (by decide +kernel))) rfl⟩
theorem fpX3_28 : yFp RX3 28 3 5 .int := ⟨RX3, TX3, 7, tyX3, rfl, by decide, uwX3, lw_g (List.mem_append_right _ (List.mem_of_getElem? (i := 46) (by decide +kernel))) rfl, tyX3_ok, nmX3, rfl, by decide +kernel⟩
theorem fX5_198 : yF RX5 198 3 5 := ⟨RX3, TX3, 7, rfl, by decide, uwX3, lw_g (List.mem_append_right _ (List.mem_of_getElem? (i := 47) (by decide +kernel))) rfl⟩
theorem fpX5_198 : yFp RX5 198 3 5 .int := ⟨RX3, TX3, 7, tyX3, rfl, by decide, uwX3, lw_g (List.mem_append_right _ (List.mem_of_getElem? (i := 47) (by decide +kernel))) rfl, tyX3_ok, nmX3, rfl, by decide +kernel⟩
theorem fX3_31 : yF RX3 31 3 6 := ⟨RX3, TX3, 7, rfl, by decide, uwX3, lw_g (List.mem_append_right _ (List.mem_of_getElem? (i := 48) (by decide +kernel))) rfl⟩
theorem fpX3_31 : yFp RX3 31 3 6 .int := ⟨RX3, TX3, 7, tyX3, rfl, by decide, uwX3, lw_g (List.mem_append_right _ (List.mem_of_getElem? (i := 48) (by decide +kernel))) rfl, tyX3_ok, nmX3, rfl, by decide +kernel⟩
theorem fX4_89 : yF RX4 89 3 6 := ⟨RX3, TX3, 7, rfl, by decide, uwX3, lw_g (List.mem_append_right _ (List.mem_of_getElem? (i := 49) (by decide +kernel))) rfl⟩
theorem fpX4_89 : yFp RX4 89 3 6 .int := ⟨RX3, TX3, 7, tyX3, rfl, by decide, uwX3, lw_g (List.mem_append_right _ (List.mem_of_getElem? (i := 49) (by decide +kernel))) rfl, tyX3_ok, nmX3, rfl, by decide +kernel⟩
theorem fX5_199 : yF RX5 199 3 6 := ⟨RX3, TX3, 7, rfl, by decide, uwX3, lw_g (List.mem_append_right _ (List.mem_of_getElem? (i := 50) (by decide +kernel))) rfl⟩
theorem fpX5_199 : yFp RX5 199 3 6 .int := ⟨RX3, TX3, 7, tyX3, rfl, by decide, uwX3, lw_g (List.mem_append_right _ (List.mem_of_getElem? (i := 50) (by decide +kernel))) rfl, tyX3_ok, nmX3, rfl, by decide +kernel⟩
theorem fX0_7 : yF RX0 7 0 0 := ⟨RX0, TX0, 4, rfl, by decide, uwX0, lw_g (List.mem_append_right _ (List.mem_of_getElem? (i := 72) (by decide +kernel))) rfl⟩
theorem fpX0_7 : yFp RX0 7 0 0 .int := ⟨RX0, TX0, 4, tyX0, rfl, by decide, uwX0, lw_g (List.mem_append_right _ (List.mem_of_getElem? (i := 72) (by decide +kernel))) rfl, tyX0_ok, nmX0, rfl, by decide +kernel⟩
theorem fX4_62 : yF RX4 62 0 0 := ⟨RX0, TX0, 4, rfl, by decide, uwX0, lw_g (List.mem_append_right _ (List.mem_of_getElem? (i := 73) (by decide +kernel))) rfl⟩
theorem fpX4_62 : yFp RX4 62 0 0 .int := ⟨RX0, TX0, 4, tyX0, rfl, by decide, uwX0, lw_g (List.mem_append_right _ (List.mem_of_getElem? (i := 73) (by decide +kernel))) rfl, tyX0_ok, nmX0, rfl, by decide +kernel⟩
theorem fX5_209 : yF RX5 209 0 0 := ⟨RX0, TX0, 4, rfl, by decide, uwX0, lw_g (List.mem_append_right _ (List.mem_of_getElem? (i := 74) (by decide +kernel))) rfl⟩
theorem fpX5_209 : yFp RX5 209 0 0 .int := ⟨RX0, TX0, 4, tyX0, rfl, by decide, uwX0, lw_g (List.mem_append_right _ (List.mem_of_getElem? (i := 74) (by decide +kernel))) rfl, tyX0_ok, nmX0, rfl, by decide +kernel⟩
theorem fX0_13 : yF RX0 13 0 1 := ⟨RX0, TX0, 4, rfl, by decide, uwX0, lw_g (List.mem_append_right _ (List.mem_of_getElem? (i := 75) (by decide +kernel))) rfl⟩
theorem fpX0_13 : yFp RX0 13 0 1 .int := ⟨RX0, TX0, 4, tyX0, rfl, by decide, uwX0, lw_g (List.mem_append_right _ (List.mem_of_getElem? (i := 75) (by decide +kernel))) rfl, tyX0_ok, nmX0, rfl, by decide +kernel⟩
theorem fX5_214 : yF RX5 214 0 1 := ⟨RX0, TX0, 4, rfl, by decide, uwX0, lw_g (List.mem_append_right _ (List.mem_of_getElem? (i := 76) (by decide +kernel))) rfl⟩
theorem fpX5_214 : yFp RX5 214 0 1 .int := ⟨RX0, TX0, 4, tyX0, rfl, by decide, uwX0, lw_g (List.mem_append_right _ (List.mem_of_getElem? (i := 76) (by decide +kernel))) rfl, tyX0_ok, nmX0, rfl, by decide +kernel⟩
theorem fX0_16 : yF RX0 16 0 2 := ⟨RX0, TX0, 4, rfl, by decide, uwX0, lw_g (List.mem_append_right _ (List.mem_of_getElem? (i := 77) (by decide +kernel))) rfl⟩
theorem fpX0_16 : yFp RX0 16 0 2 .int := ⟨RX0, TX0, 4, tyX0, rfl, by decide, uwX0, lw_g (List.mem_append_right _ (List.mem_of_getElem? (i := 77) (by decide +kernel))) rfl, tyX0_ok, nmX0, rfl, by decide +kernel⟩
theorem fX5_217 : yF RX5 217 0 2 := ⟨RX0, TX0, 4, rfl, by decide, uwX0, lw_g (List.mem_append_right _ (List.mem_of_getElem? (i := 78) (by decide +kernel))) rfl⟩
theorem fpX5_217 : yFp RX5 217 0 2 .int := ⟨RX0, TX0, 4, tyX0, rfl, by decide, uwX0, lw_g (List.mem_append_right _ (List.mem_of_getElem? (i := 78) (by decide +kernel))) rfl, tyX0_ok, nmX0, rfl, by decide +kernel⟩
theorem fX0_19 : yF RX0 19 0 3 := ⟨RX0, TX0, 4, rfl, by decide, uwX0, lw_g (List.mem_append_right _ (List.mem_of_getElem? (i := 79) (by decide +kernel))) rfl⟩
theorem fpX0_19 : yFp RX0 19 0 3 .int := ⟨RX0, TX0, 4, tyX0, rfl, by decide, uwX0, lw_g (List.mem_append_right _ (List.mem_of_getElem? (i := 79) (by decide +kernel))) rfl, tyX0_ok, nmX0, rfl, by decide +kernel⟩
theorem fX4_81 : yF RX4 81 0 3 := ⟨RX0, TX0, 4, rfl, by decide, uwX0, lw_g (List.mem_append_right _ (List.mem_of_getElem? (i := 80) (by decide +kernel))) rfl⟩
theorem fpX4_81 : yFp RX4 81 0 3 .int := ⟨RX0, TX0, 4, tyX0, rfl, by decide, uwX0, lw_g (List.mem_append_right _ (List.mem_of_getElem? (i := 80) (by decide +kernel))) rfl, tyX0_ok, nmX0, rfl, by decide +kernel⟩
theorem fX5_218 : yF RX5 218 0 3 := ⟨RX0, TX0, 4, rfl, by decide, uwX0, lw_g (List.mem_append_right _ (List.mem_of_getElem? (i := 81) (by decide +kernel))) rfl⟩
theorem fpX5_218 : yFp RX5 218 0 3 .int := ⟨RX0, TX0, 4, tyX0, rfl, by decide, uwX0, lw_g (List.mem_append_right _ (List.mem_of_getElem? (i := 81) (by decide +kernel))) rfl, tyX0_ok, nmX0, rfl, by decide +kernel⟩
theorem fX4_9 : yF RX4 9 4 0 := ⟨RX4, TX4, 8, rfl, by decide, uwX4, lw_g (List.mem_append_right _ (List.mem_of_getElem? (i := 91) (by decide +kernel))) rfl⟩
theorem fX5_48 : yF RX5 48 4 0 := ⟨RX4, TX4, 8, rfl, by decide, uwX4, lw_g (List.mem_append_right _ (List.mem_of_getElem? (i := 92) (by decide +kernel))) rfl⟩
theorem fX4_15 : yF RX4 15 4 1 := ⟨RX4, TX4, 8, rfl, by decide, uwX4, lw_g (List.mem_append_right _ (List.mem_of_getElem? (i := 93) (by decide +kernel))) rfl⟩
theorem fX5_166 : yF RX5 166 4 1 := ⟨RX4, TX4, 8, rfl, by decide, uwX4, lw_g (List.mem_append_right _ (List.mem_of_getElem? (i := 94) (by decide +kernel))) rfl⟩
theorem fX4_20 : yF RX4 20 4 2 := ⟨RX4, TX4, 8, rfl, by decide, uwX4, lw_g (List.mem_append_right _ (List.mem_of_getElem? (i := 95) (by decide +kernel))) rfl⟩
theorem fX5_97 : yF RX5 97 4 2 := ⟨RX4, TX4, 8, rfl, by decide, uwX4, lw_g (List.mem_append_right _ (List.mem_of_getElem? (i := 96) (by decide +kernel))) rfl⟩
theorem fX4_26 : yF RX4 26 4 3 := ⟨RX4, TX4, 8, rfl, by decide, uwX4, lw_g (List.mem_append_right _ (List.mem_of_getElem? (i := 97) (by decide +kernel))) rfl⟩
theorem fX5_205 : yF RX5 205 4 3 := ⟨RX4, TX4, 8, rfl, by decide, uwX4, lw_g (List.mem_append_right _ (List.mem_of_getElem? (i := 98) (by decide +kernel))) rfl⟩
theorem fX4_30 : yF RX4 30 4 4 := ⟨RX4, TX4, 8, rfl, by decide, uwX4, lw_g (List.mem_append_right _ (List.mem_of_getElem? (i := 99) (by decide +kernel))) rfl⟩
theorem fpX4_30 : yFp RX4 30 4 4 .int := ⟨RX4, TX4, 8, tyX4, rfl, by decide, uwX4, lw_g (List.mem_append_right _ (List.mem_of_getElem? (i := 99) (by decide +kernel))) rfl, tyX4_ok, nmX4, rfl, by decide +kernel⟩
theorem fX5_83 : yF RX5 83 4 4 := ⟨RX4, TX4, 8, rfl, by decide, uwX4, lw_g (List.mem_append_right _ (List.mem_of_getElem? (i := 100) (by decide +kernel))) rfl⟩
theorem fpX5_83 : yFp RX5 83 4 4 .int := ⟨RX4, TX4, 8, tyX4, rfl, by decide, uwX4, lw_g (List.mem_append_right _ (List.mem_of_getElem? (i := 100) (by decide +kernel))) rfl, tyX4_ok, nmX4, rfl, by decide +kernel⟩
theorem fX4_34 : yF RX4 34 4 5 := ⟨RX4, TX4, 8, rfl, by decide, uwX4, lw_g (List.mem_append_right _ (List.mem_of_getElem? (i := 101) (by decide +kernel))) rfl⟩
theorem fpX4_34 : yFp RX4 34 4 5 .int := ⟨RX4, TX4, 8, tyX4, rfl, by decide, uwX4, lw_g (List.mem_append_right _ (List.mem_of_getElem? (i := 101) (by decide +kernel))) rfl, tyX4_ok, nmX4, rfl, by decide +kernel⟩
theorem fX5_121 : yF RX5 121 4 5 := ⟨RX4, TX4, 8, rfl, by decide, uwX4, lw_g (List.mem_append_right _ (List.mem_of_getElem? (i := 102) (by decide +kernel))) rfl⟩
theorem fpX5_121 : yFp RX5 121 4 5 .int := ⟨RX4, TX4, 8, tyX4, rfl, by decide, uwX4, lw_g (List.mem_append_right _ (List.mem_of_getElem? (i := 102) (by decide +kernel))) rfl, tyX4_ok, nmX4, rfl, by decide +kernel⟩
theorem fX4_37 : yF RX4 37 4 6 := ⟨RX4, TX4, 8, rfl, by decide, uwX4, lw_g (List.mem_append_right _ (List.mem_of_getElem? (i := 103) (by decide +kernel))) rfl⟩
theorem fpX4_37 : yFp RX4 37 4 6 .int := ⟨RX4, TX4, 8, tyX4, rfl, by decide, uwX4, lw_g (List.mem_append_right _ (List.mem_of_getElem? (i := 103) (by decide +kernel))) rfl, tyX4_ok, nmX4, rfl, by decide +kernel⟩
theorem fX5_222 : yF RX5 222 4 6 := ⟨RX4, TX4, 8, rfl, by decide, uwX4, lw_g (List.mem_append_right _ (List.mem_of_getElem? (i := 104) (by decide +kernel))) rfl⟩
theorem fpX5_222 : yFp RX5 222 4 6 .int := ⟨RX4, TX4, 8, tyX4, rfl, by decide, uwX4, lw_g (List.mem_append_right _ (List.mem_of_getElem? (i := 104) (by decide +kernel))) rfl, tyX4_ok, nmX4, rfl, by decide +kernel⟩
theorem fX4_40 : yF RX4 40 4 7 := ⟨RX4, TX4, 8, rfl, by decide, uwX4, lw_g (List.mem_append_right _ (List.mem_of_getElem? (i := 105) (by decide +kernel))) rfl⟩
theorem fpX4_40 : yFp RX4 40 4 7 .int := ⟨RX4, TX4, 8, tyX4, rfl, by decide, uwX4, lw_g (List.mem_append_right _ (List.mem_of_getElem? (i := 105) (by decide +kernel))) rfl, tyX4_ok, nmX4, rfl, by decide +kernel⟩
theorem fX5_223 : yF RX5 223 4 7 := ⟨RX4, TX4, 8, rfl, by decide, uwX4, lw_g (List.mem_append_right _ (List.mem_of_getElem? (i := 106) (by decide +kernel))) rfl⟩
theorem fpX5_223 : yFp RX5 223 4 7 .int := ⟨RX4, TX4, 8, tyX4, rfl, by decide, uwX4, lw_g (List.mem_append_right _ (List.mem_of_getElem? (i := 106) (by decide +kernel))) rfl, tyX4_ok, nmX4, rfl, by decide +kernel⟩
theorem fX1_11 : yF RX1 11 1 0 := ⟨RX1, TX1, 4, rfl, by decide, uwX1, lw_g (List.mem_append_right _ (List.mem_of_getElem? (i := 133) (by decide +kernel))) rfl⟩
theorem fX1_18 : yF RX1 18 1 1 := ⟨RX1, TX1, 4, rfl, by decide, uwX1, lw_g (List.mem_append_right _ (List.mem_of_getElem? (i := 134) (by decide +kernel))) rfl⟩
theorem fX5_177 : yF RX5 177 1 1 := ⟨RX1, TX1, 4, rfl, by decide, uwX1, lw_g (List.mem_append_right _ (List.mem_of_getElem? (i := 135) (by decide +kernel))) rfl⟩
theorem fX1_22 : yF RX1 22 1 2 := ⟨RX1, TX1, 4, rfl, by decide, uwX1, lw_g (List.mem_append_right _ (List.mem_of_getElem? (i := 136) (by decide +kernel))) rfl⟩
theorem fpX1_22 : yFp RX1 22 1 2 .int := ⟨RX1, TX1, 4, tyX1, rfl, by decide, uwX1, lw_g (List.mem_append_right _ (List.mem_of_getElem? (i := 136) (by decide +kernel))) rfl, tyX1_ok, nmX1, rfl, by decide +kernel⟩
theorem fX5_172 : yF RX5 172 1 2 := ⟨RX1, TX1, 4, rfl, by decide, uwX1, lw_g (List.mem_append_right _ (List.mem_of_getElem? (i := 137) (by decide +kernel))) rfl⟩
theorem fpX5_172 : yFp RX5 172 1 2 .int := ⟨RX1, TX1, 4, tyX1, rfl, by decide, uwX1, lw_g (List.mem_append_right _ (List.mem_of_getElem? (i := 137) (by decide +kernel))) rfl, tyX1_ok, nmX1, rfl, by decide +kernel⟩
theorem fX1_26 : yF RX1 26 1 3 := ⟨RX1, TX1, 4, rfl, by decide, uwX1, lw_g (List.mem_append_right _ (List.mem_of_getElem? (i := 138) (by decide +kernel))) rfl⟩
theorem fpX1_26 : yFp RX1 26 1 3 .boolean := ⟨RX1, TX1, 4, tyX1, rfl, by decide, uwX1, lw_g (List.mem_append_right _ (List.mem_of_getElem? (i := 138) (by decide +kernel))) rfl, tyX1_ok, nmX1, rfl, by decide +kernel⟩
theorem fX5_183 : yF RX5 183 1 3 := ⟨RX1, TX1, 4, rfl, by decide, uwX1, lw_g (List.mem_append_right _ (List.mem_of_getElem? (i := 139) (by decide +kernel))) rfl⟩
theorem fpX5_183 : yFp RX5 183 1 3 .boolean := ⟨RX1, TX1, 4, tyX1, rfl, by decide, uwX1, lw_g (List.mem_append_right _ (List.mem_of_getElem? (i := 139) (by decide +kernel))) rfl, tyX1_ok, nmX1, rfl, by decide +kernel⟩
theorem fX2_9 : yF RX2 9 2 0 := ⟨RX2, TX2, 6, rfl, by decide, uwX2, lw_g (List.mem_append_right _ (List.mem_of_getElem? (i := 155) (by decide +kernel))) rfl⟩
theorem fX2_15 : yF RX2 15 2 1 := ⟨RX2, TX2, 6, rfl, by decide, uwX2, lw_g (List.mem_append_right _ (List.mem_of_getElem? (i := 156) (by decide +kernel))) rfl⟩
theorem fX2_19 : yF RX2 19 2 2 := ⟨RX2, TX2, 6, rfl, by decide, uwX2, lw_g (List.mem_append_right _ (List.mem_of_getElem? (i := 157) (by decide +kernel))) rfl⟩
theorem fX2_22 : yF RX2 22 2 3 := ⟨RX2, TX2, 6, rfl, by decide, uwX2, lw_g (List.mem_append_right _ (List.mem_of_getElem? (i := 158) (by decide +kernel))) rfl⟩
theorem fpX2_22 : yFp RX2 22 2 3 .int := ⟨RX2, TX2, 6, tyX2, rfl, by decide, uwX2, lw_g (List.mem_append_right _ (List.mem_of_getElem? (i := 158) (by decide +kernel))) rfl, tyX2_ok, nmX2, rfl, by decide +kernel⟩
theorem fX5_156 : yF RX5 156 2 3 := ⟨RX2, TX2, 6, rfl, by decide, uwX2, lw_g (List.mem_append_right _ (List.mem_of_getElem? (i := 159) (by decide +kernel))) rfl⟩
theorem fpX5_156 : yFp RX5 156 2 3 .int := ⟨RX2, TX2, 6, tyX2, rfl, by decide, uwX2, lw_g (List.mem_append_right _ (List.mem_of_getElem? (i := 159) (by decide +kernel))) rfl, tyX2_ok, nmX2, rfl, by decide +kernel⟩
theorem fX2_26 : yF RX2 26 2 4 := ⟨RX2, TX2, 6, rfl, by decide, uwX2, lw_g (List.mem_append_right _ (List.mem_of_getElem? (i := 160) (by decide +kernel))) rfl⟩
theorem fpX2_26 : yFp RX2 26 2 4 .int := ⟨RX2, TX2, 6, tyX2, rfl, by decide, uwX2, lw_g (List.mem_append_right _ (List.mem_of_getElem? (i := 160) (by decide +kernel))) rfl, tyX2_ok, nmX2, rfl, by decide +kernel⟩
theorem fX5_147 : yF RX5 147 2 4 := ⟨RX2, TX2, 6, rfl, by decide, uwX2, lw_g (List.mem_append_right _ (List.mem_of_getElem? (i := 161) (by decide +kernel))) rfl⟩
theorem fpX5_147 : yFp RX5 147 2 4 .int := ⟨RX2, TX2, 6, tyX2, rfl, by decide, uwX2, lw_g (List.mem_append_right _ (List.mem_of_getElem? (i := 161) (by decide +kernel))) rfl, tyX2_ok, nmX2, rfl, by decide +kernel⟩
theorem fX2_29 : yF RX2 29 2 5 := ⟨RX2, TX2, 6, rfl, by decide, uwX2, lw_g (List.mem_append_right _ (List.mem_of_getElem? (i := 162) (by decide +kernel))) rfl⟩
theorem fpX2_29 : yFp RX2 29 2 5 .int := ⟨RX2, TX2, 6, tyX2, rfl, by decide, uwX2, lw_g (List.mem_append_right _ (List.mem_of_getElem? (i := 162) (by decide +kernel))) rfl, tyX2_ok, nmX2, rfl, by decide +kernel⟩
theorem fX5_150 : yF RX5 150 2 5 := ⟨RX2, TX2, 6, rfl, by decide, uwX2, lw_g (List.mem_append_right _ (List.mem_of_getElem? (i := 163) (by decide +kernel))) rfl⟩
theorem fpX5_150 : yFp RX5 150 2 5 .int := ⟨RX2, TX2, 6, tyX2, rfl, by decide, uwX2, lw_g (List.mem_append_right _ (List.mem_of_getElem? (i := 163) (by decide +kernel))) rfl, tyX2_ok, nmX2, rfl, by decide +kernel⟩
theorem fX5_12 : yF RX5 12 5 0 := ⟨RX5, TX5, 6, rfl, by decide, uwX5, lw_g (List.mem_append_right _ (List.mem_of_getElem? (i := 178) (by decide +kernel))) rfl⟩
theorem fX5_19 : yF RX5 19 5 1 := ⟨RX5, TX5, 6, rfl, by decide, uwX5, lw_g (List.mem_append_right _ (List.mem_of_getElem? (i := 179) (by decide +kernel))) rfl⟩
theorem fX5_26 : yF RX5 26 5 2 := ⟨RX5, TX5, 6, rfl, by decide, uwX5, lw_g (List.mem_append_right _ (List.mem_of_getElem? (i := 180) (by decide +kernel))) rfl⟩
theorem fX5_30 : yF RX5 30 5 3 := ⟨RX5, TX5, 6, rfl, by decide, uwX5, lw_g (List.mem_append_right _ (List.mem_of_getElem? (i := 181) (by decide +kernel))) rfl⟩
theorem fX5_34 : yF RX5 34 5 4 := ⟨RX5, TX5, 6, rfl, by decide, uwX5, lw_g (List.mem_append_right _ (List.mem_of_getElem? (i := 182) (by decide +kernel))) rfl⟩
theorem fX5_38 : yF RX5 38 5 5 := ⟨RX5, TX5, 6, rfl, by decide, uwX5, lw_g (List.mem_append_right _ (List.mem_of_getElem? (i := 183) (by decide +kernel))) rfl⟩
theorem fX6_7 : yF RX6 7 6 0 := ⟨RX6, TX6, 19, rfl, by decide, uwX6, lw_g (List.mem_append_right _ (List.mem_of_getElem? (i := 644) (by decide +kernel))) rfl⟩
theorem fX6_13 : yF RX6 13 6 1 := ⟨RX6, TX6, 19, rfl, by decide, uwX6, lw_g (List.mem_append_right _ (List.mem_of_getElem? (i := 645) (by decide +kernel))) rfl⟩
theorem fX6_49 : yF RX6 49 6 2 := ⟨RX6, TX6, 19, rfl, by decide, uwX6, lw_g (List.mem_append_right _ (List.mem_of_getElem? (i := 646) (by decide +kernel))) rfl⟩
theorem fpX6_49 : yFp RX6 49 6 2 .int := ⟨RX6, TX6, 19, tyX6, rfl, by decide, uwX6, lw_g (List.mem_append_right _ (List.mem_of_getElem? (i := 646) (by decide +kernel))) rfl, tyX6_ok, nmX6, rfl, by decide +kernel⟩
theorem fX6_16 : yF RX6 16 6 3 := ⟨RX6, TX6, 19, rfl, by decide, uwX6, lw_g (List.mem_append_right _ (List.mem_of_getElem? (i := 647) (by decide +kernel))) rfl⟩
theorem fX6_53 : yF RX6 53 6 4 := ⟨RX6, TX6, 19, rfl, by decide, uwX6, lw_g (List.mem_append_right _ (List.mem_of_getElem? (i := 648) (by decide +kernel))) rfl⟩
theorem fpX6_53 : yFp RX6 53 6 4 .boolean := ⟨RX6, TX6, 19, tyX6, rfl, by decide, uwX6, lw_g (List.mem_append_right _ (List.mem_of_getElem? (i := 648) (by decide +kernel))) rfl, tyX6_ok, nmX6, rfl, by decide +kernel⟩
theorem fX6_19 : yF RX6 19 6 5 := ⟨RX6, TX6, 19, rfl, by decide, uwX6, lw_g (List.mem_append_right _ (List.mem_of_getElem? (i := 649) (by decide +kernel))) rfl⟩
theorem fX6_22 : yF RX6 22 6 6 := ⟨RX6, TX6, 19, rfl, by decide, uwX6, lw_g (List.mem_append_right _ (List.mem_of_getElem? (i := 650) (by decide +kernel))) rfl⟩
theorem fX6_25 : yF RX6 25 6 7 := ⟨RX6, TX6, 19, rfl, by decide, uwX6, lw_g (List.mem_append_right _ (List.mem_of_getElem? (i := 651) (by decide +kernel))) rfl⟩
theorem fX6_140 : yF RX6 140 6 8 := ⟨RX6, TX6, 19, rfl, by decide, uwX6, lw_g (List.mem_append_right _ (List.mem_of_getElem? (i := 652) (by decide +kernel))) rfl⟩
theorem fpX6_140 : yFp RX6 140 6 8 .int := ⟨RX6, TX6, 19, tyX6, rfl, by decide, uwX6, lw_g (List.mem_append_right _ (List.mem_of_getElem? (i := 652) (by decide +kernel))) rfl, tyX6_ok, nmX6, rfl, by decide +kernel⟩
theorem fX6_143 : yF RX6 143 6 9 := ⟨RX6, TX6, 19, rfl, by decide, uwX6, lw_g (List.mem_append_right _ (List.mem_of_getElem? (i := 653) (by decide +kernel))) rfl⟩
theorem fpX6_143 : yFp RX6 143 6 9 .int := ⟨RX6, TX6, 19, tyX6, rfl, by decide, uwX6, lw_g (List.mem_append_right _ (List.mem_of_getElem? (i := 653) (by decide +kernel))) rfl, tyX6_ok, nmX6, rfl, by decide +kernel⟩
theorem fX6_155 : yF RX6 155 6 10 := ⟨RX6, TX6, 19, rfl, by decide, uwX6, lw_g (List.mem_append_right _ (List.mem_of_getElem? (i := 654) (by decide +kernel))) rfl⟩
theorem fpX6_155 : yFp RX6 155 6 10 .int := ⟨RX6, TX6, 19, tyX6, rfl, by decide, uwX6, lw_g (List.mem_append_right _ (List.mem_of_getElem? (i := 654) (by decide +kernel))) rfl, tyX6_ok, nmX6, rfl, by decide +kernel⟩
theorem fX6_28 : yF RX6 28 6 11 := ⟨RX6, TX6, 19, rfl, by decide, uwX6, lw_g (List.mem_append_right _ (List.mem_of_getElem? (i := 655) (by decide +kernel))) rfl⟩
theorem fX6_32 : yF RX6 32 6 12 := ⟨RX6, TX6, 19, rfl, by decide, uwX6, lw_g (List.mem_append_right _ (List.mem_of_getElem? (i := 656) (by decide +kernel))) rfl⟩
theorem fX6_35 : yF RX6 35 6 13 := ⟨RX6, TX6, 19, rfl, by decide, uwX6, lw_g (List.mem_append_right _ (List.mem_of_getElem? (i := 657) (by decide +kernel))) rfl⟩
theorem fX6_152 : yF RX6 152 6 14 := ⟨RX6, TX6, 19, rfl, by decide, uwX6, lw_g (List.mem_append_right _ (List.mem_of_getElem? (i := 658) (by decide +kernel))) rfl⟩
theorem fpX6_152 : yFp RX6 152 6 14 .int := ⟨RX6, TX6, 19, tyX6, rfl, by decide, uwX6, lw_g (List.mem_append_right _ (List.mem_of_getElem? (i := 658) (by decide +kernel))) rfl, tyX6_ok, nmX6, rfl, by decide +kernel⟩
theorem fX6_171 : yF RX6 171 6 15 := ⟨RX6, TX6, 19, rfl, by decide, uwX6, lw_g (List.mem_append_right _ (List.mem_of_getElem? (i := 659) (by decide +kernel))) rfl⟩
theorem fpX6_171 : yFp RX6 171 6 15 .int := ⟨RX6, TX6, 19, tyX6, rfl, by decide, uwX6, lw_g (List.mem_append_right _ (List.mem_of_getElem? (i := 659) (by decide +kernel))) rfl, tyX6_ok, nmX6, rfl, by decide +kernel⟩
theorem fX6_161 : yF RX6 161 6 16 := ⟨RX6, TX6, 19, rfl, by decide, uwX6, lw_g (List.mem_append_right _ (List.mem_of_getElem? (i := 660) (by decide +kernel))) rfl⟩
theorem fpX6_161 : yFp RX6 161 6 16 .int := ⟨RX6, TX6, 19, tyX6, rfl, by decide, uwX6, lw_g (List.mem_append_right _ (List.mem_of_getElem? (i := 660) (by decide +kernel))) rfl, tyX6_ok, nmX6, rfl, by decide +kernel⟩
theorem fX6_38 : yF RX6 38 6 17 := ⟨RX6, TX6, 19, rfl, by decide, uwX6, lw_g (List.mem_append_right _ (List.mem_of_getElem? (i := 661) (by decide +kernel))) rfl⟩
theorem fX6_41 : yF RX6 41 6 18 := ⟨RX6, TX6, 19, rfl, by decide, uwX6, lw_g (List.mem_append_right _ (List.mem_of_getElem? (i := 662) (by decide +kernel))) rfl⟩
theorem kX5_3 : Cond.methodLink RX5 3 objectInit ∈ lw_gt := lw_g (List.mem_append_right _ (List.mem_of_getElem? (i := 15) (by decide +kernel))) rfl
theorem kX5_11 : Cond.methodLink RX5 11 yX4_init ∈ lw_gt := lw_g (List.mem_append_right _ (List.mem_of_getElem? (i := 20) (by decide +kernel))) rfl
theorem kX4_3 : Cond.methodLink RX4 3 objectInit ∈ lw_gt := lw_g (List.mem_append_right _ (List.mem_of_getElem? (i := 23) (by decide +kernel))) rfl
theorem kX3_3 : Cond.methodLink RX3 3 objectInit ∈ lw_gt := lw_g (List.mem_append_right _ (List.mem_of_getElem? (i := 32) (by decide +kernel))) rfl
theorem kX0_1 : Cond.methodLink RX0 1 objectInit ∈ lw_gt := lw_g (List.mem_append_right _ (List.mem_of_getElem? (i := 71) (by decide +kernel))) rfl
theorem kX5_18 : Cond.methodLink RX5 18 yX1_init ∈ lw_gt := lw_g (List.mem_append_right _ (List.mem_of_getElem? (i := 126) (by decide +kernel))) rfl
theorem kX1_3 : Cond.methodLink RX1 3 objectInit ∈ lw_gt := lw_g (List.mem_append_right _ (List.mem_of_getElem? (i := 129) (by decide +kernel))) rfl
theorem kX1_17 : Cond.methodLink RX1 17 yX4_init ∈ lw_gt := lw_g (List.mem_append_right _ (List.mem_of_getElem? (i := 132) (by decide +kernel))) rfl
theorem kX2_3 : Cond.methodLink RX2 3 objectInit ∈ lw_gt := lw_g (List.mem_append_right _ (List.mem_of_getElem? (i := 154) (by decide +kernel))) rfl
theorem kX5_41 : Cond.methodLink RX5 41 yX5_isPlace ∈ lw_gt := lw_g (List.mem_append_right _ (List.mem_of_getElem? (i := 202) (by decide +kernel))) rfl
theorem kX5_45 : Cond.methodLink RX5 45 yX5_isColour ∈ lw_gt := lw_g (List.mem_append_right _ (List.mem_of_getElem? (i := 205) (by decide +kernel))) rfl
theorem kX5_51 : Cond.methodLink RX5 51 yX1_record ∈ lw_gt := lw_g (List.mem_append_right _ (List.mem_of_getElem? (i := 209) (by decide +kernel))) rfl
theorem kX1_30 : Cond.methodLink RX1 30 yX1_dropOldest ∈ lw_gt := lw_g (List.mem_append_right _ (List.mem_of_getElem? (i := 213) (by decide +kernel))) rfl
theorem kX1_33 : Cond.methodLink RX1 33 yX4_copy ∈ lw_gt := lw_g (List.mem_append_right _ (List.mem_of_getElem? (i := 217) (by decide +kernel))) rfl
theorem kX4_45 : Cond.methodLink RX4 45 arraycopyName ∈ lw_gt := lw_g (List.mem_append_right _ (List.mem_of_getElem? (i := 221) (by decide +kernel))) rfl
theorem kX4_51 : Cond.methodLink RX4 51 yX3_copy ∈ lw_gt := lw_g (List.mem_append_right _ (List.mem_of_getElem? (i := 224) (by decide +kernel))) rfl
theorem kX4_55 : Cond.methodLink RX4 55 yX0_copy ∈ lw_gt := lw_g (List.mem_append_right _ (List.mem_of_getElem? (i := 228) (by decide +kernel))) rfl
theorem kX5_55 : Cond.methodLink RX5 55 yX5_mixed ∈ lw_gt := lw_g (List.mem_append_right _ (List.mem_of_getElem? (i := 236) (by decide +kernel))) rfl
theorem kX5_265 : Cond.methodLink RX5 265 yX5_part ∈ lw_gt := lw_g (List.mem_append_right _ (List.mem_of_getElem? (i := 239) (by decide +kernel))) rfl
theorem kX5_268 : Cond.methodLink RX5 268 yX5_mixedPart ∈ lw_gt := lw_g (List.mem_append_right _ (List.mem_of_getElem? (i := 242) (by decide +kernel))) rfl
theorem kX5_59 : Cond.methodLink RX5 59 yX5_otherShades ∈ lw_gt := lw_g (List.mem_append_right _ (List.mem_of_getElem? (i := 245) (by decide +kernel))) rfl
theorem kX5_63 : Cond.methodLink RX5 63 yX5_setShades ∈ lw_gt := lw_g (List.mem_append_right _ (List.mem_of_getElem? (i := 249) (by decide +kernel))) rfl
theorem kX5_67 : Cond.methodLink RX5 67 yX5_findShades ∈ lw_gt := lw_g (List.mem_append_right _ (List.mem_of_getElem? (i := 257) (by decide +kernel))) rfl
theorem kX5_186 : Cond.methodLink RX5 186 yX4_shade ∈ lw_gt := lw_g (List.mem_append_right _ (List.mem_of_getElem? (i := 261) (by decide +kernel))) rfl
theorem kX4_98 : Cond.methodLink RX4 98 yX4_rangeAt ∈ lw_gt := lw_g (List.mem_append_right _ (List.mem_of_getElem? (i := 265) (by decide +kernel))) rfl
theorem kX4_58 : Cond.methodLink RX4 58 yX3_holds ∈ lw_gt := lw_g (List.mem_append_right _ (List.mem_of_getElem? (i := 269) (by decide +kernel))) rfl
theorem kX4_106 : Cond.methodLink RX4 106 yX3_source ∈ lw_gt := lw_g (List.mem_append_right _ (List.mem_of_getElem? (i := 273) (by decide +kernel))) rfl
theorem kX3_54 : Cond.methodLink RX3 54 yX3_turn ∈ lw_gt := lw_g (List.mem_append_right _ (List.mem_of_getElem? (i := 277) (by decide +kernel))) rfl
theorem kX3_41 : Cond.methodLink RX3 41 yX3_fullSteps ∈ lw_gt := lw_g (List.mem_append_right _ (List.mem_of_getElem? (i := 281) (by decide +kernel))) rfl
theorem kX3_45 : Cond.methodLink RX3 45 yJ9_floorMod ∈ lw_gt := lw_g (List.mem_append_right _ (List.mem_of_getElem? (i := 285) (by decide +kernel))) rfl
theorem kX3_51 : Cond.methodLink RX3 51 yX3_places ∈ lw_gt := lw_g (List.mem_append_right _ (List.mem_of_getElem? (i := 288) (by decide +kernel))) rfl
theorem kX4_102 : Cond.methodLink RX4 102 yX4_glowAt ∈ lw_gt := lw_g (List.mem_append_right _ (List.mem_of_getElem? (i := 292) (by decide +kernel))) rfl
theorem kX4_110 : Cond.methodLink RX4 110 yX0_shade ∈ lw_gt := lw_g (List.mem_append_right _ (List.mem_of_getElem? (i := 296) (by decide +kernel))) rfl
theorem kX0_26 : Cond.methodLink RX0 26 yX0_strength ∈ lw_gt := lw_g (List.mem_append_right _ (List.mem_of_getElem? (i := 300) (by decide +kernel))) rfl
theorem kX0_22 : Cond.methodLink RX0 22 yX0_fullTicks ∈ lw_gt := lw_g (List.mem_append_right _ (List.mem_of_getElem? (i := 304) (by decide +kernel))) rfl
theorem kX5_70 : Cond.methodLink RX5 70 yX4_beginAgain ∈ lw_gt := lw_g (List.mem_append_right _ (List.mem_of_getElem? (i := 309) (by decide +kernel))) rfl
theorem kX4_78 : Cond.methodLink RX4 78 yX3_beginAgain ∈ lw_gt := lw_g (List.mem_append_right _ (List.mem_of_getElem? (i := 313) (by decide +kernel))) rfl
theorem kX5_73 : Cond.methodLink RX5 73 yX5_isLength ∈ lw_gt := lw_g (List.mem_append_right _ (List.mem_of_getElem? (i := 321) (by decide +kernel))) rfl
theorem kX5_76 : Cond.methodLink RX5 76 yX5_isWay ∈ lw_gt := lw_g (List.mem_append_right _ (List.mem_of_getElem? (i := 324) (by decide +kernel))) rfl
theorem kX5_79 : Cond.methodLink RX5 79 yX4_hasRangeBetween ∈ lw_gt := lw_g (List.mem_append_right _ (List.mem_of_getElem? (i := 327) (by decide +kernel))) rfl
theorem kX5_87 : Cond.methodLink RX5 87 yX4_appendRange ∈ lw_gt := lw_g (List.mem_append_right _ (List.mem_of_getElem? (i := 331) (by decide +kernel))) rfl
theorem kX4_71 : Cond.methodLink RX4 71 yX3_begin ∈ lw_gt := lw_g (List.mem_append_right _ (List.mem_of_getElem? (i := 335) (by decide +kernel))) rfl
theorem kX3_34 : Cond.methodLink RX3 34 yX3_changeSpeed ∈ lw_gt := lw_g (List.mem_append_right _ (List.mem_of_getElem? (i := 339) (by decide +kernel))) rfl
theorem kX3_38 : Cond.methodLink RX3 38 yX3_beginAgain ∈ lw_gt := lw_g (List.mem_append_right _ (List.mem_of_getElem? (i := 343) (by decide +kernel))) rfl
theorem kX5_90 : Cond.methodLink RX5 90 yX5_isRange ∈ lw_gt := lw_g (List.mem_append_right _ (List.mem_of_getElem? (i := 348) (by decide +kernel))) rfl
theorem kX5_93 : Cond.methodLink RX5 93 yX4_dropRange ∈ lw_gt := lw_g (List.mem_append_right _ (List.mem_of_getElem? (i := 352) (by decide +kernel))) rfl
theorem kX5_106 : Cond.methodLink RX5 106 yX3_changeSpeed ∈ lw_gt := lw_g (List.mem_append_right _ (List.mem_of_getElem? (i := 360) (by decide +kernel))) rfl
theorem kX5_113 : Cond.methodLink RX5 113 yX4_runningRanges ∈ lw_gt := lw_g (List.mem_append_right _ (List.mem_of_getElem? (i := 365) (by decide +kernel))) rfl
theorem kX5_117 : Cond.methodLink RX5 117 yX4_glowAt ∈ lw_gt := lw_g (List.mem_append_right _ (List.mem_of_getElem? (i := 373) (by decide +kernel))) rfl
theorem kX5_124 : Cond.methodLink RX5 124 yX4_appendGlow ∈ lw_gt := lw_g (List.mem_append_right _ (List.mem_of_getElem? (i := 374) (by decide +kernel))) rfl
theorem kX4_75 : Cond.methodLink RX4 75 yX0_begin ∈ lw_gt := lw_g (List.mem_append_right _ (List.mem_of_getElem? (i := 378) (by decide +kernel))) rfl
theorem kX5_128 : Cond.methodLink RX5 128 yX5_isGlow ∈ lw_gt := lw_g (List.mem_append_right _ (List.mem_of_getElem? (i := 386) (by decide +kernel))) rfl
theorem kX5_131 : Cond.methodLink RX5 131 yX4_dropGlow ∈ lw_gt := lw_g (List.mem_append_right _ (List.mem_of_getElem? (i := 390) (by decide +kernel))) rfl
theorem kX5_134 : Cond.methodLink RX5 134 yX4_advance ∈ lw_gt := lw_g (List.mem_append_right _ (List.mem_of_getElem? (i := 398) (by decide +kernel))) rfl
theorem kX4_82 : Cond.methodLink RX4 82 yX3_advance ∈ lw_gt := lw_g (List.mem_append_right _ (List.mem_of_getElem? (i := 402) (by decide +kernel))) rfl
theorem kX4_86 : Cond.methodLink RX4 86 yX0_advance ∈ lw_gt := lw_g (List.mem_append_right _ (List.mem_of_getElem? (i := 406) (by decide +kernel))) rfl
theorem kX5_138 : Cond.methodLink RX5 138 yX2_fault ∈ lw_gt := lw_g (List.mem_append_right _ (List.mem_of_getElem? (i := 414) (by decide +kernel))) rfl
theorem kX2_43 : Cond.methodLink RX2 43 yX2_signAt ∈ lw_gt := lw_g (List.mem_append_right _ (List.mem_of_getElem? (i := 418) (by decide +kernel))) rfl
theorem kX2_51 : Cond.methodLink RX2 51 yX2_isBeginning ∈ lw_gt := lw_g (List.mem_append_right _ (List.mem_of_getElem? (i := 422) (by decide +kernel))) rfl
theorem kX2_36 : Cond.methodLink RX2 36 yX2_isForRange ∈ lw_gt := lw_g (List.mem_append_right _ (List.mem_of_getElem? (i := 425) (by decide +kernel))) rfl
theorem kX2_40 : Cond.methodLink RX2 40 yX2_isRepeat ∈ lw_gt := lw_g (List.mem_append_right _ (List.mem_of_getElem? (i := 428) (by decide +kernel))) rfl
theorem kX2_32 : Cond.methodLink RX2 32 yX2_isDigit ∈ lw_gt := lw_g (List.mem_append_right _ (List.mem_of_getElem? (i := 431) (by decide +kernel))) rfl
theorem kX2_54 : Cond.methodLink RX2 54 yX2_isAllowedBehind ∈ lw_gt := lw_g (List.mem_append_right _ (List.mem_of_getElem? (i := 434) (by decide +kernel))) rfl
theorem kX2_58 : Cond.methodLink RX2 58 yX2_behind ∈ lw_gt := lw_g (List.mem_append_right _ (List.mem_of_getElem? (i := 437) (by decide +kernel))) rfl
theorem kX5_141 : Cond.methodLink RX5 141 yX2_highestRange ∈ lw_gt := lw_g (List.mem_append_right _ (List.mem_of_getElem? (i := 441) (by decide +kernel))) rfl
theorem kX2_47 : Cond.methodLink RX2 47 yX2_digitAt ∈ lw_gt := lw_g (List.mem_append_right _ (List.mem_of_getElem? (i := 445) (by decide +kernel))) rfl
theorem kX2_61 : Cond.methodLink RX2 61 Lib.Math.max.name ∈ lw_gt := lw_g (List.mem_append_right _ (List.mem_of_getElem? (i := 449) (by decide +kernel))) rfl
theorem kX5_144 : Cond.methodLink RX5 144 yX2_count ∈ lw_gt := lw_g (List.mem_append_right _ (List.mem_of_getElem? (i := 452) (by decide +kernel))) rfl
theorem kX2_67 : Cond.methodLink RX2 67 Lib.Math.min.name ∈ lw_gt := lw_g (List.mem_append_right _ (List.mem_of_getElem? (i := 456) (by decide +kernel))) rfl
theorem kX2_70 : Cond.methodLink RX2 70 yX2_numberAt ∈ lw_gt := lw_g (List.mem_append_right _ (List.mem_of_getElem? (i := 459) (by decide +kernel))) rfl
theorem kX5_153 : Cond.methodLink RX5 153 yX2_carryOut ∈ lw_gt := lw_g (List.mem_append_right _ (List.mem_of_getElem? (i := 463) (by decide +kernel))) rfl
theorem kX2_74 : Cond.methodLink RX2 74 yX2_carryOutItem ∈ lw_gt := lw_g (List.mem_append_right _ (List.mem_of_getElem? (i := 468) (by decide +kernel))) rfl
theorem kX2_78 : Cond.methodLink RX2 78 yX4_advance ∈ lw_gt := lw_g (List.mem_append_right _ (List.mem_of_getElem? (i := 472) (by decide +kernel))) rfl
theorem kX2_83 : Cond.methodLink RX2 83 yX4_runOrPause ∈ lw_gt := lw_g (List.mem_append_right _ (List.mem_of_getElem? (i := 473) (by decide +kernel))) rfl
theorem kX2_87 : Cond.methodLink RX2 87 yX4_stepAtOnce ∈ lw_gt := lw_g (List.mem_append_right _ (List.mem_of_getElem? (i := 477) (by decide +kernel))) rfl
theorem kX5_159 : Cond.methodLink RX5 159 yX2_append ∈ lw_gt := lw_g (List.mem_append_right _ (List.mem_of_getElem? (i := 485) (by decide +kernel))) rfl
theorem kX5_163 : Cond.methodLink RX5 163 yX5_isPixel ∈ lw_gt := lw_g (List.mem_append_right _ (List.mem_of_getElem? (i := 497) (by decide +kernel))) rfl
theorem kX5_169 : Cond.methodLink RX5 169 yX5_flood ∈ lw_gt := lw_g (List.mem_append_right _ (List.mem_of_getElem? (i := 504) (by decide +kernel))) rfl
theorem kX5_271 : Cond.methodLink RX5 271 yX5_enter ∈ lw_gt := lw_g (List.mem_append_right _ (List.mem_of_getElem? (i := 508) (by decide +kernel))) rfl
theorem kX5_174 : Cond.methodLink RX5 174 yX1_takeBack ∈ lw_gt := lw_g (List.mem_append_right _ (List.mem_of_getElem? (i := 516) (by decide +kernel))) rfl
theorem kX5_180 : Cond.methodLink RX5 180 yX4_copy ∈ lw_gt := lw_g (List.mem_append_right _ (List.mem_of_getElem? (i := 524) (by decide +kernel))) rfl
theorem kX5_202 : Cond.methodLink RX5 202 yX3_turn ∈ lw_gt := lw_g (List.mem_append_right _ (List.mem_of_getElem? (i := 541) (by decide +kernel))) rfl
theorem kX5_219 : Cond.methodLink RX5 219 yX0_strength ∈ lw_gt := lw_g (List.mem_append_right _ (List.mem_of_getElem? (i := 546) (by decide +kernel))) rfl
theorem kX5_224 : Cond.methodLink RX5 224 yX4_placesInRanges ∈ lw_gt := lw_g (List.mem_append_right _ (List.mem_of_getElem? (i := 555) (by decide +kernel))) rfl
theorem kX4_94 : Cond.methodLink RX4 94 yX3_places ∈ lw_gt := lw_g (List.mem_append_right _ (List.mem_of_getElem? (i := 559) (by decide +kernel))) rfl
theorem kX5_227 : Cond.methodLink RX5 227 yX5_differentColours ∈ lw_gt := lw_g (List.mem_append_right _ (List.mem_of_getElem? (i := 560) (by decide +kernel))) rfl
theorem kX5_274 : Cond.methodLink RX5 274 yX5_markPlacesOfPicture ∈ lw_gt := lw_g (List.mem_append_right _ (List.mem_of_getElem? (i := 564) (by decide +kernel))) rfl
theorem kX5_280 : Cond.methodLink RX5 280 yX5_isMarkedBefore ∈ lw_gt := lw_g (List.mem_append_right _ (List.mem_of_getElem? (i := 568) (by decide +kernel))) rfl
theorem kX5_230 : Cond.methodLink RX5 230 yX5_movingPixels ∈ lw_gt := lw_g (List.mem_append_right _ (List.mem_of_getElem? (i := 572) (by decide +kernel))) rfl
theorem kX5_277 : Cond.methodLink RX5 277 yX4_moves ∈ lw_gt := lw_g (List.mem_append_right _ (List.mem_of_getElem? (i := 576) (by decide +kernel))) rfl
theorem kX5_247 : Cond.methodLink RX5 247 yX5_markedPixels ∈ lw_gt := lw_g (List.mem_append_right _ (List.mem_of_getElem? (i := 580) (by decide +kernel))) rfl
theorem kX5_233 : Cond.methodLink RX5 233 yX5_isLater ∈ lw_gt := lw_g (List.mem_append_right _ (List.mem_of_getElem? (i := 588) (by decide +kernel))) rfl
theorem kX5_236 : Cond.methodLink RX5 236 yX3_fullTicks ∈ lw_gt := lw_g (List.mem_append_right _ (List.mem_of_getElem? (i := 595) (by decide +kernel))) rfl
theorem kX5_239 : Cond.methodLink RX5 239 yX5_commonMultiple ∈ lw_gt := lw_g (List.mem_append_right _ (List.mem_of_getElem? (i := 599) (by decide +kernel))) rfl
theorem kX5_283 : Cond.methodLink RX5 283 yX5_commonDivisor ∈ lw_gt := lw_g (List.mem_append_right _ (List.mem_of_getElem? (i := 602) (by decide +kernel))) rfl
theorem kX5_243 : Cond.methodLink RX5 243 yX0_fullTicks ∈ lw_gt := lw_g (List.mem_append_right _ (List.mem_of_getElem? (i := 605) (by decide +kernel))) rfl
theorem kX5_244 : Cond.methodLink RX5 244 yX5_distance ∈ lw_gt := lw_g (List.mem_append_right _ (List.mem_of_getElem? (i := 610) (by decide +kernel))) rfl
theorem kX5_250 : Cond.methodLink RX5 250 yX5_markMovingPlacesOfPicture ∈ lw_gt := lw_g (List.mem_append_right _ (List.mem_of_getElem? (i := 621) (by decide +kernel))) rfl
theorem kX5_253 : Cond.methodLink RX5 253 yX5_markedPlacesShowShades ∈ lw_gt := lw_g (List.mem_append_right _ (List.mem_of_getElem? (i := 625) (by decide +kernel))) rfl
theorem kX5_256 : Cond.methodLink RX5 256 yX5_pixelDistance ∈ lw_gt := lw_g (List.mem_append_right _ (List.mem_of_getElem? (i := 633) (by decide +kernel))) rfl
theorem kX5_259 : Cond.methodLink RX5 259 Lib.Math.max.name ∈ lw_gt := lw_g (List.mem_append_right _ (List.mem_of_getElem? (i := 637) (by decide +kernel))) rfl
theorem kX6_1 : Cond.methodLink RX6 1 objectInit ∈ lw_gt := lw_g (List.mem_append_right _ (List.mem_of_getElem? (i := 643) (by decide +kernel))) rfl
theorem kX6_57 : Cond.methodLink RX6 57 yX6_record ∈ lw_gt := lw_g (List.mem_append_right _ (List.mem_of_getElem? (i := 714) (by decide +kernel))) rfl
theorem kX6_99 : Cond.methodLink RX6 99 yX6_isPlace ∈ lw_gt := lw_g (List.mem_append_right _ (List.mem_of_getElem? (i := 722) (by decide +kernel))) rfl
theorem kX6_44 : Cond.methodLink RX6 44 yX6_in ∈ lw_gt := lw_g (List.mem_append_right _ (List.mem_of_getElem? (i := 725) (by decide +kernel))) rfl
theorem kX6_103 : Cond.methodLink RX6 103 yX6_isColour ∈ lw_gt := lw_g (List.mem_append_right _ (List.mem_of_getElem? (i := 728) (by decide +kernel))) rfl
theorem kX6_106 : Cond.methodLink RX6 106 yX6_blended ∈ lw_gt := lw_g (List.mem_append_right _ (List.mem_of_getElem? (i := 736) (by decide +kernel))) rfl
theorem kX6_92 : Cond.methodLink RX6 92 yX6_between ∈ lw_gt := lw_g (List.mem_append_right _ (List.mem_of_getElem? (i := 740) (by decide +kernel))) rfl
theorem kX6_80 : Cond.methodLink RX6 80 yX6_part ∈ lw_gt := lw_g (List.mem_append_right _ (List.mem_of_getElem? (i := 743) (by decide +kernel))) rfl
theorem kX6_110 : Cond.methodLink RX6 110 yX6_show ∈ lw_gt := lw_g (List.mem_append_right _ (List.mem_of_getElem? (i := 750) (by decide +kernel))) rfl
theorem kX6_96 : Cond.methodLink RX6 96 yX6_shownAt ∈ lw_gt := lw_g (List.mem_append_right _ (List.mem_of_getElem? (i := 754) (by decide +kernel))) rfl
theorem kX6_83 : Cond.methodLink RX6 83 yX6_glowAt ∈ lw_gt := lw_g (List.mem_append_right _ (List.mem_of_getElem? (i := 758) (by decide +kernel))) rfl
theorem kX6_68 : Cond.methodLink RX6 68 yX6_ofGlow ∈ lw_gt := lw_g (List.mem_append_right _ (List.mem_of_getElem? (i := 762) (by decide +kernel))) rfl
theorem kX6_86 : Cond.methodLink RX6 86 yX6_turned ∈ lw_gt := lw_g (List.mem_append_right _ (List.mem_of_getElem? (i := 766) (by decide +kernel))) rfl
theorem kX6_71 : Cond.methodLink RX6 71 yX6_rangeAt ∈ lw_gt := lw_g (List.mem_append_right _ (List.mem_of_getElem? (i := 770) (by decide +kernel))) rfl
theorem kX6_60 : Cond.methodLink RX6 60 yX6_of ∈ lw_gt := lw_g (List.mem_append_right _ (List.mem_of_getElem? (i := 774) (by decide +kernel))) rfl
theorem kX6_74 : Cond.methodLink RX6 74 yX6_turn ∈ lw_gt := lw_g (List.mem_append_right _ (List.mem_of_getElem? (i := 778) (by decide +kernel))) rfl
theorem kX6_64 : Cond.methodLink RX6 64 yX6_places ∈ lw_gt := lw_g (List.mem_append_right _ (List.mem_of_getElem? (i := 782) (by decide +kernel))) rfl
theorem kX6_77 : Cond.methodLink RX6 77 yX6_modulo ∈ lw_gt := lw_g (List.mem_append_right _ (List.mem_of_getElem? (i := 786) (by decide +kernel))) rfl
theorem kX6_89 : Cond.methodLink RX6 89 yX6_strength ∈ lw_gt := lw_g (List.mem_append_right _ (List.mem_of_getElem? (i := 789) (by decide +kernel))) rfl
theorem kX6_113 : Cond.methodLink RX6 113 yX6_isTaken ∈ lw_gt := lw_g (List.mem_append_right _ (List.mem_of_getElem? (i := 797) (by decide +kernel))) rfl
theorem kX6_117 : Cond.methodLink RX6 117 yX6_isRange ∈ lw_gt := lw_g (List.mem_append_right _ (List.mem_of_getElem? (i := 805) (by decide +kernel))) rfl
theorem kX6_120 : Cond.methodLink RX6 120 yX6_running ∈ lw_gt := lw_g (List.mem_append_right _ (List.mem_of_getElem? (i := 817) (by decide +kernel))) rfl
theorem kX6_124 : Cond.methodLink RX6 124 yX6_isGlow ∈ lw_gt := lw_g (List.mem_append_right _ (List.mem_of_getElem? (i := 829) (by decide +kernel))) rfl
theorem kX6_137 : Cond.methodLink RX6 137 yX6_ticks ∈ lw_gt := lw_g (List.mem_append_right _ (List.mem_of_getElem? (i := 837) (by decide +kernel))) rfl
theorem kX6_134 : Cond.methodLink RX6 134 yX6_tick ∈ lw_gt := lw_g (List.mem_append_right _ (List.mem_of_getElem? (i := 841) (by decide +kernel))) rfl
theorem kX6_131 : Cond.methodLink RX6 131 yX6_tickRange ∈ lw_gt := lw_g (List.mem_append_right _ (List.mem_of_getElem? (i := 845) (by decide +kernel))) rfl
theorem kX6_127 : Cond.methodLink RX6 127 yX6_step ∈ lw_gt := lw_g (List.mem_append_right _ (List.mem_of_getElem? (i := 849) (by decide +kernel))) rfl
theorem kX6_186 : Cond.methodLink RX6 186 yX6_isProgram ∈ lw_gt := lw_g (List.mem_append_right _ (List.mem_of_getElem? (i := 865) (by decide +kernel))) rfl
theorem kX6_146 : Cond.methodLink RX6 146 yX6_isAt ∈ lw_gt := lw_g (List.mem_append_right _ (List.mem_of_getElem? (i := 869) (by decide +kernel))) rfl
theorem kX6_174 : Cond.methodLink RX6 174 yX6_readRepeat ∈ lw_gt := lw_g (List.mem_append_right _ (List.mem_of_getElem? (i := 873) (by decide +kernel))) rfl
theorem kX6_158 : Cond.methodLink RX6 158 yX6_capped ∈ lw_gt := lw_g (List.mem_append_right _ (List.mem_of_getElem? (i := 877) (by decide +kernel))) rfl
theorem kX6_177 : Cond.methodLink RX6 177 yX6_readEnd ∈ lw_gt := lw_g (List.mem_append_right _ (List.mem_of_getElem? (i := 880) (by decide +kernel))) rfl
theorem kX6_180 : Cond.methodLink RX6 180 yX6_readItem ∈ lw_gt := lw_g (List.mem_append_right _ (List.mem_of_getElem? (i := 884) (by decide +kernel))) rfl
theorem kX6_164 : Cond.methodLink RX6 164 yX6_readTicks ∈ lw_gt := lw_g (List.mem_append_right _ (List.mem_of_getElem? (i := 888) (by decide +kernel))) rfl
theorem kX6_149 : Cond.methodLink RX6 149 yX6_number ∈ lw_gt := lw_g (List.mem_append_right _ (List.mem_of_getElem? (i := 892) (by decide +kernel))) rfl
theorem kX6_168 : Cond.methodLink RX6 168 yX6_readRange ∈ lw_gt := lw_g (List.mem_append_right _ (List.mem_of_getElem? (i := 896) (by decide +kernel))) rfl
theorem kX6_189 : Cond.methodLink RX6 189 yX6_carryOut ∈ lw_gt := lw_g (List.mem_append_right _ (List.mem_of_getElem? (i := 900) (by decide +kernel))) rfl
theorem kX6_183 : Cond.methodLink RX6 183 yX6_carryOutItem ∈ lw_gt := lw_g (List.mem_append_right _ (List.mem_of_getElem? (i := 904) (by decide +kernel))) rfl
theorem kX6_192 : Cond.methodLink RX6 192 yX6_isPixel ∈ lw_gt := lw_g (List.mem_append_right _ (List.mem_of_getElem? (i := 912) (by decide +kernel))) rfl
theorem kX6_195 : Cond.methodLink RX6 195 yX6_pixelAt ∈ lw_gt := lw_g (List.mem_append_right _ (List.mem_of_getElem? (i := 915) (by decide +kernel))) rfl
theorem kX6_201 : Cond.methodLink RX6 201 yX6_mark ∈ lw_gt := lw_g (List.mem_append_right _ (List.mem_of_getElem? (i := 923) (by decide +kernel))) rfl
theorem kX6_198 : Cond.methodLink RX6 198 yX6_hasMarkedNeighbour ∈ lw_gt := lw_g (List.mem_append_right _ (List.mem_of_getElem? (i := 927) (by decide +kernel))) rfl
theorem kX6_204 : Cond.methodLink RX6 204 yX6_placesInRanges ∈ lw_gt := lw_g (List.mem_append_right _ (List.mem_of_getElem? (i := 955) (by decide +kernel))) rfl
theorem kX6_207 : Cond.methodLink RX6 207 yX6_coloursInPicture ∈ lw_gt := lw_g (List.mem_append_right _ (List.mem_of_getElem? (i := 959) (by decide +kernel))) rfl
theorem kX6_210 : Cond.methodLink RX6 210 yX6_livelyPixels ∈ lw_gt := lw_g (List.mem_append_right _ (List.mem_of_getElem? (i := 963) (by decide +kernel))) rfl
theorem kX6_213 : Cond.methodLink RX6 213 yX6_putAside ∈ lw_gt := lw_g (List.mem_append_right _ (List.mem_of_getElem? (i := 971) (by decide +kernel))) rfl
theorem kX6_216 : Cond.methodLink RX6 216 yX6_putBack ∈ lw_gt := lw_g (List.mem_append_right _ (List.mem_of_getElem? (i := 975) (by decide +kernel))) rfl
theorem kX6_223 : Cond.methodLink RX6 223 yX6_both ∈ lw_gt := lw_g (List.mem_append_right _ (List.mem_of_getElem? (i := 983) (by decide +kernel))) rfl
theorem kX6_219 : Cond.methodLink RX6 219 yX6_common ∈ lw_gt := lw_g (List.mem_append_right _ (List.mem_of_getElem? (i := 986) (by decide +kernel))) rfl
theorem kX6_226 : Cond.methodLink RX6 226 yX6_distance ∈ lw_gt := lw_g (List.mem_append_right _ (List.mem_of_getElem? (i := 993) (by decide +kernel))) rfl
theorem kX6_229 : Cond.methodLink RX6 229 yX6_notePicture ∈ lw_gt := lw_g (List.mem_append_right _ (List.mem_of_getElem? (i := 1000) (by decide +kernel))) rfl
theorem kX6_232 : Cond.methodLink RX6 232 yX6_otherPixels ∈ lw_gt := lw_g (List.mem_append_right _ (List.mem_of_getElem? (i := 1004) (by decide +kernel))) rfl
theorem cnX5_264 : Cond.constant RX5 264 262144 ∈ lw_gt := lw_g (List.mem_append_right _ (List.mem_of_getElem? (i := 208) (by decide +kernel))) rfl
theorem cnX2_73 : Cond.constant RX2 73 1000000 ∈ lw_gt := lw_g (List.mem_append_right _ (List.mem_of_getElem? (i := 467) (by decide +kernel))) rfl
theorem cnX6_48 : Cond.constant RX6 48 262143 ∈ lw_gt := lw_g (List.mem_append_right _ (List.mem_of_getElem? (i := 731) (by decide +kernel))) rfl
theorem wmax_s : Cond.static Lib.Math.max.name ∈ lw_gt := lw_g (List.mem_append_right _ (List.mem_of_getElem? (i := 450) (by decide +kernel))) rfl
theorem wmax_c : Cond.code Lib.Math.max.name Lib.Math.max.code 2 (some .int) ∈ lw_gt := lw_g (List.mem_append_right _ (List.mem_of_getElem? (i := 451) (by decide +kernel))) rfl
theorem wmin_s : Cond.static Lib.Math.min.name ∈ lw_gt := lw_g (List.mem_append_right _ (List.mem_of_getElem? (i := 457) (by decide +kernel))) rfl
theorem wmin_c : Cond.code Lib.Math.min.name Lib.Math.min.code 2 (some .int) ∈ lw_gt := lw_g (List.mem_append_right _ (List.mem_of_getElem? (i := 458) (by decide +kernel))) rfl
theorem wmath : Cond.initialized "java/lang/Math" ∈ lw_gt := lw_g (List.mem_append_right _ (List.mem_of_getElem? (i := 9) (by decide +kernel))) rfl
theorem wsys : Cond.initialized "java/lang/System" ∈ lw_gt := lw_g (List.mem_append_right _ (List.mem_of_getElem? (i := 8) (by decide +kernel))) rfl
theorem wac_n : Cond.native arraycopyName ∈ lw_gt := lw_g (List.mem_append_right _ (List.mem_of_getElem? (i := 223) (by decide +kernel))) rfl
theorem wac_s : Cond.static arraycopyName ∈ lw_gt := lw_g (List.mem_append_right _ (List.mem_of_getElem? (i := 222) (by decide +kernel))) rfl
end
section
/-! ===== rows over counted numbers ===== -/
section YN
variable {l : Launch} {E : gE} {X : gX} {own : String} {cc : ByteArray} {nL : Nat} {ret : Option FieldType} {fr ll : Nat} {post : Option Value → Mem → Prop} {pc : Nat} {lo lo' : List (Option Value)} {st : List Value} {g : Mem}
theorem y_top {x y : Int32} (h : x = y) (kk : Y l E X post pc lo (.int y :: st) g) : Y l E X post pc lo (.int x :: st) g := h ▸ kk
theorem y_topl {x y : Int64} (h : x = y) (kk : Y l E X post pc lo (.long y :: st) g) : Y l E X post pc lo (.long x :: st) g := h ▸ kk
theorem y_mem {g2 : Mem} (h : g = g2) (kk : Y l E X post pc lo st g2) : Y l E X post pc lo st g := h ▸ kk
theorem y_iadd_n (hC : yC l E X own cc nL ret fr ll) {a b : Nat} (hd : decode cc pc = .ok (.iadd, 1)) (kk : Y l E X post (pc + 1) lo (.int (nI (a + b)) :: st) g) : Y l E X post pc lo (.int (nI b) :: .int (nI a) :: st) g := y_iadd hC hd (y_top (nI_add a b) kk)
theorem y_imul_n (hC : yC l E X own cc nL ret fr ll) {a b : Nat} (hd : decode cc pc = .ok (.imul, 1)) (kk : Y l E X post (pc + 1) lo (.int (nI (a * b)) :: st) g) : Y l E X post pc lo (.int (nI b) :: .int (nI a) :: st) g := y_imul hC hd (y_top (pk_mul a b) kk)
theorem y_isub_n (hC : yC l E X own cc nL ret fr ll) {a b : Nat} (hd : decode cc pc = .ok (.isub, 1)) (h : b ≤ a) (kk : Y l E X post (pc + 1) lo (.int (nI (a - b)) :: st) g) : Y l E X post pc lo (.int (nI b) :: .int (nI a) :: st) g := y_isub hC hd (y_top (pk_sub h) kk)
theorem y_idiv_n (hC : yC l E X own cc nL ret fr ll) {a b : Nat} (hd : decode cc pc = .ok (.idiv, 1)) (ha : a < 2147483648) (h0 : 0 < b) (hb : b < 2147483648) (kk : Y l E X post (pc + 1) lo (.int (nI (a / b)) :: st) g) : Y l E X post pc lo (.int (nI b) :: .int (nI a) :: st) g := y_idiv hC hd (nI_ne0 h0 hb) (y_top (pk_div ha h0 hb) kk)
theorem y_irem_n (hC : yC l E X own cc nL ret fr ll) {a b : Nat} (hd : decode cc pc = .ok (.irem, 1)) (ha : a < 2147483648) (h0 : 0 < b) (hb : b < 2147483648) (kk : Y l E X post (pc + 1) lo (.int (nI (a % b)) :: st) g) : Y l E X post pc lo (.int (nI b) :: .int (nI a) :: st) g := y_irem hC hd (nI_ne0 h0 hb) (y_top (pk_rem ha h0 hb) kk)
theorem y_iinc_n (hC : yC l E X own cc nL ret fr ll) {i a k : Nat} {n : Int} (hd : decode cc pc = .ok (.iinc i n, 3)) (hx0 : lo[i]? = some (some (.int (nI a)))) (hk : Int32.ofInt n = nI k) (hn : i < lo.length) (hp : y_nl lo i = true) (ho : lo.set i (some (.int (nI (a + k)))) = lo') (kk : Y l E X post (pc + 3) lo' st g) : Y l E X post pc lo st g := y_iinc hC hd hx0 (by rw [hk, nI_add]) hn hp ho kk
theorem y_icmp_eq_n (hC : yC l E X own cc nL ret fr ll) {a b : Nat} {off : Int} {tgt : Nat} (hd : decode cc pc = .ok (.if_icmp .eq off, 3)) (ht : (pc : Int) + off = (tgt : Int)) (ha : a < 2147483648) (hb : b < 2147483648) (kt : a = b → Y l E X post tgt lo st g) (kf : ¬ a = b → Y l E X post (pc + 3) lo st g) : Y l E X post pc lo (.int (nI b) :: .int (nI a) :: st) g := y_icmp_eq hC hd ht (fun q => kt ((nI_eq ha hb).mp q)) (fun q => kf (fun z => q ((nI_eq ha hb).mpr z)))
theorem y_icmp_ne_n (hC : yC l E X own cc nL ret fr ll) {a b : Nat} {off : Int} {tgt : Nat} (hd : decode cc pc = .ok (.if_icmp .ne off, 3)) (ht : (pc : Int) + off = (tgt : Int)) (ha : a < 2147483648) (hb : b < 2147483648) (kt : ¬ a = b → Y l E X post tgt lo st g) (kf : a = b → Y l E X post (pc + 3) lo st g) : Y l E X post pc lo (.int (nI b) :: .int (nI a) :: st) g := y_icmp_ne hC hd ht (fun q => kt ((not_congr (nI_eq ha hb)).mp q)) (fun q => kf ((nI_eq ha hb).mp q))
theorem y_icmp_lt_n (hC : yC l E X own cc nL ret fr ll) {a b : Nat} {off : Int} {tgt : Nat} (hd : decode cc pc = .ok (.if_icmp .lt off, 3)) (ht : (pc : Int) + off = (tgt : Int)) (ha : a < 2147483648) (hb : b < 2147483648) (kt : a < b → Y l E X post tgt lo st g) (kf : ¬ a < b → Y l E X post (pc + 3) lo st g) : Y l E X post pc lo (.int (nI b) :: .int (nI a) :: st) g := y_icmp_lt hC hd ht (fun q => kt ((nI_ltI ha hb).mp q)) (fun q => kf (fun z => q ((nI_ltI ha hb).mpr z)))
theorem y_icmp_ge_n (hC : yC l E X own cc nL ret fr ll) {a b : Nat} {off : Int} {tgt : Nat} (hd : decode cc pc = .ok (.if_icmp .ge off, 3)) (ht : (pc : Int) + off = (tgt : Int)) (ha : a < 2147483648) (hb : b < 2147483648) (kt : b ≤ a → Y l E X post tgt lo st g) (kf : ¬ b ≤ a → Y l E X post (pc + 3) lo st g) : Y l E X post pc lo (.int (nI b) :: .int (nI a) :: st) g := y_icmp_ge hC hd ht (fun q => kt ((nI_leI hb ha).mp q)) (fun q => kf (fun z => q ((nI_leI hb ha).mpr z)))
theorem y_icmp_gt_n (hC : yC l E X own cc nL ret fr ll) {a b : Nat} {off : Int} {tgt : Nat} (hd : decode cc pc = .ok (.if_icmp .gt off, 3)) (ht : (pc : Int) + off = (tgt : Int)) (ha : a < 2147483648) (hb : b < 2147483648) (kt : b < a → Y l E X post tgt lo st g) (kf : ¬ b < a → Y l E X post (pc + 3) lo st g) : Y l E X post pc lo (.int (nI b) :: .int (nI a) :: st) g := y_icmp_gt hC hd ht (fun q => kt ((nI_ltI hb ha).mp q)) (fun q => kf (fun z => q ((nI_ltI hb ha).mpr z)))
theorem y_icmp_le_n (hC : yC l E X own cc nL ret fr ll) {a b : Nat} {off : Int} {tgt : Nat} (hd : decode cc pc = .ok (.if_icmp .le off, 3)) (ht : (pc : Int) + off = (tgt : Int)) (ha : a < 2147483648) (hb : b < 2147483648) (kt : a ≤ b → Y l E X post tgt lo st g) (kf : ¬ a ≤ b → Y l E X post (pc + 3) lo st g) : Y l E X post pc lo (.int (nI b) :: .int (nI a) :: st) g := y_icmp_le hC hd ht (fun q => kt ((nI_leI ha hb).mp q)) (fun q => kf (fun z => q ((nI_leI ha hb).mpr z)))
theorem nI_z {a : Nat} (ha : a < 2147483648) : nI a = 0 ↔ a = 0 := by rw [← nI_0]; exact nI_eq ha (by decide)
theorem nI_zl {a : Nat} (ha : a < 2147483648) : nI a < 0 ↔ a < 0 := by rw [← nI_0]; exact nI_ltI ha (by decide)
theorem nI_zg {a : Nat} (ha : a < 2147483648) : 0 < nI a ↔ 0 < a := by rw [← nI_0]; exact nI_ltI (by decide) ha
theorem nI_zle {a : Nat} (ha : a < 2147483648) : nI a ≤ 0 ↔ a ≤ 0 := by rw [← nI_0]; exact nI_leI ha (by decide)
theorem nI_zge {a : Nat} (ha : a < 2147483648) : 0 ≤ nI a ↔ 0 ≤ a := by rw [← nI_0]; exact nI_leI (by decide) ha
theorem y_if_eq_n (hC : yC l E X own cc nL ret fr ll) {a : Nat} {off : Int} {tgt : Nat} (hd : decode cc pc = .ok (.ifCond .eq off, 3)) (ht : (pc : Int) + off = (tgt : Int)) (ha : a < 2147483648) (kt : a = 0 → Y l E X post tgt lo st g) (kf : ¬ a = 0 → Y l E X post (pc + 3) lo st g) : Y l E X post pc lo (.int (nI a) :: st) g := y_if_eq hC hd ht (fun q => kt ((nI_z ha).mp q)) (fun q => kf (fun z => q ((nI_z ha).mpr z)))
theorem y_if_ne_n (hC : yC l E X own cc nL ret fr ll) {a : Nat} {off : Int} {tgt : Nat} (hd : decode cc pc = .ok (.ifCond .ne off, 3)) (ht : (pc : Int) + off = (tgt : Int)) (ha : a < 2147483648) (kt : ¬ a = 0 → Y l E X post tgt lo st g) (kf : a = 0 → Y l E X post (pc + 3) lo st g) : Y l E X post pc lo (.int (nI a) :: st) g := y_if_ne hC hd ht (fun q => kt ((not_congr (nI_z ha)).mp q)) (fun q => kf ((nI_z ha).mp q))
theorem y_if_lt_n (hC : yC l E X own cc nL ret fr ll) {a : Nat} {off : Int} {tgt : Nat} (hd : decode cc pc = .ok (.ifCond .lt off, 3)) (ht : (pc : Int) + off = (tgt : Int)) (ha : a < 2147483648) (kt : a < 0 → Y l E X post tgt lo st g) (kf : ¬ a < 0 → Y l E X post (pc + 3) lo st g) : Y l E X post pc lo (.int (nI a) :: st) g := y_if_lt hC hd ht (fun q => kt ((nI_zl ha).mp q)) (fun q => kf (fun z => q ((nI_zl ha).mpr z)))
theorem y_if_ge_n (hC : yC l E X own cc nL ret fr ll) {a : Nat} {off : Int} {tgt : Nat} (hd : decode cc pc = .ok (.ifCond .ge off, 3)) (ht : (pc : Int) + off = (tgt : Int)) (ha : a < 2147483648) (kt : 0 ≤ a → Y l E X post tgt lo st g) (kf : ¬ 0 ≤ a → Y l E X post (pc + 3) lo st g) : Y l E X post pc lo (.int (nI a) :: st) g := y_if_ge hC hd ht (fun q => kt ((nI_zge ha).mp q)) (fun q => kf (fun z => q ((nI_zge ha).mpr z)))
theorem y_if_gt_n (hC : yC l E X own cc nL ret fr ll) {a : Nat} {off : Int} {tgt : Nat} (hd : decode cc pc = .ok (.ifCond .gt off, 3)) (ht : (pc : Int) + off = (tgt : Int)) (ha : a < 2147483648) (kt : 0 < a → Y l E X post tgt lo st g) (kf : ¬ 0 < a → Y l E X post (pc + 3) lo st g) : Y l E X post pc lo (.int (nI a) :: st) g := y_if_gt hC hd ht (fun q => kt ((nI_zg ha).mp q)) (fun q => kf (fun z => q ((nI_zg ha).mpr z)))
theorem y_if_le_n (hC : yC l E X own cc nL ret fr ll) {a : Nat} {off : Int} {tgt : Nat} (hd : decode cc pc = .ok (.ifCond .le off, 3)) (ht : (pc : Int) + off = (tgt : Int)) (ha : a < 2147483648) (kt : a ≤ 0 → Y l E X post tgt lo st g) (kf : ¬ a ≤ 0 → Y l E X post (pc + 3) lo st g) : Y l E X post pc lo (.int (nI a) :: st) g := y_if_le hC hd ht (fun q => kt ((nI_zle ha).mp q)) (fun q => kf (fun z => q ((nI_zle ha).mpr z)))
def bI (P : Prop) [Decidable P] : Int32 := if P then 1 else 0
theorem bI_t {P : Prop} [Decidable P] (h : P) : bI P = 1 := if_pos h
theorem bI_f {P : Prop} [Decidable P] (h : ¬ P) : bI P = 0 := if_neg h
theorem bI_0 {P : Prop} [Decidable P] : bI P = 0 ↔ ¬ P := by unfold bI; split <;> simp_all
theorem bI_1 {P : Prop} [Decidable P] : bI P = 1 ↔ P := by unfold bI; split <;> simp_all
theorem bI_or (P : Prop) [Decidable P] : bI P = 0 ∨ bI P = 1 := by unfold bI; split <;> simp
theorem bI_nar (P : Prop) [Decidable P] : narrow .boolean (.int (bI P)) = .int (bI P) := by rcases bI_or P with h | h <;> rw [h] <;> rfl
theorem bI_fit (P : Prop) [Decidable P] : fits .boolean (.int (bI P)) = true := by rcases bI_or P with h | h <;> rw [h] <;> rfl
theorem bI_vp (P : Prop) [Decidable P] : vp_nar .boolean (bI P) = bI P := by rcases bI_or P with h | h <;> rw [h] <;> rfl
theorem bI_cg {P Q : Prop} [Decidable P] [Decidable Q] (h : P ↔ Q) : bI P = bI Q := by unfold bI; by_cases hp : P; rw [if_pos hp, if_pos (h.mp hp)]; rw [if_neg hp, if_neg (fun q => hp (h.mpr q))]
theorem y_if_eq_b (hC : yC l E X own cc nL ret fr ll) {P : Prop} [Decidable P] {off : Int} {tgt : Nat} (hd : decode cc pc = .ok (.ifCond .eq off, 3)) (ht : (pc : Int) + off = (tgt : Int)) (kt : ¬ P → Y l E X post tgt lo st g) (kf : P → Y l E X post (pc + 3) lo st g) : Y l E X post pc lo (.int (bI P) :: st) g := y_if_eq hC hd ht (fun q => kt (bI_0.mp q)) (fun q => kf (Classical.byContradiction fun z => q (bI_0.mpr z)))
theorem y_if_ne_b (hC : yC l E X own cc nL ret fr ll) {P : Prop} [Decidable P] {off : Int} {tgt : Nat} (hd : decode cc pc = .ok (.ifCond .ne off, 3)) (ht : (pc : Int) + off = (tgt : Int)) (kt : P → Y l E X post tgt lo st g) (kf : ¬ P → Y l E X post (pc + 3) lo st g) : Y l E X post pc lo (.int (bI P) :: st) g := y_if_ne hC hd ht (fun q => kt (Classical.byContradiction fun z => q (bI_0.mpr z))) (fun q => kf (bI_0.mp q))
theorem y_zretb (hC : yC l E X own cc nL (some .boolean) fr ll) {P : Prop} [Decidable P] {q : Int32 → Mem → Prop} (hd : decode cc pc = .ok (.ireturn, 1)) (hq : q (bI P) g) : Y l E X (pI q) pc lo [.int (bI P)] g := y_zret hC rfl (bI_nar P) hd hq
end YN
end
section
/-! ===== numbers, and the words of a row ===== -/
abbrev nn (x : Int32) : Nat := x.toNatClampNeg
theorem nn_I {n : Nat} (h : n < 2147483648) : nn (nI n) = n := nI_clamp h
theorem tI {n : Nat} (h : n < 2147483648) : (nI n).toInt = (n : Int) := nI_toInt h
theorem sI {a b : Nat} (ha : a < 1073741824) (hb : b < 1073741824) : (nI a - nI b).toInt = (a : Int) - b := pk_sub_toInt ha hb
theorem zrng (x : Int32) : -2147483648 ≤ x.toInt ∧ x.toInt < 2147483648 := ⟨Int32.le_toInt x, Int32.toInt_lt x⟩
theorem zaddI {x y : Int32} (h1 : -2147483648 ≤ x.toInt + y.toInt) (h2 : x.toInt + y.toInt < 2147483648) : (x + y).toInt = x.toInt + y.toInt := by
  rw [Int32.toInt_add]
  exact Int.bmod_eq_of_le (by omega) (by omega)
theorem zsubI {x y : Int32} (h1 : -2147483648 ≤ x.toInt - y.toInt) (h2 : x.toInt - y.toInt < 2147483648) : (x - y).toInt = x.toInt - y.toInt := by
  rw [Int32.toInt_sub]
  exact Int.bmod_eq_of_le (by omega) (by omega)
theorem zmulI {x y : Int32} (h1 : -2147483648 ≤ x.toInt * y.toInt) (h2 : x.toInt * y.toInt < 2147483648) : (x * y).toInt = x.toInt * y.toInt := by
  rw [Int32.toInt_mul]
  exact Int.bmod_eq_of_le (by omega) (by omega)
theorem zI_of {x : Int32} {n : Nat} (h : x.toInt = (n : Int)) (hn : n < 2147483648) : x = nI n := Int32.toInt_inj.mp (by rw [h, tI hn])
/-- the rest of a division that is rounded towards 0 -/
theorem zrem_toInt {x y : Int32} {k : Nat} (hy : y = nI k) (h0 : 0 < k) (hk : k < 1048576) (h1 : -1073741824 ≤ x.toInt) (h2 : x.toInt < 1073741824) : (x - x / y * y).toInt = x.toInt.tmod k := by
  subst hy
  have ty : (nI k).toInt = (k : Int) := tI (by omega)
  have hne : nI k ≠ -1 := fun q => by
    have := congrArg Int32.toInt q
    rw [ty] at this
    have h3 : (-1 : Int32).toInt = -1 := by decide
    omega
  have hq : (x / nI k).toInt = x.toInt.tdiv k := by rw [Int32.toInt_div_of_ne_right _ _ hne, ty]
  have hd : (k : Int) * x.toInt.tdiv k + x.toInt.tmod k = x.toInt := Int.mul_tdiv_add_tmod _ _
  obtain ⟨b1, b2⟩ := tmod_bounds (a := x.toInt) (M := (k : Int)) (by omega)
  have hm : (x / nI k * nI k).toInt = x.toInt.tdiv k * k := by
    have e := Int.mul_comm (x.toInt.tdiv k) (k : Int)
    have := zmulI (x := x / nI k) (y := nI k) (by rw [hq, ty]; omega) (by rw [hq, ty]; omega)
    rw [this, hq, ty]
  have e := Int.mul_comm (x.toInt.tdiv k) (k : Int)
  have := zsubI (x := x) (y := x / nI k * nI k) (by rw [hm]; omega) (by rw [hm]; omega)
  rw [this, hm]
  omega
theorem zxor_neg (x : Int32) {k : Nat} (hk : k < 2147483648) : (x ^^^ nI k).toInt < 0 ↔ x.toInt < 0 := by
  have e : ∀ z : Int32, z.toInt < 0 ↔ z.toBitVec.msb = true := fun z => by
    rw [BitVec.msb_eq_toInt, decide_eq_true_iff]
    exact Iff.rfl
  have h : (nI k).toBitVec.msb = false := by
    have h1 : ¬ (nI k).toInt < 0 := by rw [tI hk]; omega
    rw [e] at h1
    simpa using h1
  rw [e, e, Int32.toBitVec_xor, BitVec.msb_xor, h]
  simp
/-- of a part of a colour, and of colours between: the machine's own words, as both sides reckon them -/
def cPart (c : Int32) (s : Nat) : Int32 := (c >>> (nI s &&& 31)) &&& nI 63
def cMix1 (a b k n : Int32) : Int32 := a + (b - a) * k / n
def cMix (a b k n : Int32) : Int32 := (cMix1 (cPart a 12) (cPart b 12) k n <<< (nI 12 &&& 31) + cMix1 (cPart a 6) (cPart b 6) k n <<< (nI 6 &&& 31)) + cMix1 (cPart a 0) (cPart b 0) k n
def cDist (a b : Int32) : Int32 := ((cPart a 12 - cPart b 12) * (cPart a 12 - cPart b 12) + (cPart a 6 - cPart b 6) * (cPart a 6 - cPart b 6)) + (cPart a 0 - cPart b 0) * (cPart a 0 - cPart b 0)
abbrev Row : Type := Nat → Int32
/-- how many ranges, glows; what a range, a glow has; a pixel's place -/
def rc (r : Row) : Nat := nn (r 32)
def gc (r : Row) : Nat := nn (r 75)
def rg (r : Row) (i j : Nat) : Nat := nn (r (33 + 7 * i + j))
def gl (r : Row) (i j : Nat) : Nat := nn (r (76 + 4 * i + j))
def px (r : Row) (p : Nat) : Nat := nn (r (92 + p))
/-- full steps, steps made, the turn: of n places, by the way -/
def fsN (n wy : Nat) : Nat := if wy = 2 then 2 * n - 2 else n
def mdN (sp ru ti st t : Nat) : Nat := if ru = 1 then st + (ti + t) / sp else st
def tnN (n wy m : Nat) : Nat := if wy = 1 then (if m % n = 0 then 0 else n - m % n) else if wy = 2 then (if m % (2 * n - 2) < n then m % (2 * n - 2) else 2 * n - 2 - m % (2 * n - 2)) else m % n
/-- the place whose set colour is turned to place p of the range from f with n places -/
def srN (f n p tn : Nat) : Nat := f + (p - f + n - tn) % n
/-- a glow's strength -/
def stN (len ti t : Nat) : Nat := if (ti + t) % (2 * len) ≤ len then (ti + t) % (2 * len) else 2 * len - (ti + t) % (2 * len)
theorem tnN_lt {n wy m : Nat} (hn : 2 ≤ n) : tnN n wy m < n := by
  unfold tnN
  have h1 := Nat.mod_lt m (show 0 < n by omega)
  have h2 := Nat.mod_lt m (show 0 < 2 * n - 2 by omega)
  split
  · split <;> omega
  · split
    · split <;> omega
    · exact h1
theorem srN_in {f n p tn : Nat} (hn : 2 ≤ n) : f ≤ srN f n p tn ∧ srN f n p tn < f + n := by
  unfold srN
  have := Nat.mod_lt (p - f + n - tn) (show 0 < n by omega)
  omega
theorem stN_le (len ti t : Nat) : stN len ti t ≤ len ∨ len = 0 := by
  unfold stN
  by_cases h : len = 0
  · exact Or.inr h
  · have := Nat.mod_lt (ti + t) (show 0 < 2 * len by omega)
    left
    split <;> omega
end
section
/-! ===== leaves: ranges, glows, colours, what arguments may be ===== -/
theorem mt_goF {l : Launch} {E : gE} {y : MethodName} {cc : ByteArray} {nL : Nat} {ret : Option FieldType} {fr ll : Nat} {av : List Value} {g : Mem} {post : Option Value → Mem → Prop} {own : String} (hy : plainFor y = true) (hown : y.cls = own) {lo : List (Option Value)}
    (hlo : y_ent av ++ List.replicate (nL - (y_ent av).length) none = lo) (hn : (y_ent av).length ≤ nL)
    (body : ∀ X : gX, yC l E X own cc nL ret fr ll → Y l E X post 0 lo [] g) : Mt l E y cc nL ret fr ll av g post := by
  refine va_MetF (cc := cc) (maxL := nL) (ret := ret) hy rfl ?_
  intro p e s m args below meth c s₁ B hml hv
  obtain ⟨rfl, hP, hK, hE, hN⟩ := hv
  have hx := B.exec
  have hb := B.bytes
  have hr := B.returns
  have hts0 := atoms_spec (ws := .code y cc nL ret :: lw_gt) B.pre
  have hts : ∀ w ∈ lw_gt, w.before av.toArray s = true := fun w hw => hts0 w (List.mem_cons_of_mem _ hw)
  have hown2 : s.vm.findClass own = some m.cls := by rw [← hown]; exact findClass_of_methodNamed B.named
  have hlocks := B.notSynchronized
  rw [lg_entry_eq]
  exact body (p, e, (headSpec (Cond.code y cc nL ret :: lw_gt) { frames := fr, cells := 0, slots := 0, locals := ll }).room, s, m, av.toArray, below, meth, c) ⟨hx, hb, hml, hown2, hts, hK, hE, hlocks, hr, rfl, rfl, hN⟩ s.heap [] _ hP va_S.rf (y_entry av hlo hn)
theorem zup_up (g : Mem) (a : Nat) (x y : va_E) : va_up (va_up g a x) a y = va_up g a y := by
  funext j
  unfold va_up
  by_cases h : j = a <;> simp [h]
theorem zup_same {g : Mem} {a : Nat} {e : va_E} (h : g a = e) : va_up g a e = g := by
  funext j
  unfold va_up
  by_cases hj : j = a
  · subst hj; simp [h]
  · simp [hj]
theorem zfl_a {x : Int32} {k : Nat} (h0 : 0 < k) (hk : k < 1048576) (h1 : -1073741824 ≤ x.toInt) (h2 : x.toInt < 1073741824) (h : 0 ≤ x ^^^ nI k) : x - x / nI k * nI k = Int32.ofInt (x.toInt % k) := by
  have e := zrem_toInt (x := x) rfl h0 hk h1 h2
  have h3 : ¬ x.toInt < 0 := fun q => by
    have := (zxor_neg x (show k < 2147483648 by omega)).mpr q
    rw [Int32.le_iff_toInt_le, Int32.toInt_zero] at h
    omega
  rw [Int.tmod_eq_emod_of_nonneg (by omega)] at e
  rw [← e, Int32.ofInt_toInt]
theorem zfl_b {x : Int32} {k : Nat} (h0 : 0 < k) (hk : k < 1048576) (h1 : -1073741824 ≤ x.toInt) (h2 : x.toInt < 1073741824) (h : x - x / nI k * nI k = 0) : x - x / nI k * nI k = Int32.ofInt (x.toInt % k) := by
  have e := zrem_toInt (x := x) rfl h0 hk h1 h2
  rw [h, Int32.toInt_zero] at e
  have h4 : x.toInt % k = 0 := Int.emod_eq_zero_of_dvd (Int.dvd_of_tmod_eq_zero e.symm)
  rw [h, h4]
  rfl
theorem zfl_c {x : Int32} {k : Nat} (h0 : 0 < k) (hk : k < 1048576) (h1 : -1073741824 ≤ x.toInt) (h2 : x.toInt < 1073741824) (h : ¬ 0 ≤ x ^^^ nI k) (hz : ¬ x - x / nI k * nI k = 0) : x - x / nI k * nI k + nI k = Int32.ofInt (x.toInt % k) := by
  have e := zrem_toInt (x := x) rfl h0 hk h1 h2
  have ty : (nI k).toInt = (k : Int) := tI (by omega)
  have h3 : x.toInt < 0 := by
    have := (zxor_neg x (show k < 2147483648 by omega)).mp (by rw [Int32.le_iff_toInt_le, Int32.toInt_zero] at h; omega)
    exact this
  have hz2 : ¬ x.toInt.tmod k = 0 := fun q => hz (Int32.toInt_inj.mp (by rw [e, q, Int32.toInt_zero]))
  obtain ⟨b1, b2⟩ := tmod_bounds (a := x.toInt) (M := (k : Int)) (by omega)
  have b3 : x.toInt.tmod k ≤ 0 := by
    have h9 := Int.tmod_nonneg (a := -x.toInt) (k : Int) (by omega)
    rw [Int.neg_tmod] at h9
    omega
  have h4 : x.toInt % k = x.toInt.tmod k + k := by
    have h5 : x.toInt % k = (x.toInt.tmod k) % k := by
      have := Int.mul_tdiv_add_tmod x.toInt k
      have h6 : x.toInt % k = ((k : Int) * x.toInt.tdiv k + x.toInt.tmod k) % k := by rw [this]
      rw [h6, Int.add_comm, Int.add_mul_emod_self_left]
    have h7 : (x.toInt.tmod k + k) % k = x.toInt.tmod k + k := Int.emod_eq_of_lt (by omega) (by omega)
    rw [h5, ← h7, Int.add_emod_right]
  have h8 : (x - x / nI k * nI k + nI k).toInt = x.toInt % k := by
    rw [zaddI] <;> rw [e, ty] <;> omega
  rw [← h8, Int32.ofInt_toInt]
theorem dJ9_floorMod_0 : decode cJ9_floorMod 0 = .ok (.iload_n 0, 1) := by decide +kernel
theorem dJ9_floorMod_1 : decode cJ9_floorMod 1 = .ok (.iload_n 1, 1) := by decide +kernel
theorem dJ9_floorMod_2 : decode cJ9_floorMod 2 = .ok (.irem, 1) := by decide +kernel
theorem dJ9_floorMod_3 : decode cJ9_floorMod 3 = .ok (.istore_n 2, 1) := by decide +kernel
theorem dJ9_floorMod_4 : decode cJ9_floorMod 4 = .ok (.iload_n 0, 1) := by decide +kernel
theorem dJ9_floorMod_5 : decode cJ9_floorMod 5 = .ok (.iload_n 1, 1) := by decide +kernel
theorem dJ9_floorMod_6 : decode cJ9_floorMod 6 = .ok (.ixor, 1) := by decide +kernel
theorem dJ9_floorMod_7 : decode cJ9_floorMod 7 = .ok (.ifCond .ge 11, 3) := by decide +kernel
theorem dJ9_floorMod_10 : decode cJ9_floorMod 10 = .ok (.iload_n 2, 1) := by decide +kernel
theorem dJ9_floorMod_11 : decode cJ9_floorMod 11 = .ok (.ifCond .eq 7, 3) := by decide +kernel
theorem dJ9_floorMod_14 : decode cJ9_floorMod 14 = .ok (.iload_n 2, 1) := by decide +kernel
theorem dJ9_floorMod_15 : decode cJ9_floorMod 15 = .ok (.iload_n 1, 1) := by decide +kernel
theorem dJ9_floorMod_16 : decode cJ9_floorMod 16 = .ok (.iadd, 1) := by decide +kernel
theorem dJ9_floorMod_17 : decode cJ9_floorMod 17 = .ok (.ireturn, 1) := by decide +kernel
theorem dJ9_floorMod_18 : decode cJ9_floorMod 18 = .ok (.iload_n 2, 1) := by decide +kernel
theorem dJ9_floorMod_19 : decode cJ9_floorMod 19 = .ok (.ireturn, 1) := by decide +kernel
set_option maxHeartbeats 4000000 in
set_option maxRecDepth 100000 in
theorem c_J9_floorMod (l : Launch) (E : gE) (g : Mem) (x : Int32) (k : Nat) (h0 : 0 < k) (hk : k < 1048576) (h1 : -1073741824 ≤ x.toInt) (h2 : x.toInt < 1073741824) : Mt l E yJ9_floorMod cJ9_floorMod 3 (some .int) 0 0 [.int (x), .int (nI (k))] g (pI (fun r g' => r = Int32.ofInt (x.toInt % k) ∧ g' = g)) := by
  refine mt_goF (own := "java/lang/Math") (by decide +kernel) rfl (lo := [some (.int (x)), some (.int (nI (k))), none]) rfl (Nat.le_of_ble_eq_true rfl) (fun X hC => ?_)
  refine y_iload_n hC dJ9_floorMod_0 (i := 0) rfl rfl ?_
  refine y_iload_n hC dJ9_floorMod_1 (i := 1) rfl rfl ?_
  refine y_irem hC dJ9_floorMod_2 (nI_ne0 h0 (by omega)) ?_
  refine y_istore_n hC dJ9_floorMod_3 (i := 2) rfl (Nat.le_of_ble_eq_true rfl) rfl (lo' := [some (.int (x)), some (.int (nI (k))), some (.int ((x) - (x) / nI (k) * nI (k)))]) rfl ?_
  refine y_iload_n hC dJ9_floorMod_4 (i := 0) rfl rfl ?_
  refine y_iload_n hC dJ9_floorMod_5 (i := 1) rfl rfl ?_
  refine y_ixor hC dJ9_floorMod_6 ?_
  refine y_if_ge (tgt := 18) hC dJ9_floorMod_7 (by decide) (fun c_7 => ?_) (fun c_7 => ?_)
  · refine y_iload_n hC dJ9_floorMod_18 (i := 2) rfl rfl ?_
    refine y_iret (hC := hC) (hd := dJ9_floorMod_19) (hq := ?_)
    first | exact ⟨zfl_a h0 hk h1 h2 c_7, rfl⟩ | exact ⟨zfl_b h0 hk h1 h2 c_11, rfl⟩
  · refine y_iload_n hC dJ9_floorMod_10 (i := 2) rfl rfl ?_
    refine y_if_eq (tgt := 18) hC dJ9_floorMod_11 (by decide) (fun c_11 => ?_) (fun c_11 => ?_)
    · refine y_iload_n hC dJ9_floorMod_18 (i := 2) rfl rfl ?_
      refine y_iret (hC := hC) (hd := dJ9_floorMod_19) (hq := ?_)
      first | exact ⟨zfl_a h0 hk h1 h2 c_7, rfl⟩ | exact ⟨zfl_b h0 hk h1 h2 c_11, rfl⟩
    · refine y_iload_n hC dJ9_floorMod_14 (i := 2) rfl rfl ?_
      refine y_iload_n hC dJ9_floorMod_15 (i := 1) rfl rfl ?_
      refine y_iadd hC dJ9_floorMod_16 ?_
      refine y_iret (hC := hC) (hd := dJ9_floorMod_17) (hq := ?_)
      exact ⟨zfl_c h0 hk h1 h2 c_7 c_11, rfl⟩

theorem dX0_begin_0 : decode cX0_begin 0 = .ok (.aload_n 0, 1) := by decide +kernel
theorem dX0_begin_1 : decode cX0_begin 1 = .ok (.iload_n 1, 1) := by decide +kernel
theorem dX0_begin_2 : decode cX0_begin 2 = .ok (.putfield 7, 3) := by decide +kernel
theorem dX0_begin_5 : decode cX0_begin 5 = .ok (.aload_n 0, 1) := by decide +kernel
theorem dX0_begin_6 : decode cX0_begin 6 = .ok (.iload_n 2, 1) := by decide +kernel
theorem dX0_begin_7 : decode cX0_begin 7 = .ok (.putfield 13, 3) := by decide +kernel
theorem dX0_begin_10 : decode cX0_begin 10 = .ok (.aload_n 0, 1) := by decide +kernel
theorem dX0_begin_11 : decode cX0_begin 11 = .ok (.iload_n 3, 1) := by decide +kernel
theorem dX0_begin_12 : decode cX0_begin 12 = .ok (.putfield 16, 3) := by decide +kernel
theorem dX0_begin_15 : decode cX0_begin 15 = .ok (.aload_n 0, 1) := by decide +kernel
theorem dX0_begin_16 : decode cX0_begin 16 = .ok (.iconst 0, 1) := by decide +kernel
theorem dX0_begin_17 : decode cX0_begin 17 = .ok (.putfield 19, 3) := by decide +kernel
theorem dX0_begin_20 : decode cX0_begin 20 = .ok (.return_, 1) := by decide +kernel
set_option maxHeartbeats 4000000 in
set_option maxRecDepth 100000 in
theorem c_X0_begin (l : Launch) (E : gE) (g : Mem) (a : Nat) (ha : a < eK E) (pl co le ti : Int32) (hg : g a = oB 0 [.int (pl), .int (co), .int (le), .int (ti)]) (p c n : Int32) : Mt l E yX0_begin cX0_begin 4 none 0 0 [rf E (a), .int (p), .int (c), .int (n)] g (pV (fun g' => g' = va_up g a (oB 0 [.int (p), .int (c), .int (n), .int (nI (0))]))) := by
  refine mt_go (own := RX0) (by decide) rfl (lo := [some (rf E (a)), some (.int (p)), some (.int (c)), some (.int (n))]) rfl (Nat.le_of_ble_eq_true rfl) (fun X hC => ?_)
  refine y_aload_n hC dX0_begin_0 (i := 0) rfl rfl ?_
  refine y_iload_n hC dX0_begin_1 (i := 1) rfl rfl ?_
  refine y_put hC fpX0_7 dX0_begin_2 (k := a) ha hg (Nat.le_of_ble_eq_true rfl) (rfl) (rfl) (fs' := [.int (p), .int (co), .int (le), .int (ti)]) rfl ?_
  refine y_aload_n hC dX0_begin_5 (i := 0) rfl rfl ?_
  refine y_iload_n hC dX0_begin_6 (i := 2) rfl rfl ?_
  refine y_put hC fpX0_13 dX0_begin_7 (k := a) ha (va_up_self _ _ _) (Nat.le_of_ble_eq_true rfl) (rfl) (rfl) (fs' := [.int (p), .int (c), .int (le), .int (ti)]) rfl ?_
  refine y_mem (zup_up _ _ _ _) ?_
  refine y_aload_n hC dX0_begin_10 (i := 0) rfl rfl ?_
  refine y_iload_n hC dX0_begin_11 (i := 3) rfl rfl ?_
  refine y_put hC fpX0_16 dX0_begin_12 (k := a) ha (va_up_self _ _ _) (Nat.le_of_ble_eq_true rfl) (rfl) (rfl) (fs' := [.int (p), .int (c), .int (n), .int (ti)]) rfl ?_
  refine y_mem (zup_up _ _ _ _) ?_
  refine y_aload_n hC dX0_begin_15 (i := 0) rfl rfl ?_
  refine y_iconst (v := nI 0) hC dX0_begin_16 (by decide) ?_
  refine y_put hC fpX0_19 dX0_begin_17 (k := a) ha (va_up_self _ _ _) (Nat.le_of_ble_eq_true rfl) (rfl) (rfl) (fs' := [.int (p), .int (c), .int (n), .int (nI (0))]) rfl ?_
  refine y_mem (zup_up _ _ _ _) ?_
  refine y_vret (hC := hC) (hd := dX0_begin_20) (hq := ?_)
  rfl

theorem dX0_copy_0 : decode cX0_copy 0 = .ok (.aload_n 0, 1) := by decide +kernel
theorem dX0_copy_1 : decode cX0_copy 1 = .ok (.aload_n 1, 1) := by decide +kernel
theorem dX0_copy_2 : decode cX0_copy 2 = .ok (.getfield 7, 3) := by decide +kernel
theorem dX0_copy_5 : decode cX0_copy 5 = .ok (.putfield 7, 3) := by decide +kernel
theorem dX0_copy_8 : decode cX0_copy 8 = .ok (.aload_n 0, 1) := by decide +kernel
theorem dX0_copy_9 : decode cX0_copy 9 = .ok (.aload_n 1, 1) := by decide +kernel
theorem dX0_copy_10 : decode cX0_copy 10 = .ok (.getfield 13, 3) := by decide +kernel
theorem dX0_copy_13 : decode cX0_copy 13 = .ok (.putfield 13, 3) := by decide +kernel
theorem dX0_copy_16 : decode cX0_copy 16 = .ok (.aload_n 0, 1) := by decide +kernel
theorem dX0_copy_17 : decode cX0_copy 17 = .ok (.aload_n 1, 1) := by decide +kernel
theorem dX0_copy_18 : decode cX0_copy 18 = .ok (.getfield 16, 3) := by decide +kernel
theorem dX0_copy_21 : decode cX0_copy 21 = .ok (.putfield 16, 3) := by decide +kernel
theorem dX0_copy_24 : decode cX0_copy 24 = .ok (.aload_n 0, 1) := by decide +kernel
theorem dX0_copy_25 : decode cX0_copy 25 = .ok (.aload_n 1, 1) := by decide +kernel
theorem dX0_copy_26 : decode cX0_copy 26 = .ok (.getfield 19, 3) := by decide +kernel
theorem dX0_copy_29 : decode cX0_copy 29 = .ok (.putfield 19, 3) := by decide +kernel
theorem dX0_copy_32 : decode cX0_copy 32 = .ok (.return_, 1) := by decide +kernel
set_option maxHeartbeats 4000000 in
set_option maxRecDepth 100000 in
theorem c_X0_copy (l : Launch) (E : gE) (g : Mem) (a : Nat) (ha : a < eK E) (pl co le ti : Int32) (hg : g a = oB 0 [.int (pl), .int (co), .int (le), .int (ti)]) (b : Nat) (hb : b < eK E) (hba : b ≠ a) (b0 b1 b2 b3 : Int32) (hgb : g b = oB 0 [.int (b0), .int (b1), .int (b2), .int (b3)]) : Mt l E yX0_copy cX0_copy 2 none 0 0 [rf E (a), rf E (b)] g (pV (fun g' => g' = va_up g a (oB 0 [.int (b0), .int (b1), .int (b2), .int (b3)]))) := by
  refine mt_go (own := RX0) (by decide) rfl (lo := [some (rf E (a)), some (rf E (b))]) rfl (Nat.le_of_ble_eq_true rfl) (fun X hC => ?_)
  refine y_aload_n hC dX0_copy_0 (i := 0) rfl rfl ?_
  refine y_aload_n hC dX0_copy_1 (i := 1) rfl rfl ?_
  refine y_get hC fX0_7 dX0_copy_2 (k := b) hb hgb rfl ?_
  refine y_put hC fpX0_7 dX0_copy_5 (k := a) ha hg (Nat.le_of_ble_eq_true rfl) (rfl) (rfl) (fs' := [.int (b0), .int (co), .int (le), .int (ti)]) rfl ?_
  refine y_aload_n hC dX0_copy_8 (i := 0) rfl rfl ?_
  refine y_aload_n hC dX0_copy_9 (i := 1) rfl rfl ?_
  refine y_get hC fX0_13 dX0_copy_10 (k := b) hb ((va_up_ne _ _ (hba)).trans hgb) rfl ?_
  refine y_put hC fpX0_13 dX0_copy_13 (k := a) ha (va_up_self _ _ _) (Nat.le_of_ble_eq_true rfl) (rfl) (rfl) (fs' := [.int (b0), .int (b1), .int (le), .int (ti)]) rfl ?_
  refine y_mem (zup_up _ _ _ _) ?_
  refine y_aload_n hC dX0_copy_16 (i := 0) rfl rfl ?_
  refine y_aload_n hC dX0_copy_17 (i := 1) rfl rfl ?_
  refine y_get hC fX0_16 dX0_copy_18 (k := b) hb ((va_up_ne _ _ (hba)).trans hgb) rfl ?_
  refine y_put hC fpX0_16 dX0_copy_21 (k := a) ha (va_up_self _ _ _) (Nat.le_of_ble_eq_true rfl) (rfl) (rfl) (fs' := [.int (b0), .int (b1), .int (b2), .int (ti)]) rfl ?_
  refine y_mem (zup_up _ _ _ _) ?_
  refine y_aload_n hC dX0_copy_24 (i := 0) rfl rfl ?_
  refine y_aload_n hC dX0_copy_25 (i := 1) rfl rfl ?_
  refine y_get hC fX0_19 dX0_copy_26 (k := b) hb ((va_up_ne _ _ (hba)).trans hgb) rfl ?_
  refine y_put hC fpX0_19 dX0_copy_29 (k := a) ha (va_up_self _ _ _) (Nat.le_of_ble_eq_true rfl) (rfl) (rfl) (fs' := [.int (b0), .int (b1), .int (b2), .int (b3)]) rfl ?_
  refine y_mem (zup_up _ _ _ _) ?_
  refine y_vret (hC := hC) (hd := dX0_copy_32) (hq := ?_)
  rfl

theorem dX0_fullTicks_0 : decode cX0_fullTicks 0 = .ok (.iconst 2, 1) := by decide +kernel
theorem dX0_fullTicks_1 : decode cX0_fullTicks 1 = .ok (.aload_n 0, 1) := by decide +kernel
theorem dX0_fullTicks_2 : decode cX0_fullTicks 2 = .ok (.getfield 16, 3) := by decide +kernel
theorem dX0_fullTicks_5 : decode cX0_fullTicks 5 = .ok (.imul, 1) := by decide +kernel
theorem dX0_fullTicks_6 : decode cX0_fullTicks 6 = .ok (.ireturn, 1) := by decide +kernel
set_option maxHeartbeats 4000000 in
set_option maxRecDepth 100000 in
theorem c_X0_fullTicks (l : Launch) (E : gE) (g : Mem) (a : Nat) (ha : a < eK E) (pl co : Int32) (le ti : Nat) (hle : 0 < le) (hle2 : le ≤ 30) (hti : ti < 2 * le) (hg : g a = oB 0 [.int (pl), .int (co), .int (nI (le)), .int (nI (ti))]) : Mt l E yX0_fullTicks cX0_fullTicks 1 (some .int) 0 0 [rf E (a)] g (pI (fun r g' => r = nI (2 * le) ∧ g' = g)) := by
  refine mt_go (own := RX0) (by decide) rfl (lo := [some (rf E (a))]) rfl (Nat.le_of_ble_eq_true rfl) (fun X hC => ?_)
  refine y_iconst (v := nI 2) hC dX0_fullTicks_0 (by decide) ?_
  refine y_aload_n hC dX0_fullTicks_1 (i := 0) rfl rfl ?_
  refine y_get hC fX0_16 dX0_fullTicks_2 (k := a) ha hg rfl ?_
  refine y_imul_n hC dX0_fullTicks_5 ?_
  refine y_iret (hC := hC) (hd := dX0_fullTicks_6) (hq := ?_)
  exact ⟨rfl, rfl⟩

theorem dX0_advance_0 : decode cX0_advance 0 = .ok (.aload_n 0, 1) := by decide +kernel
theorem dX0_advance_1 : decode cX0_advance 1 = .ok (.aload_n 0, 1) := by decide +kernel
theorem dX0_advance_2 : decode cX0_advance 2 = .ok (.getfield 19, 3) := by decide +kernel
theorem dX0_advance_5 : decode cX0_advance 5 = .ok (.iload_n 1, 1) := by decide +kernel
theorem dX0_advance_6 : decode cX0_advance 6 = .ok (.iadd, 1) := by decide +kernel
theorem dX0_advance_7 : decode cX0_advance 7 = .ok (.aload_n 0, 1) := by decide +kernel
theorem dX0_advance_8 : decode cX0_advance 8 = .ok (.invokevirtual 22, 3) := by decide +kernel
theorem dX0_advance_11 : decode cX0_advance 11 = .ok (.irem, 1) := by decide +kernel
theorem dX0_advance_12 : decode cX0_advance 12 = .ok (.putfield 19, 3) := by decide +kernel
theorem dX0_advance_15 : decode cX0_advance 15 = .ok (.return_, 1) := by decide +kernel
set_option maxHeartbeats 4000000 in
set_option maxRecDepth 100000 in
theorem c_X0_advance (l : Launch) (E : gE) (g : Mem) (a : Nat) (ha : a < eK E) (pl co : Int32) (le ti : Nat) (hle : 0 < le) (hle2 : le ≤ 30) (hti : ti < 2 * le) (hg : g a = oB 0 [.int (pl), .int (co), .int (nI (le)), .int (nI (ti))]) (t : Nat) (ht : t ≤ 5000) : Mt l E yX0_advance cX0_advance 2 none 1 20 [rf E (a), .int (nI (t))] g (pV (fun g' => g' = va_up g a (oB 0 [.int (pl), .int (co), .int (nI (le)), .int (nI ((ti + t) % (2 * le)))]))) := by
  refine mt_go (own := RX0) (by decide) rfl (lo := [some (rf E (a)), some (.int (nI (t)))]) rfl (Nat.le_of_ble_eq_true rfl) (fun X hC => ?_)
  refine y_aload_n hC dX0_advance_0 (i := 0) rfl rfl ?_
  refine y_aload_n hC dX0_advance_1 (i := 0) rfl rfl ?_
  refine y_get hC fX0_19 dX0_advance_2 (k := a) ha hg rfl ?_
  refine y_iload_n hC dX0_advance_5 (i := 1) rfl rfl ?_
  refine y_iadd_n hC dX0_advance_6 ?_
  refine y_aload_n hC dX0_advance_7 (i := 0) rfl rfl ?_
  refine y_callV hC mX0_fullTicks kX0_22 dX0_advance_8 (b := a) (As := []) (rest := [.int (nI (ti + t)), rf E (a)]) (c_X0_fullTicks l E _ a ha pl co le ti hle hle2 hti hg) ha hg rfl rfl rfl (Nat.le_of_ble_eq_true rfl) ⟨Nat.le_of_ble_eq_true rfl, Nat.le_of_ble_eq_true rfl⟩ (pk_i ?_)
  rintro r_8 g_8 ⟨hr_8, hq_8⟩
  obtain rfl := hq_8.symm
  rw [hr_8]
  clear hr_8 r_8
  refine y_irem_n hC dX0_advance_11 (by omega) (by omega) (by omega) ?_
  refine y_put hC fpX0_19 dX0_advance_12 (k := a) ha hg (Nat.le_of_ble_eq_true rfl) (rfl) (rfl) (fs' := [.int (pl), .int (co), .int (nI (le)), .int (nI ((ti + t) % (2 * le)))]) rfl ?_
  refine y_vret (hC := hC) (hd := dX0_advance_15) (hq := ?_)
  rfl

theorem dX0_strength_0 : decode cX0_strength 0 = .ok (.aload_n 0, 1) := by decide +kernel
theorem dX0_strength_1 : decode cX0_strength 1 = .ok (.getfield 19, 3) := by decide +kernel
theorem dX0_strength_4 : decode cX0_strength 4 = .ok (.iload_n 1, 1) := by decide +kernel
theorem dX0_strength_5 : decode cX0_strength 5 = .ok (.iadd, 1) := by decide +kernel
theorem dX0_strength_6 : decode cX0_strength 6 = .ok (.aload_n 0, 1) := by decide +kernel
theorem dX0_strength_7 : decode cX0_strength 7 = .ok (.invokevirtual 22, 3) := by decide +kernel
theorem dX0_strength_10 : decode cX0_strength 10 = .ok (.irem, 1) := by decide +kernel
theorem dX0_strength_11 : decode cX0_strength 11 = .ok (.istore_n 2, 1) := by decide +kernel
theorem dX0_strength_12 : decode cX0_strength 12 = .ok (.iload_n 2, 1) := by decide +kernel
theorem dX0_strength_13 : decode cX0_strength 13 = .ok (.aload_n 0, 1) := by decide +kernel
theorem dX0_strength_14 : decode cX0_strength 14 = .ok (.getfield 16, 3) := by decide +kernel
theorem dX0_strength_17 : decode cX0_strength 17 = .ok (.if_icmp .gt 7, 3) := by decide +kernel
theorem dX0_strength_20 : decode cX0_strength 20 = .ok (.iload_n 2, 1) := by decide +kernel
theorem dX0_strength_21 : decode cX0_strength 21 = .ok (.goto 9, 3) := by decide +kernel
theorem dX0_strength_24 : decode cX0_strength 24 = .ok (.aload_n 0, 1) := by decide +kernel
theorem dX0_strength_25 : decode cX0_strength 25 = .ok (.invokevirtual 22, 3) := by decide +kernel
theorem dX0_strength_28 : decode cX0_strength 28 = .ok (.iload_n 2, 1) := by decide +kernel
theorem dX0_strength_29 : decode cX0_strength 29 = .ok (.isub, 1) := by decide +kernel
theorem dX0_strength_30 : decode cX0_strength 30 = .ok (.ireturn, 1) := by decide +kernel
set_option maxHeartbeats 4000000 in
set_option maxRecDepth 100000 in
theorem c_X0_strength (l : Launch) (E : gE) (g : Mem) (a : Nat) (ha : a < eK E) (pl co : Int32) (le ti : Nat) (hle : 0 < le) (hle2 : le ≤ 30) (hti : ti < 2 * le) (hg : g a = oB 0 [.int (pl), .int (co), .int (nI (le)), .int (nI (ti))]) (t : Nat) (ht : t ≤ 5000) : Mt l E yX0_strength cX0_strength 3 (some .int) 1 20 [rf E (a), .int (nI (t))] g (pI (fun r g' => r = nI (stN le ti t) ∧ g' = g)) := by
  refine mt_go (own := RX0) (by decide) rfl (lo := [some (rf E (a)), some (.int (nI (t))), none]) rfl (Nat.le_of_ble_eq_true rfl) (fun X hC => ?_)
  refine y_aload_n hC dX0_strength_0 (i := 0) rfl rfl ?_
  refine y_get hC fX0_19 dX0_strength_1 (k := a) ha hg rfl ?_
  refine y_iload_n hC dX0_strength_4 (i := 1) rfl rfl ?_
  refine y_iadd_n hC dX0_strength_5 ?_
  refine y_aload_n hC dX0_strength_6 (i := 0) rfl rfl ?_
  refine y_callV hC mX0_fullTicks kX0_22 dX0_strength_7 (b := a) (As := []) (rest := [.int (nI (ti + t))]) (c_X0_fullTicks l E _ a ha pl co le ti hle hle2 hti hg) ha hg rfl rfl rfl (Nat.le_of_ble_eq_true rfl) ⟨Nat.le_of_ble_eq_true rfl, Nat.le_of_ble_eq_true rfl⟩ (pk_i ?_)
  rintro r_7 g_7 ⟨hr_7, hq_7⟩
  obtain rfl := hq_7.symm
  rw [hr_7]
  clear hr_7 r_7
  refine y_irem_n hC dX0_strength_10 (by omega) (by omega) (by omega) ?_
  have hm : (ti + t) % (2 * le) < 2 * le := Nat.mod_lt _ (by omega)
  refine y_istore_n hC dX0_strength_11 (i := 2) rfl (Nat.le_of_ble_eq_true rfl) rfl (lo' := [some (rf E (a)), some (.int (nI (t))), some (.int (nI ((ti + t) % (2 * le))))]) rfl ?_
  refine y_iload_n hC dX0_strength_12 (i := 2) rfl rfl ?_
  refine y_aload_n hC dX0_strength_13 (i := 0) rfl rfl ?_
  refine y_get hC fX0_16 dX0_strength_14 (k := a) ha hg rfl ?_
  refine y_icmp_gt_n (tgt := 24) hC dX0_strength_17 (by decide) (by omega) (by omega) (fun c_17 => ?_) (fun c_17 => ?_)
  · refine y_aload_n hC dX0_strength_24 (i := 0) rfl rfl ?_
    refine y_callV hC mX0_fullTicks kX0_22 dX0_strength_25 (b := a) (As := []) (rest := []) (c_X0_fullTicks l E _ a ha pl co le ti hle hle2 hti hg) ha hg rfl rfl rfl (Nat.le_of_ble_eq_true rfl) ⟨Nat.le_of_ble_eq_true rfl, Nat.le_of_ble_eq_true rfl⟩ (pk_i ?_)
    rintro r_25 g_25 ⟨hr_25, hq_25⟩
    obtain rfl := hq_25.symm
    rw [hr_25]
    clear hr_25 r_25
    refine y_iload_n hC dX0_strength_28 (i := 2) rfl rfl ?_
    refine y_isub_n hC dX0_strength_29 (Nat.le_of_lt hm) ?_
    refine y_iret (hC := hC) (hd := dX0_strength_30) (hq := ?_)
    refine ⟨congrArg nI ?_, rfl⟩
    unfold stN
    split <;> omega
  · refine y_iload_n hC dX0_strength_20 (i := 2) rfl rfl ?_
    refine y_goto (tgt := 30) hC dX0_strength_21 (by decide) ?_
    refine y_iret (hC := hC) (hd := dX0_strength_30) (hq := ?_)
    refine ⟨congrArg nI ?_, rfl⟩
    unfold stN
    split <;> omega

theorem dX5_part_0 : decode cX5_part 0 = .ok (.iload_n 0, 1) := by decide +kernel
theorem dX5_part_1 : decode cX5_part 1 = .ok (.iload_n 1, 1) := by decide +kernel
theorem dX5_part_2 : decode cX5_part 2 = .ok (.ishr, 1) := by decide +kernel
theorem dX5_part_3 : decode cX5_part 3 = .ok (.bipush 63, 2) := by decide +kernel
theorem dX5_part_5 : decode cX5_part 5 = .ok (.iand, 1) := by decide +kernel
theorem dX5_part_6 : decode cX5_part 6 = .ok (.ireturn, 1) := by decide +kernel
set_option maxHeartbeats 4000000 in
set_option maxRecDepth 100000 in
theorem c_X5_part (l : Launch) (E : gE) (g : Mem) (c : Int32) (s : Nat) : Mt l E yX5_part cX5_part 2 (some .int) 0 0 [.int (c), .int (nI (s))] g (pI (fun r g' => r = cPart c s ∧ g' = g)) := by
  refine mt_go (own := RX5) (by decide) rfl (lo := [some (.int (c)), some (.int (nI (s)))]) rfl (Nat.le_of_ble_eq_true rfl) (fun X hC => ?_)
  refine y_iload_n hC dX5_part_0 (i := 0) rfl rfl ?_
  refine y_iload_n hC dX5_part_1 (i := 1) rfl rfl ?_
  refine y_ishr hC dX5_part_2 ?_
  refine y_bipush (v := nI 63) hC dX5_part_3 (by decide) ?_
  refine y_iand hC dX5_part_5 ?_
  refine y_iret (hC := hC) (hd := dX5_part_6) (hq := ?_)
  exact ⟨rfl, rfl⟩

theorem dX5_mixedPart_0 : decode cX5_mixedPart 0 = .ok (.iload_n 0, 1) := by decide +kernel
theorem dX5_mixedPart_1 : decode cX5_mixedPart 1 = .ok (.iload_n 1, 1) := by decide +kernel
theorem dX5_mixedPart_2 : decode cX5_mixedPart 2 = .ok (.iload_n 0, 1) := by decide +kernel
theorem dX5_mixedPart_3 : decode cX5_mixedPart 3 = .ok (.isub, 1) := by decide +kernel
theorem dX5_mixedPart_4 : decode cX5_mixedPart 4 = .ok (.iload_n 2, 1) := by decide +kernel
theorem dX5_mixedPart_5 : decode cX5_mixedPart 5 = .ok (.imul, 1) := by decide +kernel
theorem dX5_mixedPart_6 : decode cX5_mixedPart 6 = .ok (.iload_n 3, 1) := by decide +kernel
theorem dX5_mixedPart_7 : decode cX5_mixedPart 7 = .ok (.idiv, 1) := by decide +kernel
theorem dX5_mixedPart_8 : decode cX5_mixedPart 8 = .ok (.iadd, 1) := by decide +kernel
theorem dX5_mixedPart_9 : decode cX5_mixedPart 9 = .ok (.ireturn, 1) := by decide +kernel
set_option maxHeartbeats 4000000 in
set_option maxRecDepth 100000 in
theorem c_X5_mixedPart (l : Launch) (E : gE) (g : Mem) (x y k n : Int32) (hn : ¬ n = 0) : Mt l E yX5_mixedPart cX5_mixedPart 4 (some .int) 0 0 [.int (x), .int (y), .int (k), .int (n)] g (pI (fun r g' => r = cMix1 x y k n ∧ g' = g)) := by
  refine mt_go (own := RX5) (by decide) rfl (lo := [some (.int (x)), some (.int (y)), some (.int (k)), some (.int (n))]) rfl (Nat.le_of_ble_eq_true rfl) (fun X hC => ?_)
  refine y_iload_n hC dX5_mixedPart_0 (i := 0) rfl rfl ?_
  refine y_iload_n hC dX5_mixedPart_1 (i := 1) rfl rfl ?_
  refine y_iload_n hC dX5_mixedPart_2 (i := 0) rfl rfl ?_
  refine y_isub hC dX5_mixedPart_3 ?_
  refine y_iload_n hC dX5_mixedPart_4 (i := 2) rfl rfl ?_
  refine y_imul hC dX5_mixedPart_5 ?_
  refine y_iload_n hC dX5_mixedPart_6 (i := 3) rfl rfl ?_
  refine y_idiv hC dX5_mixedPart_7 (hn) ?_
  refine y_iadd hC dX5_mixedPart_8 ?_
  refine y_iret (hC := hC) (hd := dX5_mixedPart_9) (hq := ?_)
  exact ⟨rfl, rfl⟩

theorem dX5_mixed_0 : decode cX5_mixed 0 = .ok (.iload_n 0, 1) := by decide +kernel
theorem dX5_mixed_1 : decode cX5_mixed 1 = .ok (.bipush 12, 2) := by decide +kernel
theorem dX5_mixed_3 : decode cX5_mixed 3 = .ok (.invokestatic 265, 3) := by decide +kernel
theorem dX5_mixed_6 : decode cX5_mixed 6 = .ok (.iload_n 1, 1) := by decide +kernel
theorem dX5_mixed_7 : decode cX5_mixed 7 = .ok (.bipush 12, 2) := by decide +kernel
theorem dX5_mixed_9 : decode cX5_mixed 9 = .ok (.invokestatic 265, 3) := by decide +kernel
theorem dX5_mixed_12 : decode cX5_mixed 12 = .ok (.iload_n 2, 1) := by decide +kernel
theorem dX5_mixed_13 : decode cX5_mixed 13 = .ok (.iload_n 3, 1) := by decide +kernel
theorem dX5_mixed_14 : decode cX5_mixed 14 = .ok (.invokestatic 268, 3) := by decide +kernel
theorem dX5_mixed_17 : decode cX5_mixed 17 = .ok (.istore 4, 2) := by decide +kernel
theorem dX5_mixed_19 : decode cX5_mixed 19 = .ok (.iload_n 0, 1) := by decide +kernel
theorem dX5_mixed_20 : decode cX5_mixed 20 = .ok (.bipush 6, 2) := by decide +kernel
theorem dX5_mixed_22 : decode cX5_mixed 22 = .ok (.invokestatic 265, 3) := by decide +kernel
theorem dX5_mixed_25 : decode cX5_mixed 25 = .ok (.iload_n 1, 1) := by decide +kernel
theorem dX5_mixed_26 : decode cX5_mixed 26 = .ok (.bipush 6, 2) := by decide +kernel
theorem dX5_mixed_28 : decode cX5_mixed 28 = .ok (.invokestatic 265, 3) := by decide +kernel
theorem dX5_mixed_31 : decode cX5_mixed 31 = .ok (.iload_n 2, 1) := by decide +kernel
theorem dX5_mixed_32 : decode cX5_mixed 32 = .ok (.iload_n 3, 1) := by decide +kernel
theorem dX5_mixed_33 : decode cX5_mixed 33 = .ok (.invokestatic 268, 3) := by decide +kernel
theorem dX5_mixed_36 : decode cX5_mixed 36 = .ok (.istore 5, 2) := by decide +kernel
theorem dX5_mixed_38 : decode cX5_mixed 38 = .ok (.iload_n 0, 1) := by decide +kernel
theorem dX5_mixed_39 : decode cX5_mixed 39 = .ok (.iconst 0, 1) := by decide +kernel
theorem dX5_mixed_40 : decode cX5_mixed 40 = .ok (.invokestatic 265, 3) := by decide +kernel
theorem dX5_mixed_43 : decode cX5_mixed 43 = .ok (.iload_n 1, 1) := by decide +kernel
theorem dX5_mixed_44 : decode cX5_mixed 44 = .ok (.iconst 0, 1) := by decide +kernel
theorem dX5_mixed_45 : decode cX5_mixed 45 = .ok (.invokestatic 265, 3) := by decide +kernel
theorem dX5_mixed_48 : decode cX5_mixed 48 = .ok (.iload_n 2, 1) := by decide +kernel
theorem dX5_mixed_49 : decode cX5_mixed 49 = .ok (.iload_n 3, 1) := by decide +kernel
theorem dX5_mixed_50 : decode cX5_mixed 50 = .ok (.invokestatic 268, 3) := by decide +kernel
theorem dX5_mixed_53 : decode cX5_mixed 53 = .ok (.istore 6, 2) := by decide +kernel
theorem dX5_mixed_55 : decode cX5_mixed 55 = .ok (.iload 4, 2) := by decide +kernel
theorem dX5_mixed_57 : decode cX5_mixed 57 = .ok (.bipush 12, 2) := by decide +kernel
theorem dX5_mixed_59 : decode cX5_mixed 59 = .ok (.ishl, 1) := by decide +kernel
theorem dX5_mixed_60 : decode cX5_mixed 60 = .ok (.iload 5, 2) := by decide +kernel
theorem dX5_mixed_62 : decode cX5_mixed 62 = .ok (.bipush 6, 2) := by decide +kernel
theorem dX5_mixed_64 : decode cX5_mixed 64 = .ok (.ishl, 1) := by decide +kernel
theorem dX5_mixed_65 : decode cX5_mixed 65 = .ok (.iadd, 1) := by decide +kernel
theorem dX5_mixed_66 : decode cX5_mixed 66 = .ok (.iload 6, 2) := by decide +kernel
theorem dX5_mixed_68 : decode cX5_mixed 68 = .ok (.iadd, 1) := by decide +kernel
theorem dX5_mixed_69 : decode cX5_mixed 69 = .ok (.ireturn, 1) := by decide +kernel
set_option maxHeartbeats 4000000 in
set_option maxRecDepth 100000 in
theorem c_X5_mixed (l : Launch) (E : gE) (g : Mem) (x y k n : Int32) (hn : ¬ n = 0) : Mt l E yX5_mixed cX5_mixed 7 (some .int) 1 23 [.int (x), .int (y), .int (k), .int (n)] g (pI (fun r g' => r = cMix x y k n ∧ g' = g)) := by
  refine mt_go (own := RX5) (by decide) rfl (lo := [some (.int (x)), some (.int (y)), some (.int (k)), some (.int (n)), none, none, none]) rfl (Nat.le_of_ble_eq_true rfl) (fun X hC => ?_)
  refine y_iload_n hC dX5_mixed_0 (i := 0) rfl rfl ?_
  refine y_bipush (v := nI 12) hC dX5_mixed_1 (by decide) ?_
  refine y_callS hC mX5_part kX5_265 dX5_mixed_3 (As := [.int (x), .int (nI (12))]) (rest := []) (c_X5_part l E _ ((x)) 12) rfl rfl rfl (Nat.le_of_ble_eq_true rfl) ⟨Nat.le_of_ble_eq_true rfl, Nat.le_of_ble_eq_true rfl⟩ (pk_i ?_)
  rintro r_3 g_3 ⟨hr_3, hq_3⟩
  obtain rfl := hq_3.symm
  rw [hr_3]
  clear hr_3 r_3
  refine y_iload_n hC dX5_mixed_6 (i := 1) rfl rfl ?_
  refine y_bipush (v := nI 12) hC dX5_mixed_7 (by decide) ?_
  refine y_callS hC mX5_part kX5_265 dX5_mixed_9 (As := [.int (y), .int (nI (12))]) (rest := [.int (cPart (x) 12)]) (c_X5_part l E _ ((y)) 12) rfl rfl rfl (Nat.le_of_ble_eq_true rfl) ⟨Nat.le_of_ble_eq_true rfl, Nat.le_of_ble_eq_true rfl⟩ (pk_i ?_)
  rintro r_9 g_9 ⟨hr_9, hq_9⟩
  obtain rfl := hq_9.symm
  rw [hr_9]
  clear hr_9 r_9
  refine y_iload_n hC dX5_mixed_12 (i := 2) rfl rfl ?_
  refine y_iload_n hC dX5_mixed_13 (i := 3) rfl rfl ?_
  refine y_callS hC mX5_mixedPart kX5_268 dX5_mixed_14 (As := [.int (cPart (x) 12), .int (cPart (y) 12), .int (k), .int (n)]) (rest := []) (c_X5_mixedPart l E _ ((cPart (x) 12)) ((cPart (y) 12)) ((k)) ((n)) hn) rfl rfl rfl (Nat.le_of_ble_eq_true rfl) ⟨Nat.le_of_ble_eq_true rfl, Nat.le_of_ble_eq_true rfl⟩ (pk_i ?_)
  rintro r_14 g_14 ⟨hr_14, hq_14⟩
  obtain rfl := hq_14.symm
  rw [hr_14]
  clear hr_14 r_14
  refine y_istore hC dX5_mixed_17 (Nat.le_of_ble_eq_true rfl) rfl (lo' := [some (.int (x)), some (.int (y)), some (.int (k)), some (.int (n)), some (.int (cMix1 ((cPart (x) 12)) ((cPart (y) 12)) ((k)) ((n)))), none, none]) rfl ?_
  refine y_iload_n hC dX5_mixed_19 (i := 0) rfl rfl ?_
  refine y_bipush (v := nI 6) hC dX5_mixed_20 (by decide) ?_
  refine y_callS hC mX5_part kX5_265 dX5_mixed_22 (As := [.int (x), .int (nI (6))]) (rest := []) (c_X5_part l E _ ((x)) 6) rfl rfl rfl (Nat.le_of_ble_eq_true rfl) ⟨Nat.le_of_ble_eq_true rfl, Nat.le_of_ble_eq_true rfl⟩ (pk_i ?_)
  rintro r_22 g_22 ⟨hr_22, hq_22⟩
  obtain rfl := hq_22.symm
  rw [hr_22]
  clear hr_22 r_22
  refine y_iload_n hC dX5_mixed_25 (i := 1) rfl rfl ?_
  refine y_bipush (v := nI 6) hC dX5_mixed_26 (by decide) ?_
  refine y_callS hC mX5_part kX5_265 dX5_mixed_28 (As := [.int (y), .int (nI (6))]) (rest := [.int (cPart (x) 6)]) (c_X5_part l E _ ((y)) 6) rfl rfl rfl (Nat.le_of_ble_eq_true rfl) ⟨Nat.le_of_ble_eq_true rfl, Nat.le_of_ble_eq_true rfl⟩ (pk_i ?_)
  rintro r_28 g_28 ⟨hr_28, hq_28⟩
  obtain rfl := hq_28.symm
  rw [hr_28]
  clear hr_28 r_28
  refine y_iload_n hC dX5_mixed_31 (i := 2) rfl rfl ?_
  refine y_iload_n hC dX5_mixed_32 (i := 3) rfl rfl ?_
  refine y_callS hC mX5_mixedPart kX5_268 dX5_mixed_33 (As := [.int (cPart (x) 6), .int (cPart (y) 6), .int (k), .int (n)]) (rest := []) (c_X5_mixedPart l E _ ((cPart (x) 6)) ((cPart (y) 6)) ((k)) ((n)) hn) rfl rfl rfl (Nat.le_of_ble_eq_true rfl) ⟨Nat.le_of_ble_eq_true rfl, Nat.le_of_ble_eq_true rfl⟩ (pk_i ?_)
  rintro r_33 g_33 ⟨hr_33, hq_33⟩
  obtain rfl := hq_33.symm
  rw [hr_33]
  clear hr_33 r_33
  refine y_istore hC dX5_mixed_36 (Nat.le_of_ble_eq_true rfl) rfl (lo' := [some (.int (x)), some (.int (y)), some (.int (k)), some (.int (n)), some (.int (cMix1 ((cPart (x) 12)) ((cPart (y) 12)) ((k)) ((n)))), some (.int (cMix1 ((cPart (x) 6)) ((cPart (y) 6)) ((k)) ((n)))), none]) rfl ?_
  refine y_iload_n hC dX5_mixed_38 (i := 0) rfl rfl ?_
  refine y_iconst (v := nI 0) hC dX5_mixed_39 (by decide) ?_
  refine y_callS hC mX5_part kX5_265 dX5_mixed_40 (As := [.int (x), .int (nI (0))]) (rest := []) (c_X5_part l E _ ((x)) 0) rfl rfl rfl (Nat.le_of_ble_eq_true rfl) ⟨Nat.le_of_ble_eq_true rfl, Nat.le_of_ble_eq_true rfl⟩ (pk_i ?_)
  rintro r_40 g_40 ⟨hr_40, hq_40⟩
  obtain rfl := hq_40.symm
  rw [hr_40]
  clear hr_40 r_40
  refine y_iload_n hC dX5_mixed_43 (i := 1) rfl rfl ?_
  refine y_iconst (v := nI 0) hC dX5_mixed_44 (by decide) ?_
  refine y_callS hC mX5_part kX5_265 dX5_mixed_45 (As := [.int (y), .int (nI (0))]) (rest := [.int (cPart (x) 0)]) (c_X5_part l E _ ((y)) 0) rfl rfl rfl (Nat.le_of_ble_eq_true rfl) ⟨Nat.le_of_ble_eq_true rfl, Nat.le_of_ble_eq_true rfl⟩ (pk_i ?_)
  rintro r_45 g_45 ⟨hr_45, hq_45⟩
  obtain rfl := hq_45.symm
  rw [hr_45]
  clear hr_45 r_45
  refine y_iload_n hC dX5_mixed_48 (i := 2) rfl rfl ?_
  refine y_iload_n hC dX5_mixed_49 (i := 3) rfl rfl ?_
  refine y_callS hC mX5_mixedPart kX5_268 dX5_mixed_50 (As := [.int (cPart (x) 0), .int (cPart (y) 0), .int (k), .int (n)]) (rest := []) (c_X5_mixedPart l E _ ((cPart (x) 0)) ((cPart (y) 0)) ((k)) ((n)) hn) rfl rfl rfl (Nat.le_of_ble_eq_true rfl) ⟨Nat.le_of_ble_eq_true rfl, Nat.le_of_ble_eq_true rfl⟩ (pk_i ?_)
  rintro r_50 g_50 ⟨hr_50, hq_50⟩
  obtain rfl := hq_50.symm
  rw [hr_50]
  clear hr_50 r_50
  refine y_istore hC dX5_mixed_53 (Nat.le_of_ble_eq_true rfl) rfl (lo' := [some (.int (x)), some (.int (y)), some (.int (k)), some (.int (n)), some (.int (cMix1 ((cPart (x) 12)) ((cPart (y) 12)) ((k)) ((n)))), some (.int (cMix1 ((cPart (x) 6)) ((cPart (y) 6)) ((k)) ((n)))), some (.int (cMix1 ((cPart (x) 0)) ((cPart (y) 0)) ((k)) ((n))))]) rfl ?_
  refine y_iload hC dX5_mixed_55 rfl ?_
  refine y_bipush (v := nI 12) hC dX5_mixed_57 (by decide) ?_
  refine y_ishl hC dX5_mixed_59 ?_
  refine y_iload hC dX5_mixed_60 rfl ?_
  refine y_bipush (v := nI 6) hC dX5_mixed_62 (by decide) ?_
  refine y_ishl hC dX5_mixed_64 ?_
  refine y_iadd hC dX5_mixed_65 ?_
  refine y_iload hC dX5_mixed_66 rfl ?_
  refine y_iadd hC dX5_mixed_68 ?_
  refine y_iret (hC := hC) (hd := dX5_mixed_69) (hq := ?_)
  exact ⟨rfl, rfl⟩

theorem dX5_distance_0 : decode cX5_distance 0 = .ok (.iload_n 0, 1) := by decide +kernel
theorem dX5_distance_1 : decode cX5_distance 1 = .ok (.bipush 12, 2) := by decide +kernel
theorem dX5_distance_3 : decode cX5_distance 3 = .ok (.invokestatic 265, 3) := by decide +kernel
theorem dX5_distance_6 : decode cX5_distance 6 = .ok (.iload_n 1, 1) := by decide +kernel
theorem dX5_distance_7 : decode cX5_distance 7 = .ok (.bipush 12, 2) := by decide +kernel
theorem dX5_distance_9 : decode cX5_distance 9 = .ok (.invokestatic 265, 3) := by decide +kernel
theorem dX5_distance_12 : decode cX5_distance 12 = .ok (.isub, 1) := by decide +kernel
theorem dX5_distance_13 : decode cX5_distance 13 = .ok (.istore_n 2, 1) := by decide +kernel
theorem dX5_distance_14 : decode cX5_distance 14 = .ok (.iload_n 0, 1) := by decide +kernel
theorem dX5_distance_15 : decode cX5_distance 15 = .ok (.bipush 6, 2) := by decide +kernel
theorem dX5_distance_17 : decode cX5_distance 17 = .ok (.invokestatic 265, 3) := by decide +kernel
theorem dX5_distance_20 : decode cX5_distance 20 = .ok (.iload_n 1, 1) := by decide +kernel
theorem dX5_distance_21 : decode cX5_distance 21 = .ok (.bipush 6, 2) := by decide +kernel
theorem dX5_distance_23 : decode cX5_distance 23 = .ok (.invokestatic 265, 3) := by decide +kernel
theorem dX5_distance_26 : decode cX5_distance 26 = .ok (.isub, 1) := by decide +kernel
theorem dX5_distance_27 : decode cX5_distance 27 = .ok (.istore_n 3, 1) := by decide +kernel
theorem dX5_distance_28 : decode cX5_distance 28 = .ok (.iload_n 0, 1) := by decide +kernel
theorem dX5_distance_29 : decode cX5_distance 29 = .ok (.iconst 0, 1) := by decide +kernel
theorem dX5_distance_30 : decode cX5_distance 30 = .ok (.invokestatic 265, 3) := by decide +kernel
theorem dX5_distance_33 : decode cX5_distance 33 = .ok (.iload_n 1, 1) := by decide +kernel
theorem dX5_distance_34 : decode cX5_distance 34 = .ok (.iconst 0, 1) := by decide +kernel
theorem dX5_distance_35 : decode cX5_distance 35 = .ok (.invokestatic 265, 3) := by decide +kernel
theorem dX5_distance_38 : decode cX5_distance 38 = .ok (.isub, 1) := by decide +kernel
theorem dX5_distance_39 : decode cX5_distance 39 = .ok (.istore 4, 2) := by decide +kernel
theorem dX5_distance_41 : decode cX5_distance 41 = .ok (.iload_n 2, 1) := by decide +kernel
theorem dX5_distance_42 : decode cX5_distance 42 = .ok (.iload_n 2, 1) := by decide +kernel
theorem dX5_distance_43 : decode cX5_distance 43 = .ok (.imul, 1) := by decide +kernel
theorem dX5_distance_44 : decode cX5_distance 44 = .ok (.iload_n 3, 1) := by decide +kernel
theorem dX5_distance_45 : decode cX5_distance 45 = .ok (.iload_n 3, 1) := by decide +kernel
theorem dX5_distance_46 : decode cX5_distance 46 = .ok (.imul, 1) := by decide +kernel
theorem dX5_distance_47 : decode cX5_distance 47 = .ok (.iadd, 1) := by decide +kernel
theorem dX5_distance_48 : decode cX5_distance 48 = .ok (.iload 4, 2) := by decide +kernel
theorem dX5_distance_50 : decode cX5_distance 50 = .ok (.iload 4, 2) := by decide +kernel
theorem dX5_distance_52 : decode cX5_distance 52 = .ok (.imul, 1) := by decide +kernel
theorem dX5_distance_53 : decode cX5_distance 53 = .ok (.iadd, 1) := by decide +kernel
theorem dX5_distance_54 : decode cX5_distance 54 = .ok (.ireturn, 1) := by decide +kernel
set_option maxHeartbeats 4000000 in
set_option maxRecDepth 100000 in
theorem c_X5_distance (l : Launch) (E : gE) (g : Mem) (x y : Int32) : Mt l E yX5_distance cX5_distance 5 (some .int) 1 21 [.int (x), .int (y)] g (pI (fun r g' => r = cDist x y ∧ g' = g)) := by
  refine mt_go (own := RX5) (by decide) rfl (lo := [some (.int (x)), some (.int (y)), none, none, none]) rfl (Nat.le_of_ble_eq_true rfl) (fun X hC => ?_)
  refine y_iload_n hC dX5_distance_0 (i := 0) rfl rfl ?_
  refine y_bipush (v := nI 12) hC dX5_distance_1 (by decide) ?_
  refine y_callS hC mX5_part kX5_265 dX5_distance_3 (As := [.int (x), .int (nI (12))]) (rest := []) (c_X5_part l E _ ((x)) 12) rfl rfl rfl (Nat.le_of_ble_eq_true rfl) ⟨Nat.le_of_ble_eq_true rfl, Nat.le_of_ble_eq_true rfl⟩ (pk_i ?_)
  rintro r_3 g_3 ⟨hr_3, hq_3⟩
  obtain rfl := hq_3.symm
  rw [hr_3]
  clear hr_3 r_3
  refine y_iload_n hC dX5_distance_6 (i := 1) rfl rfl ?_
  refine y_bipush (v := nI 12) hC dX5_distance_7 (by decide) ?_
  refine y_callS hC mX5_part kX5_265 dX5_distance_9 (As := [.int (y), .int (nI (12))]) (rest := [.int (cPart (x) 12)]) (c_X5_part l E _ ((y)) 12) rfl rfl rfl (Nat.le_of_ble_eq_true rfl) ⟨Nat.le_of_ble_eq_true rfl, Nat.le_of_ble_eq_true rfl⟩ (pk_i ?_)
  rintro r_9 g_9 ⟨hr_9, hq_9⟩
  obtain rfl := hq_9.symm
  rw [hr_9]
  clear hr_9 r_9
  refine y_isub hC dX5_distance_12 ?_
  refine y_istore_n hC dX5_distance_13 (i := 2) rfl (Nat.le_of_ble_eq_true rfl) rfl (lo' := [some (.int (x)), some (.int (y)), some (.int ((cPart (x) 12) - (cPart (y) 12))), none, none]) rfl ?_
  refine y_iload_n hC dX5_distance_14 (i := 0) rfl rfl ?_
  refine y_bipush (v := nI 6) hC dX5_distance_15 (by decide) ?_
  refine y_callS hC mX5_part kX5_265 dX5_distance_17 (As := [.int (x), .int (nI (6))]) (rest := []) (c_X5_part l E _ ((x)) 6) rfl rfl rfl (Nat.le_of_ble_eq_true rfl) ⟨Nat.le_of_ble_eq_true rfl, Nat.le_of_ble_eq_true rfl⟩ (pk_i ?_)
  rintro r_17 g_17 ⟨hr_17, hq_17⟩
  obtain rfl := hq_17.symm
  rw [hr_17]
  clear hr_17 r_17
  refine y_iload_n hC dX5_distance_20 (i := 1) rfl rfl ?_
  refine y_bipush (v := nI 6) hC dX5_distance_21 (by decide) ?_
  refine y_callS hC mX5_part kX5_265 dX5_distance_23 (As := [.int (y), .int (nI (6))]) (rest := [.int (cPart (x) 6)]) (c_X5_part l E _ ((y)) 6) rfl rfl rfl (Nat.le_of_ble_eq_true rfl) ⟨Nat.le_of_ble_eq_true rfl, Nat.le_of_ble_eq_true rfl⟩ (pk_i ?_)
  rintro r_23 g_23 ⟨hr_23, hq_23⟩
  obtain rfl := hq_23.symm
  rw [hr_23]
  clear hr_23 r_23
  refine y_isub hC dX5_distance_26 ?_
  refine y_istore_n hC dX5_distance_27 (i := 3) rfl (Nat.le_of_ble_eq_true rfl) rfl (lo' := [some (.int (x)), some (.int (y)), some (.int ((cPart (x) 12) - (cPart (y) 12))), some (.int ((cPart (x) 6) - (cPart (y) 6))), none]) rfl ?_
  refine y_iload_n hC dX5_distance_28 (i := 0) rfl rfl ?_
  refine y_iconst (v := nI 0) hC dX5_distance_29 (by decide) ?_
  refine y_callS hC mX5_part kX5_265 dX5_distance_30 (As := [.int (x), .int (nI (0))]) (rest := []) (c_X5_part l E _ ((x)) 0) rfl rfl rfl (Nat.le_of_ble_eq_true rfl) ⟨Nat.le_of_ble_eq_true rfl, Nat.le_of_ble_eq_true rfl⟩ (pk_i ?_)
  rintro r_30 g_30 ⟨hr_30, hq_30⟩
  obtain rfl := hq_30.symm
  rw [hr_30]
  clear hr_30 r_30
  refine y_iload_n hC dX5_distance_33 (i := 1) rfl rfl ?_
  refine y_iconst (v := nI 0) hC dX5_distance_34 (by decide) ?_
  refine y_callS hC mX5_part kX5_265 dX5_distance_35 (As := [.int (y), .int (nI (0))]) (rest := [.int (cPart (x) 0)]) (c_X5_part l E _ ((y)) 0) rfl rfl rfl (Nat.le_of_ble_eq_true rfl) ⟨Nat.le_of_ble_eq_true rfl, Nat.le_of_ble_eq_true rfl⟩ (pk_i ?_)
  rintro r_35 g_35 ⟨hr_35, hq_35⟩
  obtain rfl := hq_35.symm
  rw [hr_35]
  clear hr_35 r_35
  refine y_isub hC dX5_distance_38 ?_
  refine y_istore hC dX5_distance_39 (Nat.le_of_ble_eq_true rfl) rfl (lo' := [some (.int (x)), some (.int (y)), some (.int ((cPart (x) 12) - (cPart (y) 12))), some (.int ((cPart (x) 6) - (cPart (y) 6))), some (.int ((cPart (x) 0) - (cPart (y) 0)))]) rfl ?_
  refine y_iload_n hC dX5_distance_41 (i := 2) rfl rfl ?_
  refine y_iload_n hC dX5_distance_42 (i := 2) rfl rfl ?_
  refine y_imul hC dX5_distance_43 ?_
  refine y_iload_n hC dX5_distance_44 (i := 3) rfl rfl ?_
  refine y_iload_n hC dX5_distance_45 (i := 3) rfl rfl ?_
  refine y_imul hC dX5_distance_46 ?_
  refine y_iadd hC dX5_distance_47 ?_
  refine y_iload hC dX5_distance_48 rfl ?_
  refine y_iload hC dX5_distance_50 rfl ?_
  refine y_imul hC dX5_distance_52 ?_
  refine y_iadd hC dX5_distance_53 ?_
  refine y_iret (hC := hC) (hd := dX5_distance_54) (hq := ?_)
  exact ⟨rfl, rfl⟩

theorem dX0_shade_0 : decode cX0_shade 0 = .ok (.iload_n 1, 1) := by decide +kernel
theorem dX0_shade_1 : decode cX0_shade 1 = .ok (.aload_n 0, 1) := by decide +kernel
theorem dX0_shade_2 : decode cX0_shade 2 = .ok (.getfield 13, 3) := by decide +kernel
theorem dX0_shade_5 : decode cX0_shade 5 = .ok (.aload_n 0, 1) := by decide +kernel
theorem dX0_shade_6 : decode cX0_shade 6 = .ok (.iload_n 2, 1) := by decide +kernel
theorem dX0_shade_7 : decode cX0_shade 7 = .ok (.invokevirtual 26, 3) := by decide +kernel
theorem dX0_shade_10 : decode cX0_shade 10 = .ok (.aload_n 0, 1) := by decide +kernel
theorem dX0_shade_11 : decode cX0_shade 11 = .ok (.getfield 16, 3) := by decide +kernel
theorem dX0_shade_14 : decode cX0_shade 14 = .ok (.invokestatic 30, 3) := by decide +kernel
theorem dX0_shade_17 : decode cX0_shade 17 = .ok (.ireturn, 1) := by decide +kernel
set_option maxHeartbeats 4000000 in
set_option maxRecDepth 100000 in
theorem c_X0_shade (l : Launch) (E : gE) (g : Mem) (a : Nat) (ha : a < eK E) (pl co : Int32) (le ti : Nat) (hle : 0 < le) (hle2 : le ≤ 30) (hti : ti < 2 * le) (hg : g a = oB 0 [.int (pl), .int (co), .int (nI (le)), .int (nI (ti))]) (u : Int32) (t : Nat) (ht : t ≤ 5000) : Mt l E yX0_shade cX0_shade 3 (some .int) 2 49 [rf E (a), .int (u), .int (nI (t))] g (pI (fun r g' => r = cMix u co (nI (stN le ti t)) (nI le) ∧ g' = g)) := by
  refine mt_go (own := RX0) (by decide) rfl (lo := [some (rf E (a)), some (.int (u)), some (.int (nI (t)))]) rfl (Nat.le_of_ble_eq_true rfl) (fun X hC => ?_)
  refine y_iload_n hC dX0_shade_0 (i := 1) rfl rfl ?_
  refine y_aload_n hC dX0_shade_1 (i := 0) rfl rfl ?_
  refine y_get hC fX0_13 dX0_shade_2 (k := a) ha hg rfl ?_
  refine y_aload_n hC dX0_shade_5 (i := 0) rfl rfl ?_
  refine y_iload_n hC dX0_shade_6 (i := 2) rfl rfl ?_
  refine y_callV hC mX0_strength kX0_26 dX0_shade_7 (b := a) (As := [.int (nI (t))]) (rest := [.int (co), .int (u)]) (c_X0_strength l E _ a ha pl co le ti hle hle2 hti hg t ht) ha hg rfl rfl rfl (Nat.le_of_ble_eq_true rfl) ⟨Nat.le_of_ble_eq_true rfl, Nat.le_of_ble_eq_true rfl⟩ (pk_i ?_)
  rintro r_7 g_7 ⟨hr_7, hq_7⟩
  obtain rfl := hq_7.symm
  rw [hr_7]
  clear hr_7 r_7
  refine y_aload_n hC dX0_shade_10 (i := 0) rfl rfl ?_
  refine y_get hC fX0_16 dX0_shade_11 (k := a) ha hg rfl ?_
  refine y_callSN hC mX5_mixed (fun h => h) dX0_shade_14 (As := [.int (u), .int (co), .int (nI (stN le ti t)), .int (nI (le))]) (rest := []) (c_X5_mixed l E _ ((u)) ((co)) (nI (stN le ti t)) (nI (le)) (nI_ne0 hle (by omega))) rfl rfl rfl (Nat.le_of_ble_eq_true rfl) ⟨Nat.le_of_ble_eq_true rfl, Nat.le_of_ble_eq_true rfl⟩ (pk_i ?_)
  rintro r_14 g_14 ⟨hr_14, hq_14⟩
  obtain rfl := hq_14.symm
  rw [hr_14]
  clear hr_14 r_14
  refine y_iret (hC := hC) (hd := dX0_shade_17) (hq := ?_)
  exact ⟨rfl, rfl⟩

theorem dX3_beginAgain_0 : decode cX3_beginAgain 0 = .ok (.aload_n 0, 1) := by decide +kernel
theorem dX3_beginAgain_1 : decode cX3_beginAgain 1 = .ok (.iconst 0, 1) := by decide +kernel
theorem dX3_beginAgain_2 : decode cX3_beginAgain 2 = .ok (.putfield 28, 3) := by decide +kernel
theorem dX3_beginAgain_5 : decode cX3_beginAgain 5 = .ok (.aload_n 0, 1) := by decide +kernel
theorem dX3_beginAgain_6 : decode cX3_beginAgain 6 = .ok (.iconst 0, 1) := by decide +kernel
theorem dX3_beginAgain_7 : decode cX3_beginAgain 7 = .ok (.putfield 31, 3) := by decide +kernel
theorem dX3_beginAgain_10 : decode cX3_beginAgain 10 = .ok (.return_, 1) := by decide +kernel
set_option maxHeartbeats 4000000 in
set_option maxRecDepth 100000 in
theorem c_X3_beginAgain (l : Launch) (E : gE) (g : Mem) (a : Nat) (ha : a < eK E) (f la sp wy ru ti st : Int32) (hg : g a = oB 3 [.int (f), .int (la), .int (sp), .int (wy), .int (ru), .int (ti), .int (st)]) : Mt l E yX3_beginAgain cX3_beginAgain 1 none 0 0 [rf E (a)] g (pV (fun g' => g' = va_up g a (oB 3 [.int (f), .int (la), .int (sp), .int (wy), .int (ru), .int (nI (0)), .int (nI (0))]))) := by
  refine mt_go (own := RX3) (by decide) rfl (lo := [some (rf E (a))]) rfl (Nat.le_of_ble_eq_true rfl) (fun X hC => ?_)
  refine y_aload_n hC dX3_beginAgain_0 (i := 0) rfl rfl ?_
  refine y_iconst (v := nI 0) hC dX3_beginAgain_1 (by decide) ?_
  refine y_put hC fpX3_28 dX3_beginAgain_2 (k := a) ha hg (Nat.le_of_ble_eq_true rfl) (rfl) (rfl) (fs' := [.int (f), .int (la), .int (sp), .int (wy), .int (ru), .int (nI (0)), .int (st)]) rfl ?_
  refine y_aload_n hC dX3_beginAgain_5 (i := 0) rfl rfl ?_
  refine y_iconst (v := nI 0) hC dX3_beginAgain_6 (by decide) ?_
  refine y_put hC fpX3_31 dX3_beginAgain_7 (k := a) ha (va_up_self _ _ _) (Nat.le_of_ble_eq_true rfl) (rfl) (rfl) (fs' := [.int (f), .int (la), .int (sp), .int (wy), .int (ru), .int (nI (0)), .int (nI (0))]) rfl ?_
  refine y_mem (zup_up _ _ _ _) ?_
  refine y_vret (hC := hC) (hd := dX3_beginAgain_10) (hq := ?_)
  rfl

theorem dX3_changeSpeed_0 : decode cX3_changeSpeed 0 = .ok (.aload_n 0, 1) := by decide +kernel
theorem dX3_changeSpeed_1 : decode cX3_changeSpeed 1 = .ok (.iload_n 1, 1) := by decide +kernel
theorem dX3_changeSpeed_2 : decode cX3_changeSpeed 2 = .ok (.putfield 18, 3) := by decide +kernel
theorem dX3_changeSpeed_5 : decode cX3_changeSpeed 5 = .ok (.aload_n 0, 1) := by decide +kernel
theorem dX3_changeSpeed_6 : decode cX3_changeSpeed 6 = .ok (.iload_n 2, 1) := by decide +kernel
theorem dX3_changeSpeed_7 : decode cX3_changeSpeed 7 = .ok (.putfield 21, 3) := by decide +kernel
theorem dX3_changeSpeed_10 : decode cX3_changeSpeed 10 = .ok (.aload_n 0, 1) := by decide +kernel
theorem dX3_changeSpeed_11 : decode cX3_changeSpeed 11 = .ok (.invokevirtual 38, 3) := by decide +kernel
theorem dX3_changeSpeed_14 : decode cX3_changeSpeed 14 = .ok (.return_, 1) := by decide +kernel
set_option maxHeartbeats 4000000 in
set_option maxRecDepth 100000 in
theorem c_X3_changeSpeed (l : Launch) (E : gE) (g : Mem) (a : Nat) (ha : a < eK E) (f la sp wy ru ti st : Int32) (hg : g a = oB 3 [.int (f), .int (la), .int (sp), .int (wy), .int (ru), .int (ti), .int (st)]) (s w : Int32) : Mt l E yX3_changeSpeed cX3_changeSpeed 3 none 1 20 [rf E (a), .int (s), .int (w)] g (pV (fun g' => g' = va_up g a (oB 3 [.int (f), .int (la), .int (s), .int (w), .int (ru), .int (nI (0)), .int (nI (0))]))) := by
  refine mt_go (own := RX3) (by decide) rfl (lo := [some (rf E (a)), some (.int (s)), some (.int (w))]) rfl (Nat.le_of_ble_eq_true rfl) (fun X hC => ?_)
  refine y_aload_n hC dX3_changeSpeed_0 (i := 0) rfl rfl ?_
  refine y_iload_n hC dX3_changeSpeed_1 (i := 1) rfl rfl ?_
  refine y_put hC fpX3_18 dX3_changeSpeed_2 (k := a) ha hg (Nat.le_of_ble_eq_true rfl) (rfl) (rfl) (fs' := [.int (f), .int (la), .int (s), .int (wy), .int (ru), .int (ti), .int (st)]) rfl ?_
  refine y_aload_n hC dX3_changeSpeed_5 (i := 0) rfl rfl ?_
  refine y_iload_n hC dX3_changeSpeed_6 (i := 2) rfl rfl ?_
  refine y_put hC fpX3_21 dX3_changeSpeed_7 (k := a) ha (va_up_self _ _ _) (Nat.le_of_ble_eq_true rfl) (rfl) (rfl) (fs' := [.int (f), .int (la), .int (s), .int (w), .int (ru), .int (ti), .int (st)]) rfl ?_
  refine y_mem (zup_up _ _ _ _) ?_
  refine y_aload_n hC dX3_changeSpeed_10 (i := 0) rfl rfl ?_
  refine y_callV hC mX3_beginAgain kX3_38 dX3_changeSpeed_11 (b := a) (As := []) (rest := []) (c_X3_beginAgain l E _ a ha ((f)) ((la)) ((s)) ((w)) ((ru)) ((ti)) ((st)) (va_up_self _ _ _)) ha (va_up_self _ _ _) rfl rfl rfl (Nat.le_of_ble_eq_true rfl) ⟨Nat.le_of_ble_eq_true rfl, Nat.le_of_ble_eq_true rfl⟩ (pk_v ?_)
  rintro g_11 rfl
  rw [zup_up]
  refine y_vret (hC := hC) (hd := dX3_changeSpeed_14) (hq := ?_)
  rfl

theorem dX3_begin_0 : decode cX3_begin 0 = .ok (.aload_n 0, 1) := by decide +kernel
theorem dX3_begin_1 : decode cX3_begin 1 = .ok (.iload_n 1, 1) := by decide +kernel
theorem dX3_begin_2 : decode cX3_begin 2 = .ok (.putfield 9, 3) := by decide +kernel
theorem dX3_begin_5 : decode cX3_begin 5 = .ok (.aload_n 0, 1) := by decide +kernel
theorem dX3_begin_6 : decode cX3_begin 6 = .ok (.iload_n 2, 1) := by decide +kernel
theorem dX3_begin_7 : decode cX3_begin 7 = .ok (.putfield 15, 3) := by decide +kernel
theorem dX3_begin_10 : decode cX3_begin 10 = .ok (.aload_n 0, 1) := by decide +kernel
theorem dX3_begin_11 : decode cX3_begin 11 = .ok (.iconst 1, 1) := by decide +kernel
theorem dX3_begin_12 : decode cX3_begin 12 = .ok (.putfield 24, 3) := by decide +kernel
theorem dX3_begin_15 : decode cX3_begin 15 = .ok (.aload_n 0, 1) := by decide +kernel
theorem dX3_begin_16 : decode cX3_begin 16 = .ok (.iload_n 3, 1) := by decide +kernel
theorem dX3_begin_17 : decode cX3_begin 17 = .ok (.iload 4, 2) := by decide +kernel
theorem dX3_begin_19 : decode cX3_begin 19 = .ok (.invokevirtual 34, 3) := by decide +kernel
theorem dX3_begin_22 : decode cX3_begin 22 = .ok (.return_, 1) := by decide +kernel
set_option maxHeartbeats 4000000 in
set_option maxRecDepth 100000 in
theorem c_X3_begin (l : Launch) (E : gE) (g : Mem) (a : Nat) (ha : a < eK E) (f la sp wy ru ti st : Int32) (hg : g a = oB 3 [.int (f), .int (la), .int (sp), .int (wy), .int (ru), .int (ti), .int (st)]) (p q s w : Int32) : Mt l E yX3_begin cX3_begin 5 none 2 42 [rf E (a), .int (p), .int (q), .int (s), .int (w)] g (pV (fun g' => g' = va_up g a (oB 3 [.int (p), .int (q), .int (s), .int (w), .int (nI (1)), .int (nI (0)), .int (nI (0))]))) := by
  refine mt_go (own := RX3) (by decide) rfl (lo := [some (rf E (a)), some (.int (p)), some (.int (q)), some (.int (s)), some (.int (w))]) rfl (Nat.le_of_ble_eq_true rfl) (fun X hC => ?_)
  refine y_aload_n hC dX3_begin_0 (i := 0) rfl rfl ?_
  refine y_iload_n hC dX3_begin_1 (i := 1) rfl rfl ?_
  refine y_put hC fpX3_9 dX3_begin_2 (k := a) ha hg (Nat.le_of_ble_eq_true rfl) (rfl) (rfl) (fs' := [.int (p), .int (la), .int (sp), .int (wy), .int (ru), .int (ti), .int (st)]) rfl ?_
  refine y_aload_n hC dX3_begin_5 (i := 0) rfl rfl ?_
  refine y_iload_n hC dX3_begin_6 (i := 2) rfl rfl ?_
  refine y_put hC fpX3_15 dX3_begin_7 (k := a) ha (va_up_self _ _ _) (Nat.le_of_ble_eq_true rfl) (rfl) (rfl) (fs' := [.int (p), .int (q), .int (sp), .int (wy), .int (ru), .int (ti), .int (st)]) rfl ?_
  refine y_mem (zup_up _ _ _ _) ?_
  refine y_aload_n hC dX3_begin_10 (i := 0) rfl rfl ?_
  refine y_iconst (v := nI 1) hC dX3_begin_11 (by decide) ?_
  refine y_put hC fpX3_24 dX3_begin_12 (k := a) ha (va_up_self _ _ _) (Nat.le_of_ble_eq_true rfl) (rfl) (rfl) (fs' := [.int (p), .int (q), .int (sp), .int (wy), .int (nI (1)), .int (ti), .int (st)]) rfl ?_
  refine y_mem (zup_up _ _ _ _) ?_
  refine y_aload_n hC dX3_begin_15 (i := 0) rfl rfl ?_
  refine y_iload_n hC dX3_begin_16 (i := 3) rfl rfl ?_
  refine y_iload hC dX3_begin_17 rfl ?_
  refine y_callV hC mX3_changeSpeed kX3_34 dX3_begin_19 (b := a) (As := [.int (s), .int (w)]) (rest := []) (c_X3_changeSpeed l E _ a ha ((p)) ((q)) ((sp)) ((wy)) (nI (1)) ((ti)) ((st)) (va_up_self _ _ _) ((s)) ((w))) ha (va_up_self _ _ _) rfl rfl rfl (Nat.le_of_ble_eq_true rfl) ⟨Nat.le_of_ble_eq_true rfl, Nat.le_of_ble_eq_true rfl⟩ (pk_v ?_)
  rintro g_19 rfl
  rw [zup_up]
  refine y_vret (hC := hC) (hd := dX3_begin_22) (hq := ?_)
  rfl

theorem dX3_copy_0 : decode cX3_copy 0 = .ok (.aload_n 0, 1) := by decide +kernel
theorem dX3_copy_1 : decode cX3_copy 1 = .ok (.aload_n 1, 1) := by decide +kernel
theorem dX3_copy_2 : decode cX3_copy 2 = .ok (.getfield 9, 3) := by decide +kernel
theorem dX3_copy_5 : decode cX3_copy 5 = .ok (.putfield 9, 3) := by decide +kernel
theorem dX3_copy_8 : decode cX3_copy 8 = .ok (.aload_n 0, 1) := by decide +kernel
theorem dX3_copy_9 : decode cX3_copy 9 = .ok (.aload_n 1, 1) := by decide +kernel
theorem dX3_copy_10 : decode cX3_copy 10 = .ok (.getfield 15, 3) := by decide +kernel
theorem dX3_copy_13 : decode cX3_copy 13 = .ok (.putfield 15, 3) := by decide +kernel
theorem dX3_copy_16 : decode cX3_copy 16 = .ok (.aload_n 0, 1) := by decide +kernel
theorem dX3_copy_17 : decode cX3_copy 17 = .ok (.aload_n 1, 1) := by decide +kernel
theorem dX3_copy_18 : decode cX3_copy 18 = .ok (.getfield 18, 3) := by decide +kernel
theorem dX3_copy_21 : decode cX3_copy 21 = .ok (.putfield 18, 3) := by decide +kernel
theorem dX3_copy_24 : decode cX3_copy 24 = .ok (.aload_n 0, 1) := by decide +kernel
theorem dX3_copy_25 : decode cX3_copy 25 = .ok (.aload_n 1, 1) := by decide +kernel
theorem dX3_copy_26 : decode cX3_copy 26 = .ok (.getfield 21, 3) := by decide +kernel
theorem dX3_copy_29 : decode cX3_copy 29 = .ok (.putfield 21, 3) := by decide +kernel
theorem dX3_copy_32 : decode cX3_copy 32 = .ok (.aload_n 0, 1) := by decide +kernel
theorem dX3_copy_33 : decode cX3_copy 33 = .ok (.aload_n 1, 1) := by decide +kernel
theorem dX3_copy_34 : decode cX3_copy 34 = .ok (.getfield 24, 3) := by decide +kernel
theorem dX3_copy_37 : decode cX3_copy 37 = .ok (.putfield 24, 3) := by decide +kernel
theorem dX3_copy_40 : decode cX3_copy 40 = .ok (.aload_n 0, 1) := by decide +kernel
theorem dX3_copy_41 : decode cX3_copy 41 = .ok (.aload_n 1, 1) := by decide +kernel
theorem dX3_copy_42 : decode cX3_copy 42 = .ok (.getfield 28, 3) := by decide +kernel
theorem dX3_copy_45 : decode cX3_copy 45 = .ok (.putfield 28, 3) := by decide +kernel
theorem dX3_copy_48 : decode cX3_copy 48 = .ok (.aload_n 0, 1) := by decide +kernel
theorem dX3_copy_49 : decode cX3_copy 49 = .ok (.aload_n 1, 1) := by decide +kernel
theorem dX3_copy_50 : decode cX3_copy 50 = .ok (.getfield 31, 3) := by decide +kernel
theorem dX3_copy_53 : decode cX3_copy 53 = .ok (.putfield 31, 3) := by decide +kernel
theorem dX3_copy_56 : decode cX3_copy 56 = .ok (.return_, 1) := by decide +kernel
set_option maxHeartbeats 4000000 in
set_option maxRecDepth 100000 in
theorem c_X3_copy (l : Launch) (E : gE) (g : Mem) (a : Nat) (ha : a < eK E) (f la sp wy ru ti st : Int32) (hg : g a = oB 3 [.int (f), .int (la), .int (sp), .int (wy), .int (ru), .int (ti), .int (st)]) (b : Nat) (hb : b < eK E) (hba : b ≠ a) (b0 b1 b2 b3 b4 b5 b6 : Int32) (hbz : b4 = 0 ∨ b4 = 1) (hgb : g b = oB 3 [.int (b0), .int (b1), .int (b2), .int (b3), .int (b4), .int (b5), .int (b6)]) : Mt l E yX3_copy cX3_copy 2 none 0 0 [rf E (a), rf E (b)] g (pV (fun g' => g' = va_up g a (oB 3 [.int (b0), .int (b1), .int (b2), .int (b3), .int (b4), .int (b5), .int (b6)]))) := by
  refine mt_go (own := RX3) (by decide) rfl (lo := [some (rf E (a)), some (rf E (b))]) rfl (Nat.le_of_ble_eq_true rfl) (fun X hC => ?_)
  refine y_aload_n hC dX3_copy_0 (i := 0) rfl rfl ?_
  refine y_aload_n hC dX3_copy_1 (i := 1) rfl rfl ?_
  refine y_get hC fX3_9 dX3_copy_2 (k := b) hb hgb rfl ?_
  refine y_put hC fpX3_9 dX3_copy_5 (k := a) ha hg (Nat.le_of_ble_eq_true rfl) (rfl) (rfl) (fs' := [.int (b0), .int (la), .int (sp), .int (wy), .int (ru), .int (ti), .int (st)]) rfl ?_
  refine y_aload_n hC dX3_copy_8 (i := 0) rfl rfl ?_
  refine y_aload_n hC dX3_copy_9 (i := 1) rfl rfl ?_
  refine y_get hC fX3_15 dX3_copy_10 (k := b) hb ((va_up_ne _ _ (hba)).trans hgb) rfl ?_
  refine y_put hC fpX3_15 dX3_copy_13 (k := a) ha (va_up_self _ _ _) (Nat.le_of_ble_eq_true rfl) (rfl) (rfl) (fs' := [.int (b0), .int (b1), .int (sp), .int (wy), .int (ru), .int (ti), .int (st)]) rfl ?_
  refine y_mem (zup_up _ _ _ _) ?_
  refine y_aload_n hC dX3_copy_16 (i := 0) rfl rfl ?_
  refine y_aload_n hC dX3_copy_17 (i := 1) rfl rfl ?_
  refine y_get hC fX3_18 dX3_copy_18 (k := b) hb ((va_up_ne _ _ (hba)).trans hgb) rfl ?_
  refine y_put hC fpX3_18 dX3_copy_21 (k := a) ha (va_up_self _ _ _) (Nat.le_of_ble_eq_true rfl) (rfl) (rfl) (fs' := [.int (b0), .int (b1), .int (b2), .int (wy), .int (ru), .int (ti), .int (st)]) rfl ?_
  refine y_mem (zup_up _ _ _ _) ?_
  refine y_aload_n hC dX3_copy_24 (i := 0) rfl rfl ?_
  refine y_aload_n hC dX3_copy_25 (i := 1) rfl rfl ?_
  refine y_get hC fX3_21 dX3_copy_26 (k := b) hb ((va_up_ne _ _ (hba)).trans hgb) rfl ?_
  refine y_put hC fpX3_21 dX3_copy_29 (k := a) ha (va_up_self _ _ _) (Nat.le_of_ble_eq_true rfl) (rfl) (rfl) (fs' := [.int (b0), .int (b1), .int (b2), .int (b3), .int (ru), .int (ti), .int (st)]) rfl ?_
  refine y_mem (zup_up _ _ _ _) ?_
  refine y_aload_n hC dX3_copy_32 (i := 0) rfl rfl ?_
  refine y_aload_n hC dX3_copy_33 (i := 1) rfl rfl ?_
  refine y_get hC fX3_24 dX3_copy_34 (k := b) hb ((va_up_ne _ _ (hba)).trans hgb) rfl ?_
  refine y_put hC fpX3_24 dX3_copy_37 (k := a) ha (va_up_self _ _ _) (Nat.le_of_ble_eq_true rfl) (by rcases hbz with h | h <;> rw [h] <;> rfl) (by rcases hbz with h | h <;> rw [h] <;> rfl) (fs' := [.int (b0), .int (b1), .int (b2), .int (b3), .int (b4), .int (ti), .int (st)]) rfl ?_
  refine y_mem (zup_up _ _ _ _) ?_
  refine y_aload_n hC dX3_copy_40 (i := 0) rfl rfl ?_
  refine y_aload_n hC dX3_copy_41 (i := 1) rfl rfl ?_
  refine y_get hC fX3_28 dX3_copy_42 (k := b) hb ((va_up_ne _ _ (hba)).trans hgb) rfl ?_
  refine y_put hC fpX3_28 dX3_copy_45 (k := a) ha (va_up_self _ _ _) (Nat.le_of_ble_eq_true rfl) (rfl) (rfl) (fs' := [.int (b0), .int (b1), .int (b2), .int (b3), .int (b4), .int (b5), .int (st)]) rfl ?_
  refine y_mem (zup_up _ _ _ _) ?_
  refine y_aload_n hC dX3_copy_48 (i := 0) rfl rfl ?_
  refine y_aload_n hC dX3_copy_49 (i := 1) rfl rfl ?_
  refine y_get hC fX3_31 dX3_copy_50 (k := b) hb ((va_up_ne _ _ (hba)).trans hgb) rfl ?_
  refine y_put hC fpX3_31 dX3_copy_53 (k := a) ha (va_up_self _ _ _) (Nat.le_of_ble_eq_true rfl) (rfl) (rfl) (fs' := [.int (b0), .int (b1), .int (b2), .int (b3), .int (b4), .int (b5), .int (b6)]) rfl ?_
  refine y_mem (zup_up _ _ _ _) ?_
  refine y_vret (hC := hC) (hd := dX3_copy_56) (hq := ?_)
  rfl

theorem dX3_holds_0 : decode cX3_holds 0 = .ok (.iload_n 1, 1) := by decide +kernel
theorem dX3_holds_1 : decode cX3_holds 1 = .ok (.aload_n 0, 1) := by decide +kernel
theorem dX3_holds_2 : decode cX3_holds 2 = .ok (.getfield 9, 3) := by decide +kernel
theorem dX3_holds_5 : decode cX3_holds 5 = .ok (.if_icmp .lt 15, 3) := by decide +kernel
theorem dX3_holds_8 : decode cX3_holds 8 = .ok (.iload_n 1, 1) := by decide +kernel
theorem dX3_holds_9 : decode cX3_holds 9 = .ok (.aload_n 0, 1) := by decide +kernel
theorem dX3_holds_10 : decode cX3_holds 10 = .ok (.getfield 15, 3) := by decide +kernel
theorem dX3_holds_13 : decode cX3_holds 13 = .ok (.if_icmp .gt 7, 3) := by decide +kernel
theorem dX3_holds_16 : decode cX3_holds 16 = .ok (.iconst 1, 1) := by decide +kernel
theorem dX3_holds_17 : decode cX3_holds 17 = .ok (.goto 4, 3) := by decide +kernel
theorem dX3_holds_20 : decode cX3_holds 20 = .ok (.iconst 0, 1) := by decide +kernel
theorem dX3_holds_21 : decode cX3_holds 21 = .ok (.ireturn, 1) := by decide +kernel
set_option maxHeartbeats 4000000 in
set_option maxRecDepth 100000 in
theorem c_X3_holds (l : Launch) (E : gE) (g : Mem) (a : Nat) (ha : a < eK E) (f la sp wy ru ti st : Nat) (hf : f < la) (hla : la < 32) (hsp : 0 < sp) (hsp2 : sp ≤ 30) (hwy : wy ≤ 2) (hru : ru ≤ 1) (hti : ti < sp) (hst : st < 1000000000) (hg : g a = oB 3 [.int (nI (f)), .int (nI (la)), .int (nI (sp)), .int (nI (wy)), .int (nI (ru)), .int (nI (ti)), .int (nI (st))]) (p : Nat) (hp : p < 2147483648) : Mt l E yX3_holds cX3_holds 2 (some .boolean) 0 0 [rf E (a), .int (nI (p))] g (pI (fun r g' => r = bI (f ≤ p ∧ p ≤ la) ∧ g' = g)) := by
  refine mt_go (own := RX3) (by decide) rfl (lo := [some (rf E (a)), some (.int (nI (p)))]) rfl (Nat.le_of_ble_eq_true rfl) (fun X hC => ?_)
  refine y_iload_n hC dX3_holds_0 (i := 1) rfl rfl ?_
  refine y_aload_n hC dX3_holds_1 (i := 0) rfl rfl ?_
  refine y_get hC fX3_9 dX3_holds_2 (k := a) ha hg rfl ?_
  refine y_icmp_lt_n (tgt := 20) hC dX3_holds_5 (by decide) (by omega) (by omega) (fun c_5 => ?_) (fun c_5 => ?_)
  · refine y_iconst (v := nI 0) hC dX3_holds_20 (by decide) ?_
    refine y_zret (hrt := rfl) (hn := rfl) (hC := hC) (hd := dX3_holds_21) (hq := ?_)
    refine ⟨?_, rfl⟩
    first | exact (bI_t ⟨by omega, by omega⟩).symm | exact (bI_f (by omega)).symm
  · refine y_iload_n hC dX3_holds_8 (i := 1) rfl rfl ?_
    refine y_aload_n hC dX3_holds_9 (i := 0) rfl rfl ?_
    refine y_get hC fX3_15 dX3_holds_10 (k := a) ha hg rfl ?_
    refine y_icmp_gt_n (tgt := 20) hC dX3_holds_13 (by decide) (by omega) (by omega) (fun c_13 => ?_) (fun c_13 => ?_)
    · refine y_iconst (v := nI 0) hC dX3_holds_20 (by decide) ?_
      refine y_zret (hrt := rfl) (hn := rfl) (hC := hC) (hd := dX3_holds_21) (hq := ?_)
      refine ⟨?_, rfl⟩
      first | exact (bI_t ⟨by omega, by omega⟩).symm | exact (bI_f (by omega)).symm
    · refine y_iconst (v := nI 1) hC dX3_holds_16 (by decide) ?_
      refine y_goto (tgt := 21) hC dX3_holds_17 (by decide) ?_
      refine y_zret (hrt := rfl) (hn := rfl) (hC := hC) (hd := dX3_holds_21) (hq := ?_)
      refine ⟨?_, rfl⟩
      first | exact (bI_t ⟨by omega, by omega⟩).symm | exact (bI_f (by omega)).symm

theorem dX3_places_0 : decode cX3_places 0 = .ok (.aload_n 0, 1) := by decide +kernel
theorem dX3_places_1 : decode cX3_places 1 = .ok (.getfield 15, 3) := by decide +kernel
theorem dX3_places_4 : decode cX3_places 4 = .ok (.aload_n 0, 1) := by decide +kernel
theorem dX3_places_5 : decode cX3_places 5 = .ok (.getfield 9, 3) := by decide +kernel
theorem dX3_places_8 : decode cX3_places 8 = .ok (.isub, 1) := by decide +kernel
theorem dX3_places_9 : decode cX3_places 9 = .ok (.iconst 1, 1) := by decide +kernel
theorem dX3_places_10 : decode cX3_places 10 = .ok (.iadd, 1) := by decide +kernel
theorem dX3_places_11 : decode cX3_places 11 = .ok (.ireturn, 1) := by decide +kernel
set_option maxHeartbeats 4000000 in
set_option maxRecDepth 100000 in
theorem c_X3_places (l : Launch) (E : gE) (g : Mem) (a : Nat) (ha : a < eK E) (f la sp wy ru ti st : Nat) (hf : f < la) (hla : la < 32) (hsp : 0 < sp) (hsp2 : sp ≤ 30) (hwy : wy ≤ 2) (hru : ru ≤ 1) (hti : ti < sp) (hst : st < 1000000000) (hg : g a = oB 3 [.int (nI (f)), .int (nI (la)), .int (nI (sp)), .int (nI (wy)), .int (nI (ru)), .int (nI (ti)), .int (nI (st))]) : Mt l E yX3_places cX3_places 1 (some .int) 0 0 [rf E (a)] g (pI (fun r g' => r = nI (la - f + 1) ∧ g' = g)) := by
  refine mt_go (own := RX3) (by decide) rfl (lo := [some (rf E (a))]) rfl (Nat.le_of_ble_eq_true rfl) (fun X hC => ?_)
  refine y_aload_n hC dX3_places_0 (i := 0) rfl rfl ?_
  refine y_get hC fX3_15 dX3_places_1 (k := a) ha hg rfl ?_
  refine y_aload_n hC dX3_places_4 (i := 0) rfl rfl ?_
  refine y_get hC fX3_9 dX3_places_5 (k := a) ha hg rfl ?_
  refine y_isub_n hC dX3_places_8 (by omega) ?_
  refine y_iconst (v := nI 1) hC dX3_places_9 (by decide) ?_
  refine y_iadd_n hC dX3_places_10 ?_
  refine y_iret (hC := hC) (hd := dX3_places_11) (hq := ?_)
  exact ⟨rfl, rfl⟩

theorem dX3_fullSteps_0 : decode cX3_fullSteps 0 = .ok (.aload_n 0, 1) := by decide +kernel
theorem dX3_fullSteps_1 : decode cX3_fullSteps 1 = .ok (.getfield 15, 3) := by decide +kernel
theorem dX3_fullSteps_4 : decode cX3_fullSteps 4 = .ok (.aload_n 0, 1) := by decide +kernel
theorem dX3_fullSteps_5 : decode cX3_fullSteps 5 = .ok (.getfield 9, 3) := by decide +kernel
theorem dX3_fullSteps_8 : decode cX3_fullSteps 8 = .ok (.isub, 1) := by decide +kernel
theorem dX3_fullSteps_9 : decode cX3_fullSteps 9 = .ok (.istore_n 1, 1) := by decide +kernel
theorem dX3_fullSteps_10 : decode cX3_fullSteps 10 = .ok (.aload_n 0, 1) := by decide +kernel
theorem dX3_fullSteps_11 : decode cX3_fullSteps 11 = .ok (.getfield 21, 3) := by decide +kernel
theorem dX3_fullSteps_14 : decode cX3_fullSteps 14 = .ok (.iconst 2, 1) := by decide +kernel
theorem dX3_fullSteps_15 : decode cX3_fullSteps 15 = .ok (.if_icmp .ne 9, 3) := by decide +kernel
theorem dX3_fullSteps_18 : decode cX3_fullSteps 18 = .ok (.iconst 2, 1) := by decide +kernel
theorem dX3_fullSteps_19 : decode cX3_fullSteps 19 = .ok (.iload_n 1, 1) := by decide +kernel
theorem dX3_fullSteps_20 : decode cX3_fullSteps 20 = .ok (.imul, 1) := by decide +kernel
theorem dX3_fullSteps_21 : decode cX3_fullSteps 21 = .ok (.goto 6, 3) := by decide +kernel
theorem dX3_fullSteps_24 : decode cX3_fullSteps 24 = .ok (.iload_n 1, 1) := by decide +kernel
theorem dX3_fullSteps_25 : decode cX3_fullSteps 25 = .ok (.iconst 1, 1) := by decide +kernel
theorem dX3_fullSteps_26 : decode cX3_fullSteps 26 = .ok (.iadd, 1) := by decide +kernel
theorem dX3_fullSteps_27 : decode cX3_fullSteps 27 = .ok (.ireturn, 1) := by decide +kernel
set_option maxHeartbeats 4000000 in
set_option maxRecDepth 100000 in
theorem c_X3_fullSteps (l : Launch) (E : gE) (g : Mem) (a : Nat) (ha : a < eK E) (f la sp wy ru ti st : Nat) (hf : f < la) (hla : la < 32) (hsp : 0 < sp) (hsp2 : sp ≤ 30) (hwy : wy ≤ 2) (hru : ru ≤ 1) (hti : ti < sp) (hst : st < 1000000000) (hg : g a = oB 3 [.int (nI (f)), .int (nI (la)), .int (nI (sp)), .int (nI (wy)), .int (nI (ru)), .int (nI (ti)), .int (nI (st))]) : Mt l E yX3_fullSteps cX3_fullSteps 2 (some .int) 0 0 [rf E (a)] g (pI (fun r g' => r = nI (fsN (la - f + 1) wy) ∧ g' = g)) := by
  refine mt_go (own := RX3) (by decide) rfl (lo := [some (rf E (a)), none]) rfl (Nat.le_of_ble_eq_true rfl) (fun X hC => ?_)
  refine y_aload_n hC dX3_fullSteps_0 (i := 0) rfl rfl ?_
  refine y_get hC fX3_15 dX3_fullSteps_1 (k := a) ha hg rfl ?_
  refine y_aload_n hC dX3_fullSteps_4 (i := 0) rfl rfl ?_
  refine y_get hC fX3_9 dX3_fullSteps_5 (k := a) ha hg rfl ?_
  refine y_isub_n hC dX3_fullSteps_8 (by omega) ?_
  refine y_istore_n hC dX3_fullSteps_9 (i := 1) rfl (Nat.le_of_ble_eq_true rfl) rfl (lo' := [some (rf E (a)), some (.int (nI (la - (f))))]) rfl ?_
  refine y_aload_n hC dX3_fullSteps_10 (i := 0) rfl rfl ?_
  refine y_get hC fX3_21 dX3_fullSteps_11 (k := a) ha hg rfl ?_
  refine y_iconst (v := nI 2) hC dX3_fullSteps_14 (by decide) ?_
  refine y_icmp_ne_n (tgt := 24) hC dX3_fullSteps_15 (by decide) (by omega) (by omega) (fun c_15 => ?_) (fun c_15 => ?_)
  · refine y_iload_n hC dX3_fullSteps_24 (i := 1) rfl rfl ?_
    refine y_iconst (v := nI 1) hC dX3_fullSteps_25 (by decide) ?_
    refine y_iadd_n hC dX3_fullSteps_26 ?_
    refine y_iret (hC := hC) (hd := dX3_fullSteps_27) (hq := ?_)
    refine ⟨congrArg nI ?_, rfl⟩
    unfold fsN
    split <;> omega
  · refine y_iconst (v := nI 2) hC dX3_fullSteps_18 (by decide) ?_
    refine y_iload_n hC dX3_fullSteps_19 (i := 1) rfl rfl ?_
    refine y_imul_n hC dX3_fullSteps_20 ?_
    refine y_goto (tgt := 27) hC dX3_fullSteps_21 (by decide) ?_
    refine y_iret (hC := hC) (hd := dX3_fullSteps_27) (hq := ?_)
    refine ⟨congrArg nI ?_, rfl⟩
    unfold fsN
    split <;> omega

theorem dX3_fullTicks_0 : decode cX3_fullTicks 0 = .ok (.aload_n 0, 1) := by decide +kernel
theorem dX3_fullTicks_1 : decode cX3_fullTicks 1 = .ok (.getfield 24, 3) := by decide +kernel
theorem dX3_fullTicks_4 : decode cX3_fullTicks 4 = .ok (.ifCond .eq 15, 3) := by decide +kernel
theorem dX3_fullTicks_7 : decode cX3_fullTicks 7 = .ok (.aload_n 0, 1) := by decide +kernel
theorem dX3_fullTicks_8 : decode cX3_fullTicks 8 = .ok (.getfield 18, 3) := by decide +kernel
theorem dX3_fullTicks_11 : decode cX3_fullTicks 11 = .ok (.aload_n 0, 1) := by decide +kernel
theorem dX3_fullTicks_12 : decode cX3_fullTicks 12 = .ok (.invokevirtual 41, 3) := by decide +kernel
theorem dX3_fullTicks_15 : decode cX3_fullTicks 15 = .ok (.imul, 1) := by decide +kernel
theorem dX3_fullTicks_16 : decode cX3_fullTicks 16 = .ok (.goto 4, 3) := by decide +kernel
theorem dX3_fullTicks_19 : decode cX3_fullTicks 19 = .ok (.iconst 1, 1) := by decide +kernel
theorem dX3_fullTicks_20 : decode cX3_fullTicks 20 = .ok (.ireturn, 1) := by decide +kernel
set_option maxHeartbeats 4000000 in
set_option maxRecDepth 100000 in
theorem c_X3_fullTicks (l : Launch) (E : gE) (g : Mem) (a : Nat) (ha : a < eK E) (f la sp wy ru ti st : Nat) (hf : f < la) (hla : la < 32) (hsp : 0 < sp) (hsp2 : sp ≤ 30) (hwy : wy ≤ 2) (hru : ru ≤ 1) (hti : ti < sp) (hst : st < 1000000000) (hg : g a = oB 3 [.int (nI (f)), .int (nI (la)), .int (nI (sp)), .int (nI (wy)), .int (nI (ru)), .int (nI (ti)), .int (nI (st))]) : Mt l E yX3_fullTicks cX3_fullTicks 1 (some .int) 1 21 [rf E (a)] g (pI (fun r g' => r = nI (if ru = 1 then sp * fsN (la - f + 1) wy else 1) ∧ g' = g)) := by
  refine mt_go (own := RX3) (by decide) rfl (lo := [some (rf E (a))]) rfl (Nat.le_of_ble_eq_true rfl) (fun X hC => ?_)
  refine y_aload_n hC dX3_fullTicks_0 (i := 0) rfl rfl ?_
  refine y_get hC fX3_24 dX3_fullTicks_1 (k := a) ha hg rfl ?_
  refine y_if_eq_n (tgt := 19) hC dX3_fullTicks_4 (by decide) (by omega) (fun c_4 => ?_) (fun c_4 => ?_)
  · refine y_iconst (v := nI 1) hC dX3_fullTicks_19 (by decide) ?_
    refine y_iret (hC := hC) (hd := dX3_fullTicks_20) (hq := ?_)
    refine ⟨congrArg nI ?_, rfl⟩
    split <;> omega
  · refine y_aload_n hC dX3_fullTicks_7 (i := 0) rfl rfl ?_
    refine y_get hC fX3_18 dX3_fullTicks_8 (k := a) ha hg rfl ?_
    refine y_aload_n hC dX3_fullTicks_11 (i := 0) rfl rfl ?_
    refine y_callV hC mX3_fullSteps kX3_41 dX3_fullTicks_12 (b := a) (As := []) (rest := [.int (nI (sp))]) (c_X3_fullSteps l E _ a ha f la sp wy ru ti st hf hla hsp hsp2 hwy hru hti hst hg) ha hg rfl rfl rfl (Nat.le_of_ble_eq_true rfl) ⟨Nat.le_of_ble_eq_true rfl, Nat.le_of_ble_eq_true rfl⟩ (pk_i ?_)
    rintro r_12 g_12 ⟨hr_12, hq_12⟩
    obtain rfl := hq_12.symm
    rw [hr_12]
    clear hr_12 r_12
    refine y_imul_n hC dX3_fullTicks_15 ?_
    refine y_goto (tgt := 20) hC dX3_fullTicks_16 (by decide) ?_
    refine y_iret (hC := hC) (hd := dX3_fullTicks_20) (hq := ?_)
    refine ⟨congrArg nI ?_, rfl⟩
    split <;> omega

theorem dX3_advance_0 : decode cX3_advance 0 = .ok (.aload_n 0, 1) := by decide +kernel
theorem dX3_advance_1 : decode cX3_advance 1 = .ok (.getfield 24, 3) := by decide +kernel
theorem dX3_advance_4 : decode cX3_advance 4 = .ok (.ifCond .ne 5, 3) := by decide +kernel
theorem dX3_advance_7 : decode cX3_advance 7 = .ok (.iconst 0, 1) := by decide +kernel
theorem dX3_advance_8 : decode cX3_advance 8 = .ok (.ireturn, 1) := by decide +kernel
theorem dX3_advance_9 : decode cX3_advance 9 = .ok (.aload_n 0, 1) := by decide +kernel
theorem dX3_advance_10 : decode cX3_advance 10 = .ok (.getfield 28, 3) := by decide +kernel
theorem dX3_advance_13 : decode cX3_advance 13 = .ok (.iload_n 1, 1) := by decide +kernel
theorem dX3_advance_14 : decode cX3_advance 14 = .ok (.iadd, 1) := by decide +kernel
theorem dX3_advance_15 : decode cX3_advance 15 = .ok (.aload_n 0, 1) := by decide +kernel
theorem dX3_advance_16 : decode cX3_advance 16 = .ok (.getfield 18, 3) := by decide +kernel
theorem dX3_advance_19 : decode cX3_advance 19 = .ok (.idiv, 1) := by decide +kernel
theorem dX3_advance_20 : decode cX3_advance 20 = .ok (.istore_n 2, 1) := by decide +kernel
theorem dX3_advance_21 : decode cX3_advance 21 = .ok (.aload_n 0, 1) := by decide +kernel
theorem dX3_advance_22 : decode cX3_advance 22 = .ok (.aload_n 0, 1) := by decide +kernel
theorem dX3_advance_23 : decode cX3_advance 23 = .ok (.getfield 28, 3) := by decide +kernel
theorem dX3_advance_26 : decode cX3_advance 26 = .ok (.iload_n 1, 1) := by decide +kernel
theorem dX3_advance_27 : decode cX3_advance 27 = .ok (.iadd, 1) := by decide +kernel
theorem dX3_advance_28 : decode cX3_advance 28 = .ok (.aload_n 0, 1) := by decide +kernel
theorem dX3_advance_29 : decode cX3_advance 29 = .ok (.getfield 18, 3) := by decide +kernel
theorem dX3_advance_32 : decode cX3_advance 32 = .ok (.irem, 1) := by decide +kernel
theorem dX3_advance_33 : decode cX3_advance 33 = .ok (.putfield 28, 3) := by decide +kernel
theorem dX3_advance_36 : decode cX3_advance 36 = .ok (.aload_n 0, 1) := by decide +kernel
theorem dX3_advance_37 : decode cX3_advance 37 = .ok (.dup, 1) := by decide +kernel
theorem dX3_advance_38 : decode cX3_advance 38 = .ok (.getfield 31, 3) := by decide +kernel
theorem dX3_advance_41 : decode cX3_advance 41 = .ok (.iload_n 2, 1) := by decide +kernel
theorem dX3_advance_42 : decode cX3_advance 42 = .ok (.iadd, 1) := by decide +kernel
theorem dX3_advance_43 : decode cX3_advance 43 = .ok (.putfield 31, 3) := by decide +kernel
theorem dX3_advance_46 : decode cX3_advance 46 = .ok (.iload_n 2, 1) := by decide +kernel
theorem dX3_advance_47 : decode cX3_advance 47 = .ok (.ireturn, 1) := by decide +kernel
set_option maxHeartbeats 4000000 in
set_option maxRecDepth 100000 in
theorem c_X3_advance (l : Launch) (E : gE) (g : Mem) (a : Nat) (ha : a < eK E) (f la sp wy ru ti st : Nat) (hf : f < la) (hla : la < 32) (hsp : 0 < sp) (hsp2 : sp ≤ 30) (hwy : wy ≤ 2) (hru : ru ≤ 1) (hti : ti < sp) (hst : st < 1000000000) (hg : g a = oB 3 [.int (nI (f)), .int (nI (la)), .int (nI (sp)), .int (nI (wy)), .int (nI (ru)), .int (nI (ti)), .int (nI (st))]) (t : Nat) (ht : t ≤ 5000) : Mt l E yX3_advance cX3_advance 3 (some .int) 0 0 [rf E (a), .int (nI (t))] g (pI (fun r g' => r = nI (if ru = 1 then (ti + t) / sp else 0) ∧ g' = va_up g a (oB 3 [.int (nI (f)), .int (nI (la)), .int (nI (sp)), .int (nI (wy)), .int (nI (ru)), .int (nI (if ru = 1 then (ti + t) % sp else ti)), .int (nI (mdN sp ru ti st t))]))) := by
  refine mt_go (own := RX3) (by decide) rfl (lo := [some (rf E (a)), some (.int (nI (t))), none]) rfl (Nat.le_of_ble_eq_true rfl) (fun X hC => ?_)
  refine y_aload_n hC dX3_advance_0 (i := 0) rfl rfl ?_
  refine y_get hC fX3_24 dX3_advance_1 (k := a) ha hg rfl ?_
  refine y_if_ne_n (tgt := 9) hC dX3_advance_4 (by decide) (by omega) (fun c_4 => ?_) (fun c_4 => ?_)
  · have hr1 : ru = 1 := by omega
    refine y_aload_n hC dX3_advance_9 (i := 0) rfl rfl ?_
    refine y_get hC fX3_28 dX3_advance_10 (k := a) ha hg rfl ?_
    refine y_iload_n hC dX3_advance_13 (i := 1) rfl rfl ?_
    refine y_iadd_n hC dX3_advance_14 ?_
    refine y_aload_n hC dX3_advance_15 (i := 0) rfl rfl ?_
    refine y_get hC fX3_18 dX3_advance_16 (k := a) ha hg rfl ?_
    refine y_idiv_n hC dX3_advance_19 (by omega) (by omega) (by omega) ?_
    refine y_istore_n hC dX3_advance_20 (i := 2) rfl (Nat.le_of_ble_eq_true rfl) rfl (lo' := [some (rf E (a)), some (.int (nI (t))), some (.int (nI ((ti + t) / (sp))))]) rfl ?_
    refine y_aload_n hC dX3_advance_21 (i := 0) rfl rfl ?_
    refine y_aload_n hC dX3_advance_22 (i := 0) rfl rfl ?_
    refine y_get hC fX3_28 dX3_advance_23 (k := a) ha hg rfl ?_
    refine y_iload_n hC dX3_advance_26 (i := 1) rfl rfl ?_
    refine y_iadd_n hC dX3_advance_27 ?_
    refine y_aload_n hC dX3_advance_28 (i := 0) rfl rfl ?_
    refine y_get hC fX3_18 dX3_advance_29 (k := a) ha hg rfl ?_
    refine y_irem_n hC dX3_advance_32 (by omega) (by omega) (by omega) ?_
    refine y_put hC fpX3_28 dX3_advance_33 (k := a) ha hg (Nat.le_of_ble_eq_true rfl) (rfl) (rfl) (fs' := [.int (nI (f)), .int (nI (la)), .int (nI (sp)), .int (nI (wy)), .int (nI (ru)), .int (nI ((ti + t) % (sp))), .int (nI (st))]) rfl ?_
    refine y_aload_n hC dX3_advance_36 (i := 0) rfl rfl ?_
    refine y_dup hC dX3_advance_37 rfl ?_
    refine y_get hC fX3_31 dX3_advance_38 (k := a) ha (va_up_self _ _ _) rfl ?_
    refine y_iload_n hC dX3_advance_41 (i := 2) rfl rfl ?_
    refine y_iadd_n hC dX3_advance_42 ?_
    refine y_put hC fpX3_31 dX3_advance_43 (k := a) ha (va_up_self _ _ _) (Nat.le_of_ble_eq_true rfl) (rfl) (rfl) (fs' := [.int (nI (f)), .int (nI (la)), .int (nI (sp)), .int (nI (wy)), .int (nI (ru)), .int (nI ((ti + t) % (sp))), .int (nI (st + ((ti + t) / (sp))))]) rfl ?_
    refine y_mem (zup_up _ _ _ _) ?_
    refine y_iload_n hC dX3_advance_46 (i := 2) rfl rfl ?_
    refine y_iret (hC := hC) (hd := dX3_advance_47) (hq := ?_)
    refine ⟨by rw [if_pos hr1], ?_⟩
    rw [if_pos hr1, mdN, if_pos hr1]
  · refine y_iconst (v := nI 0) hC dX3_advance_7 (by decide) ?_
    refine y_iret (hC := hC) (hd := dX3_advance_8) (hq := ?_)
    have hr0 : ¬ ru = 1 := by omega
    refine ⟨by rw [if_neg hr0], (zup_same ?_).symm⟩
    rw [if_neg hr0, mdN, if_neg hr0]
    exact hg

theorem zmd_lt {sp ru ti st t : Nat} (hsp : 0 < sp) (hti : ti < 31) (hst : st < 1000000000) (ht : t ≤ 5000) : mdN sp ru ti st t < 1000010000 := by
  unfold mdN
  have := Nat.div_le_self (ti + t) sp
  split <;> omega
theorem ztn_a {n wy m : Nat} (h : wy = 1) (h2 : m % fsN n wy = 0) : 0 = tnN n wy m := by
  subst h
  simp only [fsN, Nat.reduceEqDiff, if_false] at h2
  simp [tnN, h2]
theorem ztn_b {n wy m : Nat} (h : wy = 1) (h2 : ¬ m % fsN n wy = 0) : n - m % fsN n wy = tnN n wy m := by
  subst h
  simp only [fsN, Nat.reduceEqDiff, if_false] at h2 ⊢
  simp [tnN, h2]
theorem ztn_c {n wy m : Nat} (hn : 2 ≤ n) (h : ¬ wy = 1) (h2 : m % fsN n wy < n) : m % fsN n wy = tnN n wy m := by
  unfold fsN tnN at *
  by_cases h3 : wy = 2
  · rw [if_pos h3] at *
    rw [if_neg h, if_pos h3, if_pos h2]
  · rw [if_neg h3] at *
    rw [if_neg h, if_neg h3]
theorem ztn_d {n wy m : Nat} (hn : 2 ≤ n) (h : ¬ wy = 1) (h2 : n ≤ m % fsN n wy) : fsN n wy - m % fsN n wy = tnN n wy m := by
  unfold fsN tnN at *
  by_cases h3 : wy = 2
  · rw [if_pos h3] at *
    rw [if_neg h, if_pos h3, if_neg (by omega)]
  · rw [if_neg h3] at *
    have := Nat.mod_lt m (show 0 < n by omega)
    omega
theorem zfs_pos {n wy : Nat} (hn : 2 ≤ n) : 2 ≤ fsN n wy := by unfold fsN; split <;> omega
theorem zfs_le {n wy : Nat} (hn : 2 ≤ n) (h : n ≤ 32) : fsN n wy ≤ 62 := by unfold fsN; split <;> omega
theorem zfl_n {m k : Nat} (hm : m < 2147483648) (hk : k < 2147483648) (h0 : 0 < k) : Int32.ofInt ((nI m).toInt % k) = nI (m % k) := by
  rw [tI hm, ← Int.natCast_emod]
  exact rfl
theorem dX3_turn_0 : decode cX3_turn 0 = .ok (.aload_n 0, 1) := by decide +kernel
theorem dX3_turn_1 : decode cX3_turn 1 = .ok (.getfield 24, 3) := by decide +kernel
theorem dX3_turn_4 : decode cX3_turn 4 = .ok (.ifCond .eq 22, 3) := by decide +kernel
theorem dX3_turn_7 : decode cX3_turn 7 = .ok (.aload_n 0, 1) := by decide +kernel
theorem dX3_turn_8 : decode cX3_turn 8 = .ok (.getfield 31, 3) := by decide +kernel
theorem dX3_turn_11 : decode cX3_turn 11 = .ok (.aload_n 0, 1) := by decide +kernel
theorem dX3_turn_12 : decode cX3_turn 12 = .ok (.getfield 28, 3) := by decide +kernel
theorem dX3_turn_15 : decode cX3_turn 15 = .ok (.iload_n 1, 1) := by decide +kernel
theorem dX3_turn_16 : decode cX3_turn 16 = .ok (.iadd, 1) := by decide +kernel
theorem dX3_turn_17 : decode cX3_turn 17 = .ok (.aload_n 0, 1) := by decide +kernel
theorem dX3_turn_18 : decode cX3_turn 18 = .ok (.getfield 18, 3) := by decide +kernel
theorem dX3_turn_21 : decode cX3_turn 21 = .ok (.idiv, 1) := by decide +kernel
theorem dX3_turn_22 : decode cX3_turn 22 = .ok (.iadd, 1) := by decide +kernel
theorem dX3_turn_23 : decode cX3_turn 23 = .ok (.goto 7, 3) := by decide +kernel
theorem dX3_turn_26 : decode cX3_turn 26 = .ok (.aload_n 0, 1) := by decide +kernel
theorem dX3_turn_27 : decode cX3_turn 27 = .ok (.getfield 31, 3) := by decide +kernel
theorem dX3_turn_30 : decode cX3_turn 30 = .ok (.istore_n 2, 1) := by decide +kernel
theorem dX3_turn_31 : decode cX3_turn 31 = .ok (.iload_n 2, 1) := by decide +kernel
theorem dX3_turn_32 : decode cX3_turn 32 = .ok (.aload_n 0, 1) := by decide +kernel
theorem dX3_turn_33 : decode cX3_turn 33 = .ok (.invokevirtual 41, 3) := by decide +kernel
theorem dX3_turn_36 : decode cX3_turn 36 = .ok (.invokestatic 45, 3) := by decide +kernel
theorem dX3_turn_39 : decode cX3_turn 39 = .ok (.istore_n 3, 1) := by decide +kernel
theorem dX3_turn_40 : decode cX3_turn 40 = .ok (.aload_n 0, 1) := by decide +kernel
theorem dX3_turn_41 : decode cX3_turn 41 = .ok (.getfield 21, 3) := by decide +kernel
theorem dX3_turn_44 : decode cX3_turn 44 = .ok (.iconst 1, 1) := by decide +kernel
theorem dX3_turn_45 : decode cX3_turn 45 = .ok (.if_icmp .ne 18, 3) := by decide +kernel
theorem dX3_turn_48 : decode cX3_turn 48 = .ok (.iload_n 3, 1) := by decide +kernel
theorem dX3_turn_49 : decode cX3_turn 49 = .ok (.ifCond .ne 7, 3) := by decide +kernel
theorem dX3_turn_52 : decode cX3_turn 52 = .ok (.iconst 0, 1) := by decide +kernel
theorem dX3_turn_53 : decode cX3_turn 53 = .ok (.goto 9, 3) := by decide +kernel
theorem dX3_turn_56 : decode cX3_turn 56 = .ok (.aload_n 0, 1) := by decide +kernel
theorem dX3_turn_57 : decode cX3_turn 57 = .ok (.invokevirtual 51, 3) := by decide +kernel
theorem dX3_turn_60 : decode cX3_turn 60 = .ok (.iload_n 3, 1) := by decide +kernel
theorem dX3_turn_61 : decode cX3_turn 61 = .ok (.isub, 1) := by decide +kernel
theorem dX3_turn_62 : decode cX3_turn 62 = .ok (.ireturn, 1) := by decide +kernel
theorem dX3_turn_63 : decode cX3_turn 63 = .ok (.iload_n 3, 1) := by decide +kernel
theorem dX3_turn_64 : decode cX3_turn 64 = .ok (.aload_n 0, 1) := by decide +kernel
theorem dX3_turn_65 : decode cX3_turn 65 = .ok (.invokevirtual 51, 3) := by decide +kernel
theorem dX3_turn_68 : decode cX3_turn 68 = .ok (.if_icmp .ge 7, 3) := by decide +kernel
theorem dX3_turn_71 : decode cX3_turn 71 = .ok (.iload_n 3, 1) := by decide +kernel
theorem dX3_turn_72 : decode cX3_turn 72 = .ok (.goto 9, 3) := by decide +kernel
theorem dX3_turn_75 : decode cX3_turn 75 = .ok (.aload_n 0, 1) := by decide +kernel
theorem dX3_turn_76 : decode cX3_turn 76 = .ok (.invokevirtual 41, 3) := by decide +kernel
theorem dX3_turn_79 : decode cX3_turn 79 = .ok (.iload_n 3, 1) := by decide +kernel
theorem dX3_turn_80 : decode cX3_turn 80 = .ok (.isub, 1) := by decide +kernel
theorem dX3_turn_81 : decode cX3_turn 81 = .ok (.ireturn, 1) := by decide +kernel
set_option maxHeartbeats 4000000 in
set_option maxRecDepth 100000 in
theorem c_X3_turn (l : Launch) (E : gE) (g : Mem) (a : Nat) (ha : a < eK E) (f la sp wy ru ti st : Nat) (hf : f < la) (hla : la < 32) (hsp : 0 < sp) (hsp2 : sp ≤ 30) (hwy : wy ≤ 2) (hru : ru ≤ 1) (hti : ti < sp) (hst : st < 1000000000) (hg : g a = oB 3 [.int (nI (f)), .int (nI (la)), .int (nI (sp)), .int (nI (wy)), .int (nI (ru)), .int (nI (ti)), .int (nI (st))]) (t : Nat) (ht : t ≤ 5000) : Mt l E yX3_turn cX3_turn 4 (some .int) 1 22 [rf E (a), .int (nI (t))] g (pI (fun r g' => r = nI (tnN (la - f + 1) wy (mdN sp ru ti st t)) ∧ g' = g)) := by
  refine mt_go (own := RX3) (by decide) rfl (lo := [some (rf E (a)), some (.int (nI (t))), none, none]) rfl (Nat.le_of_ble_eq_true rfl) (fun X hC => ?_)
  refine y_aload_n hC dX3_turn_0 (i := 0) rfl rfl ?_
  refine y_get hC fX3_24 dX3_turn_1 (k := a) ha hg rfl ?_
  refine y_if_eq_n (tgt := 26) hC dX3_turn_4 (by decide) (by omega) (fun c_4 => ?_) (fun c_4 => ?_)
  · refine y_aload_n hC dX3_turn_26 (i := 0) rfl rfl ?_
    refine y_get hC fX3_31 dX3_turn_27 (k := a) ha hg rfl ?_
    have hmd := zmd_lt (ru := ru) (t := t) hsp (show ti < 31 by omega) hst ht
    have hf2 := zfs_pos (n := la - f + 1) (wy := wy) (by omega)
    have hf3 := zfs_le (n := la - f + 1) (wy := wy) (by omega) (by omega)
    refine y_top (y := nI (mdN sp ru ti st t)) (congrArg nI (by unfold mdN; split <;> omega)) ?_
    refine y_istore_n hC dX3_turn_30 (i := 2) rfl (Nat.le_of_ble_eq_true rfl) rfl (lo' := [some (rf E (a)), some (.int (nI (t))), some (.int (nI (mdN sp ru ti st t))), none]) rfl ?_
    refine y_iload_n hC dX3_turn_31 (i := 2) rfl rfl ?_
    refine y_aload_n hC dX3_turn_32 (i := 0) rfl rfl ?_
    refine y_callV hC mX3_fullSteps kX3_41 dX3_turn_33 (b := a) (As := []) (rest := [.int (nI (mdN sp ru ti st t))]) (c_X3_fullSteps l E _ a ha f la sp wy ru ti st hf hla hsp hsp2 hwy hru hti hst hg) ha hg rfl rfl rfl (Nat.le_of_ble_eq_true rfl) ⟨Nat.le_of_ble_eq_true rfl, Nat.le_of_ble_eq_true rfl⟩ (pk_i ?_)
    rintro r_33 g_33 ⟨hr_33, hq_33⟩
    obtain rfl := hq_33.symm
    rw [hr_33]
    clear hr_33 r_33
    refine y_callS hC mJ9_floorMod kX3_45 dX3_turn_36 (As := [.int (nI (mdN sp ru ti st t)), .int (nI (fsN (la - f + 1) wy))]) (rest := []) (c_J9_floorMod l E _ (nI (mdN sp ru ti st t)) (fsN (la - f + 1) wy) (by omega) (by omega) (by rw [tI (by omega)]; omega) (by rw [tI (by omega)]; omega)) rfl rfl rfl (Nat.le_of_ble_eq_true rfl) ⟨Nat.le_of_ble_eq_true rfl, Nat.le_of_ble_eq_true rfl⟩ (pk_i ?_)
    rintro r_36 g_36 ⟨rfl, rfl⟩
    rw [zfl_n (by omega) (by omega) (by omega)]
    have hph := Nat.mod_lt (mdN sp ru ti st t) (show 0 < fsN (la - f + 1) wy by omega)
    refine y_istore_n hC dX3_turn_39 (i := 3) rfl (Nat.le_of_ble_eq_true rfl) rfl (lo' := [some (rf E (a)), some (.int (nI (t))), some (.int (nI (mdN sp ru ti st t))), some (.int (nI (mdN sp ru ti st t % fsN (la - f + 1) wy)))]) rfl ?_
    refine y_aload_n hC dX3_turn_40 (i := 0) rfl rfl ?_
    refine y_get hC fX3_21 dX3_turn_41 (k := a) ha hg rfl ?_
    refine y_iconst (v := nI 1) hC dX3_turn_44 (by decide) ?_
    refine y_icmp_ne_n (tgt := 63) hC dX3_turn_45 (by decide) (by omega) (by omega) (fun c_45 => ?_) (fun c_45 => ?_)
    · refine y_iload_n hC dX3_turn_63 (i := 3) rfl rfl ?_
      refine y_aload_n hC dX3_turn_64 (i := 0) rfl rfl ?_
      refine y_callV hC mX3_places kX3_51 dX3_turn_65 (b := a) (As := []) (rest := [.int (nI (mdN sp ru ti st t % fsN (la - f + 1) wy))]) (c_X3_places l E _ a ha f la sp wy ru ti st hf hla hsp hsp2 hwy hru hti hst hg) ha hg rfl rfl rfl (Nat.le_of_ble_eq_true rfl) ⟨Nat.le_of_ble_eq_true rfl, Nat.le_of_ble_eq_true rfl⟩ (pk_i ?_)
      rintro r_65 g_65 ⟨hr_65, hq_65⟩
      obtain rfl := hq_65.symm
      rw [hr_65]
      clear hr_65 r_65
      refine y_icmp_ge_n (tgt := 75) hC dX3_turn_68 (by decide) (by omega) (by omega) (fun c_68 => ?_) (fun c_68 => ?_)
      · refine y_aload_n hC dX3_turn_75 (i := 0) rfl rfl ?_
        refine y_callV hC mX3_fullSteps kX3_41 dX3_turn_76 (b := a) (As := []) (rest := []) (c_X3_fullSteps l E _ a ha f la sp wy ru ti st hf hla hsp hsp2 hwy hru hti hst hg) ha hg rfl rfl rfl (Nat.le_of_ble_eq_true rfl) ⟨Nat.le_of_ble_eq_true rfl, Nat.le_of_ble_eq_true rfl⟩ (pk_i ?_)
        rintro r_76 g_76 ⟨hr_76, hq_76⟩
        obtain rfl := hq_76.symm
        rw [hr_76]
        clear hr_76 r_76
        refine y_iload_n hC dX3_turn_79 (i := 3) rfl rfl ?_
        refine y_isub_n hC dX3_turn_80 (Nat.le_of_lt hph) ?_
        refine y_iret (hC := hC) (hd := dX3_turn_81) (hq := ?_)
        refine ⟨congrArg nI ?_, rfl⟩
        first | exact ztn_a c_45 c_49 | exact ztn_b c_45 c_49 | exact ztn_c (by omega) c_45 (by omega) | exact ztn_d (by omega) c_45 c_68
      · refine y_iload_n hC dX3_turn_71 (i := 3) rfl rfl ?_
        refine y_goto (tgt := 81) hC dX3_turn_72 (by decide) ?_
        refine y_iret (hC := hC) (hd := dX3_turn_81) (hq := ?_)
        refine ⟨congrArg nI ?_, rfl⟩
        first | exact ztn_a c_45 c_49 | exact ztn_b c_45 c_49 | exact ztn_c (by omega) c_45 (by omega) | exact ztn_d (by omega) c_45 c_68
    · refine y_iload_n hC dX3_turn_48 (i := 3) rfl rfl ?_
      refine y_if_ne_n (tgt := 56) hC dX3_turn_49 (by decide) (by omega) (fun c_49 => ?_) (fun c_49 => ?_)
      · refine y_aload_n hC dX3_turn_56 (i := 0) rfl rfl ?_
        refine y_callV hC mX3_places kX3_51 dX3_turn_57 (b := a) (As := []) (rest := []) (c_X3_places l E _ a ha f la sp wy ru ti st hf hla hsp hsp2 hwy hru hti hst hg) ha hg rfl rfl rfl (Nat.le_of_ble_eq_true rfl) ⟨Nat.le_of_ble_eq_true rfl, Nat.le_of_ble_eq_true rfl⟩ (pk_i ?_)
        rintro r_57 g_57 ⟨hr_57, hq_57⟩
        obtain rfl := hq_57.symm
        rw [hr_57]
        clear hr_57 r_57
        refine y_iload_n hC dX3_turn_60 (i := 3) rfl rfl ?_
        refine y_isub_n hC dX3_turn_61 (by (unfold fsN at hph ⊢; split at hph <;> split <;> omega)) ?_
        refine y_iret (hC := hC) (hd := dX3_turn_62) (hq := ?_)
        refine ⟨congrArg nI ?_, rfl⟩
        first | exact ztn_a c_45 c_49 | exact ztn_b c_45 c_49 | exact ztn_c (by omega) c_45 (by omega) | exact ztn_d (by omega) c_45 c_68
      · refine y_iconst (v := nI 0) hC dX3_turn_52 (by decide) ?_
        refine y_goto (tgt := 62) hC dX3_turn_53 (by decide) ?_
        refine y_iret (hC := hC) (hd := dX3_turn_62) (hq := ?_)
        refine ⟨congrArg nI ?_, rfl⟩
        first | exact ztn_a c_45 c_49 | exact ztn_b c_45 c_49 | exact ztn_c (by omega) c_45 (by omega) | exact ztn_d (by omega) c_45 c_68
  · refine y_aload_n hC dX3_turn_7 (i := 0) rfl rfl ?_
    refine y_get hC fX3_31 dX3_turn_8 (k := a) ha hg rfl ?_
    refine y_aload_n hC dX3_turn_11 (i := 0) rfl rfl ?_
    refine y_get hC fX3_28 dX3_turn_12 (k := a) ha hg rfl ?_
    refine y_iload_n hC dX3_turn_15 (i := 1) rfl rfl ?_
    refine y_iadd_n hC dX3_turn_16 ?_
    refine y_aload_n hC dX3_turn_17 (i := 0) rfl rfl ?_
    refine y_get hC fX3_18 dX3_turn_18 (k := a) ha hg rfl ?_
    refine y_idiv_n hC dX3_turn_21 (by omega) (by omega) (by omega) ?_
    refine y_iadd_n hC dX3_turn_22 ?_
    refine y_goto (tgt := 30) hC dX3_turn_23 (by decide) ?_
    have hmd := zmd_lt (ru := ru) (t := t) hsp (show ti < 31 by omega) hst ht
    have hf2 := zfs_pos (n := la - f + 1) (wy := wy) (by omega)
    have hf3 := zfs_le (n := la - f + 1) (wy := wy) (by omega) (by omega)
    refine y_top (y := nI (mdN sp ru ti st t)) (congrArg nI (by unfold mdN; split <;> omega)) ?_
    refine y_istore_n hC dX3_turn_30 (i := 2) rfl (Nat.le_of_ble_eq_true rfl) rfl (lo' := [some (rf E (a)), some (.int (nI (t))), some (.int (nI (mdN sp ru ti st t))), none]) rfl ?_
    refine y_iload_n hC dX3_turn_31 (i := 2) rfl rfl ?_
    refine y_aload_n hC dX3_turn_32 (i := 0) rfl rfl ?_
    refine y_callV hC mX3_fullSteps kX3_41 dX3_turn_33 (b := a) (As := []) (rest := [.int (nI (mdN sp ru ti st t))]) (c_X3_fullSteps l E _ a ha f la sp wy ru ti st hf hla hsp hsp2 hwy hru hti hst hg) ha hg rfl rfl rfl (Nat.le_of_ble_eq_true rfl) ⟨Nat.le_of_ble_eq_true rfl, Nat.le_of_ble_eq_true rfl⟩ (pk_i ?_)
    rintro r_33 g_33 ⟨hr_33, hq_33⟩
    obtain rfl := hq_33.symm
    rw [hr_33]
    clear hr_33 r_33
    refine y_callS hC mJ9_floorMod kX3_45 dX3_turn_36 (As := [.int (nI (mdN sp ru ti st t)), .int (nI (fsN (la - f + 1) wy))]) (rest := []) (c_J9_floorMod l E _ (nI (mdN sp ru ti st t)) (fsN (la - f + 1) wy) (by omega) (by omega) (by rw [tI (by omega)]; omega) (by rw [tI (by omega)]; omega)) rfl rfl rfl (Nat.le_of_ble_eq_true rfl) ⟨Nat.le_of_ble_eq_true rfl, Nat.le_of_ble_eq_true rfl⟩ (pk_i ?_)
    rintro r_36 g_36 ⟨rfl, rfl⟩
    rw [zfl_n (by omega) (by omega) (by omega)]
    have hph := Nat.mod_lt (mdN sp ru ti st t) (show 0 < fsN (la - f + 1) wy by omega)
    refine y_istore_n hC dX3_turn_39 (i := 3) rfl (Nat.le_of_ble_eq_true rfl) rfl (lo' := [some (rf E (a)), some (.int (nI (t))), some (.int (nI (mdN sp ru ti st t))), some (.int (nI (mdN sp ru ti st t % fsN (la - f + 1) wy)))]) rfl ?_
    refine y_aload_n hC dX3_turn_40 (i := 0) rfl rfl ?_
    refine y_get hC fX3_21 dX3_turn_41 (k := a) ha hg rfl ?_
    refine y_iconst (v := nI 1) hC dX3_turn_44 (by decide) ?_
    refine y_icmp_ne_n (tgt := 63) hC dX3_turn_45 (by decide) (by omega) (by omega) (fun c_45 => ?_) (fun c_45 => ?_)
    · refine y_iload_n hC dX3_turn_63 (i := 3) rfl rfl ?_
      refine y_aload_n hC dX3_turn_64 (i := 0) rfl rfl ?_
      refine y_callV hC mX3_places kX3_51 dX3_turn_65 (b := a) (As := []) (rest := [.int (nI (mdN sp ru ti st t % fsN (la - f + 1) wy))]) (c_X3_places l E _ a ha f la sp wy ru ti st hf hla hsp hsp2 hwy hru hti hst hg) ha hg rfl rfl rfl (Nat.le_of_ble_eq_true rfl) ⟨Nat.le_of_ble_eq_true rfl, Nat.le_of_ble_eq_true rfl⟩ (pk_i ?_)
      rintro r_65 g_65 ⟨hr_65, hq_65⟩
      obtain rfl := hq_65.symm
      rw [hr_65]
      clear hr_65 r_65
      refine y_icmp_ge_n (tgt := 75) hC dX3_turn_68 (by decide) (by omega) (by omega) (fun c_68 => ?_) (fun c_68 => ?_)
      · refine y_aload_n hC dX3_turn_75 (i := 0) rfl rfl ?_
        refine y_callV hC mX3_fullSteps kX3_41 dX3_turn_76 (b := a) (As := []) (rest := []) (c_X3_fullSteps l E _ a ha f la sp wy ru ti st hf hla hsp hsp2 hwy hru hti hst hg) ha hg rfl rfl rfl (Nat.le_of_ble_eq_true rfl) ⟨Nat.le_of_ble_eq_true rfl, Nat.le_of_ble_eq_true rfl⟩ (pk_i ?_)
        rintro r_76 g_76 ⟨hr_76, hq_76⟩
        obtain rfl := hq_76.symm
        rw [hr_76]
        clear hr_76 r_76
        refine y_iload_n hC dX3_turn_79 (i := 3) rfl rfl ?_
        refine y_isub_n hC dX3_turn_80 (Nat.le_of_lt hph) ?_
        refine y_iret (hC := hC) (hd := dX3_turn_81) (hq := ?_)
        refine ⟨congrArg nI ?_, rfl⟩
        first | exact ztn_a c_45 c_49 | exact ztn_b c_45 c_49 | exact ztn_c (by omega) c_45 (by omega) | exact ztn_d (by omega) c_45 c_68
      · refine y_iload_n hC dX3_turn_71 (i := 3) rfl rfl ?_
        refine y_goto (tgt := 81) hC dX3_turn_72 (by decide) ?_
        refine y_iret (hC := hC) (hd := dX3_turn_81) (hq := ?_)
        refine ⟨congrArg nI ?_, rfl⟩
        first | exact ztn_a c_45 c_49 | exact ztn_b c_45 c_49 | exact ztn_c (by omega) c_45 (by omega) | exact ztn_d (by omega) c_45 c_68
    · refine y_iload_n hC dX3_turn_48 (i := 3) rfl rfl ?_
      refine y_if_ne_n (tgt := 56) hC dX3_turn_49 (by decide) (by omega) (fun c_49 => ?_) (fun c_49 => ?_)
      · refine y_aload_n hC dX3_turn_56 (i := 0) rfl rfl ?_
        refine y_callV hC mX3_places kX3_51 dX3_turn_57 (b := a) (As := []) (rest := []) (c_X3_places l E _ a ha f la sp wy ru ti st hf hla hsp hsp2 hwy hru hti hst hg) ha hg rfl rfl rfl (Nat.le_of_ble_eq_true rfl) ⟨Nat.le_of_ble_eq_true rfl, Nat.le_of_ble_eq_true rfl⟩ (pk_i ?_)
        rintro r_57 g_57 ⟨hr_57, hq_57⟩
        obtain rfl := hq_57.symm
        rw [hr_57]
        clear hr_57 r_57
        refine y_iload_n hC dX3_turn_60 (i := 3) rfl rfl ?_
        refine y_isub_n hC dX3_turn_61 (by (unfold fsN at hph ⊢; split at hph <;> split <;> omega)) ?_
        refine y_iret (hC := hC) (hd := dX3_turn_62) (hq := ?_)
        refine ⟨congrArg nI ?_, rfl⟩
        first | exact ztn_a c_45 c_49 | exact ztn_b c_45 c_49 | exact ztn_c (by omega) c_45 (by omega) | exact ztn_d (by omega) c_45 c_68
      · refine y_iconst (v := nI 0) hC dX3_turn_52 (by decide) ?_
        refine y_goto (tgt := 62) hC dX3_turn_53 (by decide) ?_
        refine y_iret (hC := hC) (hd := dX3_turn_62) (hq := ?_)
        refine ⟨congrArg nI ?_, rfl⟩
        first | exact ztn_a c_45 c_49 | exact ztn_b c_45 c_49 | exact ztn_c (by omega) c_45 (by omega) | exact ztn_d (by omega) c_45 c_68

theorem zsr {f n p tn : Nat} (hp : f ≤ p) (hp2 : p < 64) (hn : 2 ≤ n) (hn2 : n ≤ 64) (htn : tn < n) : (nI p - nI f - nI tn).toInt = (p : Int) - f - tn ∧ Int32.ofInt ((nI p - nI f - nI tn).toInt % n) = nI ((p - f + n - tn) % n) := by
  have e1 : (nI p - nI f).toInt = (p : Int) - f := sI (by omega) (by omega)
  have e2 : (nI p - nI f - nI tn).toInt = (p : Int) - f - tn := by
    rw [zsubI] <;> rw [e1, tI (by omega)] <;> omega
  refine ⟨e2, ?_⟩
  rw [e2]
  have e3 : ((p : Int) - f - tn) % n = (((p - f + n - tn) % n : Nat) : Int) := by
    have e4 : (p : Int) - f - tn = ((p - f + n - tn : Nat) : Int) + (n : Int) * (-1) := by omega
    rw [e4, Int.add_mul_emod_self_left]
    exact (Int.natCast_emod _ _).symm
  rw [e3]
  exact rfl
theorem dX3_source_0 : decode cX3_source 0 = .ok (.aload_n 0, 1) := by decide +kernel
theorem dX3_source_1 : decode cX3_source 1 = .ok (.getfield 9, 3) := by decide +kernel
theorem dX3_source_4 : decode cX3_source 4 = .ok (.iload_n 1, 1) := by decide +kernel
theorem dX3_source_5 : decode cX3_source 5 = .ok (.aload_n 0, 1) := by decide +kernel
theorem dX3_source_6 : decode cX3_source 6 = .ok (.getfield 9, 3) := by decide +kernel
theorem dX3_source_9 : decode cX3_source 9 = .ok (.isub, 1) := by decide +kernel
theorem dX3_source_10 : decode cX3_source 10 = .ok (.aload_n 0, 1) := by decide +kernel
theorem dX3_source_11 : decode cX3_source 11 = .ok (.iload_n 2, 1) := by decide +kernel
theorem dX3_source_12 : decode cX3_source 12 = .ok (.invokevirtual 54, 3) := by decide +kernel
theorem dX3_source_15 : decode cX3_source 15 = .ok (.isub, 1) := by decide +kernel
theorem dX3_source_16 : decode cX3_source 16 = .ok (.aload_n 0, 1) := by decide +kernel
theorem dX3_source_17 : decode cX3_source 17 = .ok (.invokevirtual 51, 3) := by decide +kernel
theorem dX3_source_20 : decode cX3_source 20 = .ok (.invokestatic 45, 3) := by decide +kernel
theorem dX3_source_23 : decode cX3_source 23 = .ok (.iadd, 1) := by decide +kernel
theorem dX3_source_24 : decode cX3_source 24 = .ok (.ireturn, 1) := by decide +kernel
set_option maxHeartbeats 4000000 in
set_option maxRecDepth 100000 in
theorem c_X3_source (l : Launch) (E : gE) (g : Mem) (a : Nat) (ha : a < eK E) (f la sp wy ru ti st : Nat) (hf : f < la) (hla : la < 32) (hsp : 0 < sp) (hsp2 : sp ≤ 30) (hwy : wy ≤ 2) (hru : ru ≤ 1) (hti : ti < sp) (hst : st < 1000000000) (hg : g a = oB 3 [.int (nI (f)), .int (nI (la)), .int (nI (sp)), .int (nI (wy)), .int (nI (ru)), .int (nI (ti)), .int (nI (st))]) (p t : Nat) (hp : f ≤ p) (hp2 : p ≤ la) (ht : t ≤ 5000) : Mt l E yX3_source cX3_source 3 (some .int) 2 45 [rf E (a), .int (nI (p)), .int (nI (t))] g (pI (fun r g' => r = nI (srN f (la - f + 1) p (tnN (la - f + 1) wy (mdN sp ru ti st t))) ∧ g' = g)) := by
  have htn := tnN_lt (n := la - f + 1) (wy := wy) (m := mdN sp ru ti st t) (by omega)
  obtain ⟨hz1, hz2⟩ := zsr (f := f) (n := la - f + 1) (p := p) hp (by omega) (by omega) (by omega) htn
  refine mt_go (own := RX3) (by decide) rfl (lo := [some (rf E (a)), some (.int (nI (p))), some (.int (nI (t)))]) rfl (Nat.le_of_ble_eq_true rfl) (fun X hC => ?_)
  refine y_aload_n hC dX3_source_0 (i := 0) rfl rfl ?_
  refine y_get hC fX3_9 dX3_source_1 (k := a) ha hg rfl ?_
  refine y_iload_n hC dX3_source_4 (i := 1) rfl rfl ?_
  refine y_aload_n hC dX3_source_5 (i := 0) rfl rfl ?_
  refine y_get hC fX3_9 dX3_source_6 (k := a) ha hg rfl ?_
  refine y_isub hC dX3_source_9 ?_
  refine y_aload_n hC dX3_source_10 (i := 0) rfl rfl ?_
  refine y_iload_n hC dX3_source_11 (i := 2) rfl rfl ?_
  refine y_callV hC mX3_turn kX3_54 dX3_source_12 (b := a) (As := [.int (nI (t))]) (rest := [.int (nI (p) - nI (f)), .int (nI (f))]) (c_X3_turn l E _ a ha f la sp wy ru ti st hf hla hsp hsp2 hwy hru hti hst hg t ht) ha hg rfl rfl rfl (Nat.le_of_ble_eq_true rfl) ⟨Nat.le_of_ble_eq_true rfl, Nat.le_of_ble_eq_true rfl⟩ (pk_i ?_)
  rintro r_12 g_12 ⟨hr_12, hq_12⟩
  obtain rfl := hq_12.symm
  rw [hr_12]
  clear hr_12 r_12
  refine y_isub hC dX3_source_15 ?_
  refine y_aload_n hC dX3_source_16 (i := 0) rfl rfl ?_
  refine y_callV hC mX3_places kX3_51 dX3_source_17 (b := a) (As := []) (rest := [.int ((nI (p) - nI (f)) - nI (tnN (la - f + 1) wy (mdN sp ru ti st t))), .int (nI (f))]) (c_X3_places l E _ a ha f la sp wy ru ti st hf hla hsp hsp2 hwy hru hti hst hg) ha hg rfl rfl rfl (Nat.le_of_ble_eq_true rfl) ⟨Nat.le_of_ble_eq_true rfl, Nat.le_of_ble_eq_true rfl⟩ (pk_i ?_)
  rintro r_17 g_17 ⟨hr_17, hq_17⟩
  obtain rfl := hq_17.symm
  rw [hr_17]
  clear hr_17 r_17
  refine y_callS hC mJ9_floorMod kX3_45 dX3_source_20 (As := [.int ((nI (p) - nI (f)) - nI (tnN (la - f + 1) wy (mdN sp ru ti st t))), .int (nI (la - f + 1))]) (rest := [.int (nI (f))]) (c_J9_floorMod l E _ (nI (p) - nI (f) - nI (tnN (la - f + 1) wy (mdN sp ru ti st t))) (la - f + 1) (by omega) (by omega) (by rw [hz1]; omega) (by rw [hz1]; omega)) rfl rfl rfl (Nat.le_of_ble_eq_true rfl) ⟨Nat.le_of_ble_eq_true rfl, Nat.le_of_ble_eq_true rfl⟩ (pk_i ?_)
  rintro r_20 g_20 ⟨rfl, rfl⟩
  rw [hz2]
  refine y_iadd_n hC dX3_source_23 ?_
  refine y_iret (hC := hC) (hd := dX3_source_24) (hq := ?_)
  exact ⟨rfl, rfl⟩

theorem dX5_isPlace_0 : decode cX5_isPlace 0 = .ok (.iload_n 0, 1) := by decide +kernel
theorem dX5_isPlace_1 : decode cX5_isPlace 1 = .ok (.ifCond .lt 13, 3) := by decide +kernel
theorem dX5_isPlace_4 : decode cX5_isPlace 4 = .ok (.iload_n 0, 1) := by decide +kernel
theorem dX5_isPlace_5 : decode cX5_isPlace 5 = .ok (.bipush 32, 2) := by decide +kernel
theorem dX5_isPlace_7 : decode cX5_isPlace 7 = .ok (.if_icmp .ge 7, 3) := by decide +kernel
theorem dX5_isPlace_10 : decode cX5_isPlace 10 = .ok (.iconst 1, 1) := by decide +kernel
theorem dX5_isPlace_11 : decode cX5_isPlace 11 = .ok (.goto 4, 3) := by decide +kernel
theorem dX5_isPlace_14 : decode cX5_isPlace 14 = .ok (.iconst 0, 1) := by decide +kernel
theorem dX5_isPlace_15 : decode cX5_isPlace 15 = .ok (.ireturn, 1) := by decide +kernel
set_option maxHeartbeats 4000000 in
set_option maxRecDepth 100000 in
theorem c_X5_isPlace (l : Launch) (E : gE) (g : Mem) (x : Int32) : Mt l E yX5_isPlace cX5_isPlace 1 (some .boolean) 0 0 [.int (x)] g (pI (fun r g' => r = bI (0 ≤ x.toInt ∧ x.toInt ≤ 31) ∧ g' = g)) := by
  refine mt_go (own := RX5) (by decide) rfl (lo := [some (.int (x))]) rfl (Nat.le_of_ble_eq_true rfl) (fun X hC => ?_)
  refine y_iload_n hC dX5_isPlace_0 (i := 0) rfl rfl ?_
  refine y_if_lt (tgt := 14) hC dX5_isPlace_1 (by decide) (fun c_1 => ?_) (fun c_1 => ?_)
  · refine y_iconst (v := nI 0) hC dX5_isPlace_14 (by decide) ?_
    refine y_zret (hrt := rfl) (hn := rfl) (hC := hC) (hd := dX5_isPlace_15) (hq := ?_)
    refine ⟨?_, rfl⟩
    simp only [Int32.lt_iff_toInt_lt, Int32.le_iff_toInt_le, Int32.toInt_zero, tI, Nat.reduceLT] at *
    first | exact (bI_t (by omega)).symm | exact (bI_f (by omega)).symm
  · refine y_iload_n hC dX5_isPlace_4 (i := 0) rfl rfl ?_
    refine y_bipush (v := nI 32) hC dX5_isPlace_5 (by decide) ?_
    refine y_icmp_ge (tgt := 14) hC dX5_isPlace_7 (by decide) (fun c_7 => ?_) (fun c_7 => ?_)
    · refine y_iconst (v := nI 0) hC dX5_isPlace_14 (by decide) ?_
      refine y_zret (hrt := rfl) (hn := rfl) (hC := hC) (hd := dX5_isPlace_15) (hq := ?_)
      refine ⟨?_, rfl⟩
      simp only [Int32.lt_iff_toInt_lt, Int32.le_iff_toInt_le, Int32.toInt_zero, tI, Nat.reduceLT] at *
      first | exact (bI_t (by omega)).symm | exact (bI_f (by omega)).symm
    · refine y_iconst (v := nI 1) hC dX5_isPlace_10 (by decide) ?_
      refine y_goto (tgt := 15) hC dX5_isPlace_11 (by decide) ?_
      refine y_zret (hrt := rfl) (hn := rfl) (hC := hC) (hd := dX5_isPlace_15) (hq := ?_)
      refine ⟨?_, rfl⟩
      simp only [Int32.lt_iff_toInt_lt, Int32.le_iff_toInt_le, Int32.toInt_zero, tI, Nat.reduceLT] at *
      first | exact (bI_t (by omega)).symm | exact (bI_f (by omega)).symm

theorem dX5_isColour_0 : decode cX5_isColour 0 = .ok (.iload_n 0, 1) := by decide +kernel
theorem dX5_isColour_1 : decode cX5_isColour 1 = .ok (.ifCond .lt 14, 3) := by decide +kernel
theorem dX5_isColour_4 : decode cX5_isColour 4 = .ok (.iload_n 0, 1) := by decide +kernel
theorem dX5_isColour_5 : decode cX5_isColour 5 = .ok (.ldc_w 264, 3) := by decide +kernel
theorem dX5_isColour_8 : decode cX5_isColour 8 = .ok (.if_icmp .ge 7, 3) := by decide +kernel
theorem dX5_isColour_11 : decode cX5_isColour 11 = .ok (.iconst 1, 1) := by decide +kernel
theorem dX5_isColour_12 : decode cX5_isColour 12 = .ok (.goto 4, 3) := by decide +kernel
theorem dX5_isColour_15 : decode cX5_isColour 15 = .ok (.iconst 0, 1) := by decide +kernel
theorem dX5_isColour_16 : decode cX5_isColour 16 = .ok (.ireturn, 1) := by decide +kernel
set_option maxHeartbeats 4000000 in
set_option maxRecDepth 100000 in
theorem c_X5_isColour (l : Launch) (E : gE) (g : Mem) (x : Int32) : Mt l E yX5_isColour cX5_isColour 1 (some .boolean) 0 0 [.int (x)] g (pI (fun r g' => r = bI (0 ≤ x.toInt ∧ x.toInt ≤ 262143) ∧ g' = g)) := by
  refine mt_go (own := RX5) (by decide) rfl (lo := [some (.int (x))]) rfl (Nat.le_of_ble_eq_true rfl) (fun X hC => ?_)
  refine y_iload_n hC dX5_isColour_0 (i := 0) rfl rfl ?_
  refine y_if_lt (tgt := 15) hC dX5_isColour_1 (by decide) (fun c_1 => ?_) (fun c_1 => ?_)
  · refine y_iconst (v := nI 0) hC dX5_isColour_15 (by decide) ?_
    refine y_zret (hrt := rfl) (hn := rfl) (hC := hC) (hd := dX5_isColour_16) (hq := ?_)
    refine ⟨?_, rfl⟩
    simp only [Int32.lt_iff_toInt_lt, Int32.le_iff_toInt_le, Int32.toInt_zero, tI, Nat.reduceLT] at *
    first | exact (bI_t (by omega)).symm | exact (bI_f (by omega)).symm
  · refine y_iload_n hC dX5_isColour_4 (i := 0) rfl rfl ?_
    refine y_ldcw hC cnX5_264 dX5_isColour_5 ?_
    refine y_top (show (262144 : Int32) = nI 262144 from by decide) ?_
    refine y_icmp_ge (tgt := 15) hC dX5_isColour_8 (by decide) (fun c_8 => ?_) (fun c_8 => ?_)
    · refine y_iconst (v := nI 0) hC dX5_isColour_15 (by decide) ?_
      refine y_zret (hrt := rfl) (hn := rfl) (hC := hC) (hd := dX5_isColour_16) (hq := ?_)
      refine ⟨?_, rfl⟩
      simp only [Int32.lt_iff_toInt_lt, Int32.le_iff_toInt_le, Int32.toInt_zero, tI, Nat.reduceLT] at *
      first | exact (bI_t (by omega)).symm | exact (bI_f (by omega)).symm
    · refine y_iconst (v := nI 1) hC dX5_isColour_11 (by decide) ?_
      refine y_goto (tgt := 16) hC dX5_isColour_12 (by decide) ?_
      refine y_zret (hrt := rfl) (hn := rfl) (hC := hC) (hd := dX5_isColour_16) (hq := ?_)
      refine ⟨?_, rfl⟩
      simp only [Int32.lt_iff_toInt_lt, Int32.le_iff_toInt_le, Int32.toInt_zero, tI, Nat.reduceLT] at *
      first | exact (bI_t (by omega)).symm | exact (bI_f (by omega)).symm

theorem dX5_isLength_0 : decode cX5_isLength 0 = .ok (.iload_n 0, 1) := by decide +kernel
theorem dX5_isLength_1 : decode cX5_isLength 1 = .ok (.iconst 1, 1) := by decide +kernel
theorem dX5_isLength_2 : decode cX5_isLength 2 = .ok (.if_icmp .lt 13, 3) := by decide +kernel
theorem dX5_isLength_5 : decode cX5_isLength 5 = .ok (.iload_n 0, 1) := by decide +kernel
theorem dX5_isLength_6 : decode cX5_isLength 6 = .ok (.bipush 30, 2) := by decide +kernel
theorem dX5_isLength_8 : decode cX5_isLength 8 = .ok (.if_icmp .gt 7, 3) := by decide +kernel
theorem dX5_isLength_11 : decode cX5_isLength 11 = .ok (.iconst 1, 1) := by decide +kernel
theorem dX5_isLength_12 : decode cX5_isLength 12 = .ok (.goto 4, 3) := by decide +kernel
theorem dX5_isLength_15 : decode cX5_isLength 15 = .ok (.iconst 0, 1) := by decide +kernel
theorem dX5_isLength_16 : decode cX5_isLength 16 = .ok (.ireturn, 1) := by decide +kernel
set_option maxHeartbeats 4000000 in
set_option maxRecDepth 100000 in
theorem c_X5_isLength (l : Launch) (E : gE) (g : Mem) (x : Int32) : Mt l E yX5_isLength cX5_isLength 1 (some .boolean) 0 0 [.int (x)] g (pI (fun r g' => r = bI (1 ≤ x.toInt ∧ x.toInt ≤ 30) ∧ g' = g)) := by
  refine mt_go (own := RX5) (by decide) rfl (lo := [some (.int (x))]) rfl (Nat.le_of_ble_eq_true rfl) (fun X hC => ?_)
  refine y_iload_n hC dX5_isLength_0 (i := 0) rfl rfl ?_
  refine y_iconst (v := nI 1) hC dX5_isLength_1 (by decide) ?_
  refine y_icmp_lt (tgt := 15) hC dX5_isLength_2 (by decide) (fun c_2 => ?_) (fun c_2 => ?_)
  · refine y_iconst (v := nI 0) hC dX5_isLength_15 (by decide) ?_
    refine y_zret (hrt := rfl) (hn := rfl) (hC := hC) (hd := dX5_isLength_16) (hq := ?_)
    refine ⟨?_, rfl⟩
    simp only [Int32.lt_iff_toInt_lt, Int32.le_iff_toInt_le, Int32.toInt_zero, tI, Nat.reduceLT] at *
    first | exact (bI_t (by omega)).symm | exact (bI_f (by omega)).symm
  · refine y_iload_n hC dX5_isLength_5 (i := 0) rfl rfl ?_
    refine y_bipush (v := nI 30) hC dX5_isLength_6 (by decide) ?_
    refine y_icmp_gt (tgt := 15) hC dX5_isLength_8 (by decide) (fun c_8 => ?_) (fun c_8 => ?_)
    · refine y_iconst (v := nI 0) hC dX5_isLength_15 (by decide) ?_
      refine y_zret (hrt := rfl) (hn := rfl) (hC := hC) (hd := dX5_isLength_16) (hq := ?_)
      refine ⟨?_, rfl⟩
      simp only [Int32.lt_iff_toInt_lt, Int32.le_iff_toInt_le, Int32.toInt_zero, tI, Nat.reduceLT] at *
      first | exact (bI_t (by omega)).symm | exact (bI_f (by omega)).symm
    · refine y_iconst (v := nI 1) hC dX5_isLength_11 (by decide) ?_
      refine y_goto (tgt := 16) hC dX5_isLength_12 (by decide) ?_
      refine y_zret (hrt := rfl) (hn := rfl) (hC := hC) (hd := dX5_isLength_16) (hq := ?_)
      refine ⟨?_, rfl⟩
      simp only [Int32.lt_iff_toInt_lt, Int32.le_iff_toInt_le, Int32.toInt_zero, tI, Nat.reduceLT] at *
      first | exact (bI_t (by omega)).symm | exact (bI_f (by omega)).symm

theorem dX5_isWay_0 : decode cX5_isWay 0 = .ok (.iload_n 0, 1) := by decide +kernel
theorem dX5_isWay_1 : decode cX5_isWay 1 = .ok (.ifCond .lt 12, 3) := by decide +kernel
theorem dX5_isWay_4 : decode cX5_isWay 4 = .ok (.iload_n 0, 1) := by decide +kernel
theorem dX5_isWay_5 : decode cX5_isWay 5 = .ok (.iconst 2, 1) := by decide +kernel
theorem dX5_isWay_6 : decode cX5_isWay 6 = .ok (.if_icmp .gt 7, 3) := by decide +kernel
theorem dX5_isWay_9 : decode cX5_isWay 9 = .ok (.iconst 1, 1) := by decide +kernel
theorem dX5_isWay_10 : decode cX5_isWay 10 = .ok (.goto 4, 3) := by decide +kernel
theorem dX5_isWay_13 : decode cX5_isWay 13 = .ok (.iconst 0, 1) := by decide +kernel
theorem dX5_isWay_14 : decode cX5_isWay 14 = .ok (.ireturn, 1) := by decide +kernel
set_option maxHeartbeats 4000000 in
set_option maxRecDepth 100000 in
theorem c_X5_isWay (l : Launch) (E : gE) (g : Mem) (x : Int32) : Mt l E yX5_isWay cX5_isWay 1 (some .boolean) 0 0 [.int (x)] g (pI (fun r g' => r = bI (0 ≤ x.toInt ∧ x.toInt ≤ 2) ∧ g' = g)) := by
  refine mt_go (own := RX5) (by decide) rfl (lo := [some (.int (x))]) rfl (Nat.le_of_ble_eq_true rfl) (fun X hC => ?_)
  refine y_iload_n hC dX5_isWay_0 (i := 0) rfl rfl ?_
  refine y_if_lt (tgt := 13) hC dX5_isWay_1 (by decide) (fun c_1 => ?_) (fun c_1 => ?_)
  · refine y_iconst (v := nI 0) hC dX5_isWay_13 (by decide) ?_
    refine y_zret (hrt := rfl) (hn := rfl) (hC := hC) (hd := dX5_isWay_14) (hq := ?_)
    refine ⟨?_, rfl⟩
    simp only [Int32.lt_iff_toInt_lt, Int32.le_iff_toInt_le, Int32.toInt_zero, tI, Nat.reduceLT] at *
    first | exact (bI_t (by omega)).symm | exact (bI_f (by omega)).symm
  · refine y_iload_n hC dX5_isWay_4 (i := 0) rfl rfl ?_
    refine y_iconst (v := nI 2) hC dX5_isWay_5 (by decide) ?_
    refine y_icmp_gt (tgt := 13) hC dX5_isWay_6 (by decide) (fun c_6 => ?_) (fun c_6 => ?_)
    · refine y_iconst (v := nI 0) hC dX5_isWay_13 (by decide) ?_
      refine y_zret (hrt := rfl) (hn := rfl) (hC := hC) (hd := dX5_isWay_14) (hq := ?_)
      refine ⟨?_, rfl⟩
      simp only [Int32.lt_iff_toInt_lt, Int32.le_iff_toInt_le, Int32.toInt_zero, tI, Nat.reduceLT] at *
      first | exact (bI_t (by omega)).symm | exact (bI_f (by omega)).symm
    · refine y_iconst (v := nI 1) hC dX5_isWay_9 (by decide) ?_
      refine y_goto (tgt := 14) hC dX5_isWay_10 (by decide) ?_
      refine y_zret (hrt := rfl) (hn := rfl) (hC := hC) (hd := dX5_isWay_14) (hq := ?_)
      refine ⟨?_, rfl⟩
      simp only [Int32.lt_iff_toInt_lt, Int32.le_iff_toInt_le, Int32.toInt_zero, tI, Nat.reduceLT] at *
      first | exact (bI_t (by omega)).symm | exact (bI_f (by omega)).symm

theorem dX5_isLater_0 : decode cX5_isLater 0 = .ok (.iload_n 0, 1) := by decide +kernel
theorem dX5_isLater_1 : decode cX5_isLater 1 = .ok (.ifCond .lt 14, 3) := by decide +kernel
theorem dX5_isLater_4 : decode cX5_isLater 4 = .ok (.iload_n 0, 1) := by decide +kernel
theorem dX5_isLater_5 : decode cX5_isLater 5 = .ok (.sipush 1000, 3) := by decide +kernel
theorem dX5_isLater_8 : decode cX5_isLater 8 = .ok (.if_icmp .gt 7, 3) := by decide +kernel
theorem dX5_isLater_11 : decode cX5_isLater 11 = .ok (.iconst 1, 1) := by decide +kernel
theorem dX5_isLater_12 : decode cX5_isLater 12 = .ok (.goto 4, 3) := by decide +kernel
theorem dX5_isLater_15 : decode cX5_isLater 15 = .ok (.iconst 0, 1) := by decide +kernel
theorem dX5_isLater_16 : decode cX5_isLater 16 = .ok (.ireturn, 1) := by decide +kernel
set_option maxHeartbeats 4000000 in
set_option maxRecDepth 100000 in
theorem c_X5_isLater (l : Launch) (E : gE) (g : Mem) (x : Int32) : Mt l E yX5_isLater cX5_isLater 1 (some .boolean) 0 0 [.int (x)] g (pI (fun r g' => r = bI (0 ≤ x.toInt ∧ x.toInt ≤ 1000) ∧ g' = g)) := by
  refine mt_go (own := RX5) (by decide) rfl (lo := [some (.int (x))]) rfl (Nat.le_of_ble_eq_true rfl) (fun X hC => ?_)
  refine y_iload_n hC dX5_isLater_0 (i := 0) rfl rfl ?_
  refine y_if_lt (tgt := 15) hC dX5_isLater_1 (by decide) (fun c_1 => ?_) (fun c_1 => ?_)
  · refine y_iconst (v := nI 0) hC dX5_isLater_15 (by decide) ?_
    refine y_zret (hrt := rfl) (hn := rfl) (hC := hC) (hd := dX5_isLater_16) (hq := ?_)
    refine ⟨?_, rfl⟩
    simp only [Int32.lt_iff_toInt_lt, Int32.le_iff_toInt_le, Int32.toInt_zero, tI, Nat.reduceLT] at *
    first | exact (bI_t (by omega)).symm | exact (bI_f (by omega)).symm
  · refine y_iload_n hC dX5_isLater_4 (i := 0) rfl rfl ?_
    refine y_sipush (v := nI 1000) hC dX5_isLater_5 (by decide) ?_
    refine y_icmp_gt (tgt := 15) hC dX5_isLater_8 (by decide) (fun c_8 => ?_) (fun c_8 => ?_)
    · refine y_iconst (v := nI 0) hC dX5_isLater_15 (by decide) ?_
      refine y_zret (hrt := rfl) (hn := rfl) (hC := hC) (hd := dX5_isLater_16) (hq := ?_)
      refine ⟨?_, rfl⟩
      simp only [Int32.lt_iff_toInt_lt, Int32.le_iff_toInt_le, Int32.toInt_zero, tI, Nat.reduceLT] at *
      first | exact (bI_t (by omega)).symm | exact (bI_f (by omega)).symm
    · refine y_iconst (v := nI 1) hC dX5_isLater_11 (by decide) ?_
      refine y_goto (tgt := 16) hC dX5_isLater_12 (by decide) ?_
      refine y_zret (hrt := rfl) (hn := rfl) (hC := hC) (hd := dX5_isLater_16) (hq := ?_)
      refine ⟨?_, rfl⟩
      simp only [Int32.lt_iff_toInt_lt, Int32.le_iff_toInt_le, Int32.toInt_zero, tI, Nat.reduceLT] at *
      first | exact (bI_t (by omega)).symm | exact (bI_f (by omega)).symm

theorem dX5_isPixel_0 : decode cX5_isPixel 0 = .ok (.iload_n 0, 1) := by decide +kernel
theorem dX5_isPixel_1 : decode cX5_isPixel 1 = .ok (.ifCond .lt 23, 3) := by decide +kernel
theorem dX5_isPixel_4 : decode cX5_isPixel 4 = .ok (.iload_n 0, 1) := by decide +kernel
theorem dX5_isPixel_5 : decode cX5_isPixel 5 = .ok (.bipush 8, 2) := by decide +kernel
theorem dX5_isPixel_7 : decode cX5_isPixel 7 = .ok (.if_icmp .ge 17, 3) := by decide +kernel
theorem dX5_isPixel_10 : decode cX5_isPixel 10 = .ok (.iload_n 1, 1) := by decide +kernel
theorem dX5_isPixel_11 : decode cX5_isPixel 11 = .ok (.ifCond .lt 13, 3) := by decide +kernel
theorem dX5_isPixel_14 : decode cX5_isPixel 14 = .ok (.iload_n 1, 1) := by decide +kernel
theorem dX5_isPixel_15 : decode cX5_isPixel 15 = .ok (.bipush 8, 2) := by decide +kernel
theorem dX5_isPixel_17 : decode cX5_isPixel 17 = .ok (.if_icmp .ge 7, 3) := by decide +kernel
theorem dX5_isPixel_20 : decode cX5_isPixel 20 = .ok (.iconst 1, 1) := by decide +kernel
theorem dX5_isPixel_21 : decode cX5_isPixel 21 = .ok (.goto 4, 3) := by decide +kernel
theorem dX5_isPixel_24 : decode cX5_isPixel 24 = .ok (.iconst 0, 1) := by decide +kernel
theorem dX5_isPixel_25 : decode cX5_isPixel 25 = .ok (.ireturn, 1) := by decide +kernel
set_option maxHeartbeats 4000000 in
set_option maxRecDepth 100000 in
theorem c_X5_isPixel (l : Launch) (E : gE) (g : Mem) (x y : Int32) : Mt l E yX5_isPixel cX5_isPixel 2 (some .boolean) 0 0 [.int (x), .int (y)] g (pI (fun r g' => r = bI ((0 ≤ x.toInt ∧ x.toInt ≤ 7) ∧ 0 ≤ y.toInt ∧ y.toInt ≤ 7) ∧ g' = g)) := by
  refine mt_go (own := RX5) (by decide) rfl (lo := [some (.int (x)), some (.int (y))]) rfl (Nat.le_of_ble_eq_true rfl) (fun X hC => ?_)
  refine y_iload_n hC dX5_isPixel_0 (i := 0) rfl rfl ?_
  refine y_if_lt (tgt := 24) hC dX5_isPixel_1 (by decide) (fun c_1 => ?_) (fun c_1 => ?_)
  · refine y_iconst (v := nI 0) hC dX5_isPixel_24 (by decide) ?_
    refine y_zret (hrt := rfl) (hn := rfl) (hC := hC) (hd := dX5_isPixel_25) (hq := ?_)
    refine ⟨?_, rfl⟩
    simp only [Int32.lt_iff_toInt_lt, Int32.le_iff_toInt_le, Int32.toInt_zero, tI, Nat.reduceLT] at *
    first | exact (bI_t (by omega)).symm | exact (bI_f (by omega)).symm
  · refine y_iload_n hC dX5_isPixel_4 (i := 0) rfl rfl ?_
    refine y_bipush (v := nI 8) hC dX5_isPixel_5 (by decide) ?_
    refine y_icmp_ge (tgt := 24) hC dX5_isPixel_7 (by decide) (fun c_7 => ?_) (fun c_7 => ?_)
    · refine y_iconst (v := nI 0) hC dX5_isPixel_24 (by decide) ?_
      refine y_zret (hrt := rfl) (hn := rfl) (hC := hC) (hd := dX5_isPixel_25) (hq := ?_)
      refine ⟨?_, rfl⟩
      simp only [Int32.lt_iff_toInt_lt, Int32.le_iff_toInt_le, Int32.toInt_zero, tI, Nat.reduceLT] at *
      first | exact (bI_t (by omega)).symm | exact (bI_f (by omega)).symm
    · refine y_iload_n hC dX5_isPixel_10 (i := 1) rfl rfl ?_
      refine y_if_lt (tgt := 24) hC dX5_isPixel_11 (by decide) (fun c_11 => ?_) (fun c_11 => ?_)
      · refine y_iconst (v := nI 0) hC dX5_isPixel_24 (by decide) ?_
        refine y_zret (hrt := rfl) (hn := rfl) (hC := hC) (hd := dX5_isPixel_25) (hq := ?_)
        refine ⟨?_, rfl⟩
        simp only [Int32.lt_iff_toInt_lt, Int32.le_iff_toInt_le, Int32.toInt_zero, tI, Nat.reduceLT] at *
        first | exact (bI_t (by omega)).symm | exact (bI_f (by omega)).symm
      · refine y_iload_n hC dX5_isPixel_14 (i := 1) rfl rfl ?_
        refine y_bipush (v := nI 8) hC dX5_isPixel_15 (by decide) ?_
        refine y_icmp_ge (tgt := 24) hC dX5_isPixel_17 (by decide) (fun c_17 => ?_) (fun c_17 => ?_)
        · refine y_iconst (v := nI 0) hC dX5_isPixel_24 (by decide) ?_
          refine y_zret (hrt := rfl) (hn := rfl) (hC := hC) (hd := dX5_isPixel_25) (hq := ?_)
          refine ⟨?_, rfl⟩
          simp only [Int32.lt_iff_toInt_lt, Int32.le_iff_toInt_le, Int32.toInt_zero, tI, Nat.reduceLT] at *
          first | exact (bI_t (by omega)).symm | exact (bI_f (by omega)).symm
        · refine y_iconst (v := nI 1) hC dX5_isPixel_20 (by decide) ?_
          refine y_goto (tgt := 25) hC dX5_isPixel_21 (by decide) ?_
          refine y_zret (hrt := rfl) (hn := rfl) (hC := hC) (hd := dX5_isPixel_25) (hq := ?_)
          refine ⟨?_, rfl⟩
          simp only [Int32.lt_iff_toInt_lt, Int32.le_iff_toInt_le, Int32.toInt_zero, tI, Nat.reduceLT] at *
          first | exact (bI_t (by omega)).symm | exact (bI_f (by omega)).symm
end
section
/-! ===== a state of the class and the row that it stands for ===== -/
/-- the first of n for which it holds -/
def fst (n : Nat) (P : Nat → Bool) : Option Nat := (List.range n).find? P
theorem fst_some {n i : Nat} {P : Nat → Bool} (hi : i < n) (h : P i = true) (hk : ∀ k, k < i → P k = false) : fst n P = some i := by
  unfold fst
  rw [List.find?_range_eq_some]
  exact ⟨h, List.mem_range.mpr hi, fun j hj => by simp [hk j hj]⟩
theorem fst_none {n : Nat} {P : Nat → Bool} (hk : ∀ k, k < n → P k = false) : fst n P = none := by
  unfold fst
  rw [List.find?_range_eq_none]
  intro j hj
  simp [hk j hj]
theorem fst_inv {n i : Nat} {P : Nat → Bool} (h : fst n P = some i) : i < n ∧ P i = true ∧ ∀ k, k < i → P k = false := by
  unfold fst at h
  rw [List.find?_range_eq_some] at h
  exact ⟨List.mem_range.mp h.2.1, h.1, fun k hk => by simpa using h.2.2 k hk⟩
theorem fst_invn {n : Nat} {P : Nat → Bool} (h : fst n P = none) : ∀ k, k < n → P k = false := by
  unfold fst at h
  rw [List.find?_range_eq_none] at h
  intro k hk
  simpa using h k hk
/-- sums, counts -/
def sm : Nat → (Nat → Nat) → Nat
  | 0, _ => 0
  | n + 1, f => sm n f + f n
theorem sm_cg : ∀ {n : Nat} {f h : Nat → Nat}, (∀ k, k < n → f k = h k) → sm n f = sm n h
  | 0, _, _, _ => rfl
  | n + 1, f, h, e => by rw [sm, sm, sm_cg (fun k hk => e k (by omega)), e n (by omega)]
theorem sm_le : ∀ {n c : Nat} {f : Nat → Nat}, (∀ k, k < n → f k ≤ c) → sm n f ≤ n * c
  | 0, _, _, _ => by simp [sm]
  | n + 1, c, f, e => by
    have h1 := sm_le (n := n) (c := c) (f := f) (fun k hk => e k (by omega))
    have h2 := e n (by omega)
    rw [sm, Nat.succ_mul]
    omega
def cn (n : Nat) (P : Nat → Bool) : Nat := sm n (fun i => if P i then 1 else 0)
theorem cn_le (n : Nat) (P : Nat → Bool) : cn n P ≤ n := by
  have := sm_le (n := n) (c := 1) (f := fun i => if P i then 1 else 0) (fun k _ => by split <;> omega)
  unfold cn
  omega
theorem cn_s (n : Nat) (P : Nat → Bool) : cn (n + 1) P = cn n P + if P n then 1 else 0 := rfl
theorem cn_cg {n : Nat} {P Q : Nat → Bool} (h : ∀ k, k < n → P k = Q k) : cn n P = cn n Q := sm_cg (fun k hk => by rw [h k hk])
/-- what ranges, glows hold a place; what is turned to it, shown at it some ticks later -/
def rAt (r : Row) (p : Nat) : Option Nat := fst (rc r) (fun i => decide (rg r i 0 ≤ p ∧ p ≤ rg r i 1))
def gAt (r : Row) (p : Nat) : Option Nat := fst (gc r) (fun i => decide (gl r i 0 = p))
def nP (r : Row) (i : Nat) : Nat := rg r i 1 - rg r i 0 + 1
def tuN (r : Row) (i t : Nat) : Nat := tnN (nP r i) (rg r i 3) (mdN (rg r i 2) (rg r i 4) (rg r i 5) (rg r i 6) t)
def tnd (r : Row) (p t : Nat) : Int32 := match rAt r p with
  | none => r p
  | some i => r (srN (rg r i 0) (nP r i) p (tuN r i t))
def shd (r : Row) (p t : Nat) : Int32 := match gAt r p with
  | none => tnd r p t
  | some i => cMix (tnd r p t) (r (76 + 4 * i + 1)) (nI (stN (gl r i 2) (gl r i 3) t)) (nI (gl r i 2))
def ovl (r : Row) (f la : Nat) : Bool := (fst (rc r) (fun i => decide (rg r i 0 ≤ la ∧ f ≤ rg r i 1))).isSome
def mvs (r : Row) (p : Nat) : Bool := (match rAt r p with | none => false | some i => decide (rg r i 4 = 1)) || (gAt r p).isSome
def made (r : Row) (t : Nat) : Nat := sm (rc r) (fun i => if rg r i 4 = 1 then (rg r i 5 + t) / rg r i 2 else 0)
/-- a row as the document allows it, with steps and ticks up to B -/
def Vr (r : Row) (B : Nat) : Prop :=
  (r 32 = nI (rc r) ∧ rc r ≤ 6) ∧ (r 75 = nI (gc r) ∧ gc r ≤ 4) ∧
  (∀ i, i < rc r → (∀ j, j < 7 → r (33 + 7 * i + j) = nI (rg r i j)) ∧ rg r i 0 < rg r i 1 ∧ rg r i 1 < 32 ∧ 0 < rg r i 2 ∧ rg r i 2 ≤ 30 ∧ rg r i 3 ≤ 2 ∧ rg r i 4 ≤ 1 ∧ rg r i 5 < rg r i 2 ∧ rg r i 6 ≤ B) ∧
  (∀ i j, i < j → j < rc r → rg r i 1 < rg r j 0 ∨ rg r j 1 < rg r i 0) ∧
  (∀ i, i < gc r → (r (76 + 4 * i) = nI (gl r i 0) ∧ r (76 + 4 * i + 2) = nI (gl r i 2) ∧ r (76 + 4 * i + 3) = nI (gl r i 3)) ∧ gl r i 0 < 32 ∧ 0 < gl r i 2 ∧ gl r i 2 ≤ 30 ∧ gl r i 3 < 2 * gl r i 2) ∧
  (∀ i j, i < j → j < gc r → gl r i 0 ≠ gl r j 0) ∧
  (∀ p, p < 64 → r (92 + p) = nI (px r p) ∧ px r p < 32) ∧
  (r 156 = nI (nn (r 156)) ∧ nn (r 156) ≤ B) ∧ (r 157 = nI (nn (r 157)) ∧ nn (r 157) ≤ 7 * B)
theorem Vr.rg {r : Row} {B i : Nat} (h : Vr r B) (hi : i < rc r) : (∀ j, j < 7 → r (33 + 7 * i + j) = nI (rg r i j)) ∧ rg r i 0 < rg r i 1 ∧ rg r i 1 < 32 ∧ 0 < rg r i 2 ∧ rg r i 2 ≤ 30 ∧ rg r i 3 ≤ 2 ∧ rg r i 4 ≤ 1 ∧ rg r i 5 < rg r i 2 ∧ rg r i 6 ≤ B := h.2.2.1 i hi
theorem Vr.gl {r : Row} {B i : Nat} (h : Vr r B) (hi : i < gc r) : (r (76 + 4 * i) = nI (gl r i 0) ∧ r (76 + 4 * i + 2) = nI (gl r i 2) ∧ r (76 + 4 * i + 3) = nI (gl r i 3)) ∧ gl r i 0 < 32 ∧ 0 < gl r i 2 ∧ gl r i 2 ≤ 30 ∧ gl r i 3 < 2 * gl r i 2 := h.2.2.2.2.1 i hi
def rFs (v : Nat → Int32) : List Value := [.int (v 0), .int (v 1), .int (v 2), .int (v 3), .int (v 4), .int (v 5), .int (v 6)]
def gFs (v : Nat → Int32) : List Value := [.int (v 0), .int (v 1), .int (v 2), .int (v 3)]
def v7 (a0 a1 a2 a3 a4 a5 a6 : Int32) : Nat → Int32 := fun j => match j with
  | 0 => a0
  | 1 => a1
  | 2 => a2
  | 3 => a3
  | 4 => a4
  | 5 => a5
  | _ => a6
def v4 (a0 a1 a2 a3 : Int32) : Nat → Int32 := fun j => match j with
  | 0 => a0
  | 1 => a1
  | 2 => a2
  | _ => a3
/-- different places, each below n -/
def Pm (n : Nat) (π : Nat → Nat) : Prop := (∀ i, i < n → π i < n) ∧ ∀ i j, i < n → j < n → π i = π j → i = j
/-- the fifteen cells of a state at role b, by what they hold; outside them the memory is as g0 has it -/
def SF (E : gE) (g0 g : Mem) (b : Nat) (co pi : Nat → Int32) (π ρ : Nat → Nat) (V U : Nat → Nat → Int32) (n : Nat → Int32) : Prop :=
  b + 15 ≤ eK E ∧ (∀ k, k < b ∨ b + 15 ≤ k → g k = g0 k) ∧ g b = oB 4 [rf E (b + 1), rf E (b + 2), rf E (b + 3), rf E (b + 4), .int (n 0), .int (n 1), .int (n 2), .int (n 3)] ∧
  g (b + 1) = aI E 0 32 co ∧ g (b + 2) = aI E 0 64 pi ∧ g (b + 3) = aR E 3 6 (fun i => b + 5 + π i) ∧ g (b + 4) = aR E 4 4 (fun i => b + 11 + ρ i) ∧ Pm 6 π ∧ Pm 4 ρ ∧
  (∀ i, i < 6 → g (b + 5 + π i) = oB 3 (rFs (V i))) ∧ (∀ i, i < 4 → g (b + 11 + ρ i) = oB 0 (gFs (U i)))
/-- what the cells hold stands for the row r -/
def SR (co pi : Nat → Int32) (V U : Nat → Nat → Int32) (n : Nat → Int32) (r : Row) : Prop :=
  (∀ k, k < 32 → co k = r k) ∧ (∀ k, k < 64 → pi k = r (92 + k)) ∧ (n 0 = r 32 ∧ n 1 = r 75 ∧ n 2 = r 156 ∧ n 3 = r 157) ∧
  (∀ i, i < rc r → ∀ j, j < 7 → V i j = r (33 + 7 * i + j)) ∧ (∀ i, i < gc r → ∀ j, j < 4 → U i j = r (76 + 4 * i + j))
def StA (E : gE) (g : Mem) (b : Nat) (r : Row) : Prop := ∃ (co pi : Nat → Int32) (π ρ : Nat → Nat) (V U : Nat → Nat → Int32) (n : Nat → Int32), SF E g g b co pi π ρ V U n ∧ SR co pi V U n r
/-- outside the cells of the state at b nothing has changed -/
def Fr (b : Nat) (g0 g : Mem) : Prop := ∀ k, k < b ∨ b + 15 ≤ k → g k = g0 k
theorem SF.self {E : gE} {g0 g : Mem} {b : Nat} {co pi : Nat → Int32} {π ρ : Nat → Nat} {V U : Nat → Nat → Int32} {n : Nat → Int32} (h : SF E g0 g b co pi π ρ V U n) : SF E g g b co pi π ρ V U n := ⟨h.1, fun _ _ => rfl, h.2.2⟩
theorem SF.fr {E : gE} {g0 g : Mem} {b : Nat} {co pi : Nat → Int32} {π ρ : Nat → Nat} {V U : Nat → Nat → Int32} {n : Nat → Int32} (h : SF E g0 g b co pi π ρ V U n) : Fr b g0 g := h.2.1
theorem Fr.rf (b : Nat) (g : Mem) : Fr b g g := fun _ _ => rfl
theorem Fr.tr {b : Nat} {g0 g1 g2 : Mem} (h1 : Fr b g0 g1) (h2 : Fr b g1 g2) : Fr b g0 g2 := fun k hk => (h2 k hk).trans (h1 k hk)
theorem SF.on {E : gE} {g0 g g2 : Mem} {b b2 : Nat} {co pi : Nat → Int32} {π ρ : Nat → Nat} {V U : Nat → Nat → Int32} {n : Nat → Int32} (h : SF E g0 g b co pi π ρ V U n) (hf : Fr b2 g g2) (hd : b + 15 ≤ b2 ∨ b2 + 15 ≤ b) : SF E g2 g2 b co pi π ρ V U n := by
  obtain ⟨h0, -, h1, h2, h3, h4, h5, h6, h7, h8, h9⟩ := h
  have e : ∀ k, b ≤ k → k < b + 15 → g2 k = g k := fun k h1 h2 => hf k (by omega)
  refine ⟨h0, fun _ _ => rfl, (e _ (by omega) (by omega)).trans h1, (e _ (by omega) (by omega)).trans h2, (e _ (by omega) (by omega)).trans h3, (e _ (by omega) (by omega)).trans h4, (e _ (by omega) (by omega)).trans h5, h6, h7, fun i hi => ?_, fun i hi => ?_⟩
  · have := h6.1 i hi
    exact (e _ (by omega) (by omega)).trans (h8 i hi)
  · have := h7.1 i hi
    exact (e _ (by omega) (by omega)).trans (h9 i hi)
theorem StA.on {E : gE} {g g2 : Mem} {b b2 : Nat} {r : Row} (h : StA E g b r) (hf : Fr b2 g g2) (hd : b + 15 ≤ b2 ∨ b2 + 15 ≤ b) : StA E g2 b r := by
  obtain ⟨co, pi, π, ρ, V, U, n, h1, h2⟩ := h
  exact ⟨co, pi, π, ρ, V, U, n, h1.on hf hd, h2⟩
theorem StA.keep {E : gE} {g g2 : Mem} {b : Nat} {r : Row} (h : StA E g b r) (hf : ∀ k, b ≤ k → k < b + 15 → g2 k = g k) : StA E g2 b r := by
  obtain ⟨co, pi, π, ρ, V, U, n, ⟨h0, -, h1, h2, h3, h4, h5, h6, h7, h8, h9⟩, h10⟩ := h
  refine ⟨co, pi, π, ρ, V, U, n, ⟨h0, fun _ _ => rfl, (hf _ (by omega) (by omega)).trans h1, (hf _ (by omega) (by omega)).trans h2, (hf _ (by omega) (by omega)).trans h3, (hf _ (by omega) (by omega)).trans h4, (hf _ (by omega) (by omega)).trans h5, h6, h7, fun i hi => ?_, fun i hi => ?_⟩, h10⟩
  · have := h6.1 i hi
    exact (hf _ (by omega) (by omega)).trans (h8 i hi)
  · have := h7.1 i hi
    exact (hf _ (by omega) (by omega)).trans (h9 i hi)
theorem SR.cg {co pi : Nat → Int32} {V U : Nat → Nat → Int32} {n : Nat → Int32} {r r2 : Row} (h : SR co pi V U n r) (e : ∀ k, k < 158 → r2 k = r k) (hr : rc r ≤ 6) (hg : gc r ≤ 4) : SR co pi V U n r2 := by
  obtain ⟨h1, h2, ⟨h3, h4, h5, h6⟩, h7, h8⟩ := h
  have er : rc r2 = rc r := by unfold rc; rw [e 32 (by decide)]
  have eg : gc r2 = gc r := by unfold gc; rw [e 75 (by decide)]
  refine ⟨fun k hk => by rw [e k (by omega)]; exact h1 k hk, fun k hk => by rw [e _ (by omega)]; exact h2 k hk, ⟨by rw [e _ (by decide)]; exact h3, by rw [e _ (by decide)]; exact h4, by rw [e _ (by decide)]; exact h5, by rw [e _ (by decide)]; exact h6⟩, fun i hi j hj => ?_, fun i hi j hj => ?_⟩
  · rw [er] at hi
    rw [e _ (by omega)]
    exact h7 i hi j hj
  · rw [eg] at hi
    rw [e _ (by omega)]
    exact h8 i hi j hj
theorem StA.cg {E : gE} {g : Mem} {b : Nat} {r r2 : Row} (h : StA E g b r) (e : ∀ k, k < 158 → r2 k = r k) (hr : rc r ≤ 6) (hg : gc r ≤ 4) : StA E g b r2 := by
  obtain ⟨co, pi, π, ρ, V, U, n, h1, h2⟩ := h
  exact ⟨co, pi, π, ρ, V, U, n, h1, h2.cg e hr hg⟩
section SFu
variable {E : gE} {g0 g : Mem} {b : Nat} {co pi : Nat → Int32} {π ρ : Nat → Nat} {V U : Nat → Nat → Int32} {n : Nat → Int32}
theorem SF.upn (h : SF E g0 g b co pi π ρ V U n) (n2 : Nat → Int32) : SF E g0 (va_up g b (oB 4 [rf E (b + 1), rf E (b + 2), rf E (b + 3), rf E (b + 4), .int (n2 0), .int (n2 1), .int (n2 2), .int (n2 3)])) b co pi π ρ V U n2 := by
  obtain ⟨h0, hf, h1, h2, h3, h4, h5, h6, h7, h8, h9⟩ := h
  exact ⟨h0, fun k hk => (va_up_ne _ _ (by omega)).trans (hf k hk), va_up_self _ _ _, (va_up_ne _ _ (by omega)).trans h2, (va_up_ne _ _ (by omega)).trans h3, (va_up_ne _ _ (by omega)).trans h4, (va_up_ne _ _ (by omega)).trans h5, h6, h7, fun i hi => (va_up_ne _ _ (by omega)).trans (h8 i hi), fun i hi => (va_up_ne _ _ (by omega)).trans (h9 i hi)⟩
theorem SF.upco (h : SF E g0 g b co pi π ρ V U n) (co2 : Nat → Int32) : SF E g0 (va_up g (b + 1) (aI E 0 32 co2)) b co2 pi π ρ V U n := by
  obtain ⟨h0, hf, h1, h2, h3, h4, h5, h6, h7, h8, h9⟩ := h
  exact ⟨h0, fun k hk => (va_up_ne _ _ (by omega)).trans (hf k hk), (va_up_ne _ _ (by omega)).trans h1, va_up_self _ _ _, (va_up_ne _ _ (by omega)).trans h3, (va_up_ne _ _ (by omega)).trans h4, (va_up_ne _ _ (by omega)).trans h5, h6, h7, fun i hi => (va_up_ne _ _ (by omega)).trans (h8 i hi), fun i hi => (va_up_ne _ _ (by omega)).trans (h9 i hi)⟩
theorem SF.uppi (h : SF E g0 g b co pi π ρ V U n) (pi2 : Nat → Int32) : SF E g0 (va_up g (b + 2) (aI E 0 64 pi2)) b co pi2 π ρ V U n := by
  obtain ⟨h0, hf, h1, h2, h3, h4, h5, h6, h7, h8, h9⟩ := h
  exact ⟨h0, fun k hk => (va_up_ne _ _ (by omega)).trans (hf k hk), (va_up_ne _ _ (by omega)).trans h1, (va_up_ne _ _ (by omega)).trans h2, va_up_self _ _ _, (va_up_ne _ _ (by omega)).trans h4, (va_up_ne _ _ (by omega)).trans h5, h6, h7, fun i hi => (va_up_ne _ _ (by omega)).trans (h8 i hi), fun i hi => (va_up_ne _ _ (by omega)).trans (h9 i hi)⟩
theorem SF.upV (h : SF E g0 g b co pi π ρ V U n) {i : Nat} (hi : i < 6) (v : Nat → Int32) : SF E g0 (va_up g (b + 5 + π i) (oB 3 (rFs v))) b co pi π ρ (va_up V i v) U n := by
  obtain ⟨h0, hf, h1, h2, h3, h4, h5, h6, h7, h8, h9⟩ := h
  have hp := h6.1 i hi
  refine ⟨h0, fun k hk => (va_up_ne _ _ (by omega)).trans (hf k hk), (va_up_ne _ _ (by omega)).trans h1, (va_up_ne _ _ (by omega)).trans h2, (va_up_ne _ _ (by omega)).trans h3, (va_up_ne _ _ (by omega)).trans h4, (va_up_ne _ _ (by omega)).trans h5, h6, h7, fun j hj => ?_, fun j hj => (va_up_ne _ _ (by omega)).trans (h9 j hj)⟩
  by_cases e : j = i
  · subst e
    rw [va_up_self, va_up_self]
  · rw [va_up_ne _ _ (fun q => e (h6.2 j i hj hi (by omega))), va_up_ne _ _ e]
    exact h8 j hj
theorem SF.upU (h : SF E g0 g b co pi π ρ V U n) {i : Nat} (hi : i < 4) (v : Nat → Int32) : SF E g0 (va_up g (b + 11 + ρ i) (oB 0 (gFs v))) b co pi π ρ V (va_up U i v) n := by
  obtain ⟨h0, hf, h1, h2, h3, h4, h5, h6, h7, h8, h9⟩ := h
  have hp := h7.1 i hi
  have hq : ∀ j, j < 6 → b + 5 + π j ≠ b + 11 + ρ i := fun j hj => by have := h6.1 j hj; omega
  refine ⟨h0, fun k hk => (va_up_ne _ _ (by omega)).trans (hf k hk), (va_up_ne _ _ (by omega)).trans h1, (va_up_ne _ _ (by omega)).trans h2, (va_up_ne _ _ (by omega)).trans h3, (va_up_ne _ _ (by omega)).trans h4, (va_up_ne _ _ (by omega)).trans h5, h6, h7, fun j hj => (va_up_ne _ _ (hq j hj)).trans (h8 j hj), fun j hj => ?_⟩
  by_cases e : j = i
  · subst e
    rw [va_up_self, va_up_self]
  · rw [va_up_ne _ _ (fun q => e (h7.2 j i hj hi (by omega))), va_up_ne _ _ e]
    exact h9 j hj
theorem SF.kV (h : SF E g0 g b co pi π ρ V U n) {i : Nat} (hi : i < 6) : b + 5 + π i < eK E := by
  have := h.2.2.2.2.2.2.2.1.1 i hi
  have := h.1
  omega
theorem SF.kU (h : SF E g0 g b co pi π ρ V U n) {i : Nat} (hi : i < 4) : b + 11 + ρ i < eK E := by
  have := h.2.2.2.2.2.2.2.2.1.1 i hi
  have := h.1
  omega
theorem SF.k (h : SF E g0 g b co pi π ρ V U n) {k : Nat} (hk : k < 15) : b + k < eK E := by
  have := h.1
  omega
theorem SF.gV (h : SF E g0 g b co pi π ρ V U n) {i : Nat} (hi : i < 6) : g (b + 5 + π i) = oB 3 (rFs (V i)) := h.2.2.2.2.2.2.2.2.2.1 i hi
theorem SF.gU (h : SF E g0 g b co pi π ρ V U n) {i : Nat} (hi : i < 4) : g (b + 11 + ρ i) = oB 0 (gFs (U i)) := h.2.2.2.2.2.2.2.2.2.2 i hi
/-- a range, a glow that is there, by the row -/
theorem SF.rV {r : Row} {B : Nat} (h : SF E g0 g b co pi π ρ V U n) (hv : Vr r B) {i : Nat} (hi : i < rc r) (hV : ∀ j, j < 7 → V i j = r (33 + 7 * i + j)) : g (b + 5 + π i) = oB 3 [.int (nI (rg r i 0)), .int (nI (rg r i 1)), .int (nI (rg r i 2)), .int (nI (rg r i 3)), .int (nI (rg r i 4)), .int (nI (rg r i 5)), .int (nI (rg r i 6))] := by
  have h6 := hv.1.2
  rw [h.gV (show i < 6 by omega)]
  have e : ∀ j, j < 7 → V i j = nI (rg r i j) := fun j hj => (hV j hj).trans ((hv.rg hi).1 j hj)
  unfold rFs
  rw [e 0 (by decide), e 1 (by decide), e 2 (by decide), e 3 (by decide), e 4 (by decide), e 5 (by decide), e 6 (by decide)]
theorem SF.rU {r : Row} {B : Nat} (h : SF E g0 g b co pi π ρ V U n) (hv : Vr r B) {i : Nat} (hi : i < gc r) (hU : ∀ j, j < 4 → U i j = r (76 + 4 * i + j)) : g (b + 11 + ρ i) = oB 0 [.int (nI (gl r i 0)), .int (r (76 + 4 * i + 1)), .int (nI (gl r i 2)), .int (nI (gl r i 3))] := by
  have h4 := hv.2.1.2
  obtain ⟨⟨e0, e2, e3⟩, -⟩ := hv.gl hi
  rw [h.gU (show i < 4 by omega)]
  unfold gFs
  rw [hU 0 (by decide), hU 1 (by decide), hU 2 (by decide), hU 3 (by decide), e2, e3, show 76 + 4 * i + 0 = 76 + 4 * i from rfl, e0]
end SFu
end
section
/-! ===== a state of the class: what is asked of it ===== -/
/-- what the cells of a state are, by its row -/
theorem zSt {E : gE} {g : Mem} {b : Nat} {r : Row} {B : Nat} (h : StA E g b r) (hv : Vr r B) : ∃ (co pi : Nat → Int32) (π ρ : Nat → Nat), b + 15 ≤ eK E ∧ g b = oB 4 [rf E (b + 1), rf E (b + 2), rf E (b + 3), rf E (b + 4), .int (nI (rc r)), .int (nI (gc r)), .int (nI (nn (r 156))), .int (nI (nn (r 157)))] ∧
    g (b + 1) = aI E 0 32 co ∧ g (b + 2) = aI E 0 64 pi ∧ g (b + 3) = aR E 3 6 (fun i => b + 5 + π i) ∧ g (b + 4) = aR E 4 4 (fun i => b + 11 + ρ i) ∧ (∀ i, i < 6 → b + 5 + π i < eK E) ∧ (∀ i, i < 4 → b + 11 + ρ i < eK E) ∧
    (∀ i, i < rc r → g (b + 5 + π i) = oB 3 [.int (nI (rg r i 0)), .int (nI (rg r i 1)), .int (nI (rg r i 2)), .int (nI (rg r i 3)), .int (nI (rg r i 4)), .int (nI (rg r i 5)), .int (nI (rg r i 6))]) ∧
    (∀ i, i < gc r → g (b + 11 + ρ i) = oB 0 [.int (nI (gl r i 0)), .int (r (76 + 4 * i + 1)), .int (nI (gl r i 2)), .int (nI (gl r i 3))]) ∧ (∀ k, k < 32 → co k = r k) ∧ (∀ k, k < 64 → pi k = r (92 + k)) := by
  obtain ⟨co, pi, π, ρ, V, U, n, h1, h2, h3, ⟨h4, h5, h6, h7⟩, h8, h9⟩ := h
  refine ⟨co, pi, π, ρ, h1.1, ?_, h1.2.2.2.1, h1.2.2.2.2.1, h1.2.2.2.2.2.1, h1.2.2.2.2.2.2.1, fun i hi => h1.kV hi, fun i hi => h1.kU hi, fun i hi => h1.rV hv hi (h8 i hi), fun i hi => h1.rU hv hi (h9 i hi), h2, h3⟩
  have := h1.2.2.1
  rw [h4, h5, h6, h7, hv.1.1, hv.2.1.1, hv.2.2.2.2.2.2.2.1.1, hv.2.2.2.2.2.2.2.2.1] at this
  exact this
/-- the answers of rangeAt, glowAt -/
def RgAt (E : gE) (g : Mem) (r : Row) (p : Nat) (o : Option Nat) : Prop := (o = none ∧ rAt r p = none) ∨ ∃ i a, rAt r p = some i ∧ i < rc r ∧ (rg r i 0 ≤ p ∧ p ≤ rg r i 1) ∧ o = some a ∧ a < eK E ∧ g a = oB 3 [.int (nI (rg r i 0)), .int (nI (rg r i 1)), .int (nI (rg r i 2)), .int (nI (rg r i 3)), .int (nI (rg r i 4)), .int (nI (rg r i 5)), .int (nI (rg r i 6))]
def GlAt (E : gE) (g : Mem) (r : Row) (p : Nat) (o : Option Nat) : Prop := (o = none ∧ gAt r p = none) ∨ ∃ i a, gAt r p = some i ∧ i < gc r ∧ gl r i 0 = p ∧ o = some a ∧ a < eK E ∧ g a = oB 0 [.int (nI (gl r i 0)), .int (r (76 + 4 * i + 1)), .int (nI (gl r i 2)), .int (nI (gl r i 3))]
theorem dX4_rangeAt_0 : decode cX4_rangeAt 0 = .ok (.iconst 0, 1) := by decide +kernel
theorem dX4_rangeAt_1 : decode cX4_rangeAt 1 = .ok (.istore_n 2, 1) := by decide +kernel
theorem dX4_rangeAt_2 : decode cX4_rangeAt 2 = .ok (.iload_n 2, 1) := by decide +kernel
theorem dX4_rangeAt_3 : decode cX4_rangeAt 3 = .ok (.aload_n 0, 1) := by decide +kernel
theorem dX4_rangeAt_4 : decode cX4_rangeAt 4 = .ok (.getfield 30, 3) := by decide +kernel
theorem dX4_rangeAt_7 : decode cX4_rangeAt 7 = .ok (.if_icmp .ge 29, 3) := by decide +kernel
theorem dX4_rangeAt_10 : decode cX4_rangeAt 10 = .ok (.aload_n 0, 1) := by decide +kernel
theorem dX4_rangeAt_11 : decode cX4_rangeAt 11 = .ok (.getfield 20, 3) := by decide +kernel
theorem dX4_rangeAt_14 : decode cX4_rangeAt 14 = .ok (.iload_n 2, 1) := by decide +kernel
theorem dX4_rangeAt_15 : decode cX4_rangeAt 15 = .ok (.aaload, 1) := by decide +kernel
theorem dX4_rangeAt_16 : decode cX4_rangeAt 16 = .ok (.iload_n 1, 1) := by decide +kernel
theorem dX4_rangeAt_17 : decode cX4_rangeAt 17 = .ok (.invokevirtual 58, 3) := by decide +kernel
theorem dX4_rangeAt_20 : decode cX4_rangeAt 20 = .ok (.ifCond .eq 10, 3) := by decide +kernel
theorem dX4_rangeAt_23 : decode cX4_rangeAt 23 = .ok (.aload_n 0, 1) := by decide +kernel
theorem dX4_rangeAt_24 : decode cX4_rangeAt 24 = .ok (.getfield 20, 3) := by decide +kernel
theorem dX4_rangeAt_27 : decode cX4_rangeAt 27 = .ok (.iload_n 2, 1) := by decide +kernel
theorem dX4_rangeAt_28 : decode cX4_rangeAt 28 = .ok (.aaload, 1) := by decide +kernel
theorem dX4_rangeAt_29 : decode cX4_rangeAt 29 = .ok (.areturn, 1) := by decide +kernel
theorem dX4_rangeAt_30 : decode cX4_rangeAt 30 = .ok (.iinc 2 1, 3) := by decide +kernel
theorem dX4_rangeAt_33 : decode cX4_rangeAt 33 = .ok (.goto (-31), 3) := by decide +kernel
theorem dX4_rangeAt_36 : decode cX4_rangeAt 36 = .ok (.aconst_null, 1) := by decide +kernel
theorem dX4_rangeAt_37 : decode cX4_rangeAt 37 = .ok (.areturn, 1) := by decide +kernel
set_option maxHeartbeats 4000000 in
set_option maxRecDepth 100000 in
theorem c_X4_rangeAt (l : Launch) (E : gE) (g : Mem) (b : Nat) (r : Row) (B : Nat) (hB : B < 100000000) (h : StA E g b r) (hv : Vr r B) (p : Nat) (hp : p < 2147483648) : Mt l E yX4_rangeAt cX4_rangeAt 3 (some (.object "PaletteTurns$Range")) 1 21 [rf E (b), .int (nI (p))] g (pR E (fun o g' => g' = g ∧ RgAt E g r p o)) := by
  obtain ⟨co, pi, π, ρ, hK, s0, s1, s2, s3, s4, kV, kU, sV, sU, e1, e2⟩ := zSt h hv
  have hrc : rc r ≤ 6 := hv.1.2
  have hgc : gc r ≤ 4 := hv.2.1.2
  have hS0 : b < eK E := by omega
  have hS1 : b + 1 < eK E := by omega
  have hS2 : b + 2 < eK E := by omega
  have hS3 : b + 3 < eK E := by omega
  have hS4 : b + 4 < eK E := by omega
  refine mt_go (own := RX4) (by decide) rfl (lo := [some (rf E (b)), some (.int (nI (p))), none]) rfl (Nat.le_of_ble_eq_true rfl) (fun X hC => ?_)
  refine y_iconst (v := nI 0) hC dX4_rangeAt_0 (by decide) ?_
  refine y_istore_n hC dX4_rangeAt_1 (i := 2) rfl (Nat.le_of_ble_eq_true rfl) rfl (lo' := [some (rf E (b)), some (.int (nI (p))), some (.int (nI (0)))]) rfl ?_
  have L_2 : ∀ (m : Nat) (i : Nat), (hm : rc r - i < m) → (hi : i ≤ rc r) → (hk : ∀ k, k < i → ¬(rg r k 0 ≤ p ∧ p ≤ rg r k 1)) → Y l E X (pR E (fun o g' => g' = g ∧ RgAt E g r p o)) 2 [some (rf E (b)), some (.int (nI (p))), some (.int (nI (i)))] [] g := by
    intro m
    induction m with
    | zero => intro i hm hi hk; exact absurd hm (Nat.not_lt_zero _)
    | succ m ih_2 =>
      intro i hm hi hk
      refine y_iload_n hC dX4_rangeAt_2 (i := 2) rfl rfl ?_
      refine y_aload_n hC dX4_rangeAt_3 (i := 0) rfl rfl ?_
      refine y_get hC fX4_30 dX4_rangeAt_4 (k := b) hS0 s0 rfl ?_
      refine y_icmp_ge_n (tgt := 36) hC dX4_rangeAt_7 (by decide) (by omega) (by omega) (fun c_7 => ?_) (fun c_7 => ?_)
      · refine y_null hC dX4_rangeAt_36 ?_
        refine y_aret (hrt := rfl) (hC := hC) (hd := dX4_rangeAt_37) (hq := ?_)
        exact ⟨rfl, Or.inl ⟨rfl, fst_none (fun k hkk => decide_eq_false (hk k (by omega)))⟩⟩
      · have hlt : i < rc r := by omega
        have hk0 := hk
        obtain ⟨q1, q2, q3, q4, q5, q6, q7, q8, q9⟩ := hv.rg (i := i) (by omega)
        refine y_aload_n hC dX4_rangeAt_10 (i := 0) rfl rfl ?_
        refine y_get hC fX4_20 dX4_rangeAt_11 (k := b) hS0 s0 rfl ?_
        refine y_iload_n hC dX4_rangeAt_14 (i := 2) rfl rfl ?_
        refine y_aald hC (Or.inl ⟨rfl, rfl, rfl⟩ : yT 3 3 RX3) dX4_rangeAt_15 (k := b + 3) (j := i) hS3 s3 (rfl) (by omega) (by decide) ?_
        refine y_iload_n hC dX4_rangeAt_16 (i := 1) rfl rfl ?_
        refine y_callV hC mX3_holds kX4_58 dX4_rangeAt_17 (b := b + 5 + π (i)) (As := [.int (nI (p))]) (rest := []) (c_X3_holds l E g (b + 5 + π i) (kV i (by omega)) (rg r (i) 0) (rg r (i) 1) (rg r (i) 2) (rg r (i) 3) (rg r (i) 4) (rg r (i) 5) (rg r (i) 6) q2 q3 q4 q5 q6 q7 q8 (by omega) (sV i (by omega)) p hp) (kV (i) (by omega)) (sV (i) (by omega)) rfl rfl rfl (Nat.le_of_ble_eq_true rfl) ⟨Nat.le_of_ble_eq_true rfl, Nat.le_of_ble_eq_true rfl⟩ (pk_i ?_)
        rintro r_17 g_17 ⟨hr_17, hq_17⟩
        obtain rfl := hq_17.symm
        rw [hr_17]
        clear hr_17 r_17
        refine y_if_eq_b (tgt := 30) hC dX4_rangeAt_20 (by decide) (fun c_20 => ?_) (fun c_20 => ?_)
        · refine y_iinc_n hC dX4_rangeAt_30 (a := i) (k := 1) rfl (by decide) (Nat.le_of_ble_eq_true rfl) rfl (lo' := [some (rf E (b)), some (.int (nI (p))), some (.int (nI (i + 1)))]) rfl ?_
          refine y_goto (tgt := 2) hC dX4_rangeAt_33 (by decide) ?_
          exact ih_2 i.succ (by omega) (by omega) (fun k hk => (Nat.lt_succ_iff_lt_or_eq.mp hk).elim (hk0 k) (fun e => e ▸ c_20))
        · refine y_aload_n hC dX4_rangeAt_23 (i := 0) rfl rfl ?_
          refine y_get hC fX4_20 dX4_rangeAt_24 (k := b) hS0 s0 rfl ?_
          refine y_iload_n hC dX4_rangeAt_27 (i := 2) rfl rfl ?_
          refine y_aald hC (Or.inl ⟨rfl, rfl, rfl⟩ : yT 3 3 RX3) dX4_rangeAt_28 (k := b + 3) (j := i) hS3 s3 (rfl) (by omega) (by decide) ?_
          refine y_aret (hrt := rfl) (o := some (b + 5 + π (i))) (hC := hC) (hd := dX4_rangeAt_29) (hq := ?_)
          exact ⟨rfl, Or.inr ⟨i, b + 5 + π i, fst_some hlt (decide_eq_true c_20) (fun k hkk => decide_eq_false (hk k hkk)), hlt, c_20, rfl, kV i (by omega), sV i hlt⟩⟩
  exact L_2 (rc r + 1) 0 (by omega) (by omega) (fun k hk => absurd hk (Nat.not_lt_zero k))

theorem dX4_glowAt_0 : decode cX4_glowAt 0 = .ok (.iconst 0, 1) := by decide +kernel
theorem dX4_glowAt_1 : decode cX4_glowAt 1 = .ok (.istore_n 2, 1) := by decide +kernel
theorem dX4_glowAt_2 : decode cX4_glowAt 2 = .ok (.iload_n 2, 1) := by decide +kernel
theorem dX4_glowAt_3 : decode cX4_glowAt 3 = .ok (.aload_n 0, 1) := by decide +kernel
theorem dX4_glowAt_4 : decode cX4_glowAt 4 = .ok (.getfield 34, 3) := by decide +kernel
theorem dX4_glowAt_7 : decode cX4_glowAt 7 = .ok (.if_icmp .ge 29, 3) := by decide +kernel
theorem dX4_glowAt_10 : decode cX4_glowAt 10 = .ok (.aload_n 0, 1) := by decide +kernel
theorem dX4_glowAt_11 : decode cX4_glowAt 11 = .ok (.getfield 26, 3) := by decide +kernel
theorem dX4_glowAt_14 : decode cX4_glowAt 14 = .ok (.iload_n 2, 1) := by decide +kernel
theorem dX4_glowAt_15 : decode cX4_glowAt 15 = .ok (.aaload, 1) := by decide +kernel
theorem dX4_glowAt_16 : decode cX4_glowAt 16 = .ok (.getfield 62, 3) := by decide +kernel
theorem dX4_glowAt_19 : decode cX4_glowAt 19 = .ok (.iload_n 1, 1) := by decide +kernel
theorem dX4_glowAt_20 : decode cX4_glowAt 20 = .ok (.if_icmp .ne 10, 3) := by decide +kernel
theorem dX4_glowAt_23 : decode cX4_glowAt 23 = .ok (.aload_n 0, 1) := by decide +kernel
theorem dX4_glowAt_24 : decode cX4_glowAt 24 = .ok (.getfield 26, 3) := by decide +kernel
theorem dX4_glowAt_27 : decode cX4_glowAt 27 = .ok (.iload_n 2, 1) := by decide +kernel
theorem dX4_glowAt_28 : decode cX4_glowAt 28 = .ok (.aaload, 1) := by decide +kernel
theorem dX4_glowAt_29 : decode cX4_glowAt 29 = .ok (.areturn, 1) := by decide +kernel
theorem dX4_glowAt_30 : decode cX4_glowAt 30 = .ok (.iinc 2 1, 3) := by decide +kernel
theorem dX4_glowAt_33 : decode cX4_glowAt 33 = .ok (.goto (-31), 3) := by decide +kernel
theorem dX4_glowAt_36 : decode cX4_glowAt 36 = .ok (.aconst_null, 1) := by decide +kernel
theorem dX4_glowAt_37 : decode cX4_glowAt 37 = .ok (.areturn, 1) := by decide +kernel
set_option maxHeartbeats 4000000 in
set_option maxRecDepth 100000 in
theorem c_X4_glowAt (l : Launch) (E : gE) (g : Mem) (b : Nat) (r : Row) (B : Nat) (hB : B < 100000000) (h : StA E g b r) (hv : Vr r B) (p : Nat) (hp : p < 2147483648) : Mt l E yX4_glowAt cX4_glowAt 3 (some (.object "PaletteTurns$Glow")) 0 0 [rf E (b), .int (nI (p))] g (pR E (fun o g' => g' = g ∧ GlAt E g r p o)) := by
  obtain ⟨co, pi, π, ρ, hK, s0, s1, s2, s3, s4, kV, kU, sV, sU, e1, e2⟩ := zSt h hv
  have hrc : rc r ≤ 6 := hv.1.2
  have hgc : gc r ≤ 4 := hv.2.1.2
  have hS0 : b < eK E := by omega
  have hS1 : b + 1 < eK E := by omega
  have hS2 : b + 2 < eK E := by omega
  have hS3 : b + 3 < eK E := by omega
  have hS4 : b + 4 < eK E := by omega
  refine mt_go (own := RX4) (by decide) rfl (lo := [some (rf E (b)), some (.int (nI (p))), none]) rfl (Nat.le_of_ble_eq_true rfl) (fun X hC => ?_)
  refine y_iconst (v := nI 0) hC dX4_glowAt_0 (by decide) ?_
  refine y_istore_n hC dX4_glowAt_1 (i := 2) rfl (Nat.le_of_ble_eq_true rfl) rfl (lo' := [some (rf E (b)), some (.int (nI (p))), some (.int (nI (0)))]) rfl ?_
  have L_2 : ∀ (m : Nat) (i : Nat), (hm : gc r - i < m) → (hi : i ≤ gc r) → (hk : ∀ k, k < i → ¬ gl r k 0 = p) → Y l E X (pR E (fun o g' => g' = g ∧ GlAt E g r p o)) 2 [some (rf E (b)), some (.int (nI (p))), some (.int (nI (i)))] [] g := by
    intro m
    induction m with
    | zero => intro i hm hi hk; exact absurd hm (Nat.not_lt_zero _)
    | succ m ih_2 =>
      intro i hm hi hk
      refine y_iload_n hC dX4_glowAt_2 (i := 2) rfl rfl ?_
      refine y_aload_n hC dX4_glowAt_3 (i := 0) rfl rfl ?_
      refine y_get hC fX4_34 dX4_glowAt_4 (k := b) hS0 s0 rfl ?_
      refine y_icmp_ge_n (tgt := 36) hC dX4_glowAt_7 (by decide) (by omega) (by omega) (fun c_7 => ?_) (fun c_7 => ?_)
      · refine y_null hC dX4_glowAt_36 ?_
        refine y_aret (hrt := rfl) (hC := hC) (hd := dX4_glowAt_37) (hq := ?_)
        exact ⟨rfl, Or.inl ⟨rfl, fst_none (fun k hkk => decide_eq_false (hk k (by omega)))⟩⟩
      · have hlt : i < gc r := by omega
        have hk0 := hk
        obtain ⟨q1, q2, q3, q4, q5⟩ := hv.gl (i := i) (by omega)
        refine y_aload_n hC dX4_glowAt_10 (i := 0) rfl rfl ?_
        refine y_get hC fX4_26 dX4_glowAt_11 (k := b) hS0 s0 rfl ?_
        refine y_iload_n hC dX4_glowAt_14 (i := 2) rfl rfl ?_
        refine y_aald hC (Or.inr (Or.inl ⟨rfl, rfl, rfl⟩) : yT 4 0 RX0) dX4_glowAt_15 (k := b + 4) (j := i) hS4 s4 (rfl) (by omega) (by decide) ?_
        refine y_get hC fX4_62 dX4_glowAt_16 (k := b + 11 + ρ (i)) (kU (i) (by omega)) (sU (i) (by omega)) rfl ?_
        refine y_iload_n hC dX4_glowAt_19 (i := 1) rfl rfl ?_
        refine y_icmp_ne_n (tgt := 30) hC dX4_glowAt_20 (by decide) (by omega) (by omega) (fun c_20 => ?_) (fun c_20 => ?_)
        · refine y_iinc_n hC dX4_glowAt_30 (a := i) (k := 1) rfl (by decide) (Nat.le_of_ble_eq_true rfl) rfl (lo' := [some (rf E (b)), some (.int (nI (p))), some (.int (nI (i + 1)))]) rfl ?_
          refine y_goto (tgt := 2) hC dX4_glowAt_33 (by decide) ?_
          exact ih_2 i.succ (by omega) (by omega) (fun k hk => (Nat.lt_succ_iff_lt_or_eq.mp hk).elim (hk0 k) (fun e => e ▸ c_20))
        · refine y_aload_n hC dX4_glowAt_23 (i := 0) rfl rfl ?_
          refine y_get hC fX4_26 dX4_glowAt_24 (k := b) hS0 s0 rfl ?_
          refine y_iload_n hC dX4_glowAt_27 (i := 2) rfl rfl ?_
          refine y_aald hC (Or.inr (Or.inl ⟨rfl, rfl, rfl⟩) : yT 4 0 RX0) dX4_glowAt_28 (k := b + 4) (j := i) hS4 s4 (rfl) (by omega) (by decide) ?_
          refine y_aret (hrt := rfl) (o := some (b + 11 + ρ (i))) (hC := hC) (hd := dX4_glowAt_29) (hq := ?_)
          exact ⟨rfl, Or.inr ⟨i, b + 11 + ρ i, fst_some hlt (decide_eq_true c_20) (fun k hkk => decide_eq_false (hk k hkk)), hlt, c_20, rfl, kU i (by omega), sU i hlt⟩⟩
  exact L_2 (gc r + 1) 0 (by omega) (by omega) (fun k hk => absurd hk (Nat.not_lt_zero k))

theorem dX4_hasRangeBetween_0 : decode cX4_hasRangeBetween 0 = .ok (.iconst 0, 1) := by decide +kernel
theorem dX4_hasRangeBetween_1 : decode cX4_hasRangeBetween 1 = .ok (.istore_n 3, 1) := by decide +kernel
theorem dX4_hasRangeBetween_2 : decode cX4_hasRangeBetween 2 = .ok (.iload_n 3, 1) := by decide +kernel
theorem dX4_hasRangeBetween_3 : decode cX4_hasRangeBetween 3 = .ok (.aload_n 0, 1) := by decide +kernel
theorem dX4_hasRangeBetween_4 : decode cX4_hasRangeBetween 4 = .ok (.getfield 30, 3) := by decide +kernel
theorem dX4_hasRangeBetween_7 : decode cX4_hasRangeBetween 7 = .ok (.if_icmp .ge 37, 3) := by decide +kernel
theorem dX4_hasRangeBetween_10 : decode cX4_hasRangeBetween 10 = .ok (.aload_n 0, 1) := by decide +kernel
theorem dX4_hasRangeBetween_11 : decode cX4_hasRangeBetween 11 = .ok (.getfield 20, 3) := by decide +kernel
theorem dX4_hasRangeBetween_14 : decode cX4_hasRangeBetween 14 = .ok (.iload_n 3, 1) := by decide +kernel
theorem dX4_hasRangeBetween_15 : decode cX4_hasRangeBetween 15 = .ok (.aaload, 1) := by decide +kernel
theorem dX4_hasRangeBetween_16 : decode cX4_hasRangeBetween 16 = .ok (.getfield 65, 3) := by decide +kernel
theorem dX4_hasRangeBetween_19 : decode cX4_hasRangeBetween 19 = .ok (.iload_n 2, 1) := by decide +kernel
theorem dX4_hasRangeBetween_20 : decode cX4_hasRangeBetween 20 = .ok (.if_icmp .gt 18, 3) := by decide +kernel
theorem dX4_hasRangeBetween_23 : decode cX4_hasRangeBetween 23 = .ok (.aload_n 0, 1) := by decide +kernel
theorem dX4_hasRangeBetween_24 : decode cX4_hasRangeBetween 24 = .ok (.getfield 20, 3) := by decide +kernel
theorem dX4_hasRangeBetween_27 : decode cX4_hasRangeBetween 27 = .ok (.iload_n 3, 1) := by decide +kernel
theorem dX4_hasRangeBetween_28 : decode cX4_hasRangeBetween 28 = .ok (.aaload, 1) := by decide +kernel
theorem dX4_hasRangeBetween_29 : decode cX4_hasRangeBetween 29 = .ok (.getfield 68, 3) := by decide +kernel
theorem dX4_hasRangeBetween_32 : decode cX4_hasRangeBetween 32 = .ok (.iload_n 1, 1) := by decide +kernel
theorem dX4_hasRangeBetween_33 : decode cX4_hasRangeBetween 33 = .ok (.if_icmp .lt 5, 3) := by decide +kernel
theorem dX4_hasRangeBetween_36 : decode cX4_hasRangeBetween 36 = .ok (.iconst 1, 1) := by decide +kernel
theorem dX4_hasRangeBetween_37 : decode cX4_hasRangeBetween 37 = .ok (.ireturn, 1) := by decide +kernel
theorem dX4_hasRangeBetween_38 : decode cX4_hasRangeBetween 38 = .ok (.iinc 3 1, 3) := by decide +kernel
theorem dX4_hasRangeBetween_41 : decode cX4_hasRangeBetween 41 = .ok (.goto (-39), 3) := by decide +kernel
theorem dX4_hasRangeBetween_44 : decode cX4_hasRangeBetween 44 = .ok (.iconst 0, 1) := by decide +kernel
theorem dX4_hasRangeBetween_45 : decode cX4_hasRangeBetween 45 = .ok (.ireturn, 1) := by decide +kernel
set_option maxHeartbeats 4000000 in
set_option maxRecDepth 100000 in
theorem c_X4_hasRangeBetween (l : Launch) (E : gE) (g : Mem) (b : Nat) (r : Row) (B : Nat) (hB : B < 100000000) (h : StA E g b r) (hv : Vr r B) (f la : Nat) (hf : f < 32) (hla : la < 32) : Mt l E yX4_hasRangeBetween cX4_hasRangeBetween 4 (some .boolean) 0 0 [rf E (b), .int (nI (f)), .int (nI (la))] g (pI (fun z g' => z = bI (ovl r f la = true) ∧ g' = g)) := by
  obtain ⟨co, pi, π, ρ, hK, s0, s1, s2, s3, s4, kV, kU, sV, sU, e1, e2⟩ := zSt h hv
  have hrc : rc r ≤ 6 := hv.1.2
  have hgc : gc r ≤ 4 := hv.2.1.2
  have hS0 : b < eK E := by omega
  have hS1 : b + 1 < eK E := by omega
  have hS2 : b + 2 < eK E := by omega
  have hS3 : b + 3 < eK E := by omega
  have hS4 : b + 4 < eK E := by omega
  refine mt_go (own := RX4) (by decide) rfl (lo := [some (rf E (b)), some (.int (nI (f))), some (.int (nI (la))), none]) rfl (Nat.le_of_ble_eq_true rfl) (fun X hC => ?_)
  refine y_iconst (v := nI 0) hC dX4_hasRangeBetween_0 (by decide) ?_
  refine y_istore_n hC dX4_hasRangeBetween_1 (i := 3) rfl (Nat.le_of_ble_eq_true rfl) rfl (lo' := [some (rf E (b)), some (.int (nI (f))), some (.int (nI (la))), some (.int (nI (0)))]) rfl ?_
  have L_2 : ∀ (m : Nat) (i : Nat), (hm : rc r - i < m) → (hi : i ≤ rc r) → (hk : ∀ k, k < i → ¬(rg r k 0 ≤ la ∧ f ≤ rg r k 1)) → Y l E X (pI (fun z g' => z = bI (ovl r f la = true) ∧ g' = g)) 2 [some (rf E (b)), some (.int (nI (f))), some (.int (nI (la))), some (.int (nI (i)))] [] g := by
    intro m
    induction m with
    | zero => intro i hm hi hk; exact absurd hm (Nat.not_lt_zero _)
    | succ m ih_2 =>
      intro i hm hi hk
      refine y_iload_n hC dX4_hasRangeBetween_2 (i := 3) rfl rfl ?_
      refine y_aload_n hC dX4_hasRangeBetween_3 (i := 0) rfl rfl ?_
      refine y_get hC fX4_30 dX4_hasRangeBetween_4 (k := b) hS0 s0 rfl ?_
      refine y_icmp_ge_n (tgt := 44) hC dX4_hasRangeBetween_7 (by decide) (by omega) (by omega) (fun c_7 => ?_) (fun c_7 => ?_)
      · refine y_iconst (v := nI 0) hC dX4_hasRangeBetween_44 (by decide) ?_
        refine y_zret (hrt := rfl) (hn := rfl) (hC := hC) (hd := dX4_hasRangeBetween_45) (hq := ?_)
        refine ⟨(bI_f ?_).symm, rfl⟩
        unfold ovl
        rw [fst_none (fun k hkk => decide_eq_false (hk k (by omega)))]
        decide
      · have hlt : i < rc r := by omega
        have hk0 := hk
        obtain ⟨q1, q2, q3, q4, q5, q6, q7, q8, q9⟩ := hv.rg (i := i) (by omega)
        refine y_aload_n hC dX4_hasRangeBetween_10 (i := 0) rfl rfl ?_
        refine y_get hC fX4_20 dX4_hasRangeBetween_11 (k := b) hS0 s0 rfl ?_
        refine y_iload_n hC dX4_hasRangeBetween_14 (i := 3) rfl rfl ?_
        refine y_aald hC (Or.inl ⟨rfl, rfl, rfl⟩ : yT 3 3 RX3) dX4_hasRangeBetween_15 (k := b + 3) (j := i) hS3 s3 (rfl) (by omega) (by decide) ?_
        refine y_get hC fX4_65 dX4_hasRangeBetween_16 (k := b + 5 + π (i)) (kV (i) (by omega)) (sV (i) (by omega)) rfl ?_
        refine y_iload_n hC dX4_hasRangeBetween_19 (i := 2) rfl rfl ?_
        refine y_icmp_gt_n (tgt := 38) hC dX4_hasRangeBetween_20 (by decide) (by omega) (by omega) (fun c_20 => ?_) (fun c_20 => ?_)
        · refine y_iinc_n hC dX4_hasRangeBetween_38 (a := i) (k := 1) rfl (by decide) (Nat.le_of_ble_eq_true rfl) rfl (lo' := [some (rf E (b)), some (.int (nI (f))), some (.int (nI (la))), some (.int (nI (i + 1)))]) rfl ?_
          refine y_goto (tgt := 2) hC dX4_hasRangeBetween_41 (by decide) ?_
          exact ih_2 i.succ (by omega) (by omega) (fun k hk => (Nat.lt_succ_iff_lt_or_eq.mp hk).elim (hk0 k) (fun e => by rw [e]; omega))
        · refine y_aload_n hC dX4_hasRangeBetween_23 (i := 0) rfl rfl ?_
          refine y_get hC fX4_20 dX4_hasRangeBetween_24 (k := b) hS0 s0 rfl ?_
          refine y_iload_n hC dX4_hasRangeBetween_27 (i := 3) rfl rfl ?_
          refine y_aald hC (Or.inl ⟨rfl, rfl, rfl⟩ : yT 3 3 RX3) dX4_hasRangeBetween_28 (k := b + 3) (j := i) hS3 s3 (rfl) (by omega) (by decide) ?_
          refine y_get hC fX4_68 dX4_hasRangeBetween_29 (k := b + 5 + π (i)) (kV (i) (by omega)) (sV (i) (by omega)) rfl ?_
          refine y_iload_n hC dX4_hasRangeBetween_32 (i := 1) rfl rfl ?_
          refine y_icmp_lt_n (tgt := 38) hC dX4_hasRangeBetween_33 (by decide) (by omega) (by omega) (fun c_33 => ?_) (fun c_33 => ?_)
          · refine y_iinc_n hC dX4_hasRangeBetween_38 (a := i) (k := 1) rfl (by decide) (Nat.le_of_ble_eq_true rfl) rfl (lo' := [some (rf E (b)), some (.int (nI (f))), some (.int (nI (la))), some (.int (nI (i + 1)))]) rfl ?_
            refine y_goto (tgt := 2) hC dX4_hasRangeBetween_41 (by decide) ?_
            exact ih_2 i.succ (by omega) (by omega) (fun k hk => (Nat.lt_succ_iff_lt_or_eq.mp hk).elim (hk0 k) (fun e => by rw [e]; omega))
          · refine y_iconst (v := nI 1) hC dX4_hasRangeBetween_36 (by decide) ?_
            refine y_zret (hrt := rfl) (hn := rfl) (hC := hC) (hd := dX4_hasRangeBetween_37) (hq := ?_)
            refine ⟨(bI_t ?_).symm, rfl⟩
            unfold ovl
            rw [fst_some hlt (decide_eq_true ⟨by omega, by omega⟩) (fun k hkk => decide_eq_false (hk k hkk))]
            exact rfl
  exact L_2 (rc r + 1) 0 (by omega) (by omega) (fun k hk => absurd hk (Nat.not_lt_zero k))

theorem dX4_runningRanges_0 : decode cX4_runningRanges 0 = .ok (.iconst 0, 1) := by decide +kernel
theorem dX4_runningRanges_1 : decode cX4_runningRanges 1 = .ok (.istore_n 1, 1) := by decide +kernel
theorem dX4_runningRanges_2 : decode cX4_runningRanges 2 = .ok (.iconst 0, 1) := by decide +kernel
theorem dX4_runningRanges_3 : decode cX4_runningRanges 3 = .ok (.istore_n 2, 1) := by decide +kernel
theorem dX4_runningRanges_4 : decode cX4_runningRanges 4 = .ok (.iload_n 2, 1) := by decide +kernel
theorem dX4_runningRanges_5 : decode cX4_runningRanges 5 = .ok (.aload_n 0, 1) := by decide +kernel
theorem dX4_runningRanges_6 : decode cX4_runningRanges 6 = .ok (.getfield 30, 3) := by decide +kernel
theorem dX4_runningRanges_9 : decode cX4_runningRanges 9 = .ok (.if_icmp .ge 24, 3) := by decide +kernel
theorem dX4_runningRanges_12 : decode cX4_runningRanges 12 = .ok (.aload_n 0, 1) := by decide +kernel
theorem dX4_runningRanges_13 : decode cX4_runningRanges 13 = .ok (.getfield 20, 3) := by decide +kernel
theorem dX4_runningRanges_16 : decode cX4_runningRanges 16 = .ok (.iload_n 2, 1) := by decide +kernel
theorem dX4_runningRanges_17 : decode cX4_runningRanges 17 = .ok (.aaload, 1) := by decide +kernel
theorem dX4_runningRanges_18 : decode cX4_runningRanges 18 = .ok (.getfield 90, 3) := by decide +kernel
theorem dX4_runningRanges_21 : decode cX4_runningRanges 21 = .ok (.ifCond .eq 6, 3) := by decide +kernel
theorem dX4_runningRanges_24 : decode cX4_runningRanges 24 = .ok (.iinc 1 1, 3) := by decide +kernel
theorem dX4_runningRanges_27 : decode cX4_runningRanges 27 = .ok (.iinc 2 1, 3) := by decide +kernel
theorem dX4_runningRanges_30 : decode cX4_runningRanges 30 = .ok (.goto (-26), 3) := by decide +kernel
theorem dX4_runningRanges_33 : decode cX4_runningRanges 33 = .ok (.iload_n 1, 1) := by decide +kernel
theorem dX4_runningRanges_34 : decode cX4_runningRanges 34 = .ok (.ireturn, 1) := by decide +kernel
set_option maxHeartbeats 4000000 in
set_option maxRecDepth 100000 in
theorem c_X4_runningRanges (l : Launch) (E : gE) (g : Mem) (b : Nat) (r : Row) (B : Nat) (hB : B < 100000000) (h : StA E g b r) (hv : Vr r B) : Mt l E yX4_runningRanges cX4_runningRanges 3 (some .int) 0 0 [rf E (b)] g (pI (fun z g' => z = nI (cn (rc r) (fun i => decide (rg r i 4 = 1))) ∧ g' = g)) := by
  obtain ⟨co, pi, π, ρ, hK, s0, s1, s2, s3, s4, kV, kU, sV, sU, e1, e2⟩ := zSt h hv
  have hrc : rc r ≤ 6 := hv.1.2
  have hgc : gc r ≤ 4 := hv.2.1.2
  have hS0 : b < eK E := by omega
  have hS1 : b + 1 < eK E := by omega
  have hS2 : b + 2 < eK E := by omega
  have hS3 : b + 3 < eK E := by omega
  have hS4 : b + 4 < eK E := by omega
  refine mt_go (own := RX4) (by decide) rfl (lo := [some (rf E (b)), none, none]) rfl (Nat.le_of_ble_eq_true rfl) (fun X hC => ?_)
  refine y_iconst (v := nI 0) hC dX4_runningRanges_0 (by decide) ?_
  refine y_istore_n hC dX4_runningRanges_1 (i := 1) rfl (Nat.le_of_ble_eq_true rfl) rfl (lo' := [some (rf E (b)), some (.int (nI (0))), none]) rfl ?_
  refine y_iconst (v := nI 0) hC dX4_runningRanges_2 (by decide) ?_
  refine y_istore_n hC dX4_runningRanges_3 (i := 2) rfl (Nat.le_of_ble_eq_true rfl) rfl (lo' := [some (rf E (b)), some (.int (nI (0))), some (.int (nI (0)))]) rfl ?_
  have L_4 : ∀ (m : Nat) (i c : Nat), (hm : rc r - i < m) → (hi : i ≤ rc r) → (hc : c = cn i (fun i => decide (rg r i 4 = 1))) → Y l E X (pI (fun z g' => z = nI (cn (rc r) (fun i => decide (rg r i 4 = 1))) ∧ g' = g)) 4 [some (rf E (b)), some (.int (nI (c))), some (.int (nI (i)))] [] g := by
    intro m
    induction m with
    | zero => intro i c hm hi hc; exact absurd hm (Nat.not_lt_zero _)
    | succ m ih_4 =>
      intro i c hm hi hc
      refine y_iload_n hC dX4_runningRanges_4 (i := 2) rfl rfl ?_
      refine y_aload_n hC dX4_runningRanges_5 (i := 0) rfl rfl ?_
      refine y_get hC fX4_30 dX4_runningRanges_6 (k := b) hS0 s0 rfl ?_
      refine y_icmp_ge_n (tgt := 33) hC dX4_runningRanges_9 (by decide) (by omega) (by omega) (fun c_9 => ?_) (fun c_9 => ?_)
      · refine y_iload_n hC dX4_runningRanges_33 (i := 1) rfl rfl ?_
        refine y_iret (hC := hC) (hd := dX4_runningRanges_34) (hq := ?_)
        exact ⟨congrArg nI (by rw [hc, show i = rc r by omega]), rfl⟩
      · have hlt : i < rc r := by omega
        obtain ⟨q1, q2, q3, q4, q5, q6, q7, q8, q9⟩ := hv.rg (i := i) (by omega)
        have hcl := cn_le i (fun i => decide (rg r i 4 = 1))
        refine y_aload_n hC dX4_runningRanges_12 (i := 0) rfl rfl ?_
        refine y_get hC fX4_20 dX4_runningRanges_13 (k := b) hS0 s0 rfl ?_
        refine y_iload_n hC dX4_runningRanges_16 (i := 2) rfl rfl ?_
        refine y_aald hC (Or.inl ⟨rfl, rfl, rfl⟩ : yT 3 3 RX3) dX4_runningRanges_17 (k := b + 3) (j := i) hS3 s3 (rfl) (by omega) (by decide) ?_
        refine y_get hC fX4_90 dX4_runningRanges_18 (k := b + 5 + π (i)) (kV (i) (by omega)) (sV (i) (by omega)) rfl ?_
        refine y_if_eq_n (tgt := 27) hC dX4_runningRanges_21 (by decide) (by omega) (fun c_21 => ?_) (fun c_21 => ?_)
        · refine y_iinc_n hC dX4_runningRanges_27 (a := i) (k := 1) rfl (by decide) (Nat.le_of_ble_eq_true rfl) rfl (lo' := [some (rf E (b)), some (.int (nI (c))), some (.int (nI (i + 1)))]) rfl ?_
          refine y_goto (tgt := 4) hC dX4_runningRanges_30 (by decide) ?_
          exact ih_4 (i + 1) _ (by omega) (by omega) (by rw [cn_s, ← hc]; simp only [decide_eq_true_eq]; split <;> omega)
        · refine y_iinc_n hC dX4_runningRanges_24 (a := c) (k := 1) rfl (by decide) (Nat.le_of_ble_eq_true rfl) rfl (lo' := [some (rf E (b)), some (.int (nI (c + 1))), some (.int (nI (i)))]) rfl ?_
          refine y_iinc_n hC dX4_runningRanges_27 (a := i) (k := 1) rfl (by decide) (Nat.le_of_ble_eq_true rfl) rfl (lo' := [some (rf E (b)), some (.int (nI (c + 1))), some (.int (nI (i + 1)))]) rfl ?_
          refine y_goto (tgt := 4) hC dX4_runningRanges_30 (by decide) ?_
          exact ih_4 (i + 1) _ (by omega) (by omega) (by rw [cn_s, ← hc]; simp only [decide_eq_true_eq]; split <;> omega)
  exact L_4 (rc r + 1) 0 0 (by omega) (by omega) rfl

theorem dX4_placesInRanges_0 : decode cX4_placesInRanges 0 = .ok (.iconst 0, 1) := by decide +kernel
theorem dX4_placesInRanges_1 : decode cX4_placesInRanges 1 = .ok (.istore_n 1, 1) := by decide +kernel
theorem dX4_placesInRanges_2 : decode cX4_placesInRanges 2 = .ok (.iconst 0, 1) := by decide +kernel
theorem dX4_placesInRanges_3 : decode cX4_placesInRanges 3 = .ok (.istore_n 2, 1) := by decide +kernel
theorem dX4_placesInRanges_4 : decode cX4_placesInRanges 4 = .ok (.iload_n 2, 1) := by decide +kernel
theorem dX4_placesInRanges_5 : decode cX4_placesInRanges 5 = .ok (.aload_n 0, 1) := by decide +kernel
theorem dX4_placesInRanges_6 : decode cX4_placesInRanges 6 = .ok (.getfield 30, 3) := by decide +kernel
theorem dX4_placesInRanges_9 : decode cX4_placesInRanges 9 = .ok (.if_icmp .ge 21, 3) := by decide +kernel
theorem dX4_placesInRanges_12 : decode cX4_placesInRanges 12 = .ok (.iload_n 1, 1) := by decide +kernel
theorem dX4_placesInRanges_13 : decode cX4_placesInRanges 13 = .ok (.aload_n 0, 1) := by decide +kernel
theorem dX4_placesInRanges_14 : decode cX4_placesInRanges 14 = .ok (.getfield 20, 3) := by decide +kernel
theorem dX4_placesInRanges_17 : decode cX4_placesInRanges 17 = .ok (.iload_n 2, 1) := by decide +kernel
theorem dX4_placesInRanges_18 : decode cX4_placesInRanges 18 = .ok (.aaload, 1) := by decide +kernel
theorem dX4_placesInRanges_19 : decode cX4_placesInRanges 19 = .ok (.invokevirtual 94, 3) := by decide +kernel
theorem dX4_placesInRanges_22 : decode cX4_placesInRanges 22 = .ok (.iadd, 1) := by decide +kernel
theorem dX4_placesInRanges_23 : decode cX4_placesInRanges 23 = .ok (.istore_n 1, 1) := by decide +kernel
theorem dX4_placesInRanges_24 : decode cX4_placesInRanges 24 = .ok (.iinc 2 1, 3) := by decide +kernel
theorem dX4_placesInRanges_27 : decode cX4_placesInRanges 27 = .ok (.goto (-23), 3) := by decide +kernel
theorem dX4_placesInRanges_30 : decode cX4_placesInRanges 30 = .ok (.iload_n 1, 1) := by decide +kernel
theorem dX4_placesInRanges_31 : decode cX4_placesInRanges 31 = .ok (.ireturn, 1) := by decide +kernel
set_option maxHeartbeats 4000000 in
set_option maxRecDepth 100000 in
theorem c_X4_placesInRanges (l : Launch) (E : gE) (g : Mem) (b : Nat) (r : Row) (B : Nat) (hB : B < 100000000) (h : StA E g b r) (hv : Vr r B) : Mt l E yX4_placesInRanges cX4_placesInRanges 3 (some .int) 1 20 [rf E (b)] g (pI (fun z g' => z = nI (sm (rc r) (fun i => nP r i)) ∧ g' = g)) := by
  obtain ⟨co, pi, π, ρ, hK, s0, s1, s2, s3, s4, kV, kU, sV, sU, e1, e2⟩ := zSt h hv
  have hrc : rc r ≤ 6 := hv.1.2
  have hgc : gc r ≤ 4 := hv.2.1.2
  have hS0 : b < eK E := by omega
  have hS1 : b + 1 < eK E := by omega
  have hS2 : b + 2 < eK E := by omega
  have hS3 : b + 3 < eK E := by omega
  have hS4 : b + 4 < eK E := by omega
  refine mt_go (own := RX4) (by decide) rfl (lo := [some (rf E (b)), none, none]) rfl (Nat.le_of_ble_eq_true rfl) (fun X hC => ?_)
  refine y_iconst (v := nI 0) hC dX4_placesInRanges_0 (by decide) ?_
  refine y_istore_n hC dX4_placesInRanges_1 (i := 1) rfl (Nat.le_of_ble_eq_true rfl) rfl (lo' := [some (rf E (b)), some (.int (nI (0))), none]) rfl ?_
  refine y_iconst (v := nI 0) hC dX4_placesInRanges_2 (by decide) ?_
  refine y_istore_n hC dX4_placesInRanges_3 (i := 2) rfl (Nat.le_of_ble_eq_true rfl) rfl (lo' := [some (rf E (b)), some (.int (nI (0))), some (.int (nI (0)))]) rfl ?_
  have L_4 : ∀ (m : Nat) (i c : Nat), (hm : rc r - i < m) → (hi : i ≤ rc r) → (hc : c = sm i (fun i => nP r i)) → Y l E X (pI (fun z g' => z = nI (sm (rc r) (fun i => nP r i)) ∧ g' = g)) 4 [some (rf E (b)), some (.int (nI (c))), some (.int (nI (i)))] [] g := by
    intro m
    induction m with
    | zero => intro i c hm hi hc; exact absurd hm (Nat.not_lt_zero _)
    | succ m ih_4 =>
      intro i c hm hi hc
      refine y_iload_n hC dX4_placesInRanges_4 (i := 2) rfl rfl ?_
      refine y_aload_n hC dX4_placesInRanges_5 (i := 0) rfl rfl ?_
      refine y_get hC fX4_30 dX4_placesInRanges_6 (k := b) hS0 s0 rfl ?_
      refine y_icmp_ge_n (tgt := 30) hC dX4_placesInRanges_9 (by decide) (by omega) (by omega) (fun c_9 => ?_) (fun c_9 => ?_)
      · refine y_iload_n hC dX4_placesInRanges_30 (i := 1) rfl rfl ?_
        refine y_iret (hC := hC) (hd := dX4_placesInRanges_31) (hq := ?_)
        exact ⟨congrArg nI (by rw [hc, show i = rc r by omega]), rfl⟩
      · have hlt : i < rc r := by omega
        obtain ⟨q1, q2, q3, q4, q5, q6, q7, q8, q9⟩ := hv.rg (i := i) (by omega)
        refine y_iload_n hC dX4_placesInRanges_12 (i := 1) rfl rfl ?_
        refine y_aload_n hC dX4_placesInRanges_13 (i := 0) rfl rfl ?_
        refine y_get hC fX4_20 dX4_placesInRanges_14 (k := b) hS0 s0 rfl ?_
        refine y_iload_n hC dX4_placesInRanges_17 (i := 2) rfl rfl ?_
        refine y_aald hC (Or.inl ⟨rfl, rfl, rfl⟩ : yT 3 3 RX3) dX4_placesInRanges_18 (k := b + 3) (j := i) hS3 s3 (rfl) (by omega) (by decide) ?_
        refine y_callV hC mX3_places kX4_94 dX4_placesInRanges_19 (b := b + 5 + π (i)) (As := []) (rest := [.int (nI (c))]) (c_X3_places l E g (b + 5 + π i) (kV i (by omega)) (rg r (i) 0) (rg r (i) 1) (rg r (i) 2) (rg r (i) 3) (rg r (i) 4) (rg r (i) 5) (rg r (i) 6) q2 q3 q4 q5 q6 q7 q8 (by omega) (sV i (by omega))) (kV (i) (by omega)) (sV (i) (by omega)) rfl rfl rfl (Nat.le_of_ble_eq_true rfl) ⟨Nat.le_of_ble_eq_true rfl, Nat.le_of_ble_eq_true rfl⟩ (pk_i ?_)
        rintro r_19 g_19 ⟨hr_19, hq_19⟩
        obtain rfl := hq_19.symm
        rw [hr_19]
        clear hr_19 r_19
        refine y_iadd_n hC dX4_placesInRanges_22 ?_
        refine y_istore_n hC dX4_placesInRanges_23 (i := 1) rfl (Nat.le_of_ble_eq_true rfl) rfl (lo' := [some (rf E (b)), some (.int (nI (c + (rg r i 1 - rg r i 0 + 1)))), some (.int (nI (i)))]) rfl ?_
        refine y_iinc_n hC dX4_placesInRanges_24 (a := i) (k := 1) rfl (by decide) (Nat.le_of_ble_eq_true rfl) rfl (lo' := [some (rf E (b)), some (.int (nI (c + (rg r i 1 - rg r i 0 + 1)))), some (.int (nI (i + 1)))]) rfl ?_
        refine y_goto (tgt := 4) hC dX4_placesInRanges_27 (by decide) ?_
        exact ih_4 (i + 1) _ (by omega) (by omega) (by rw [sm, ← hc]; rfl)
  exact L_4 (rc r + 1) 0 0 (by omega) (by omega) rfl

theorem rAt_u {E : gE} {g : Mem} {r : Row} {p : Nat} {o : Option Nat} (h : RgAt E g r p o) : (o = none ∧ rAt r p = none) ∨ ∃ i a, rAt r p = some i ∧ i < rc r ∧ (rg r i 0 ≤ p ∧ p ≤ rg r i 1) ∧ o = some a ∧ a < eK E ∧ g a = oB 3 [.int (nI (rg r i 0)), .int (nI (rg r i 1)), .int (nI (rg r i 2)), .int (nI (rg r i 3)), .int (nI (rg r i 4)), .int (nI (rg r i 5)), .int (nI (rg r i 6))] := h
theorem dX4_moves_0 : decode cX4_moves 0 = .ok (.aload_n 0, 1) := by decide +kernel
theorem dX4_moves_1 : decode cX4_moves 1 = .ok (.iload_n 1, 1) := by decide +kernel
theorem dX4_moves_2 : decode cX4_moves 2 = .ok (.invokevirtual 98, 3) := by decide +kernel
theorem dX4_moves_5 : decode cX4_moves 5 = .ok (.astore_n 2, 1) := by decide +kernel
theorem dX4_moves_6 : decode cX4_moves 6 = .ok (.aload_n 2, 1) := by decide +kernel
theorem dX4_moves_7 : decode cX4_moves 7 = .ok (.ifnull 10, 3) := by decide +kernel
theorem dX4_moves_10 : decode cX4_moves 10 = .ok (.aload_n 2, 1) := by decide +kernel
theorem dX4_moves_11 : decode cX4_moves 11 = .ok (.getfield 90, 3) := by decide +kernel
theorem dX4_moves_14 : decode cX4_moves 14 = .ok (.ifCond .ne 11, 3) := by decide +kernel
theorem dX4_moves_17 : decode cX4_moves 17 = .ok (.aload_n 0, 1) := by decide +kernel
theorem dX4_moves_18 : decode cX4_moves 18 = .ok (.iload_n 1, 1) := by decide +kernel
theorem dX4_moves_19 : decode cX4_moves 19 = .ok (.invokevirtual 102, 3) := by decide +kernel
theorem dX4_moves_22 : decode cX4_moves 22 = .ok (.ifnull 7, 3) := by decide +kernel
theorem dX4_moves_25 : decode cX4_moves 25 = .ok (.iconst 1, 1) := by decide +kernel
theorem dX4_moves_26 : decode cX4_moves 26 = .ok (.goto 4, 3) := by decide +kernel
theorem dX4_moves_29 : decode cX4_moves 29 = .ok (.iconst 0, 1) := by decide +kernel
theorem dX4_moves_30 : decode cX4_moves 30 = .ok (.ireturn, 1) := by decide +kernel
set_option maxHeartbeats 4000000 in
set_option maxRecDepth 100000 in
theorem c_X4_moves (l : Launch) (E : gE) (g : Mem) (b : Nat) (r : Row) (B : Nat) (hB : B < 100000000) (h : StA E g b r) (hv : Vr r B) (p : Nat) (hp : p < 2147483648) : Mt l E yX4_moves cX4_moves 3 (some .boolean) 2 43 [rf E (b), .int (nI (p))] g (pI (fun z g' => z = bI (mvs r p = true) ∧ g' = g)) := by
  obtain ⟨co, pi, π, ρ, hK, s0, s1, s2, s3, s4, kV, kU, sV, sU, e1, e2⟩ := zSt h hv
  have hrc : rc r ≤ 6 := hv.1.2
  have hgc : gc r ≤ 4 := hv.2.1.2
  have hS0 : b < eK E := by omega
  have hS1 : b + 1 < eK E := by omega
  have hS2 : b + 2 < eK E := by omega
  have hS3 : b + 3 < eK E := by omega
  have hS4 : b + 4 < eK E := by omega
  refine mt_go (own := RX4) (by decide) rfl (lo := [some (rf E (b)), some (.int (nI (p))), none]) rfl (Nat.le_of_ble_eq_true rfl) (fun X hC => ?_)
  refine y_aload_n hC dX4_moves_0 (i := 0) rfl rfl ?_
  refine y_iload_n hC dX4_moves_1 (i := 1) rfl rfl ?_
  refine y_callV hC mX4_rangeAt kX4_98 dX4_moves_2 (b := b) (As := [.int (nI (p))]) (rest := []) (c_X4_rangeAt l E g b r B hB h hv p (by omega)) hS0 s0 rfl rfl rfl (Nat.le_of_ble_eq_true rfl) ⟨Nat.le_of_ble_eq_true rfl, Nat.le_of_ble_eq_true rfl⟩ (pk_r ?_)
  rintro ro g_r ⟨hq, hro⟩
  obtain rfl := hq.symm
  refine y_astore_n hC dX4_moves_5 (i := 2) rfl (Nat.le_of_ble_eq_true rfl) rfl (lo' := [some (rf E (b)), some (.int (nI (p))), some (rfo E (ro))]) rfl ?_
  refine y_aload_no hC dX4_moves_6 (i := 2) rfl rfl ?_
  refine y_ifnull (tgt := 17) hC dX4_moves_7 (by decide) (fun c_7 => ?_) (fun k_7 c_7 => ?_)
  · subst c_7
    obtain ⟨-, hr1⟩ | ⟨ri, ra, -, -, -, hz, -, -⟩ := hro
    rotate_left
    · cases hz
    refine y_aload_n hC dX4_moves_17 (i := 0) rfl rfl ?_
    refine y_iload_n hC dX4_moves_18 (i := 1) rfl rfl ?_
    refine y_callV hC mX4_glowAt kX4_102 dX4_moves_19 (b := b) (As := [.int (nI (p))]) (rest := []) (c_X4_glowAt l E g b r B hB h hv p (by omega)) hS0 s0 rfl rfl rfl (Nat.le_of_ble_eq_true rfl) ⟨Nat.le_of_ble_eq_true rfl, Nat.le_of_ble_eq_true rfl⟩ (pk_r ?_)
    rintro go g_g ⟨hq, hgo⟩
    obtain rfl := hq.symm
    refine y_ifnull (tgt := 29) hC dX4_moves_22 (by decide) (fun c_22 => ?_) (fun k_22 c_22 => ?_)
    · subst c_22
      obtain ⟨-, hg1⟩ | ⟨gi, ga, -, -, -, hz, -, -⟩ := hgo
      rotate_left
      · cases hz
      refine y_iconst (v := nI 0) hC dX4_moves_29 (by decide) ?_
      refine y_zret (hrt := rfl) (hn := rfl) (hC := hC) (hd := dX4_moves_30) (hq := ?_)
      refine ⟨?_, rfl⟩
      first
        | (refine (bI_t ?_).symm; simp [mvs, hr1, hg1]; done)
        | (have h1 : rg r ri 4 = 1 := by omega
           refine (bI_t ?_).symm; simp [mvs, hr1, h1]; done)
        | (refine (bI_f ?_).symm; simp [mvs, hr1, hg1]; done)
        | (have h1 : ¬ rg r ri 4 = 1 := by omega
           refine (bI_f ?_).symm; simp [mvs, hr1, hg1, h1]; done)
    · subst c_22
      obtain ⟨hz, -⟩ | ⟨gi, ga, hg1, hg2, hg3, hg4, hg5, hg6⟩ := hgo
      · cases hz
      cases hg4
      obtain ⟨p1, p2, p3, p4, p5⟩ := hv.gl (i := gi) (by omega)
      refine y_iconst (v := nI 1) hC dX4_moves_25 (by decide) ?_
      refine y_goto (tgt := 30) hC dX4_moves_26 (by decide) ?_
      refine y_zret (hrt := rfl) (hn := rfl) (hC := hC) (hd := dX4_moves_30) (hq := ?_)
      refine ⟨?_, rfl⟩
      first
        | (refine (bI_t ?_).symm; simp [mvs, hr1, hg1]; done)
        | (have h1 : rg r ri 4 = 1 := by omega
           refine (bI_t ?_).symm; simp [mvs, hr1, h1]; done)
        | (refine (bI_f ?_).symm; simp [mvs, hr1, hg1]; done)
        | (have h1 : ¬ rg r ri 4 = 1 := by omega
           refine (bI_f ?_).symm; simp [mvs, hr1, hg1, h1]; done)
  · subst c_7
    obtain ⟨hz, -⟩ | ⟨ri, ra, hr1, hr2, hr3, hr4, hr5, hr6⟩ := hro
    · cases hz
    cases hr4
    obtain ⟨q1, q2, q3, q4, q5, q6, q7, q8, q9⟩ := hv.rg (i := ri) (by omega)
    refine y_aload_n hC dX4_moves_10 (i := 2) rfl rfl ?_
    refine y_get hC fX4_90 dX4_moves_11 (k := k_7) hr5 hr6 rfl ?_
    refine y_if_ne_n (tgt := 25) hC dX4_moves_14 (by decide) (by omega) (fun c_14 => ?_) (fun c_14 => ?_)
    · refine y_iconst (v := nI 1) hC dX4_moves_25 (by decide) ?_
      refine y_goto (tgt := 30) hC dX4_moves_26 (by decide) ?_
      refine y_zret (hrt := rfl) (hn := rfl) (hC := hC) (hd := dX4_moves_30) (hq := ?_)
      refine ⟨?_, rfl⟩
      first
        | (refine (bI_t ?_).symm; simp [mvs, hr1, hg1]; done)
        | (have h1 : rg r ri 4 = 1 := by omega
           refine (bI_t ?_).symm; simp [mvs, hr1, h1]; done)
        | (refine (bI_f ?_).symm; simp [mvs, hr1, hg1]; done)
        | (have h1 : ¬ rg r ri 4 = 1 := by omega
           refine (bI_f ?_).symm; simp [mvs, hr1, hg1, h1]; done)
    · refine y_aload_n hC dX4_moves_17 (i := 0) rfl rfl ?_
      refine y_iload_n hC dX4_moves_18 (i := 1) rfl rfl ?_
      refine y_callV hC mX4_glowAt kX4_102 dX4_moves_19 (b := b) (As := [.int (nI (p))]) (rest := []) (c_X4_glowAt l E g b r B hB h hv p (by omega)) hS0 s0 rfl rfl rfl (Nat.le_of_ble_eq_true rfl) ⟨Nat.le_of_ble_eq_true rfl, Nat.le_of_ble_eq_true rfl⟩ (pk_r ?_)
      rintro go g_g ⟨hq, hgo⟩
      obtain rfl := hq.symm
      refine y_ifnull (tgt := 29) hC dX4_moves_22 (by decide) (fun c_22 => ?_) (fun k_22 c_22 => ?_)
      · subst c_22
        obtain ⟨-, hg1⟩ | ⟨gi, ga, -, -, -, hz, -, -⟩ := hgo
        rotate_left
        · cases hz
        refine y_iconst (v := nI 0) hC dX4_moves_29 (by decide) ?_
        refine y_zret (hrt := rfl) (hn := rfl) (hC := hC) (hd := dX4_moves_30) (hq := ?_)
        refine ⟨?_, rfl⟩
        first
          | (refine (bI_t ?_).symm; simp [mvs, hr1, hg1]; done)
          | (have h1 : rg r ri 4 = 1 := by omega
             refine (bI_t ?_).symm; simp [mvs, hr1, h1]; done)
          | (refine (bI_f ?_).symm; simp [mvs, hr1, hg1]; done)
          | (have h1 : ¬ rg r ri 4 = 1 := by omega
             refine (bI_f ?_).symm; simp [mvs, hr1, hg1, h1]; done)
      · subst c_22
        obtain ⟨hz, -⟩ | ⟨gi, ga, hg1, hg2, hg3, hg4, hg5, hg6⟩ := hgo
        · cases hz
        cases hg4
        obtain ⟨p1, p2, p3, p4, p5⟩ := hv.gl (i := gi) (by omega)
        refine y_iconst (v := nI 1) hC dX4_moves_25 (by decide) ?_
        refine y_goto (tgt := 30) hC dX4_moves_26 (by decide) ?_
        refine y_zret (hrt := rfl) (hn := rfl) (hC := hC) (hd := dX4_moves_30) (hq := ?_)
        refine ⟨?_, rfl⟩
        first
          | (refine (bI_t ?_).symm; simp [mvs, hr1, hg1]; done)
          | (have h1 : rg r ri 4 = 1 := by omega
             refine (bI_t ?_).symm; simp [mvs, hr1, h1]; done)
          | (refine (bI_f ?_).symm; simp [mvs, hr1, hg1]; done)
          | (have h1 : ¬ rg r ri 4 = 1 := by omega
             refine (bI_f ?_).symm; simp [mvs, hr1, hg1, h1]; done)

theorem dX4_shade_0 : decode cX4_shade 0 = .ok (.aload_n 0, 1) := by decide +kernel
theorem dX4_shade_1 : decode cX4_shade 1 = .ok (.iload_n 1, 1) := by decide +kernel
theorem dX4_shade_2 : decode cX4_shade 2 = .ok (.invokevirtual 98, 3) := by decide +kernel
theorem dX4_shade_5 : decode cX4_shade 5 = .ok (.astore_n 3, 1) := by decide +kernel
theorem dX4_shade_6 : decode cX4_shade 6 = .ok (.aload_n 0, 1) := by decide +kernel
theorem dX4_shade_7 : decode cX4_shade 7 = .ok (.getfield 9, 3) := by decide +kernel
theorem dX4_shade_10 : decode cX4_shade 10 = .ok (.aload_n 3, 1) := by decide +kernel
theorem dX4_shade_11 : decode cX4_shade 11 = .ok (.ifnonnull 7, 3) := by decide +kernel
theorem dX4_shade_14 : decode cX4_shade 14 = .ok (.iload_n 1, 1) := by decide +kernel
theorem dX4_shade_15 : decode cX4_shade 15 = .ok (.goto 9, 3) := by decide +kernel
theorem dX4_shade_18 : decode cX4_shade 18 = .ok (.aload_n 3, 1) := by decide +kernel
theorem dX4_shade_19 : decode cX4_shade 19 = .ok (.iload_n 1, 1) := by decide +kernel
theorem dX4_shade_20 : decode cX4_shade 20 = .ok (.iload_n 2, 1) := by decide +kernel
theorem dX4_shade_21 : decode cX4_shade 21 = .ok (.invokevirtual 106, 3) := by decide +kernel
theorem dX4_shade_24 : decode cX4_shade 24 = .ok (.iaload, 1) := by decide +kernel
theorem dX4_shade_25 : decode cX4_shade 25 = .ok (.istore 4, 2) := by decide +kernel
theorem dX4_shade_27 : decode cX4_shade 27 = .ok (.aload_n 0, 1) := by decide +kernel
theorem dX4_shade_28 : decode cX4_shade 28 = .ok (.iload_n 1, 1) := by decide +kernel
theorem dX4_shade_29 : decode cX4_shade 29 = .ok (.invokevirtual 102, 3) := by decide +kernel
theorem dX4_shade_32 : decode cX4_shade 32 = .ok (.astore 5, 2) := by decide +kernel
theorem dX4_shade_34 : decode cX4_shade 34 = .ok (.aload 5, 2) := by decide +kernel
theorem dX4_shade_36 : decode cX4_shade 36 = .ok (.ifnonnull 8, 3) := by decide +kernel
theorem dX4_shade_39 : decode cX4_shade 39 = .ok (.iload 4, 2) := by decide +kernel
theorem dX4_shade_41 : decode cX4_shade 41 = .ok (.goto 11, 3) := by decide +kernel
theorem dX4_shade_44 : decode cX4_shade 44 = .ok (.aload 5, 2) := by decide +kernel
theorem dX4_shade_46 : decode cX4_shade 46 = .ok (.iload 4, 2) := by decide +kernel
theorem dX4_shade_48 : decode cX4_shade 48 = .ok (.iload_n 2, 1) := by decide +kernel
theorem dX4_shade_49 : decode cX4_shade 49 = .ok (.invokevirtual 110, 3) := by decide +kernel
theorem dX4_shade_52 : decode cX4_shade 52 = .ok (.ireturn, 1) := by decide +kernel
set_option maxHeartbeats 4000000 in
set_option maxRecDepth 100000 in
theorem c_X4_shade (l : Launch) (E : gE) (g : Mem) (b : Nat) (r : Row) (B : Nat) (hB : B < 100000000) (h : StA E g b r) (hv : Vr r B) (p t : Nat) (hp : p < 32) (ht : t ≤ 5000) : Mt l E yX4_shade cX4_shade 6 (some .int) 3 71 [rf E (b), .int (nI (p)), .int (nI (t))] g (pI (fun z g' => z = shd r p t ∧ g' = g)) := by
  obtain ⟨co, pi, π, ρ, hK, s0, s1, s2, s3, s4, kV, kU, sV, sU, e1, e2⟩ := zSt h hv
  have hrc : rc r ≤ 6 := hv.1.2
  have hgc : gc r ≤ 4 := hv.2.1.2
  have hS0 : b < eK E := by omega
  have hS1 : b + 1 < eK E := by omega
  have hS2 : b + 2 < eK E := by omega
  have hS3 : b + 3 < eK E := by omega
  have hS4 : b + 4 < eK E := by omega
  refine mt_go (own := RX4) (by decide) rfl (lo := [some (rf E (b)), some (.int (nI (p))), some (.int (nI (t))), none, none, none]) rfl (Nat.le_of_ble_eq_true rfl) (fun X hC => ?_)
  refine y_aload_n hC dX4_shade_0 (i := 0) rfl rfl ?_
  refine y_iload_n hC dX4_shade_1 (i := 1) rfl rfl ?_
  refine y_callV hC mX4_rangeAt kX4_98 dX4_shade_2 (b := b) (As := [.int (nI (p))]) (rest := []) (c_X4_rangeAt l E g b r B hB h hv p (by omega)) hS0 s0 rfl rfl rfl (Nat.le_of_ble_eq_true rfl) ⟨Nat.le_of_ble_eq_true rfl, Nat.le_of_ble_eq_true rfl⟩ (pk_r ?_)
  rintro ro g_r ⟨hq, hro⟩
  obtain rfl := hq.symm
  refine y_astore_n hC dX4_shade_5 (i := 3) rfl (Nat.le_of_ble_eq_true rfl) rfl (lo' := [some (rf E (b)), some (.int (nI (p))), some (.int (nI (t))), some (rfo E (ro)), none, none]) rfl ?_
  refine y_aload_n hC dX4_shade_6 (i := 0) rfl rfl ?_
  refine y_get hC fX4_9 dX4_shade_7 (k := b) hS0 s0 rfl ?_
  refine y_aload_no hC dX4_shade_10 (i := 3) rfl rfl ?_
  refine y_ifnonnull (tgt := 18) hC dX4_shade_11 (by decide) (fun k_11 c_11 => ?_) (fun c_11 => ?_)
  · subst c_11
    obtain ⟨hz, -⟩ | ⟨ri, ra, hr1, hr2, hr3, hr4, hr5, hr6⟩ := hro
    · cases hz
    cases hr4
    obtain ⟨q1, q2, q3, q4, q5, q6, q7, q8, q9⟩ := hv.rg (i := ri) (by omega)
    refine y_aload_n hC dX4_shade_18 (i := 3) rfl rfl ?_
    refine y_iload_n hC dX4_shade_19 (i := 1) rfl rfl ?_
    refine y_iload_n hC dX4_shade_20 (i := 2) rfl rfl ?_
    refine y_callV hC mX3_source kX4_106 dX4_shade_21 (b := k_11) (As := [.int (nI (p)), .int (nI (t))]) (rest := [rf E (b + 1)]) (c_X3_source l E g k_11 hr5 (rg r (ri) 0) (rg r (ri) 1) (rg r (ri) 2) (rg r (ri) 3) (rg r (ri) 4) (rg r (ri) 5) (rg r (ri) 6) q2 q3 q4 q5 q6 q7 q8 (by omega) hr6 p t hr3.1 hr3.2 ht) hr5 hr6 rfl rfl rfl (Nat.le_of_ble_eq_true rfl) ⟨Nat.le_of_ble_eq_true rfl, Nat.le_of_ble_eq_true rfl⟩ (pk_i ?_)
    rintro r_21 g_21 ⟨hr_21, hq_21⟩
    obtain rfl := hq_21.symm
    rw [hr_21]
    clear hr_21 r_21
    have hsr := srN_in (f := rg r ri 0) (n := nP r ri) (p := p) (tn := tuN r ri t) (by unfold nP; omega)
    have hnp : nP r ri = rg r ri 1 - rg r ri 0 + 1 := rfl
    refine y_iald hC dX4_shade_24 (k := b + 1) (j := srN (rg r ri 0) (nP r ri) p (tuN r ri t)) hS1 s1 (rfl) (by omega) (by decide) ?_
    refine y_top (y := tnd r p t) (by simp only [tnd, hr1]; exact e1 _ (by omega)) ?_
    refine y_istore hC dX4_shade_25 (Nat.le_of_ble_eq_true rfl) rfl (lo' := [some (rf E (b)), some (.int (nI (p))), some (.int (nI (t))), some (rf E (k_11)), some (.int (tnd r p t)), none]) rfl ?_
    refine y_aload_n hC dX4_shade_27 (i := 0) rfl rfl ?_
    refine y_iload_n hC dX4_shade_28 (i := 1) rfl rfl ?_
    refine y_callV hC mX4_glowAt kX4_102 dX4_shade_29 (b := b) (As := [.int (nI (p))]) (rest := []) (c_X4_glowAt l E g b r B hB h hv p (by omega)) hS0 s0 rfl rfl rfl (Nat.le_of_ble_eq_true rfl) ⟨Nat.le_of_ble_eq_true rfl, Nat.le_of_ble_eq_true rfl⟩ (pk_r ?_)
    rintro go g_g ⟨hq, hgo⟩
    obtain rfl := hq.symm
    refine y_astore hC dX4_shade_32 (Nat.le_of_ble_eq_true rfl) rfl (lo' := [some (rf E (b)), some (.int (nI (p))), some (.int (nI (t))), some (rf E (k_11)), some (.int (tnd r p t)), some (rfo E (go))]) rfl ?_
    refine y_aload_o hC dX4_shade_34 rfl ?_
    refine y_ifnonnull (tgt := 44) hC dX4_shade_36 (by decide) (fun k_36 c_36 => ?_) (fun c_36 => ?_)
    · subst c_36
      obtain ⟨hz, -⟩ | ⟨gi, ga, hg1, hg2, hg3, hg4, hg5, hg6⟩ := hgo
      · cases hz
      cases hg4
      obtain ⟨p1, p2, p3, p4, p5⟩ := hv.gl (i := gi) (by omega)
      refine y_aload hC dX4_shade_44 rfl ?_
      refine y_iload hC dX4_shade_46 rfl ?_
      refine y_iload_n hC dX4_shade_48 (i := 2) rfl rfl ?_
      refine y_callV hC mX0_shade kX4_110 dX4_shade_49 (b := k_36) (As := [.int (tnd r p t), .int (nI (t))]) (rest := []) (c_X0_shade l E g k_36 hg5 _ _ (gl r gi 2) (gl r gi 3) p3 p4 p5 hg6 (tnd r p t) t ht) hg5 hg6 rfl rfl rfl (Nat.le_of_ble_eq_true rfl) ⟨Nat.le_of_ble_eq_true rfl, Nat.le_of_ble_eq_true rfl⟩ (pk_i ?_)
      rintro r_49 g_49 ⟨hr_49, hq_49⟩
      obtain rfl := hq_49.symm
      rw [hr_49]
      clear hr_49 r_49
      refine y_iret (hC := hC) (hd := dX4_shade_52) (hq := ?_)
      refine ⟨?_, rfl⟩
      simp only [shd, hg1]
    · subst c_36
      obtain ⟨-, hg1⟩ | ⟨gi, ga, -, -, -, hz, -, -⟩ := hgo
      rotate_left
      · cases hz
      refine y_iload hC dX4_shade_39 rfl ?_
      refine y_goto (tgt := 52) hC dX4_shade_41 (by decide) ?_
      refine y_iret (hC := hC) (hd := dX4_shade_52) (hq := ?_)
      refine ⟨?_, rfl⟩
      simp only [shd, hg1]
  · subst c_11
    obtain ⟨-, hr1⟩ | ⟨ri, ra, -, -, -, hz, -, -⟩ := hro
    rotate_left
    · cases hz
    refine y_iload_n hC dX4_shade_14 (i := 1) rfl rfl ?_
    refine y_goto (tgt := 24) hC dX4_shade_15 (by decide) ?_
    refine y_iald hC dX4_shade_24 (k := b + 1) (j := p) hS1 s1 (rfl) (by omega) (by decide) ?_
    refine y_top (y := tnd r p t) (by simp only [tnd, hr1]; exact e1 _ (by omega)) ?_
    refine y_istore hC dX4_shade_25 (Nat.le_of_ble_eq_true rfl) rfl (lo' := [some (rf E (b)), some (.int (nI (p))), some (.int (nI (t))), some (rfo E (none)), some (.int (tnd r p t)), none]) rfl ?_
    refine y_aload_n hC dX4_shade_27 (i := 0) rfl rfl ?_
    refine y_iload_n hC dX4_shade_28 (i := 1) rfl rfl ?_
    refine y_callV hC mX4_glowAt kX4_102 dX4_shade_29 (b := b) (As := [.int (nI (p))]) (rest := []) (c_X4_glowAt l E g b r B hB h hv p (by omega)) hS0 s0 rfl rfl rfl (Nat.le_of_ble_eq_true rfl) ⟨Nat.le_of_ble_eq_true rfl, Nat.le_of_ble_eq_true rfl⟩ (pk_r ?_)
    rintro go g_g ⟨hq, hgo⟩
    obtain rfl := hq.symm
    refine y_astore hC dX4_shade_32 (Nat.le_of_ble_eq_true rfl) rfl (lo' := [some (rf E (b)), some (.int (nI (p))), some (.int (nI (t))), some (rfo E (none)), some (.int (tnd r p t)), some (rfo E (go))]) rfl ?_
    refine y_aload_o hC dX4_shade_34 rfl ?_
    refine y_ifnonnull (tgt := 44) hC dX4_shade_36 (by decide) (fun k_36 c_36 => ?_) (fun c_36 => ?_)
    · subst c_36
      obtain ⟨hz, -⟩ | ⟨gi, ga, hg1, hg2, hg3, hg4, hg5, hg6⟩ := hgo
      · cases hz
      cases hg4
      obtain ⟨p1, p2, p3, p4, p5⟩ := hv.gl (i := gi) (by omega)
      refine y_aload hC dX4_shade_44 rfl ?_
      refine y_iload hC dX4_shade_46 rfl ?_
      refine y_iload_n hC dX4_shade_48 (i := 2) rfl rfl ?_
      refine y_callV hC mX0_shade kX4_110 dX4_shade_49 (b := k_36) (As := [.int (tnd r p t), .int (nI (t))]) (rest := []) (c_X0_shade l E g k_36 hg5 _ _ (gl r gi 2) (gl r gi 3) p3 p4 p5 hg6 (tnd r p t) t ht) hg5 hg6 rfl rfl rfl (Nat.le_of_ble_eq_true rfl) ⟨Nat.le_of_ble_eq_true rfl, Nat.le_of_ble_eq_true rfl⟩ (pk_i ?_)
      rintro r_49 g_49 ⟨hr_49, hq_49⟩
      obtain rfl := hq_49.symm
      rw [hr_49]
      clear hr_49 r_49
      refine y_iret (hC := hC) (hd := dX4_shade_52) (hq := ?_)
      refine ⟨?_, rfl⟩
      simp only [shd, hg1]
    · subst c_36
      obtain ⟨-, hg1⟩ | ⟨gi, ga, -, -, -, hz, -, -⟩ := hgo
      rotate_left
      · cases hz
      refine y_iload hC dX4_shade_39 rfl ?_
      refine y_goto (tgt := 52) hC dX4_shade_41 (by decide) ?_
      refine y_iret (hC := hC) (hd := dX4_shade_52) (hq := ?_)
      refine ⟨?_, rfl⟩
      simp only [shd, hg1]
end
section
/-! ===== what the changes make of a row ===== -/
def addR (r : Row) (f la s w : Int32) : Row := fun k => if k = 32 then nI (rc r + 1) else if 33 + 7 * rc r ≤ k ∧ k < 40 + 7 * rc r then v7 f la s w (nI 1) (nI 0) (nI 0) (k - (33 + 7 * rc r)) else r k
def remR (r : Row) (a : Nat) : Row := fun k => if k = 32 then nI (rc r - 1) else if 33 + 7 * a ≤ k ∧ k < 33 + 7 * (rc r - 1) then r (k + 7) else r k
def addG (r : Row) (p c n : Int32) : Row := fun k => if k = 75 then nI (gc r + 1) else if 76 + 4 * gc r ≤ k ∧ k < 80 + 4 * gc r then v4 p c n (nI 0) (k - (76 + 4 * gc r)) else r k
def remG (r : Row) (a : Nat) : Row := fun k => if k = 75 then nI (gc r - 1) else if 76 + 4 * a ≤ k ∧ k < 76 + 4 * (gc r - 1) then r (k + 4) else r k
def begR (r : Row) : Row := fun k => if 33 ≤ k ∧ k < 33 + 7 * rc r ∧ 5 ≤ (k - 33) % 7 then nI 0 else if 76 ≤ k ∧ k < 76 + 4 * gc r ∧ (k - 76) % 4 = 3 then nI 0 else r k
def tkV (r : Row) (t i : Nat) : Nat → Int32 := v7 (r (33 + 7 * i)) (r (33 + 7 * i + 1)) (r (33 + 7 * i + 2)) (r (33 + 7 * i + 3)) (r (33 + 7 * i + 4)) (nI (if rg r i 4 = 1 then (rg r i 5 + t) % rg r i 2 else rg r i 5)) (nI (mdN (rg r i 2) (rg r i 4) (rg r i 5) (rg r i 6) t))
def tkU (r : Row) (t i : Nat) : Nat → Int32 := v4 (r (76 + 4 * i)) (r (76 + 4 * i + 1)) (r (76 + 4 * i + 2)) (nI ((gl r i 3 + t) % (2 * gl r i 2)))
def tkR (r : Row) (t : Nat) : Row := fun k => if 33 ≤ k ∧ k < 33 + 7 * rc r then tkV r t ((k - 33) / 7) ((k - 33) % 7) else if 76 ≤ k ∧ k < 76 + 4 * gc r then tkU r t ((k - 76) / 4) ((k - 76) % 4) else if k = 156 then nI (nn (r 156) + t) else if k = 157 then nI (nn (r 157) + made r t) else r k
def stpR (r : Row) (i : Nat) : Row := fun k => if k = 39 + 7 * i then nI (rg r i 6 + 1) else if k = 157 then nI (nn (r 157) + 1) else r k
def flpR (r : Row) (i : Nat) : Row := fun k => if k = 37 + 7 * i then nI (1 - rg r i 4) else r k
theorem v7_j {a0 a1 a2 a3 a4 a5 a6 : Int32} {f : Nat → Int32} (h0 : a0 = f 0) (h1 : a1 = f 1) (h2 : a2 = f 2) (h3 : a3 = f 3) (h4 : a4 = f 4) (h5 : a5 = f 5) (h6 : a6 = f 6) : ∀ j, j < 7 → v7 a0 a1 a2 a3 a4 a5 a6 j = f j := by
  intro j hj
  match j, hj with
  | 0, _ => exact h0
  | 1, _ => exact h1
  | 2, _ => exact h2
  | 3, _ => exact h3
  | 4, _ => exact h4
  | 5, _ => exact h5
  | 6, _ => exact h6
  | j + 7, h => exact absurd h (by omega)
theorem v4_j {a0 a1 a2 a3 : Int32} {f : Nat → Int32} (h0 : a0 = f 0) (h1 : a1 = f 1) (h2 : a2 = f 2) (h3 : a3 = f 3) : ∀ j, j < 4 → v4 a0 a1 a2 a3 j = f j := by
  intro j hj
  match j, hj with
  | 0, _ => exact h0
  | 1, _ => exact h1
  | 2, _ => exact h2
  | 3, _ => exact h3
  | j + 4, h => exact absurd h (by omega)
theorem rc_of {r r2 : Row} (h : r2 32 = r 32) : rc r2 = rc r := by unfold rc; rw [h]
theorem gc_of {r r2 : Row} (h : r2 75 = r 75) : gc r2 = gc r := by unfold gc; rw [h]
/-- a state's cells in two normal forms -/
theorem SF.eta {E : gE} {g0 g : Mem} {b : Nat} {co pi : Nat → Int32} {π ρ : Nat → Nat} {V U : Nat → Nat → Int32} {n : Nat → Int32} (h : SF E g0 g b co pi π ρ V U n) : SF E g0 g b co pi π ρ V U (v4 (n 0) (n 1) (n 2) (n 3)) := h
theorem zStF {E : gE} {g : Mem} {b : Nat} {r : Row} {B : Nat} (h : StA E g b r) (hv : Vr r B) : ∃ (co pi : Nat → Int32) (π ρ : Nat → Nat) (V U : Nat → Nat → Int32), SF E g g b co pi π ρ V U (v4 (nI (rc r)) (nI (gc r)) (nI (nn (r 156))) (nI (nn (r 157)))) ∧ (∀ k, k < 32 → co k = r k) ∧ (∀ k, k < 64 → pi k = r (92 + k)) ∧ (∀ i, i < rc r → ∀ j, j < 7 → V i j = r (33 + 7 * i + j)) ∧ (∀ i, i < gc r → ∀ j, j < 4 → U i j = r (76 + 4 * i + j)) := by
  obtain ⟨co, pi, π, ρ, V, U, n, h1, h2, h3, ⟨h4, h5, h6, h7⟩, h8, h9⟩ := h
  refine ⟨co, pi, π, ρ, V, U, ?_, h2, h3, h8, h9⟩
  have := h1.eta
  rw [h4, h5, h6, h7, hv.1.1, hv.2.1.1, hv.2.2.2.2.2.2.2.1.1, hv.2.2.2.2.2.2.2.2.1] at this
  exact this
theorem SF.s0 {E : gE} {g0 g : Mem} {b : Nat} {co pi : Nat → Int32} {π ρ : Nat → Nat} {V U : Nat → Nat → Int32} {x y z w : Int32} (h : SF E g0 g b co pi π ρ V U (v4 x y z w)) : g b = oB 4 [rf E (b + 1), rf E (b + 2), rf E (b + 3), rf E (b + 4), .int x, .int y, .int z, .int w] := h.2.2.1
section SFs
variable {E : gE} {g0 g : Mem} {b : Nat} {co pi : Nat → Int32} {π ρ : Nat → Nat} {V U : Nat → Nat → Int32} {n : Nat → Int32}
theorem SF.s1 (h : SF E g0 g b co pi π ρ V U n) : g (b + 1) = aI E 0 32 co := h.2.2.2.1
theorem SF.s2 (h : SF E g0 g b co pi π ρ V U n) : g (b + 2) = aI E 0 64 pi := h.2.2.2.2.1
theorem SF.s3 (h : SF E g0 g b co pi π ρ V U n) : g (b + 3) = aR E 3 6 (fun i => b + 5 + π i) := h.2.2.2.2.2.1
theorem SF.s4 (h : SF E g0 g b co pi π ρ V U n) : g (b + 4) = aR E 4 4 (fun i => b + 11 + ρ i) := h.2.2.2.2.2.2.1
theorem SF.vV (h : SF E g0 g b co pi π ρ V U n) {i : Nat} (hi : i < 6) : g (b + 5 + π i) = oB 3 [.int (V i 0), .int (V i 1), .int (V i 2), .int (V i 3), .int (V i 4), .int (V i 5), .int (V i 6)] := h.gV hi
theorem SF.vU (h : SF E g0 g b co pi π ρ V U n) {i : Nat} (hi : i < 4) : g (b + 11 + ρ i) = oB 0 [.int (U i 0), .int (U i 1), .int (U i 2), .int (U i 3)] := h.gU hi
/-- the references in another order -/
theorem SF.perm (h : SF E g0 g b co pi π ρ V U n) {cy : Nat → Nat} (hc : Pm 6 cy) : SF E g0 (va_up g (b + 3) (aR E 3 6 (fun i => b + 5 + π (cy i)))) b co pi (fun i => π (cy i)) ρ (fun i => V (cy i)) U n := by
  obtain ⟨h0, hf, h1, h2, h3, h4, h5, h6, h7, h8, h9⟩ := h
  exact ⟨h0, fun k hk => (va_up_ne _ _ (by omega)).trans (hf k hk), (va_up_ne _ _ (by omega)).trans h1, (va_up_ne _ _ (by omega)).trans h2, (va_up_ne _ _ (by omega)).trans h3, va_up_self _ _ _, (va_up_ne _ _ (by omega)).trans h5, ⟨fun i hi => h6.1 _ (hc.1 i hi), fun i j hi hj e => hc.2 i j hi hj (h6.2 _ _ (hc.1 i hi) (hc.1 j hj) e)⟩, h7, fun i hi => (va_up_ne _ _ (by omega)).trans (h8 _ (hc.1 i hi)), fun i hi => (va_up_ne _ _ (by omega)).trans (h9 i hi)⟩
theorem SF.permG (h : SF E g0 g b co pi π ρ V U n) {cy : Nat → Nat} (hc : Pm 4 cy) : SF E g0 (va_up g (b + 4) (aR E 4 4 (fun i => b + 11 + ρ (cy i)))) b co pi π (fun i => ρ (cy i)) V (fun i => U (cy i)) n := by
  obtain ⟨h0, hf, h1, h2, h3, h4, h5, h6, h7, h8, h9⟩ := h
  exact ⟨h0, fun k hk => (va_up_ne _ _ (by omega)).trans (hf k hk), (va_up_ne _ _ (by omega)).trans h1, (va_up_ne _ _ (by omega)).trans h2, (va_up_ne _ _ (by omega)).trans h3, (va_up_ne _ _ (by omega)).trans h4, va_up_self _ _ _, h6, ⟨fun i hi => h7.1 _ (hc.1 i hi), fun i j hi hj e => hc.2 i j hi hj (h7.2 _ _ (hc.1 i hi) (hc.1 j hj) e)⟩, fun i hi => (va_up_ne _ _ (by omega)).trans (h8 i hi), fun i hi => (va_up_ne _ _ (by omega)).trans (h9 _ (hc.1 i hi))⟩
/-- a state stands for a row once its cells do -/
theorem SF.st {r : Row} (h : SF E g0 g b co pi π ρ V U n) (hr : SR co pi V U n r) : StA E g b r ∧ Fr b g0 g := ⟨⟨co, pi, π, ρ, V, U, n, h.self, hr⟩, h.fr⟩
end SFs
/-- the places behind a dropped one move by one, the dropped one goes behind the others -/
def cyc (a m : Nat) : Nat → Nat := fun k => if a ≤ k ∧ k < m then k + 1 else if k = m then a else k
theorem cyc_pm {a m n : Nat} (h : a ≤ m) (hm : m < n) : Pm n (cyc a m) := by
  refine ⟨fun i hi => ?_, fun i j hi hj e => ?_⟩
  · unfold cyc; split <;> (try split) <;> omega
  · unfold cyc at e
    split at e <;> split at e <;> (try split at e) <;> (try split at e) <;> omega
/-- while they move -/
def sft (a i : Nat) : Nat → Nat := fun k => if a ≤ k ∧ k < i then k + 1 else k
section TK
variable {r : Row} {t : Nat}
theorem tkR_V {i j : Nat} (hi : i < rc r) (hj : j < 7) : tkR r t (33 + 7 * i + j) = tkV r t i j := by
  unfold tkR
  rw [if_pos ⟨by omega, by omega⟩, show (33 + 7 * i + j - 33) / 7 = i by omega, show (33 + 7 * i + j - 33) % 7 = j by omega]
theorem tkR_U {i j : Nat} (hr : rc r ≤ 6) (hi : i < gc r) (hj : j < 4) : tkR r t (76 + 4 * i + j) = tkU r t i j := by
  unfold tkR
  rw [if_neg (by omega), if_pos ⟨by omega, by omega⟩, show (76 + 4 * i + j - 76) / 4 = i by omega, show (76 + 4 * i + j - 76) % 4 = j by omega]
theorem tkR_lo {k : Nat} (hk : k < 33) : tkR r t k = r k := by
  unfold tkR
  rw [if_neg (by omega), if_neg (by omega), if_neg (by omega), if_neg (by omega)]
theorem tkR_75 (hr : rc r ≤ 6) : tkR r t 75 = r 75 := by
  unfold tkR
  rw [if_neg (by omega), if_neg (by omega), if_neg (by omega), if_neg (by omega)]
theorem tkR_px {k : Nat} (hr : rc r ≤ 6) (hg : gc r ≤ 4) (hk : k < 64) : tkR r t (92 + k) = r (92 + k) := by
  unfold tkR
  rw [if_neg (by omega), if_neg (by omega), if_neg (by omega), if_neg (by omega)]
theorem tkR_156 (hr : rc r ≤ 6) (hg : gc r ≤ 4) : tkR r t 156 = nI (nn (r 156) + t) := by
  unfold tkR
  rw [if_neg (by omega), if_neg (by omega), if_pos rfl]
theorem tkR_157 (hr : rc r ≤ 6) (hg : gc r ≤ 4) : tkR r t 157 = nI (nn (r 157) + made r t) := by
  unfold tkR
  rw [if_neg (by omega), if_neg (by omega), if_neg (by omega), if_pos rfl]
theorem tkR_rc : rc (tkR r t) = rc r := rc_of (tkR_lo (by decide))
theorem tkR_gc (hr : rc r ≤ 6) : gc (tkR r t) = gc r := gc_of (tkR_75 hr)
end TK
theorem made_le {r : Row} {B t : Nat} (hv : Vr r B) : made r t ≤ 6 * (30 + t) := by
  have h1 : made r t ≤ rc r * (30 + t) := sm_le (fun i hi => by
    have := hv.rg hi
    have h2 := Nat.div_le_self (rg r i 5 + t) (rg r i 2)
    split <;> omega)
  have h2 := Nat.mul_le_mul_right (30 + t) hv.1.2
  omega
theorem made_s {r : Row} (i t : Nat) : sm (i + 1) (fun i => if rg r i 4 = 1 then (rg r i 5 + t) / rg r i 2 else 0) = sm i (fun i => if rg r i 4 = 1 then (rg r i 5 + t) / rg r i 2 else 0) + (if rg r i 4 = 1 then (rg r i 5 + t) / rg r i 2 else 0) := rfl
end
section
/-! ===== a state of the class: what changes it ===== -/
theorem pk_m1' (n : Nat) : nI (n + 1) - nI 1 = nI n := by rw [pk_sub (by omega)]; rfl
theorem dX4_advance_0 : decode cX4_advance 0 = .ok (.iconst 0, 1) := by decide +kernel
theorem dX4_advance_1 : decode cX4_advance 1 = .ok (.istore_n 2, 1) := by decide +kernel
theorem dX4_advance_2 : decode cX4_advance 2 = .ok (.iconst 0, 1) := by decide +kernel
theorem dX4_advance_3 : decode cX4_advance 3 = .ok (.istore_n 3, 1) := by decide +kernel
theorem dX4_advance_4 : decode cX4_advance 4 = .ok (.iload_n 3, 1) := by decide +kernel
theorem dX4_advance_5 : decode cX4_advance 5 = .ok (.aload_n 0, 1) := by decide +kernel
theorem dX4_advance_6 : decode cX4_advance 6 = .ok (.getfield 30, 3) := by decide +kernel
theorem dX4_advance_9 : decode cX4_advance 9 = .ok (.if_icmp .ge 22, 3) := by decide +kernel
theorem dX4_advance_12 : decode cX4_advance 12 = .ok (.iload_n 2, 1) := by decide +kernel
theorem dX4_advance_13 : decode cX4_advance 13 = .ok (.aload_n 0, 1) := by decide +kernel
theorem dX4_advance_14 : decode cX4_advance 14 = .ok (.getfield 20, 3) := by decide +kernel
theorem dX4_advance_17 : decode cX4_advance 17 = .ok (.iload_n 3, 1) := by decide +kernel
theorem dX4_advance_18 : decode cX4_advance 18 = .ok (.aaload, 1) := by decide +kernel
theorem dX4_advance_19 : decode cX4_advance 19 = .ok (.iload_n 1, 1) := by decide +kernel
theorem dX4_advance_20 : decode cX4_advance 20 = .ok (.invokevirtual 82, 3) := by decide +kernel
theorem dX4_advance_23 : decode cX4_advance 23 = .ok (.iadd, 1) := by decide +kernel
theorem dX4_advance_24 : decode cX4_advance 24 = .ok (.istore_n 2, 1) := by decide +kernel
theorem dX4_advance_25 : decode cX4_advance 25 = .ok (.iinc 3 1, 3) := by decide +kernel
theorem dX4_advance_28 : decode cX4_advance 28 = .ok (.goto (-24), 3) := by decide +kernel
theorem dX4_advance_31 : decode cX4_advance 31 = .ok (.iconst 0, 1) := by decide +kernel
theorem dX4_advance_32 : decode cX4_advance 32 = .ok (.istore_n 3, 1) := by decide +kernel
theorem dX4_advance_33 : decode cX4_advance 33 = .ok (.iload_n 3, 1) := by decide +kernel
theorem dX4_advance_34 : decode cX4_advance 34 = .ok (.aload_n 0, 1) := by decide +kernel
theorem dX4_advance_35 : decode cX4_advance 35 = .ok (.getfield 34, 3) := by decide +kernel
theorem dX4_advance_38 : decode cX4_advance 38 = .ok (.if_icmp .ge 19, 3) := by decide +kernel
theorem dX4_advance_41 : decode cX4_advance 41 = .ok (.aload_n 0, 1) := by decide +kernel
theorem dX4_advance_42 : decode cX4_advance 42 = .ok (.getfield 26, 3) := by decide +kernel
theorem dX4_advance_45 : decode cX4_advance 45 = .ok (.iload_n 3, 1) := by decide +kernel
theorem dX4_advance_46 : decode cX4_advance 46 = .ok (.aaload, 1) := by decide +kernel
theorem dX4_advance_47 : decode cX4_advance 47 = .ok (.iload_n 1, 1) := by decide +kernel
theorem dX4_advance_48 : decode cX4_advance 48 = .ok (.invokevirtual 86, 3) := by decide +kernel
theorem dX4_advance_51 : decode cX4_advance 51 = .ok (.iinc 3 1, 3) := by decide +kernel
theorem dX4_advance_54 : decode cX4_advance 54 = .ok (.goto (-21), 3) := by decide +kernel
theorem dX4_advance_57 : decode cX4_advance 57 = .ok (.aload_n 0, 1) := by decide +kernel
theorem dX4_advance_58 : decode cX4_advance 58 = .ok (.dup, 1) := by decide +kernel
theorem dX4_advance_59 : decode cX4_advance 59 = .ok (.getfield 37, 3) := by decide +kernel
theorem dX4_advance_62 : decode cX4_advance 62 = .ok (.iload_n 1, 1) := by decide +kernel
theorem dX4_advance_63 : decode cX4_advance 63 = .ok (.iadd, 1) := by decide +kernel
theorem dX4_advance_64 : decode cX4_advance 64 = .ok (.putfield 37, 3) := by decide +kernel
theorem dX4_advance_67 : decode cX4_advance 67 = .ok (.aload_n 0, 1) := by decide +kernel
theorem dX4_advance_68 : decode cX4_advance 68 = .ok (.dup, 1) := by decide +kernel
theorem dX4_advance_69 : decode cX4_advance 69 = .ok (.getfield 40, 3) := by decide +kernel
theorem dX4_advance_72 : decode cX4_advance 72 = .ok (.iload_n 2, 1) := by decide +kernel
theorem dX4_advance_73 : decode cX4_advance 73 = .ok (.iadd, 1) := by decide +kernel
theorem dX4_advance_74 : decode cX4_advance 74 = .ok (.putfield 40, 3) := by decide +kernel
theorem dX4_advance_77 : decode cX4_advance 77 = .ok (.iload_n 2, 1) := by decide +kernel
theorem dX4_advance_78 : decode cX4_advance 78 = .ok (.ireturn, 1) := by decide +kernel
set_option maxHeartbeats 4000000 in
set_option maxRecDepth 100000 in
theorem c_X4_advance (l : Launch) (E : gE) (g : Mem) (b : Nat) (r : Row) (B : Nat) (hB : B < 100000000) (h : StA E g b r) (hv : Vr r B) (t : Nat) (ht : t ≤ 5000) : Mt l E yX4_advance cX4_advance 4 (some .int) 2 41 [rf E (b), .int (nI (t))] g (pI (fun z g' => z = nI (made r t) ∧ StA E g' b (tkR r t) ∧ Fr b g g')) := by
  obtain ⟨co, pi, π, ρ, V, U, hX, e1, e2, e3, e4⟩ := zStF h hv
  have hrc : rc r ≤ 6 := hv.1.2
  have hgc : gc r ≤ 4 := hv.2.1.2
  have ht1 : nn (r 156) ≤ B := hv.2.2.2.2.2.2.2.1.2
  have ht2 : nn (r 157) ≤ 7 * B := hv.2.2.2.2.2.2.2.2.2
  have hml := made_le (t := t) hv
  refine mt_go (own := RX4) (by decide) rfl (lo := [some (rf E (b)), some (.int (nI (t))), none, none]) rfl (Nat.le_of_ble_eq_true rfl) (fun X hC => ?_)
  refine y_iconst (v := nI 0) hC dX4_advance_0 (by decide) ?_
  refine y_istore_n hC dX4_advance_1 (i := 2) rfl (Nat.le_of_ble_eq_true rfl) rfl (lo' := [some (rf E (b)), some (.int (nI (t))), some (.int (nI (0))), none]) rfl ?_
  refine y_iconst (v := nI 0) hC dX4_advance_2 (by decide) ?_
  refine y_istore_n hC dX4_advance_3 (i := 3) rfl (Nat.le_of_ble_eq_true rfl) rfl (lo' := [some (rf E (b)), some (.int (nI (t))), some (.int (nI (0))), some (.int (nI (0)))]) rfl ?_
  have L_4 : ∀ (m : Nat) (i c : Nat) (g1 : Mem) (V1 : Nat → Nat → Int32), (hm : rc r - i < m) → (hi : i ≤ rc r) → (hX1 : SF E g g1 b co pi π ρ V1 U (v4 (nI (rc r)) (nI (gc r)) (nI (nn (r 156))) (nI (nn (r 157))))) → (hk1 : ∀ k, k < i → ∀ j, j < 7 → V1 k j = tkV r t k j) → (hr1 : ∀ k, i ≤ k → V1 k = V k) → (hc : c = sm i (fun i => if rg r i 4 = 1 then (rg r i 5 + t) / rg r i 2 else 0)) → Y l E X (pI (fun z g' => z = nI (made r t) ∧ StA E g' b (tkR r t) ∧ Fr b g g')) 4 [some (rf E (b)), some (.int (nI (t))), some (.int (nI (c))), some (.int (nI (i)))] [] g1 := by
    intro m
    induction m with
    | zero => intro i c g1 V1 hm hi hX1 hk1 hr1 hc; exact absurd hm (Nat.not_lt_zero _)
    | succ m ih_4 =>
      intro i c g1 V1 hm hi hX1 hk1 hr1 hc
      refine y_iload_n hC dX4_advance_4 (i := 3) rfl rfl ?_
      refine y_aload_n hC dX4_advance_5 (i := 0) rfl rfl ?_
      refine y_get hC fX4_30 dX4_advance_6 (k := b) (hX1.k (k := 0) (by decide)) hX1.s0 rfl ?_
      refine y_icmp_ge_n (tgt := 31) hC dX4_advance_9 (by decide) (by omega) (by omega) (fun c_9 => ?_) (fun c_9 => ?_)
      · refine y_iconst (v := nI 0) hC dX4_advance_31 (by decide) ?_
        refine y_istore_n hC dX4_advance_32 (i := 3) rfl (Nat.le_of_ble_eq_true rfl) rfl (lo' := [some (rf E (b)), some (.int (nI (t))), some (.int (nI (c))), some (.int (nI (0)))]) rfl ?_
        have hc2 : c = made r t := by rw [hc, show i = rc r by omega]; rfl
        have hk3 : ∀ k, k < rc r → ∀ j, j < 7 → V1 k j = tkV r t k j := fun k hk => hk1 k (by omega)
        clear hc hk1 hr1 hi ih_4
        have L_33 : ∀ (m : Nat) (i : Nat) (g2 : Mem) (U1 : Nat → Nat → Int32), (hm : gc r - i < m) → (hi : i ≤ gc r) → (hX2 : SF E g g2 b co pi π ρ V1 U1 (v4 (nI (rc r)) (nI (gc r)) (nI (nn (r 156))) (nI (nn (r 157))))) → (hs2 : ∀ k, k < i → ∀ j, j < 4 → U1 k j = tkU r t k j) → (hs1 : ∀ k, i ≤ k → U1 k = U k) → Y l E X (pI (fun z g' => z = nI (made r t) ∧ StA E g' b (tkR r t) ∧ Fr b g g')) 33 [some (rf E (b)), some (.int (nI (t))), some (.int (nI (c))), some (.int (nI (i)))] [] g2 := by
          intro m
          induction m with
          | zero => intro i g2 U1 hm hi hX2 hs2 hs1; exact absurd hm (Nat.not_lt_zero _)
          | succ m ih_33 =>
            intro i g2 U1 hm hi hX2 hs2 hs1
            refine y_iload_n hC dX4_advance_33 (i := 3) rfl rfl ?_
            refine y_aload_n hC dX4_advance_34 (i := 0) rfl rfl ?_
            refine y_get hC fX4_34 dX4_advance_35 (k := b) (hX2.k (k := 0) (by decide)) hX2.s0 rfl ?_
            refine y_icmp_ge_n (tgt := 57) hC dX4_advance_38 (by decide) (by omega) (by omega) (fun c_38 => ?_) (fun c_38 => ?_)
            · refine y_aload_n hC dX4_advance_57 (i := 0) rfl rfl ?_
              refine y_dup hC dX4_advance_58 rfl ?_
              refine y_get hC fX4_37 dX4_advance_59 (k := b) (hX2.k (k := 0) (by decide)) hX2.s0 rfl ?_
              refine y_iload_n hC dX4_advance_62 (i := 1) rfl rfl ?_
              refine y_iadd_n hC dX4_advance_63 ?_
              refine y_put hC fpX4_37 dX4_advance_64 (k := b) (hX2.k (k := 0) (by decide)) hX2.s0 (Nat.le_of_ble_eq_true rfl) (rfl) (rfl) (fs' := [rf E (b + 1), rf E (b + 2), rf E (b + 3), rf E (b + 4), .int (nI (rc r)), .int (nI (gc r)), .int (nI ((nn (r 156)) + t)), .int (nI (nn (r 157)))]) rfl ?_
              have hX_64 : SF E g (va_up g2 (b) (oB 4 [rf E (b + 1), rf E (b + 2), rf E (b + 3), rf E (b + 4), .int (nI (rc r)), .int (nI (gc r)), .int (nI ((nn (r 156)) + t)), .int (nI (nn (r 157)))])) b co pi π ρ V1 U1 (v4 (nI (rc r)) (nI (gc r)) (nI ((nn (r 156)) + t)) (nI (nn (r 157)))) := hX2.upn (v4 (nI (rc r)) (nI (gc r)) (nI ((nn (r 156)) + t)) (nI (nn (r 157))))
              generalize (va_up g2 (b) (oB 4 [rf E (b + 1), rf E (b + 2), rf E (b + 3), rf E (b + 4), .int (nI (rc r)), .int (nI (gc r)), .int (nI ((nn (r 156)) + t)), .int (nI (nn (r 157)))])) = g_64 at hX_64 ⊢
              refine y_aload_n hC dX4_advance_67 (i := 0) rfl rfl ?_
              refine y_dup hC dX4_advance_68 rfl ?_
              refine y_get hC fX4_40 dX4_advance_69 (k := b) (hX_64.k (k := 0) (by decide)) hX_64.s0 rfl ?_
              refine y_iload_n hC dX4_advance_72 (i := 2) rfl rfl ?_
              refine y_iadd_n hC dX4_advance_73 ?_
              refine y_put hC fpX4_40 dX4_advance_74 (k := b) (hX_64.k (k := 0) (by decide)) hX_64.s0 (Nat.le_of_ble_eq_true rfl) (rfl) (rfl) (fs' := [rf E (b + 1), rf E (b + 2), rf E (b + 3), rf E (b + 4), .int (nI (rc r)), .int (nI (gc r)), .int (nI ((nn (r 156)) + t)), .int (nI ((nn (r 157)) + c))]) rfl ?_
              have hX_74 : SF E g (va_up g_64 (b) (oB 4 [rf E (b + 1), rf E (b + 2), rf E (b + 3), rf E (b + 4), .int (nI (rc r)), .int (nI (gc r)), .int (nI ((nn (r 156)) + t)), .int (nI ((nn (r 157)) + c))])) b co pi π ρ V1 U1 (v4 (nI (rc r)) (nI (gc r)) (nI ((nn (r 156)) + t)) (nI ((nn (r 157)) + c))) := hX_64.upn (v4 (nI (rc r)) (nI (gc r)) (nI ((nn (r 156)) + t)) (nI ((nn (r 157)) + c)))
              generalize (va_up g_64 (b) (oB 4 [rf E (b + 1), rf E (b + 2), rf E (b + 3), rf E (b + 4), .int (nI (rc r)), .int (nI (gc r)), .int (nI ((nn (r 156)) + t)), .int (nI ((nn (r 157)) + c))])) = g_74 at hX_74 ⊢
              refine y_iload_n hC dX4_advance_77 (i := 2) rfl rfl ?_
              refine y_iret (hC := hC) (hd := dX4_advance_78) (hq := ?_)
              refine ⟨congrArg nI hc2, ?_⟩
              refine hX_74.st ⟨fun k hk => by rw [tkR_lo (by omega)]; exact e1 k hk, fun k hk => by rw [tkR_px hrc hgc hk]; exact e2 k hk, ⟨by rw [tkR_lo (by decide), hv.1.1]; rfl, by rw [tkR_75 hrc, hv.2.1.1]; rfl, by rw [tkR_156 hrc hgc]; rfl, by rw [tkR_157 hrc hgc, ← hc2]; rfl⟩, fun k hk j hj => ?_, fun k hk j hj => ?_⟩
              · rw [tkR_rc] at hk
                rw [tkR_V hk hj]
                exact hk3 k hk j hj
              · rw [tkR_gc hrc] at hk
                rw [tkR_U hrc hk hj]
                exact hs2 k (by omega) j hj
            · have hlt : i < gc r := by omega
              obtain ⟨q1, q2, q3, q4, q5⟩ := hv.gl (i := i) (by omega)
              refine y_aload_n hC dX4_advance_41 (i := 0) rfl rfl ?_
              refine y_get hC fX4_26 dX4_advance_42 (k := b) (hX2.k (k := 0) (by decide)) hX2.s0 rfl ?_
              refine y_iload_n hC dX4_advance_45 (i := 3) rfl rfl ?_
              refine y_aald hC (Or.inr (Or.inl ⟨rfl, rfl, rfl⟩) : yT 4 0 RX0) dX4_advance_46 (k := b + 4) (j := i) (hX2.k (k := 4) (by decide)) hX2.s4 (rfl) (by omega) (by decide) ?_
              refine y_iload_n hC dX4_advance_47 (i := 1) rfl rfl ?_
              refine y_callV hC mX0_advance kX4_86 dX4_advance_48 (b := b + 11 + ρ (i)) (As := [.int (nI (t))]) (rest := []) (c_X0_advance l E g2 (b + 11 + ρ (i)) (hX2.kU (i := i) (by omega)) _ _ (gl r i 2) (gl r i 3) q3 q4 q5 (hX2.rU hv (i := i) (by omega) (fun j hj => by rw [hs1 i (Nat.le_refl _)]; exact e4 i (by omega) j hj)) t ht) (hX2.kU (i := i) (by omega)) (hX2.rU hv (i := i) (by omega) (fun j hj => by rw [hs1 i (Nat.le_refl _)]; exact e4 i (by omega) j hj)) rfl rfl rfl (Nat.le_of_ble_eq_true rfl) ⟨Nat.le_of_ble_eq_true rfl, Nat.le_of_ble_eq_true rfl⟩ (pk_v ?_)
              rintro g_48 hq_48
              have hX_48 : SF E g g_48 b co pi π ρ V1 (va_up U1 (i) (v4 (nI (gl r (i) 0)) ((r (76 + 4 * (i) + 1))) (nI (gl r (i) 2)) (nI ((gl r i 3 + t) % (2 * gl r i 2))))) (v4 (nI (rc r)) (nI (gc r)) (nI (nn (r 156))) (nI (nn (r 157)))) := by rw [hq_48]; exact hX2.upU (i := i) (by omega) (v4 (nI (gl r (i) 0)) ((r (76 + 4 * (i) + 1))) (nI (gl r (i) 2)) (nI ((gl r i 3 + t) % (2 * gl r i 2))))
              refine y_iinc_n hC dX4_advance_51 (a := i) (k := 1) rfl (by decide) (Nat.le_of_ble_eq_true rfl) rfl (lo' := [some (rf E (b)), some (.int (nI (t))), some (.int (nI (c))), some (.int (nI (i + 1)))]) rfl ?_
              refine y_goto (tgt := 33) hC dX4_advance_54 (by decide) ?_
              have hk2 : ∀ k, k < i + 1 → ∀ j, j < 4 → (va_up U1 (i) (v4 (nI (gl r (i) 0)) ((r (76 + 4 * (i) + 1))) (nI (gl r (i) 2)) (nI ((gl r i 3 + t) % (2 * gl r i 2))))) k j = tkU r t k j := by
                intro k hk
                by_cases e : k = i
                · subst e
                  rw [va_up_self]
                  obtain ⟨⟨q1, q2, q3⟩, -⟩ := hv.gl hlt
                  exact v4_j (f := tkU r t k) q1.symm rfl q2.symm rfl
                · rw [va_up_ne _ _ e]
                  exact hs2 k (by omega)
              exact ih_33 (i + 1) g_48 _ (by omega) (by omega) hX_48 hk2 (fun k hk => by rw [va_up_ne _ _ (by omega)]; exact hs1 k (by omega))
        exact L_33 (gc r + 1) 0 g1 U (by omega) (by omega) hX1 (fun k hk => absurd hk (Nat.not_lt_zero k)) (fun _ _ => rfl)
      · have hlt : i < rc r := by omega
        obtain ⟨q1, q2, q3, q4, q5, q6, q7, q8, q9⟩ := hv.rg (i := i) (by omega)
        refine y_iload_n hC dX4_advance_12 (i := 2) rfl rfl ?_
        refine y_aload_n hC dX4_advance_13 (i := 0) rfl rfl ?_
        refine y_get hC fX4_20 dX4_advance_14 (k := b) (hX1.k (k := 0) (by decide)) hX1.s0 rfl ?_
        refine y_iload_n hC dX4_advance_17 (i := 3) rfl rfl ?_
        refine y_aald hC (Or.inl ⟨rfl, rfl, rfl⟩ : yT 3 3 RX3) dX4_advance_18 (k := b + 3) (j := i) (hX1.k (k := 3) (by decide)) hX1.s3 (rfl) (by omega) (by decide) ?_
        refine y_iload_n hC dX4_advance_19 (i := 1) rfl rfl ?_
        refine y_callV hC mX3_advance kX4_82 dX4_advance_20 (b := b + 5 + π (i)) (As := [.int (nI (t))]) (rest := [.int (nI (c))]) (c_X3_advance l E g1 (b + 5 + π (i)) (hX1.kV (i := i) (by omega)) (rg r (i) 0) (rg r (i) 1) (rg r (i) 2) (rg r (i) 3) (rg r (i) 4) (rg r (i) 5) (rg r (i) 6) q2 q3 q4 q5 q6 q7 q8 (by omega) (hX1.rV hv (i := i) (by omega) (fun j hj => by rw [hr1 i (Nat.le_refl _)]; exact e3 i (by omega) j hj)) t ht) (hX1.kV (i := i) (by omega)) (hX1.rV hv (i := i) (by omega) (fun j hj => by rw [hr1 i (Nat.le_refl _)]; exact e3 i (by omega) j hj)) rfl rfl rfl (Nat.le_of_ble_eq_true rfl) ⟨Nat.le_of_ble_eq_true rfl, Nat.le_of_ble_eq_true rfl⟩ (pk_i ?_)
        rintro r_20 g_20 ⟨hr_20, hq_20⟩
        rw [hr_20]
        clear hr_20 r_20
        have hX_20 : SF E g g_20 b co pi π ρ (va_up V1 (i) (v7 (nI (rg r (i) 0)) (nI (rg r (i) 1)) (nI (rg r (i) 2)) (nI (rg r (i) 3)) (nI (rg r (i) 4)) (nI (if rg r i 4 = 1 then (rg r i 5 + t) % rg r i 2 else rg r i 5)) (nI (mdN (rg r i 2) (rg r i 4) (rg r i 5) (rg r i 6) t)))) U (v4 (nI (rc r)) (nI (gc r)) (nI (nn (r 156))) (nI (nn (r 157)))) := by rw [hq_20]; exact hX1.upV (i := i) (by omega) (v7 (nI (rg r (i) 0)) (nI (rg r (i) 1)) (nI (rg r (i) 2)) (nI (rg r (i) 3)) (nI (rg r (i) 4)) (nI (if rg r i 4 = 1 then (rg r i 5 + t) % rg r i 2 else rg r i 5)) (nI (mdN (rg r i 2) (rg r i 4) (rg r i 5) (rg r i 6) t)))
        refine y_iadd_n hC dX4_advance_23 ?_
        refine y_istore_n hC dX4_advance_24 (i := 2) rfl (Nat.le_of_ble_eq_true rfl) rfl (lo' := [some (rf E (b)), some (.int (nI (t))), some (.int (nI (c + (if rg r i 4 = 1 then (rg r i 5 + t) / rg r i 2 else 0)))), some (.int (nI (i)))]) rfl ?_
        refine y_iinc_n hC dX4_advance_25 (a := i) (k := 1) rfl (by decide) (Nat.le_of_ble_eq_true rfl) rfl (lo' := [some (rf E (b)), some (.int (nI (t))), some (.int (nI (c + (if rg r i 4 = 1 then (rg r i 5 + t) / rg r i 2 else 0)))), some (.int (nI (i + 1)))]) rfl ?_
        refine y_goto (tgt := 4) hC dX4_advance_28 (by decide) ?_
        have hk2 : ∀ k, k < i + 1 → ∀ j, j < 7 → (va_up V1 (i) (v7 (nI (rg r (i) 0)) (nI (rg r (i) 1)) (nI (rg r (i) 2)) (nI (rg r (i) 3)) (nI (rg r (i) 4)) (nI (if rg r i 4 = 1 then (rg r i 5 + t) % rg r i 2 else rg r i 5)) (nI (mdN (rg r i 2) (rg r i 4) (rg r i 5) (rg r i 6) t)))) k j = tkV r t k j := by
          intro k hk
          by_cases e : k = i
          · subst e
            rw [va_up_self]
            obtain ⟨q1, -⟩ := hv.rg hlt
            exact v7_j (f := tkV r t k) (q1 0 (by decide)).symm (q1 1 (by decide)).symm (q1 2 (by decide)).symm (q1 3 (by decide)).symm (q1 4 (by decide)).symm rfl rfl
          · rw [va_up_ne _ _ e]
            exact hk1 k (by omega)
        exact ih_4 (i + 1) _ g_20 _ (by omega) (by omega) hX_20 hk2 (fun k hk => by rw [va_up_ne _ _ (by omega)]; exact hr1 k (by omega)) (by rw [made_s, ← hc])
  exact L_4 (rc r + 1) 0 0 g V (by omega) (by omega) hX (fun k hk => absurd hk (Nat.not_lt_zero k)) (fun _ _ => rfl) rfl

theorem dX4_stepAtOnce_0 : decode cX4_stepAtOnce 0 = .ok (.aload_n 0, 1) := by decide +kernel
theorem dX4_stepAtOnce_1 : decode cX4_stepAtOnce 1 = .ok (.getfield 20, 3) := by decide +kernel
theorem dX4_stepAtOnce_4 : decode cX4_stepAtOnce 4 = .ok (.iload_n 1, 1) := by decide +kernel
theorem dX4_stepAtOnce_5 : decode cX4_stepAtOnce 5 = .ok (.aaload, 1) := by decide +kernel
theorem dX4_stepAtOnce_6 : decode cX4_stepAtOnce 6 = .ok (.dup, 1) := by decide +kernel
theorem dX4_stepAtOnce_7 : decode cX4_stepAtOnce 7 = .ok (.getfield 89, 3) := by decide +kernel
theorem dX4_stepAtOnce_10 : decode cX4_stepAtOnce 10 = .ok (.iconst 1, 1) := by decide +kernel
theorem dX4_stepAtOnce_11 : decode cX4_stepAtOnce 11 = .ok (.iadd, 1) := by decide +kernel
theorem dX4_stepAtOnce_12 : decode cX4_stepAtOnce 12 = .ok (.putfield 89, 3) := by decide +kernel
theorem dX4_stepAtOnce_15 : decode cX4_stepAtOnce 15 = .ok (.aload_n 0, 1) := by decide +kernel
theorem dX4_stepAtOnce_16 : decode cX4_stepAtOnce 16 = .ok (.dup, 1) := by decide +kernel
theorem dX4_stepAtOnce_17 : decode cX4_stepAtOnce 17 = .ok (.getfield 40, 3) := by decide +kernel
theorem dX4_stepAtOnce_20 : decode cX4_stepAtOnce 20 = .ok (.iconst 1, 1) := by decide +kernel
theorem dX4_stepAtOnce_21 : decode cX4_stepAtOnce 21 = .ok (.iadd, 1) := by decide +kernel
theorem dX4_stepAtOnce_22 : decode cX4_stepAtOnce 22 = .ok (.putfield 40, 3) := by decide +kernel
theorem dX4_stepAtOnce_25 : decode cX4_stepAtOnce 25 = .ok (.return_, 1) := by decide +kernel
set_option maxHeartbeats 4000000 in
set_option maxRecDepth 100000 in
theorem c_X4_stepAtOnce (l : Launch) (E : gE) (g : Mem) (b : Nat) (r : Row) (B : Nat) (hB : B < 100000000) (h : StA E g b r) (hv : Vr r B) (i : Nat) (hi : i < rc r) : Mt l E yX4_stepAtOnce cX4_stepAtOnce 2 none 0 0 [rf E (b), .int (nI (i))] g (pV (fun g' => StA E g' b (stpR r i) ∧ Fr b g g')) := by
  obtain ⟨co, pi, π, ρ, V, U, hX, e1, e2, e3, e4⟩ := zStF h hv
  have hrc : rc r ≤ 6 := hv.1.2
  have hgc : gc r ≤ 4 := hv.2.1.2
  have ht1 : nn (r 156) ≤ B := hv.2.2.2.2.2.2.2.1.2
  have ht2 : nn (r 157) ≤ 7 * B := hv.2.2.2.2.2.2.2.2.2
  refine mt_go (own := RX4) (by decide) rfl (lo := [some (rf E (b)), some (.int (nI (i)))]) rfl (Nat.le_of_ble_eq_true rfl) (fun X hC => ?_)
  refine y_aload_n hC dX4_stepAtOnce_0 (i := 0) rfl rfl ?_
  obtain ⟨q1, q2, q3, q4, q5, q6, q7, q8, q9⟩ := hv.rg (i := i) (by omega)
  refine y_get hC fX4_20 dX4_stepAtOnce_1 (k := b) (hX.k (k := 0) (by decide)) hX.s0 rfl ?_
  refine y_iload_n hC dX4_stepAtOnce_4 (i := 1) rfl rfl ?_
  refine y_aald hC (Or.inl ⟨rfl, rfl, rfl⟩ : yT 3 3 RX3) dX4_stepAtOnce_5 (k := b + 3) (j := i) (hX.k (k := 3) (by decide)) hX.s3 (rfl) (by omega) (by decide) ?_
  refine y_dup hC dX4_stepAtOnce_6 rfl ?_
  refine y_get hC fX4_89 dX4_stepAtOnce_7 (k := b + 5 + π (i)) (hX.kV (i := i) (by omega)) (hX.rV hv (i := i) (by omega) (e3 (i) (by omega))) rfl ?_
  refine y_iconst (v := nI 1) hC dX4_stepAtOnce_10 (by decide) ?_
  refine y_iadd_n hC dX4_stepAtOnce_11 ?_
  refine y_put hC fpX4_89 dX4_stepAtOnce_12 (k := b + 5 + π (i)) (hX.kV (i := i) (by omega)) (hX.rV hv (i := i) (by omega) (e3 (i) (by omega))) (Nat.le_of_ble_eq_true rfl) (rfl) (rfl) (fs' := [.int (nI (rg r (i) 0)), .int (nI (rg r (i) 1)), .int (nI (rg r (i) 2)), .int (nI (rg r (i) 3)), .int (nI (rg r (i) 4)), .int (nI (rg r (i) 5)), .int (nI ((rg r (i) 6) + 1))]) rfl ?_
  have hX_12 : SF E g (va_up g (b + 5 + π (i)) (oB 3 [.int (nI (rg r (i) 0)), .int (nI (rg r (i) 1)), .int (nI (rg r (i) 2)), .int (nI (rg r (i) 3)), .int (nI (rg r (i) 4)), .int (nI (rg r (i) 5)), .int (nI ((rg r (i) 6) + 1))])) b co pi π ρ (va_up V (i) (v7 (nI (rg r (i) 0)) (nI (rg r (i) 1)) (nI (rg r (i) 2)) (nI (rg r (i) 3)) (nI (rg r (i) 4)) (nI (rg r (i) 5)) (nI ((rg r (i) 6) + 1)))) U (v4 (nI (rc r)) (nI (gc r)) (nI (nn (r 156))) (nI (nn (r 157)))) := hX.upV (i := i) (by omega) (v7 (nI (rg r (i) 0)) (nI (rg r (i) 1)) (nI (rg r (i) 2)) (nI (rg r (i) 3)) (nI (rg r (i) 4)) (nI (rg r (i) 5)) (nI ((rg r (i) 6) + 1)))
  generalize (va_up g (b + 5 + π (i)) (oB 3 [.int (nI (rg r (i) 0)), .int (nI (rg r (i) 1)), .int (nI (rg r (i) 2)), .int (nI (rg r (i) 3)), .int (nI (rg r (i) 4)), .int (nI (rg r (i) 5)), .int (nI ((rg r (i) 6) + 1))])) = g_12 at hX_12 ⊢
  refine y_aload_n hC dX4_stepAtOnce_15 (i := 0) rfl rfl ?_
  refine y_dup hC dX4_stepAtOnce_16 rfl ?_
  refine y_get hC fX4_40 dX4_stepAtOnce_17 (k := b) (hX_12.k (k := 0) (by decide)) hX_12.s0 rfl ?_
  refine y_iconst (v := nI 1) hC dX4_stepAtOnce_20 (by decide) ?_
  refine y_iadd_n hC dX4_stepAtOnce_21 ?_
  refine y_put hC fpX4_40 dX4_stepAtOnce_22 (k := b) (hX_12.k (k := 0) (by decide)) hX_12.s0 (Nat.le_of_ble_eq_true rfl) (rfl) (rfl) (fs' := [rf E (b + 1), rf E (b + 2), rf E (b + 3), rf E (b + 4), .int (nI (rc r)), .int (nI (gc r)), .int (nI (nn (r 156))), .int (nI ((nn (r 157)) + 1))]) rfl ?_
  have hX_22 : SF E g (va_up g_12 (b) (oB 4 [rf E (b + 1), rf E (b + 2), rf E (b + 3), rf E (b + 4), .int (nI (rc r)), .int (nI (gc r)), .int (nI (nn (r 156))), .int (nI ((nn (r 157)) + 1))])) b co pi π ρ (va_up V (i) (v7 (nI (rg r (i) 0)) (nI (rg r (i) 1)) (nI (rg r (i) 2)) (nI (rg r (i) 3)) (nI (rg r (i) 4)) (nI (rg r (i) 5)) (nI ((rg r (i) 6) + 1)))) U (v4 (nI (rc r)) (nI (gc r)) (nI (nn (r 156))) (nI ((nn (r 157)) + 1))) := hX_12.upn (v4 (nI (rc r)) (nI (gc r)) (nI (nn (r 156))) (nI ((nn (r 157)) + 1)))
  generalize (va_up g_12 (b) (oB 4 [rf E (b + 1), rf E (b + 2), rf E (b + 3), rf E (b + 4), .int (nI (rc r)), .int (nI (gc r)), .int (nI (nn (r 156))), .int (nI ((nn (r 157)) + 1))])) = g_22 at hX_22 ⊢
  refine y_vret (hC := hC) (hd := dX4_stepAtOnce_25) (hq := ?_)
  have z32 : stpR r i 32 = r 32 := by unfold stpR; (repeat (first | rw [if_neg (by omega)] | rw [if_pos (by omega)]))
  have z75 : stpR r i 75 = r 75 := by unfold stpR; (repeat (first | rw [if_neg (by omega)] | rw [if_pos (by omega)]))
  refine hX_22.st ⟨fun k hk => by unfold stpR; (repeat (first | rw [if_neg (by omega)] | rw [if_pos (by omega)])); exact e1 k hk, fun k hk => by unfold stpR; (repeat (first | rw [if_neg (by omega)] | rw [if_pos (by omega)])); exact e2 k hk, ⟨by rw [z32, hv.1.1]; rfl, by rw [z75, hv.2.1.1]; rfl, by unfold stpR; (repeat (first | rw [if_neg (by omega)] | rw [if_pos (by omega)])); exact hv.2.2.2.2.2.2.2.1.1.symm, by unfold stpR; (repeat (first | rw [if_neg (by omega)] | rw [if_pos (by omega)])); rfl⟩, fun k hk j hj => ?_, fun k hk j hj => ?_⟩
  · rw [rc_of z32] at hk
    by_cases e : k = i
    · subst e
      rw [va_up_self]
      refine v7_j (f := fun j => stpR r k (33 + 7 * k + j)) ?_ ?_ ?_ ?_ ?_ ?_ ?_ j hj
      all_goals unfold stpR
      all_goals (repeat (first | rw [if_neg (by omega)] | rw [if_pos (by omega)]))
      all_goals first | exact (q1 0 (by decide)).symm | exact (q1 1 (by decide)).symm | exact (q1 2 (by decide)).symm | exact (q1 3 (by decide)).symm | exact (q1 4 (by decide)).symm | exact (q1 5 (by decide)).symm | rfl
    · rw [va_up_ne _ _ e]
      unfold stpR
      (repeat (first | rw [if_neg (by omega)] | rw [if_pos (by omega)]))
      exact e3 k hk j hj
  · rw [gc_of z75] at hk
    unfold stpR
    (repeat (first | rw [if_neg (by omega)] | rw [if_pos (by omega)]))
    exact e4 k hk j hj

theorem dX4_runOrPause_0 : decode cX4_runOrPause 0 = .ok (.aload_n 0, 1) := by decide +kernel
theorem dX4_runOrPause_1 : decode cX4_runOrPause 1 = .ok (.getfield 20, 3) := by decide +kernel
theorem dX4_runOrPause_4 : decode cX4_runOrPause 4 = .ok (.iload_n 1, 1) := by decide +kernel
theorem dX4_runOrPause_5 : decode cX4_runOrPause 5 = .ok (.aaload, 1) := by decide +kernel
theorem dX4_runOrPause_6 : decode cX4_runOrPause 6 = .ok (.aload_n 0, 1) := by decide +kernel
theorem dX4_runOrPause_7 : decode cX4_runOrPause 7 = .ok (.getfield 20, 3) := by decide +kernel
theorem dX4_runOrPause_10 : decode cX4_runOrPause 10 = .ok (.iload_n 1, 1) := by decide +kernel
theorem dX4_runOrPause_11 : decode cX4_runOrPause 11 = .ok (.aaload, 1) := by decide +kernel
theorem dX4_runOrPause_12 : decode cX4_runOrPause 12 = .ok (.getfield 90, 3) := by decide +kernel
theorem dX4_runOrPause_15 : decode cX4_runOrPause 15 = .ok (.ifCond .ne 7, 3) := by decide +kernel
theorem dX4_runOrPause_18 : decode cX4_runOrPause 18 = .ok (.iconst 1, 1) := by decide +kernel
theorem dX4_runOrPause_19 : decode cX4_runOrPause 19 = .ok (.goto 4, 3) := by decide +kernel
theorem dX4_runOrPause_22 : decode cX4_runOrPause 22 = .ok (.iconst 0, 1) := by decide +kernel
theorem dX4_runOrPause_23 : decode cX4_runOrPause 23 = .ok (.putfield 90, 3) := by decide +kernel
theorem dX4_runOrPause_26 : decode cX4_runOrPause 26 = .ok (.return_, 1) := by decide +kernel
set_option maxHeartbeats 4000000 in
set_option maxRecDepth 100000 in
theorem c_X4_runOrPause (l : Launch) (E : gE) (g : Mem) (b : Nat) (r : Row) (B : Nat) (hB : B < 100000000) (h : StA E g b r) (hv : Vr r B) (i : Nat) (hi : i < rc r) : Mt l E yX4_runOrPause cX4_runOrPause 2 none 0 0 [rf E (b), .int (nI (i))] g (pV (fun g' => StA E g' b (flpR r i) ∧ Fr b g g')) := by
  obtain ⟨co, pi, π, ρ, V, U, hX, e1, e2, e3, e4⟩ := zStF h hv
  have hrc : rc r ≤ 6 := hv.1.2
  have hgc : gc r ≤ 4 := hv.2.1.2
  have ht1 : nn (r 156) ≤ B := hv.2.2.2.2.2.2.2.1.2
  have ht2 : nn (r 157) ≤ 7 * B := hv.2.2.2.2.2.2.2.2.2
  refine mt_go (own := RX4) (by decide) rfl (lo := [some (rf E (b)), some (.int (nI (i)))]) rfl (Nat.le_of_ble_eq_true rfl) (fun X hC => ?_)
  refine y_aload_n hC dX4_runOrPause_0 (i := 0) rfl rfl ?_
  obtain ⟨q1, q2, q3, q4, q5, q6, q7, q8, q9⟩ := hv.rg (i := i) (by omega)
  refine y_get hC fX4_20 dX4_runOrPause_1 (k := b) (hX.k (k := 0) (by decide)) hX.s0 rfl ?_
  refine y_iload_n hC dX4_runOrPause_4 (i := 1) rfl rfl ?_
  refine y_aald hC (Or.inl ⟨rfl, rfl, rfl⟩ : yT 3 3 RX3) dX4_runOrPause_5 (k := b + 3) (j := i) (hX.k (k := 3) (by decide)) hX.s3 (rfl) (by omega) (by decide) ?_
  refine y_aload_n hC dX4_runOrPause_6 (i := 0) rfl rfl ?_
  refine y_get hC fX4_20 dX4_runOrPause_7 (k := b) (hX.k (k := 0) (by decide)) hX.s0 rfl ?_
  refine y_iload_n hC dX4_runOrPause_10 (i := 1) rfl rfl ?_
  refine y_aald hC (Or.inl ⟨rfl, rfl, rfl⟩ : yT 3 3 RX3) dX4_runOrPause_11 (k := b + 3) (j := i) (hX.k (k := 3) (by decide)) hX.s3 (rfl) (by omega) (by decide) ?_
  refine y_get hC fX4_90 dX4_runOrPause_12 (k := b + 5 + π (i)) (hX.kV (i := i) (by omega)) (hX.rV hv (i := i) (by omega) (e3 (i) (by omega))) rfl ?_
  refine y_if_ne_n (tgt := 22) hC dX4_runOrPause_15 (by decide) (by omega) (fun c_15 => ?_) (fun c_15 => ?_)
  · refine y_iconst (v := nI 0) hC dX4_runOrPause_22 (by decide) ?_
    refine y_put hC fpX4_90 dX4_runOrPause_23 (k := b + 5 + π (i)) (hX.kV (i := i) (by omega)) (hX.rV hv (i := i) (by omega) (e3 (i) (by omega))) (Nat.le_of_ble_eq_true rfl) (rfl) (rfl) (fs' := [.int (nI (rg r (i) 0)), .int (nI (rg r (i) 1)), .int (nI (rg r (i) 2)), .int (nI (rg r (i) 3)), .int (nI (0)), .int (nI (rg r (i) 5)), .int (nI (rg r (i) 6))]) rfl ?_
    have hX_23 : SF E g (va_up g (b + 5 + π (i)) (oB 3 [.int (nI (rg r (i) 0)), .int (nI (rg r (i) 1)), .int (nI (rg r (i) 2)), .int (nI (rg r (i) 3)), .int (nI (0)), .int (nI (rg r (i) 5)), .int (nI (rg r (i) 6))])) b co pi π ρ (va_up V (i) (v7 (nI (rg r (i) 0)) (nI (rg r (i) 1)) (nI (rg r (i) 2)) (nI (rg r (i) 3)) (nI (0)) (nI (rg r (i) 5)) (nI (rg r (i) 6)))) U (v4 (nI (rc r)) (nI (gc r)) (nI (nn (r 156))) (nI (nn (r 157)))) := hX.upV (i := i) (by omega) (v7 (nI (rg r (i) 0)) (nI (rg r (i) 1)) (nI (rg r (i) 2)) (nI (rg r (i) 3)) (nI (0)) (nI (rg r (i) 5)) (nI (rg r (i) 6)))
    generalize (va_up g (b + 5 + π (i)) (oB 3 [.int (nI (rg r (i) 0)), .int (nI (rg r (i) 1)), .int (nI (rg r (i) 2)), .int (nI (rg r (i) 3)), .int (nI (0)), .int (nI (rg r (i) 5)), .int (nI (rg r (i) 6))])) = g_23 at hX_23 ⊢
    refine y_vret (hC := hC) (hd := dX4_runOrPause_26) (hq := ?_)
    have z32 : flpR r i 32 = r 32 := by unfold flpR; (repeat (first | rw [if_neg (by omega)] | rw [if_pos (by omega)]))
    have z75 : flpR r i 75 = r 75 := by unfold flpR; (repeat (first | rw [if_neg (by omega)] | rw [if_pos (by omega)]))
    refine hX_23.st ⟨fun k hk => by unfold flpR; (repeat (first | rw [if_neg (by omega)] | rw [if_pos (by omega)])); exact e1 k hk, fun k hk => by unfold flpR; (repeat (first | rw [if_neg (by omega)] | rw [if_pos (by omega)])); exact e2 k hk, ⟨by rw [z32, hv.1.1]; rfl, by rw [z75, hv.2.1.1]; rfl, by unfold flpR; (repeat (first | rw [if_neg (by omega)] | rw [if_pos (by omega)])); exact hv.2.2.2.2.2.2.2.1.1.symm, by unfold flpR; (repeat (first | rw [if_neg (by omega)] | rw [if_pos (by omega)])); exact hv.2.2.2.2.2.2.2.2.1.symm⟩, fun k hk j hj => ?_, fun k hk j hj => ?_⟩
    · rw [rc_of z32] at hk
      by_cases e : k = i
      · subst e
        rw [va_up_self]
        refine v7_j (f := fun j => flpR r k (33 + 7 * k + j)) ?_ ?_ ?_ ?_ ?_ ?_ ?_ j hj
        all_goals unfold flpR
        all_goals (repeat (first | rw [if_neg (by omega)] | rw [if_pos (by omega)]))
        all_goals first | exact (q1 0 (by decide)).symm | exact (q1 1 (by decide)).symm | exact (q1 2 (by decide)).symm | exact (q1 3 (by decide)).symm | exact (q1 5 (by decide)).symm | exact (q1 6 (by decide)).symm | exact congrArg nI (by omega)
      · rw [va_up_ne _ _ e]
        unfold flpR
        (repeat (first | rw [if_neg (by omega)] | rw [if_pos (by omega)]))
        exact e3 k hk j hj
    · rw [gc_of z75] at hk
      unfold flpR
      (repeat (first | rw [if_neg (by omega)] | rw [if_pos (by omega)]))
      exact e4 k hk j hj
  · refine y_iconst (v := nI 1) hC dX4_runOrPause_18 (by decide) ?_
    refine y_goto (tgt := 23) hC dX4_runOrPause_19 (by decide) ?_
    refine y_put hC fpX4_90 dX4_runOrPause_23 (k := b + 5 + π (i)) (hX.kV (i := i) (by omega)) (hX.rV hv (i := i) (by omega) (e3 (i) (by omega))) (Nat.le_of_ble_eq_true rfl) (rfl) (rfl) (fs' := [.int (nI (rg r (i) 0)), .int (nI (rg r (i) 1)), .int (nI (rg r (i) 2)), .int (nI (rg r (i) 3)), .int (nI (1)), .int (nI (rg r (i) 5)), .int (nI (rg r (i) 6))]) rfl ?_
    have hX_23 : SF E g (va_up g (b + 5 + π (i)) (oB 3 [.int (nI (rg r (i) 0)), .int (nI (rg r (i) 1)), .int (nI (rg r (i) 2)), .int (nI (rg r (i) 3)), .int (nI (1)), .int (nI (rg r (i) 5)), .int (nI (rg r (i) 6))])) b co pi π ρ (va_up V (i) (v7 (nI (rg r (i) 0)) (nI (rg r (i) 1)) (nI (rg r (i) 2)) (nI (rg r (i) 3)) (nI (1)) (nI (rg r (i) 5)) (nI (rg r (i) 6)))) U (v4 (nI (rc r)) (nI (gc r)) (nI (nn (r 156))) (nI (nn (r 157)))) := hX.upV (i := i) (by omega) (v7 (nI (rg r (i) 0)) (nI (rg r (i) 1)) (nI (rg r (i) 2)) (nI (rg r (i) 3)) (nI (1)) (nI (rg r (i) 5)) (nI (rg r (i) 6)))
    generalize (va_up g (b + 5 + π (i)) (oB 3 [.int (nI (rg r (i) 0)), .int (nI (rg r (i) 1)), .int (nI (rg r (i) 2)), .int (nI (rg r (i) 3)), .int (nI (1)), .int (nI (rg r (i) 5)), .int (nI (rg r (i) 6))])) = g_23 at hX_23 ⊢
    refine y_vret (hC := hC) (hd := dX4_runOrPause_26) (hq := ?_)
    have z32 : flpR r i 32 = r 32 := by unfold flpR; (repeat (first | rw [if_neg (by omega)] | rw [if_pos (by omega)]))
    have z75 : flpR r i 75 = r 75 := by unfold flpR; (repeat (first | rw [if_neg (by omega)] | rw [if_pos (by omega)]))
    refine hX_23.st ⟨fun k hk => by unfold flpR; (repeat (first | rw [if_neg (by omega)] | rw [if_pos (by omega)])); exact e1 k hk, fun k hk => by unfold flpR; (repeat (first | rw [if_neg (by omega)] | rw [if_pos (by omega)])); exact e2 k hk, ⟨by rw [z32, hv.1.1]; rfl, by rw [z75, hv.2.1.1]; rfl, by unfold flpR; (repeat (first | rw [if_neg (by omega)] | rw [if_pos (by omega)])); exact hv.2.2.2.2.2.2.2.1.1.symm, by unfold flpR; (repeat (first | rw [if_neg (by omega)] | rw [if_pos (by omega)])); exact hv.2.2.2.2.2.2.2.2.1.symm⟩, fun k hk j hj => ?_, fun k hk j hj => ?_⟩
    · rw [rc_of z32] at hk
      by_cases e : k = i
      · subst e
        rw [va_up_self]
        refine v7_j (f := fun j => flpR r k (33 + 7 * k + j)) ?_ ?_ ?_ ?_ ?_ ?_ ?_ j hj
        all_goals unfold flpR
        all_goals (repeat (first | rw [if_neg (by omega)] | rw [if_pos (by omega)]))
        all_goals first | exact (q1 0 (by decide)).symm | exact (q1 1 (by decide)).symm | exact (q1 2 (by decide)).symm | exact (q1 3 (by decide)).symm | exact (q1 5 (by decide)).symm | exact (q1 6 (by decide)).symm | exact congrArg nI (by omega)
      · rw [va_up_ne _ _ e]
        unfold flpR
        (repeat (first | rw [if_neg (by omega)] | rw [if_pos (by omega)]))
        exact e3 k hk j hj
    · rw [gc_of z75] at hk
      unfold flpR
      (repeat (first | rw [if_neg (by omega)] | rw [if_pos (by omega)]))
      exact e4 k hk j hj

theorem dX4_beginAgain_0 : decode cX4_beginAgain 0 = .ok (.iconst 0, 1) := by decide +kernel
theorem dX4_beginAgain_1 : decode cX4_beginAgain 1 = .ok (.istore_n 1, 1) := by decide +kernel
theorem dX4_beginAgain_2 : decode cX4_beginAgain 2 = .ok (.iload_n 1, 1) := by decide +kernel
theorem dX4_beginAgain_3 : decode cX4_beginAgain 3 = .ok (.aload_n 0, 1) := by decide +kernel
theorem dX4_beginAgain_4 : decode cX4_beginAgain 4 = .ok (.getfield 30, 3) := by decide +kernel
theorem dX4_beginAgain_7 : decode cX4_beginAgain 7 = .ok (.if_icmp .ge 18, 3) := by decide +kernel
theorem dX4_beginAgain_10 : decode cX4_beginAgain 10 = .ok (.aload_n 0, 1) := by decide +kernel
theorem dX4_beginAgain_11 : decode cX4_beginAgain 11 = .ok (.getfield 20, 3) := by decide +kernel
theorem dX4_beginAgain_14 : decode cX4_beginAgain 14 = .ok (.iload_n 1, 1) := by decide +kernel
theorem dX4_beginAgain_15 : decode cX4_beginAgain 15 = .ok (.aaload, 1) := by decide +kernel
theorem dX4_beginAgain_16 : decode cX4_beginAgain 16 = .ok (.invokevirtual 78, 3) := by decide +kernel
theorem dX4_beginAgain_19 : decode cX4_beginAgain 19 = .ok (.iinc 1 1, 3) := by decide +kernel
theorem dX4_beginAgain_22 : decode cX4_beginAgain 22 = .ok (.goto (-20), 3) := by decide +kernel
theorem dX4_beginAgain_25 : decode cX4_beginAgain 25 = .ok (.iconst 0, 1) := by decide +kernel
theorem dX4_beginAgain_26 : decode cX4_beginAgain 26 = .ok (.istore_n 1, 1) := by decide +kernel
theorem dX4_beginAgain_27 : decode cX4_beginAgain 27 = .ok (.iload_n 1, 1) := by decide +kernel
theorem dX4_beginAgain_28 : decode cX4_beginAgain 28 = .ok (.aload_n 0, 1) := by decide +kernel
theorem dX4_beginAgain_29 : decode cX4_beginAgain 29 = .ok (.getfield 34, 3) := by decide +kernel
theorem dX4_beginAgain_32 : decode cX4_beginAgain 32 = .ok (.if_icmp .ge 19, 3) := by decide +kernel
theorem dX4_beginAgain_35 : decode cX4_beginAgain 35 = .ok (.aload_n 0, 1) := by decide +kernel
theorem dX4_beginAgain_36 : decode cX4_beginAgain 36 = .ok (.getfield 26, 3) := by decide +kernel
theorem dX4_beginAgain_39 : decode cX4_beginAgain 39 = .ok (.iload_n 1, 1) := by decide +kernel
theorem dX4_beginAgain_40 : decode cX4_beginAgain 40 = .ok (.aaload, 1) := by decide +kernel
theorem dX4_beginAgain_41 : decode cX4_beginAgain 41 = .ok (.iconst 0, 1) := by decide +kernel
theorem dX4_beginAgain_42 : decode cX4_beginAgain 42 = .ok (.putfield 81, 3) := by decide +kernel
theorem dX4_beginAgain_45 : decode cX4_beginAgain 45 = .ok (.iinc 1 1, 3) := by decide +kernel
theorem dX4_beginAgain_48 : decode cX4_beginAgain 48 = .ok (.goto (-21), 3) := by decide +kernel
theorem dX4_beginAgain_51 : decode cX4_beginAgain 51 = .ok (.return_, 1) := by decide +kernel
set_option maxHeartbeats 4000000 in
set_option maxRecDepth 100000 in
theorem c_X4_beginAgain (l : Launch) (E : gE) (g : Mem) (b : Nat) (r : Row) (B : Nat) (hB : B < 100000000) (h : StA E g b r) (hv : Vr r B) : Mt l E yX4_beginAgain cX4_beginAgain 2 none 1 20 [rf E (b)] g (pV (fun g' => StA E g' b (begR r) ∧ Fr b g g')) := by
  obtain ⟨co, pi, π, ρ, V, U, hX, e1, e2, e3, e4⟩ := zStF h hv
  have hrc : rc r ≤ 6 := hv.1.2
  have hgc : gc r ≤ 4 := hv.2.1.2
  have ht1 : nn (r 156) ≤ B := hv.2.2.2.2.2.2.2.1.2
  have ht2 : nn (r 157) ≤ 7 * B := hv.2.2.2.2.2.2.2.2.2
  refine mt_go (own := RX4) (by decide) rfl (lo := [some (rf E (b)), none]) rfl (Nat.le_of_ble_eq_true rfl) (fun X hC => ?_)
  refine y_iconst (v := nI 0) hC dX4_beginAgain_0 (by decide) ?_
  refine y_istore_n hC dX4_beginAgain_1 (i := 1) rfl (Nat.le_of_ble_eq_true rfl) rfl (lo' := [some (rf E (b)), some (.int (nI (0)))]) rfl ?_
  have L_2 : ∀ (m : Nat) (i : Nat) (g1 : Mem) (V1 : Nat → Nat → Int32), (hm : rc r - i < m) → (hi : i ≤ rc r) → (hX1 : SF E g g1 b co pi π ρ V1 U (v4 (nI (rc r)) (nI (gc r)) (nI (nn (r 156))) (nI (nn (r 157))))) → (hk1 : ∀ k, k < i → ∀ j, j < 7 → V1 k j = begR r (33 + 7 * k + j)) → (hr1 : ∀ k, i ≤ k → V1 k = V k) → Y l E X (pV (fun g' => StA E g' b (begR r) ∧ Fr b g g')) 2 [some (rf E (b)), some (.int (nI (i)))] [] g1 := by
    intro m
    induction m with
    | zero => intro i g1 V1 hm hi hX1 hk1 hr1; exact absurd hm (Nat.not_lt_zero _)
    | succ m ih_2 =>
      intro i g1 V1 hm hi hX1 hk1 hr1
      refine y_iload_n hC dX4_beginAgain_2 (i := 1) rfl rfl ?_
      refine y_aload_n hC dX4_beginAgain_3 (i := 0) rfl rfl ?_
      refine y_get hC fX4_30 dX4_beginAgain_4 (k := b) (hX1.k (k := 0) (by decide)) hX1.s0 rfl ?_
      refine y_icmp_ge_n (tgt := 25) hC dX4_beginAgain_7 (by decide) (by omega) (by omega) (fun c_7 => ?_) (fun c_7 => ?_)
      · refine y_iconst (v := nI 0) hC dX4_beginAgain_25 (by decide) ?_
        refine y_istore_n hC dX4_beginAgain_26 (i := 1) rfl (Nat.le_of_ble_eq_true rfl) rfl (lo' := [some (rf E (b)), some (.int (nI (0)))]) rfl ?_
        have hk3 : ∀ k, k < rc r → ∀ j, j < 7 → V1 k j = begR r (33 + 7 * k + j) := fun k hk => hk1 k (by omega)
        clear hk1 hr1 hi ih_2
        have L_27 : ∀ (m : Nat) (i : Nat) (g2 : Mem) (U1 : Nat → Nat → Int32), (hm : gc r - i < m) → (hi : i ≤ gc r) → (hX2 : SF E g g2 b co pi π ρ V1 U1 (v4 (nI (rc r)) (nI (gc r)) (nI (nn (r 156))) (nI (nn (r 157))))) → (hs2 : ∀ k, k < i → ∀ j, j < 4 → U1 k j = begR r (76 + 4 * k + j)) → (hs1 : ∀ k, i ≤ k → U1 k = U k) → Y l E X (pV (fun g' => StA E g' b (begR r) ∧ Fr b g g')) 27 [some (rf E (b)), some (.int (nI (i)))] [] g2 := by
          intro m
          induction m with
          | zero => intro i g2 U1 hm hi hX2 hs2 hs1; exact absurd hm (Nat.not_lt_zero _)
          | succ m ih_27 =>
            intro i g2 U1 hm hi hX2 hs2 hs1
            refine y_iload_n hC dX4_beginAgain_27 (i := 1) rfl rfl ?_
            refine y_aload_n hC dX4_beginAgain_28 (i := 0) rfl rfl ?_
            refine y_get hC fX4_34 dX4_beginAgain_29 (k := b) (hX2.k (k := 0) (by decide)) hX2.s0 rfl ?_
            refine y_icmp_ge_n (tgt := 51) hC dX4_beginAgain_32 (by decide) (by omega) (by omega) (fun c_32 => ?_) (fun c_32 => ?_)
            · refine y_vret (hC := hC) (hd := dX4_beginAgain_51) (hq := ?_)
              have z32 : begR r 32 = r 32 := by unfold begR; (repeat (first | rw [if_neg (by omega)] | rw [if_pos (by omega)]))
              have z75 : begR r 75 = r 75 := by unfold begR; (repeat (first | rw [if_neg (by omega)] | rw [if_pos (by omega)]))
              refine hX2.st ⟨fun k hk => by unfold begR; (repeat (first | rw [if_neg (by omega)] | rw [if_pos (by omega)])); exact e1 k hk, fun k hk => by unfold begR; (repeat (first | rw [if_neg (by omega)] | rw [if_pos (by omega)])); exact e2 k hk, ⟨by rw [z32, hv.1.1]; rfl, by rw [z75, hv.2.1.1]; rfl, by unfold begR; (repeat (first | rw [if_neg (by omega)] | rw [if_pos (by omega)])); exact hv.2.2.2.2.2.2.2.1.1.symm, by unfold begR; (repeat (first | rw [if_neg (by omega)] | rw [if_pos (by omega)])); exact hv.2.2.2.2.2.2.2.2.1.symm⟩, fun k hk j hj => ?_, fun k hk j hj => ?_⟩
              · rw [rc_of z32] at hk
                exact hk3 k hk j hj
              · rw [gc_of z75] at hk
                exact hs2 k (by omega) j hj
            · have hlt : i < gc r := by omega
              obtain ⟨q1, q2, q3, q4, q5⟩ := hv.gl (i := i) (by omega)
              refine y_aload_n hC dX4_beginAgain_35 (i := 0) rfl rfl ?_
              refine y_get hC fX4_26 dX4_beginAgain_36 (k := b) (hX2.k (k := 0) (by decide)) hX2.s0 rfl ?_
              refine y_iload_n hC dX4_beginAgain_39 (i := 1) rfl rfl ?_
              refine y_aald hC (Or.inr (Or.inl ⟨rfl, rfl, rfl⟩) : yT 4 0 RX0) dX4_beginAgain_40 (k := b + 4) (j := i) (hX2.k (k := 4) (by decide)) hX2.s4 (rfl) (by omega) (by decide) ?_
              refine y_iconst (v := nI 0) hC dX4_beginAgain_41 (by decide) ?_
              refine y_put hC fpX4_81 dX4_beginAgain_42 (k := b + 11 + ρ (i)) (hX2.kU (i := i) (by omega)) (hX2.rU hv (i := i) (by omega) (fun j hj => by rw [hs1 i (Nat.le_refl _)]; exact e4 i (by omega) j hj)) (Nat.le_of_ble_eq_true rfl) (rfl) (rfl) (fs' := [.int (nI (gl r (i) 0)), .int (r (76 + 4 * (i) + 1)), .int (nI (gl r (i) 2)), .int (nI (0))]) rfl ?_
              have hX_42 : SF E g (va_up g2 (b + 11 + ρ (i)) (oB 0 [.int (nI (gl r (i) 0)), .int (r (76 + 4 * (i) + 1)), .int (nI (gl r (i) 2)), .int (nI (0))])) b co pi π ρ V1 (va_up U1 (i) (v4 (nI (gl r (i) 0)) ((r (76 + 4 * (i) + 1))) (nI (gl r (i) 2)) (nI (0)))) (v4 (nI (rc r)) (nI (gc r)) (nI (nn (r 156))) (nI (nn (r 157)))) := hX2.upU (i := i) (by omega) (v4 (nI (gl r (i) 0)) ((r (76 + 4 * (i) + 1))) (nI (gl r (i) 2)) (nI (0)))
              generalize (va_up g2 (b + 11 + ρ (i)) (oB 0 [.int (nI (gl r (i) 0)), .int (r (76 + 4 * (i) + 1)), .int (nI (gl r (i) 2)), .int (nI (0))])) = g_42 at hX_42 ⊢
              refine y_iinc_n hC dX4_beginAgain_45 (a := i) (k := 1) rfl (by decide) (Nat.le_of_ble_eq_true rfl) rfl (lo' := [some (rf E (b)), some (.int (nI (i + 1)))]) rfl ?_
              refine y_goto (tgt := 27) hC dX4_beginAgain_48 (by decide) ?_
              have hk2 : ∀ k, k < i + 1 → ∀ j, j < 4 → (va_up U1 (i) (v4 (nI (gl r (i) 0)) ((r (76 + 4 * (i) + 1))) (nI (gl r (i) 2)) (nI (0)))) k j = begR r (76 + 4 * k + j) := by
                intro k hk
                by_cases e : k = i
                · subst e
                  rw [va_up_self]
                  obtain ⟨⟨q1, q2, q3⟩, -⟩ := hv.gl hlt
                  refine v4_j (f := fun j => begR r (76 + 4 * k + j)) ?_ ?_ ?_ ?_
                  all_goals unfold begR
                  all_goals (repeat (first | rw [if_neg (by omega)] | rw [if_pos (by omega)]))
                  all_goals first | exact q1.symm | rfl | exact q2.symm
                · rw [va_up_ne _ _ e]
                  exact hs2 k (by omega)
              exact ih_27 (i + 1) g_42 _ (by omega) (by omega) hX_42 hk2 (fun k hk => by rw [va_up_ne _ _ (by omega)]; exact hs1 k (by omega))
        exact L_27 (gc r + 1) 0 g1 U (by omega) (by omega) hX1 (fun k hk => absurd hk (Nat.not_lt_zero k)) (fun _ _ => rfl)
      · have hlt : i < rc r := by omega
        obtain ⟨q1, q2, q3, q4, q5, q6, q7, q8, q9⟩ := hv.rg (i := i) (by omega)
        refine y_aload_n hC dX4_beginAgain_10 (i := 0) rfl rfl ?_
        refine y_get hC fX4_20 dX4_beginAgain_11 (k := b) (hX1.k (k := 0) (by decide)) hX1.s0 rfl ?_
        refine y_iload_n hC dX4_beginAgain_14 (i := 1) rfl rfl ?_
        refine y_aald hC (Or.inl ⟨rfl, rfl, rfl⟩ : yT 3 3 RX3) dX4_beginAgain_15 (k := b + 3) (j := i) (hX1.k (k := 3) (by decide)) hX1.s3 (rfl) (by omega) (by decide) ?_
        refine y_callV hC mX3_beginAgain kX4_78 dX4_beginAgain_16 (b := b + 5 + π (i)) (As := []) (rest := []) (c_X3_beginAgain l E g1 (b + 5 + π (i)) (hX1.kV (i := i) (by omega)) _ _ _ _ _ _ _ (hX1.rV hv (i := i) (by omega) (fun j hj => by rw [hr1 i (Nat.le_refl _)]; exact e3 i (by omega) j hj))) (hX1.kV (i := i) (by omega)) (hX1.rV hv (i := i) (by omega) (fun j hj => by rw [hr1 i (Nat.le_refl _)]; exact e3 i (by omega) j hj)) rfl rfl rfl (Nat.le_of_ble_eq_true rfl) ⟨Nat.le_of_ble_eq_true rfl, Nat.le_of_ble_eq_true rfl⟩ (pk_v ?_)
        rintro g_16 hq_16
        have hX_16 : SF E g g_16 b co pi π ρ (va_up V1 (i) (v7 (nI (rg r (i) 0)) (nI (rg r (i) 1)) (nI (rg r (i) 2)) (nI (rg r (i) 3)) (nI (rg r (i) 4)) (nI (0)) (nI (0)))) U (v4 (nI (rc r)) (nI (gc r)) (nI (nn (r 156))) (nI (nn (r 157)))) := by rw [hq_16]; exact hX1.upV (i := i) (by omega) (v7 (nI (rg r (i) 0)) (nI (rg r (i) 1)) (nI (rg r (i) 2)) (nI (rg r (i) 3)) (nI (rg r (i) 4)) (nI (0)) (nI (0)))
        refine y_iinc_n hC dX4_beginAgain_19 (a := i) (k := 1) rfl (by decide) (Nat.le_of_ble_eq_true rfl) rfl (lo' := [some (rf E (b)), some (.int (nI (i + 1)))]) rfl ?_
        refine y_goto (tgt := 2) hC dX4_beginAgain_22 (by decide) ?_
        have hk2 : ∀ k, k < i + 1 → ∀ j, j < 7 → (va_up V1 (i) (v7 (nI (rg r (i) 0)) (nI (rg r (i) 1)) (nI (rg r (i) 2)) (nI (rg r (i) 3)) (nI (rg r (i) 4)) (nI (0)) (nI (0)))) k j = begR r (33 + 7 * k + j) := by
          intro k hk
          by_cases e : k = i
          · subst e
            rw [va_up_self]
            refine v7_j (f := fun j => begR r (33 + 7 * k + j)) ?_ ?_ ?_ ?_ ?_ ?_ ?_
            all_goals unfold begR
            all_goals (repeat (first | rw [if_neg (by omega)] | rw [if_pos (by omega)]))
            all_goals first | exact (q1 0 (by decide)).symm | exact (q1 1 (by decide)).symm | exact (q1 2 (by decide)).symm | exact (q1 3 (by decide)).symm | exact (q1 4 (by decide)).symm | rfl
          · rw [va_up_ne _ _ e]
            exact hk1 k (by omega)
        exact ih_2 (i + 1) g_16 _ (by omega) (by omega) hX_16 hk2 (fun k hk => by rw [va_up_ne _ _ (by omega)]; exact hr1 k (by omega))
  exact L_2 (rc r + 1) 0 g V (by omega) (by omega) hX (fun k hk => absurd hk (Nat.not_lt_zero k)) (fun _ _ => rfl)

theorem dX4_appendRange_0 : decode cX4_appendRange 0 = .ok (.aload_n 0, 1) := by decide +kernel
theorem dX4_appendRange_1 : decode cX4_appendRange 1 = .ok (.getfield 20, 3) := by decide +kernel
theorem dX4_appendRange_4 : decode cX4_appendRange 4 = .ok (.aload_n 0, 1) := by decide +kernel
theorem dX4_appendRange_5 : decode cX4_appendRange 5 = .ok (.getfield 30, 3) := by decide +kernel
theorem dX4_appendRange_8 : decode cX4_appendRange 8 = .ok (.aaload, 1) := by decide +kernel
theorem dX4_appendRange_9 : decode cX4_appendRange 9 = .ok (.iload_n 1, 1) := by decide +kernel
theorem dX4_appendRange_10 : decode cX4_appendRange 10 = .ok (.iload_n 2, 1) := by decide +kernel
theorem dX4_appendRange_11 : decode cX4_appendRange 11 = .ok (.iload_n 3, 1) := by decide +kernel
theorem dX4_appendRange_12 : decode cX4_appendRange 12 = .ok (.iload 4, 2) := by decide +kernel
theorem dX4_appendRange_14 : decode cX4_appendRange 14 = .ok (.invokevirtual 71, 3) := by decide +kernel
theorem dX4_appendRange_17 : decode cX4_appendRange 17 = .ok (.aload_n 0, 1) := by decide +kernel
theorem dX4_appendRange_18 : decode cX4_appendRange 18 = .ok (.dup, 1) := by decide +kernel
theorem dX4_appendRange_19 : decode cX4_appendRange 19 = .ok (.getfield 30, 3) := by decide +kernel
theorem dX4_appendRange_22 : decode cX4_appendRange 22 = .ok (.iconst 1, 1) := by decide +kernel
theorem dX4_appendRange_23 : decode cX4_appendRange 23 = .ok (.iadd, 1) := by decide +kernel
theorem dX4_appendRange_24 : decode cX4_appendRange 24 = .ok (.putfield 30, 3) := by decide +kernel
theorem dX4_appendRange_27 : decode cX4_appendRange 27 = .ok (.aload_n 0, 1) := by decide +kernel
theorem dX4_appendRange_28 : decode cX4_appendRange 28 = .ok (.getfield 30, 3) := by decide +kernel
theorem dX4_appendRange_31 : decode cX4_appendRange 31 = .ok (.iconst 1, 1) := by decide +kernel
theorem dX4_appendRange_32 : decode cX4_appendRange 32 = .ok (.isub, 1) := by decide +kernel
theorem dX4_appendRange_33 : decode cX4_appendRange 33 = .ok (.ireturn, 1) := by decide +kernel
set_option maxHeartbeats 4000000 in
set_option maxRecDepth 100000 in
theorem c_X4_appendRange (l : Launch) (E : gE) (g : Mem) (b : Nat) (r : Row) (B : Nat) (hB : B < 100000000) (h : StA E g b r) (hv : Vr r B) (f la s w : Int32) (h6 : rc r < 6) : Mt l E yX4_appendRange cX4_appendRange 5 (some .int) 3 66 [rf E (b), .int (f), .int (la), .int (s), .int (w)] g (pI (fun z g' => z = nI (rc r) ∧ StA E g' b (addR r f la s w) ∧ Fr b g g')) := by
  obtain ⟨co, pi, π, ρ, V, U, hX, e1, e2, e3, e4⟩ := zStF h hv
  have hrc : rc r ≤ 6 := hv.1.2
  have hgc : gc r ≤ 4 := hv.2.1.2
  have ht1 : nn (r 156) ≤ B := hv.2.2.2.2.2.2.2.1.2
  have ht2 : nn (r 157) ≤ 7 * B := hv.2.2.2.2.2.2.2.2.2
  refine mt_go (own := RX4) (by decide) rfl (lo := [some (rf E (b)), some (.int (f)), some (.int (la)), some (.int (s)), some (.int (w))]) rfl (Nat.le_of_ble_eq_true rfl) (fun X hC => ?_)
  refine y_aload_n hC dX4_appendRange_0 (i := 0) rfl rfl ?_
  refine y_get hC fX4_20 dX4_appendRange_1 (k := b) (hX.k (k := 0) (by decide)) hX.s0 rfl ?_
  refine y_aload_n hC dX4_appendRange_4 (i := 0) rfl rfl ?_
  refine y_get hC fX4_30 dX4_appendRange_5 (k := b) (hX.k (k := 0) (by decide)) hX.s0 rfl ?_
  refine y_aald hC (Or.inl ⟨rfl, rfl, rfl⟩ : yT 3 3 RX3) dX4_appendRange_8 (k := b + 3) (j := rc r) (hX.k (k := 3) (by decide)) hX.s3 (rfl) (by omega) (by decide) ?_
  refine y_iload_n hC dX4_appendRange_9 (i := 1) rfl rfl ?_
  refine y_iload_n hC dX4_appendRange_10 (i := 2) rfl rfl ?_
  refine y_iload_n hC dX4_appendRange_11 (i := 3) rfl rfl ?_
  refine y_iload hC dX4_appendRange_12 rfl ?_
  refine y_callV hC mX3_begin kX4_71 dX4_appendRange_14 (b := b + 5 + π (rc r)) (As := [.int (f), .int (la), .int (s), .int (w)]) (rest := []) (c_X3_begin l E g (b + 5 + π (rc r)) (hX.kV (i := rc r) (by omega)) _ _ _ _ _ _ _ (hX.vV (i := rc r) (by omega)) f la s w) (hX.kV (i := rc r) (by omega)) (hX.vV (i := rc r) (by omega)) rfl rfl rfl (Nat.le_of_ble_eq_true rfl) ⟨Nat.le_of_ble_eq_true rfl, Nat.le_of_ble_eq_true rfl⟩ (pk_v ?_)
  rintro g_14 hq_14
  have hX_14 : SF E g g_14 b co pi π ρ (va_up V (rc r) (v7 ((f)) ((la)) ((s)) ((w)) (nI (1)) (nI (0)) (nI (0)))) U (v4 (nI (rc r)) (nI (gc r)) (nI (nn (r 156))) (nI (nn (r 157)))) := by rw [hq_14]; exact hX.upV (i := rc r) (by omega) (v7 ((f)) ((la)) ((s)) ((w)) (nI (1)) (nI (0)) (nI (0)))
  refine y_aload_n hC dX4_appendRange_17 (i := 0) rfl rfl ?_
  refine y_dup hC dX4_appendRange_18 rfl ?_
  refine y_get hC fX4_30 dX4_appendRange_19 (k := b) (hX_14.k (k := 0) (by decide)) hX_14.s0 rfl ?_
  refine y_iconst (v := nI 1) hC dX4_appendRange_22 (by decide) ?_
  refine y_iadd_n hC dX4_appendRange_23 ?_
  refine y_put hC fpX4_30 dX4_appendRange_24 (k := b) (hX_14.k (k := 0) (by decide)) hX_14.s0 (Nat.le_of_ble_eq_true rfl) (rfl) (rfl) (fs' := [rf E (b + 1), rf E (b + 2), rf E (b + 3), rf E (b + 4), .int (nI ((rc r) + 1)), .int (nI (gc r)), .int (nI (nn (r 156))), .int (nI (nn (r 157)))]) rfl ?_
  have hX_24 : SF E g (va_up g_14 (b) (oB 4 [rf E (b + 1), rf E (b + 2), rf E (b + 3), rf E (b + 4), .int (nI ((rc r) + 1)), .int (nI (gc r)), .int (nI (nn (r 156))), .int (nI (nn (r 157)))])) b co pi π ρ (va_up V (rc r) (v7 ((f)) ((la)) ((s)) ((w)) (nI (1)) (nI (0)) (nI (0)))) U (v4 (nI ((rc r) + 1)) (nI (gc r)) (nI (nn (r 156))) (nI (nn (r 157)))) := hX_14.upn (v4 (nI ((rc r) + 1)) (nI (gc r)) (nI (nn (r 156))) (nI (nn (r 157))))
  generalize (va_up g_14 (b) (oB 4 [rf E (b + 1), rf E (b + 2), rf E (b + 3), rf E (b + 4), .int (nI ((rc r) + 1)), .int (nI (gc r)), .int (nI (nn (r 156))), .int (nI (nn (r 157)))])) = g_24 at hX_24 ⊢
  refine y_aload_n hC dX4_appendRange_27 (i := 0) rfl rfl ?_
  refine y_get hC fX4_30 dX4_appendRange_28 (k := b) (hX_24.k (k := 0) (by decide)) hX_24.s0 rfl ?_
  refine y_iconst (v := nI 1) hC dX4_appendRange_31 (by decide) ?_
  refine y_isub hC dX4_appendRange_32 ?_
  refine y_iret (hC := hC) (hd := dX4_appendRange_33) (hq := ?_)
  have z32 : addR r f la s w 32 = nI (rc r + 1) := by unfold addR; (repeat (first | rw [if_neg (by omega)] | rw [if_pos (by omega)]))
  have z75 : addR r f la s w 75 = r 75 := by unfold addR; (repeat (first | rw [if_neg (by omega)] | rw [if_pos (by omega)]))
  have zrc : rc (addR r f la s w) = rc r + 1 := by unfold rc at *; rw [z32]; exact nn_I (by omega)
  refine ⟨pk_m1' _, hX_24.st ⟨fun k hk => by unfold addR; (repeat (first | rw [if_neg (by omega)] | rw [if_pos (by omega)])); exact e1 k hk, fun k hk => by unfold addR; (repeat (first | rw [if_neg (by omega)] | rw [if_pos (by omega)])); exact e2 k hk, ⟨by rw [z32]; rfl, by rw [z75, hv.2.1.1]; rfl, by unfold addR; (repeat (first | rw [if_neg (by omega)] | rw [if_pos (by omega)])); exact hv.2.2.2.2.2.2.2.1.1.symm, by unfold addR; (repeat (first | rw [if_neg (by omega)] | rw [if_pos (by omega)])); exact hv.2.2.2.2.2.2.2.2.1.symm⟩, fun k hk j hj => ?_, fun k hk j hj => ?_⟩⟩
  · rw [zrc] at hk
    by_cases e : k = rc r
    · rw [e, va_up_self]
      unfold addR
      (repeat (first | rw [if_neg (by omega)] | rw [if_pos (by omega)]))
      rw [show 33 + 7 * rc r + j - (33 + 7 * rc r) = j by omega]
    · rw [va_up_ne _ _ e]
      unfold addR
      (repeat (first | rw [if_neg (by omega)] | rw [if_pos (by omega)]))
      exact e3 k (by omega) j hj
  · rw [gc_of z75] at hk
    unfold addR
    (repeat (first | rw [if_neg (by omega)] | rw [if_pos (by omega)]))
    exact e4 k hk j hj

theorem dX4_appendGlow_0 : decode cX4_appendGlow 0 = .ok (.aload_n 0, 1) := by decide +kernel
theorem dX4_appendGlow_1 : decode cX4_appendGlow 1 = .ok (.getfield 26, 3) := by decide +kernel
theorem dX4_appendGlow_4 : decode cX4_appendGlow 4 = .ok (.aload_n 0, 1) := by decide +kernel
theorem dX4_appendGlow_5 : decode cX4_appendGlow 5 = .ok (.getfield 34, 3) := by decide +kernel
theorem dX4_appendGlow_8 : decode cX4_appendGlow 8 = .ok (.aaload, 1) := by decide +kernel
theorem dX4_appendGlow_9 : decode cX4_appendGlow 9 = .ok (.iload_n 1, 1) := by decide +kernel
theorem dX4_appendGlow_10 : decode cX4_appendGlow 10 = .ok (.iload_n 2, 1) := by decide +kernel
theorem dX4_appendGlow_11 : decode cX4_appendGlow 11 = .ok (.iload_n 3, 1) := by decide +kernel
theorem dX4_appendGlow_12 : decode cX4_appendGlow 12 = .ok (.invokevirtual 75, 3) := by decide +kernel
theorem dX4_appendGlow_15 : decode cX4_appendGlow 15 = .ok (.aload_n 0, 1) := by decide +kernel
theorem dX4_appendGlow_16 : decode cX4_appendGlow 16 = .ok (.dup, 1) := by decide +kernel
theorem dX4_appendGlow_17 : decode cX4_appendGlow 17 = .ok (.getfield 34, 3) := by decide +kernel
theorem dX4_appendGlow_20 : decode cX4_appendGlow 20 = .ok (.iconst 1, 1) := by decide +kernel
theorem dX4_appendGlow_21 : decode cX4_appendGlow 21 = .ok (.iadd, 1) := by decide +kernel
theorem dX4_appendGlow_22 : decode cX4_appendGlow 22 = .ok (.putfield 34, 3) := by decide +kernel
theorem dX4_appendGlow_25 : decode cX4_appendGlow 25 = .ok (.aload_n 0, 1) := by decide +kernel
theorem dX4_appendGlow_26 : decode cX4_appendGlow 26 = .ok (.getfield 34, 3) := by decide +kernel
theorem dX4_appendGlow_29 : decode cX4_appendGlow 29 = .ok (.iconst 1, 1) := by decide +kernel
theorem dX4_appendGlow_30 : decode cX4_appendGlow 30 = .ok (.isub, 1) := by decide +kernel
theorem dX4_appendGlow_31 : decode cX4_appendGlow 31 = .ok (.ireturn, 1) := by decide +kernel
set_option maxHeartbeats 4000000 in
set_option maxRecDepth 100000 in
theorem c_X4_appendGlow (l : Launch) (E : gE) (g : Mem) (b : Nat) (r : Row) (B : Nat) (hB : B < 100000000) (h : StA E g b r) (hv : Vr r B) (p c s : Int32) (h4 : gc r < 4) : Mt l E yX4_appendGlow cX4_appendGlow 4 (some .int) 1 23 [rf E (b), .int (p), .int (c), .int (s)] g (pI (fun z g' => z = nI (gc r) ∧ StA E g' b (addG r p c s) ∧ Fr b g g')) := by
  obtain ⟨co, pi, π, ρ, V, U, hX, e1, e2, e3, e4⟩ := zStF h hv
  have hrc : rc r ≤ 6 := hv.1.2
  have hgc : gc r ≤ 4 := hv.2.1.2
  have ht1 : nn (r 156) ≤ B := hv.2.2.2.2.2.2.2.1.2
  have ht2 : nn (r 157) ≤ 7 * B := hv.2.2.2.2.2.2.2.2.2
  refine mt_go (own := RX4) (by decide) rfl (lo := [some (rf E (b)), some (.int (p)), some (.int (c)), some (.int (s))]) rfl (Nat.le_of_ble_eq_true rfl) (fun X hC => ?_)
  refine y_aload_n hC dX4_appendGlow_0 (i := 0) rfl rfl ?_
  refine y_get hC fX4_26 dX4_appendGlow_1 (k := b) (hX.k (k := 0) (by decide)) hX.s0 rfl ?_
  refine y_aload_n hC dX4_appendGlow_4 (i := 0) rfl rfl ?_
  refine y_get hC fX4_34 dX4_appendGlow_5 (k := b) (hX.k (k := 0) (by decide)) hX.s0 rfl ?_
  refine y_aald hC (Or.inr (Or.inl ⟨rfl, rfl, rfl⟩) : yT 4 0 RX0) dX4_appendGlow_8 (k := b + 4) (j := gc r) (hX.k (k := 4) (by decide)) hX.s4 (rfl) (by omega) (by decide) ?_
  refine y_iload_n hC dX4_appendGlow_9 (i := 1) rfl rfl ?_
  refine y_iload_n hC dX4_appendGlow_10 (i := 2) rfl rfl ?_
  refine y_iload_n hC dX4_appendGlow_11 (i := 3) rfl rfl ?_
  refine y_callV hC mX0_begin kX4_75 dX4_appendGlow_12 (b := b + 11 + ρ (gc r)) (As := [.int (p), .int (c), .int (s)]) (rest := []) (c_X0_begin l E g (b + 11 + ρ (gc r)) (hX.kU (i := gc r) (by omega)) _ _ _ _ (hX.vU (i := gc r) (by omega)) p c s) (hX.kU (i := gc r) (by omega)) (hX.vU (i := gc r) (by omega)) rfl rfl rfl (Nat.le_of_ble_eq_true rfl) ⟨Nat.le_of_ble_eq_true rfl, Nat.le_of_ble_eq_true rfl⟩ (pk_v ?_)
  rintro g_12 hq_12
  have hX_12 : SF E g g_12 b co pi π ρ V (va_up U (gc r) (v4 ((p)) ((c)) ((s)) (nI (0)))) (v4 (nI (rc r)) (nI (gc r)) (nI (nn (r 156))) (nI (nn (r 157)))) := by rw [hq_12]; exact hX.upU (i := gc r) (by omega) (v4 ((p)) ((c)) ((s)) (nI (0)))
  refine y_aload_n hC dX4_appendGlow_15 (i := 0) rfl rfl ?_
  refine y_dup hC dX4_appendGlow_16 rfl ?_
  refine y_get hC fX4_34 dX4_appendGlow_17 (k := b) (hX_12.k (k := 0) (by decide)) hX_12.s0 rfl ?_
  refine y_iconst (v := nI 1) hC dX4_appendGlow_20 (by decide) ?_
  refine y_iadd_n hC dX4_appendGlow_21 ?_
  refine y_put hC fpX4_34 dX4_appendGlow_22 (k := b) (hX_12.k (k := 0) (by decide)) hX_12.s0 (Nat.le_of_ble_eq_true rfl) (rfl) (rfl) (fs' := [rf E (b + 1), rf E (b + 2), rf E (b + 3), rf E (b + 4), .int (nI (rc r)), .int (nI ((gc r) + 1)), .int (nI (nn (r 156))), .int (nI (nn (r 157)))]) rfl ?_
  have hX_22 : SF E g (va_up g_12 (b) (oB 4 [rf E (b + 1), rf E (b + 2), rf E (b + 3), rf E (b + 4), .int (nI (rc r)), .int (nI ((gc r) + 1)), .int (nI (nn (r 156))), .int (nI (nn (r 157)))])) b co pi π ρ V (va_up U (gc r) (v4 ((p)) ((c)) ((s)) (nI (0)))) (v4 (nI (rc r)) (nI ((gc r) + 1)) (nI (nn (r 156))) (nI (nn (r 157)))) := hX_12.upn (v4 (nI (rc r)) (nI ((gc r) + 1)) (nI (nn (r 156))) (nI (nn (r 157))))
  generalize (va_up g_12 (b) (oB 4 [rf E (b + 1), rf E (b + 2), rf E (b + 3), rf E (b + 4), .int (nI (rc r)), .int (nI ((gc r) + 1)), .int (nI (nn (r 156))), .int (nI (nn (r 157)))])) = g_22 at hX_22 ⊢
  refine y_aload_n hC dX4_appendGlow_25 (i := 0) rfl rfl ?_
  refine y_get hC fX4_34 dX4_appendGlow_26 (k := b) (hX_22.k (k := 0) (by decide)) hX_22.s0 rfl ?_
  refine y_iconst (v := nI 1) hC dX4_appendGlow_29 (by decide) ?_
  refine y_isub hC dX4_appendGlow_30 ?_
  refine y_iret (hC := hC) (hd := dX4_appendGlow_31) (hq := ?_)
  have z32 : addG r p c s 32 = r 32 := by unfold addG; (repeat (first | rw [if_neg (by omega)] | rw [if_pos (by omega)]))
  have z75 : addG r p c s 75 = nI (gc r + 1) := by unfold addG; (repeat (first | rw [if_neg (by omega)] | rw [if_pos (by omega)]))
  have zgc : gc (addG r p c s) = gc r + 1 := by unfold gc at *; rw [z75]; exact nn_I (by omega)
  refine ⟨pk_m1' _, hX_22.st ⟨fun k hk => by unfold addG; (repeat (first | rw [if_neg (by omega)] | rw [if_pos (by omega)])); exact e1 k hk, fun k hk => by unfold addG; (repeat (first | rw [if_neg (by omega)] | rw [if_pos (by omega)])); exact e2 k hk, ⟨by rw [z32, hv.1.1]; rfl, by rw [z75]; rfl, by unfold addG; (repeat (first | rw [if_neg (by omega)] | rw [if_pos (by omega)])); exact hv.2.2.2.2.2.2.2.1.1.symm, by unfold addG; (repeat (first | rw [if_neg (by omega)] | rw [if_pos (by omega)])); exact hv.2.2.2.2.2.2.2.2.1.symm⟩, fun k hk j hj => ?_, fun k hk j hj => ?_⟩⟩
  · rw [rc_of z32] at hk
    unfold addG
    (repeat (first | rw [if_neg (by omega)] | rw [if_pos (by omega)]))
    exact e3 k hk j hj
  · rw [zgc] at hk
    by_cases e : k = gc r
    · rw [e, va_up_self]
      unfold addG
      (repeat (first | rw [if_neg (by omega)] | rw [if_pos (by omega)]))
      rw [show 76 + 4 * gc r + j - (76 + 4 * gc r) = j by omega]
    · rw [va_up_ne _ _ e]
      unfold addG
      (repeat (first | rw [if_neg (by omega)] | rw [if_pos (by omega)]))
      exact e4 k (by omega) j hj

theorem dX4_dropRange_0 : decode cX4_dropRange 0 = .ok (.aload_n 0, 1) := by decide +kernel
theorem dX4_dropRange_1 : decode cX4_dropRange 1 = .ok (.getfield 20, 3) := by decide +kernel
theorem dX4_dropRange_4 : decode cX4_dropRange 4 = .ok (.iload_n 1, 1) := by decide +kernel
theorem dX4_dropRange_5 : decode cX4_dropRange 5 = .ok (.aaload, 1) := by decide +kernel
theorem dX4_dropRange_6 : decode cX4_dropRange 6 = .ok (.astore_n 2, 1) := by decide +kernel
theorem dX4_dropRange_7 : decode cX4_dropRange 7 = .ok (.aload_n 0, 1) := by decide +kernel
theorem dX4_dropRange_8 : decode cX4_dropRange 8 = .ok (.dup, 1) := by decide +kernel
theorem dX4_dropRange_9 : decode cX4_dropRange 9 = .ok (.getfield 30, 3) := by decide +kernel
theorem dX4_dropRange_12 : decode cX4_dropRange 12 = .ok (.iconst 1, 1) := by decide +kernel
theorem dX4_dropRange_13 : decode cX4_dropRange 13 = .ok (.isub, 1) := by decide +kernel
theorem dX4_dropRange_14 : decode cX4_dropRange 14 = .ok (.putfield 30, 3) := by decide +kernel
theorem dX4_dropRange_17 : decode cX4_dropRange 17 = .ok (.iload_n 1, 1) := by decide +kernel
theorem dX4_dropRange_18 : decode cX4_dropRange 18 = .ok (.istore_n 3, 1) := by decide +kernel
theorem dX4_dropRange_19 : decode cX4_dropRange 19 = .ok (.iload_n 3, 1) := by decide +kernel
theorem dX4_dropRange_20 : decode cX4_dropRange 20 = .ok (.aload_n 0, 1) := by decide +kernel
theorem dX4_dropRange_21 : decode cX4_dropRange 21 = .ok (.getfield 30, 3) := by decide +kernel
theorem dX4_dropRange_24 : decode cX4_dropRange 24 = .ok (.if_icmp .ge 23, 3) := by decide +kernel
theorem dX4_dropRange_27 : decode cX4_dropRange 27 = .ok (.aload_n 0, 1) := by decide +kernel
theorem dX4_dropRange_28 : decode cX4_dropRange 28 = .ok (.getfield 20, 3) := by decide +kernel
theorem dX4_dropRange_31 : decode cX4_dropRange 31 = .ok (.iload_n 3, 1) := by decide +kernel
theorem dX4_dropRange_32 : decode cX4_dropRange 32 = .ok (.aload_n 0, 1) := by decide +kernel
theorem dX4_dropRange_33 : decode cX4_dropRange 33 = .ok (.getfield 20, 3) := by decide +kernel
theorem dX4_dropRange_36 : decode cX4_dropRange 36 = .ok (.iload_n 3, 1) := by decide +kernel
theorem dX4_dropRange_37 : decode cX4_dropRange 37 = .ok (.iconst 1, 1) := by decide +kernel
theorem dX4_dropRange_38 : decode cX4_dropRange 38 = .ok (.iadd, 1) := by decide +kernel
theorem dX4_dropRange_39 : decode cX4_dropRange 39 = .ok (.aaload, 1) := by decide +kernel
theorem dX4_dropRange_40 : decode cX4_dropRange 40 = .ok (.aastore, 1) := by decide +kernel
theorem dX4_dropRange_41 : decode cX4_dropRange 41 = .ok (.iinc 3 1, 3) := by decide +kernel
theorem dX4_dropRange_44 : decode cX4_dropRange 44 = .ok (.goto (-25), 3) := by decide +kernel
theorem dX4_dropRange_47 : decode cX4_dropRange 47 = .ok (.aload_n 0, 1) := by decide +kernel
theorem dX4_dropRange_48 : decode cX4_dropRange 48 = .ok (.getfield 20, 3) := by decide +kernel
theorem dX4_dropRange_51 : decode cX4_dropRange 51 = .ok (.aload_n 0, 1) := by decide +kernel
theorem dX4_dropRange_52 : decode cX4_dropRange 52 = .ok (.getfield 30, 3) := by decide +kernel
theorem dX4_dropRange_55 : decode cX4_dropRange 55 = .ok (.aload_n 2, 1) := by decide +kernel
theorem dX4_dropRange_56 : decode cX4_dropRange 56 = .ok (.aastore, 1) := by decide +kernel
theorem dX4_dropRange_57 : decode cX4_dropRange 57 = .ok (.return_, 1) := by decide +kernel
set_option maxHeartbeats 4000000 in
set_option maxRecDepth 100000 in
theorem c_X4_dropRange (l : Launch) (E : gE) (g : Mem) (b : Nat) (r : Row) (B : Nat) (hB : B < 100000000) (h : StA E g b r) (hv : Vr r B) (a : Nat) (ha : a < rc r) : Mt l E yX4_dropRange cX4_dropRange 4 none 0 0 [rf E (b), .int (nI (a))] g (pV (fun g' => StA E g' b (remR r a) ∧ Fr b g g')) := by
  obtain ⟨co, pi, π, ρ, V, U, hX, e1, e2, e3, e4⟩ := zStF h hv
  have hrc : rc r ≤ 6 := hv.1.2
  have hgc : gc r ≤ 4 := hv.2.1.2
  have ht1 : nn (r 156) ≤ B := hv.2.2.2.2.2.2.2.1.2
  have ht2 : nn (r 157) ≤ 7 * B := hv.2.2.2.2.2.2.2.2.2
  refine mt_go (own := RX4) (by decide) rfl (lo := [some (rf E (b)), some (.int (nI (a))), none, none]) rfl (Nat.le_of_ble_eq_true rfl) (fun X hC => ?_)
  refine y_aload_n hC dX4_dropRange_0 (i := 0) rfl rfl ?_
  refine y_get hC fX4_20 dX4_dropRange_1 (k := b) (hX.k (k := 0) (by decide)) hX.s0 rfl ?_
  refine y_iload_n hC dX4_dropRange_4 (i := 1) rfl rfl ?_
  refine y_aald hC (Or.inl ⟨rfl, rfl, rfl⟩ : yT 3 3 RX3) dX4_dropRange_5 (k := b + 3) (j := a) (hX.k (k := 3) (by decide)) hX.s3 (rfl) (by omega) (by decide) ?_
  refine y_astore_n hC (o := some (b + 5 + π (a))) dX4_dropRange_6 (i := 2) rfl (Nat.le_of_ble_eq_true rfl) rfl (lo' := [some (rf E (b)), some (.int (nI (a))), some (rf E (b + 5 + π (a))), none]) rfl ?_
  refine y_aload_n hC dX4_dropRange_7 (i := 0) rfl rfl ?_
  refine y_dup hC dX4_dropRange_8 rfl ?_
  refine y_get hC fX4_30 dX4_dropRange_9 (k := b) (hX.k (k := 0) (by decide)) hX.s0 rfl ?_
  refine y_iconst (v := nI 1) hC dX4_dropRange_12 (by decide) ?_
  refine y_isub_n hC dX4_dropRange_13 (by omega) ?_
  refine y_put hC fpX4_30 dX4_dropRange_14 (k := b) (hX.k (k := 0) (by decide)) hX.s0 (Nat.le_of_ble_eq_true rfl) (rfl) (rfl) (fs' := [rf E (b + 1), rf E (b + 2), rf E (b + 3), rf E (b + 4), .int (nI ((rc r) - (1))), .int (nI (gc r)), .int (nI (nn (r 156))), .int (nI (nn (r 157)))]) rfl ?_
  have hX_14 : SF E g (va_up g (b) (oB 4 [rf E (b + 1), rf E (b + 2), rf E (b + 3), rf E (b + 4), .int (nI ((rc r) - (1))), .int (nI (gc r)), .int (nI (nn (r 156))), .int (nI (nn (r 157)))])) b co pi π ρ V U (v4 (nI ((rc r) - (1))) (nI (gc r)) (nI (nn (r 156))) (nI (nn (r 157)))) := hX.upn (v4 (nI ((rc r) - (1))) (nI (gc r)) (nI (nn (r 156))) (nI (nn (r 157))))
  generalize (va_up g (b) (oB 4 [rf E (b + 1), rf E (b + 2), rf E (b + 3), rf E (b + 4), .int (nI ((rc r) - (1))), .int (nI (gc r)), .int (nI (nn (r 156))), .int (nI (nn (r 157)))])) = g_14 at hX_14 ⊢
  refine y_iload_n hC dX4_dropRange_17 (i := 1) rfl rfl ?_
  refine y_istore_n hC dX4_dropRange_18 (i := 3) rfl (Nat.le_of_ble_eq_true rfl) rfl (lo' := [some (rf E (b)), some (.int (nI (a))), some (rf E (b + 5 + π (a))), some (.int (nI (a)))]) rfl ?_
  refine y_mem (g2 := va_up g_14 (b + 3) (aR E 3 6 (fun k => b + 5 + π (sft a (a) k)))) ?_ ?_
  · refine (zup_same ?_).symm
    rw [hX_14.s3]
    refine congrArg (aR E 3 6) (funext fun k => ?_)
    unfold sft
    rw [if_neg (by omega)]
  have L_19 : ∀ (m : Nat) (i : Nat), (hm : rc r - i < m) → (ha2 : a ≤ i) → (hi : i ≤ rc r - 1) → Y l E X (pV (fun g' => StA E g' b (remR r a) ∧ Fr b g g')) 19 [some (rf E (b)), some (.int (nI (a))), some (rf E (b + 5 + π (a))), some (.int (nI (i)))] [] (va_up g_14 (b + 3) (aR E 3 6 (fun k => b + 5 + π (sft a (i) k)))) := by
    intro m
    induction m with
    | zero => intro i hm ha2 hi; exact absurd hm (Nat.not_lt_zero _)
    | succ m ih_19 =>
      intro i hm ha2 hi
      refine y_iload_n hC dX4_dropRange_19 (i := 3) rfl rfl ?_
      refine y_aload_n hC dX4_dropRange_20 (i := 0) rfl rfl ?_
      refine y_get hC fX4_30 dX4_dropRange_21 (k := b) (hX_14.k (k := 0) (by decide)) ((va_up_ne _ _ (by omega)).trans hX_14.s0) rfl ?_
      refine y_icmp_ge_n (tgt := 47) hC dX4_dropRange_24 (by decide) (by omega) (by omega) (fun c_24 => ?_) (fun c_24 => ?_)
      · refine y_aload_n hC dX4_dropRange_47 (i := 0) rfl rfl ?_
        refine y_get hC fX4_20 dX4_dropRange_48 (k := b) (hX_14.k (k := 0) (by decide)) ((va_up_ne _ _ (by omega)).trans hX_14.s0) rfl ?_
        refine y_aload_n hC dX4_dropRange_51 (i := 0) rfl rfl ?_
        refine y_get hC fX4_30 dX4_dropRange_52 (k := b) (hX_14.k (k := 0) (by decide)) ((va_up_ne _ _ (by omega)).trans hX_14.s0) rfl ?_
        refine y_aload_n hC dX4_dropRange_55 (i := 2) rfl rfl ?_
        refine y_aast hC (Or.inl ⟨rfl, rfl, rfl⟩ : yT 3 3 RX3) dX4_dropRange_56 (k := b + 3) (j := rc r - 1) (hX_14.k (k := 3) (by decide)) (va_up_self _ _ _) (r := b + 5 + π (a)) (hX_14.kV (i := a) (by omega)) ((va_up_ne _ _ (by omega)).trans (hX_14.gV (i := a) (by omega))) (rfl) (by omega) (by decide) ?_
        refine y_mem (g2 := va_up g_14 (b + 3) (aR E 3 6 (fun k => b + 5 + π (cyc a (rc r - 1) k)))) ?_ ?_
        · rw [zup_up]
          refine congrArg (va_up g_14 (b + 3)) (congrArg (aR E 3 6) (funext fun k => ?_))
          by_cases e : k = rc r - 1
          · rw [e, va_up_self]
            unfold cyc
            (repeat (first | rw [if_neg (by omega)] | rw [if_pos (by omega)]))
          · rw [va_up_ne _ _ e]
            unfold cyc sft
            by_cases e2 : a ≤ k ∧ k < i
            · rw [if_pos e2, if_pos ⟨e2.1, by omega⟩]
            · rw [if_neg e2, if_neg (by omega), if_neg e]
        refine y_vret (hC := hC) (hd := dX4_dropRange_57) (hq := ?_)
        have hfin := hX_14.perm (cyc_pm (a := a) (m := rc r - 1) (n := 6) (by omega) (by omega))
        have z32 : remR r a 32 = nI (rc r - 1) := by unfold remR; (repeat (first | rw [if_neg (by omega)] | rw [if_pos (by omega)]))
        have z75 : remR r a 75 = r 75 := by unfold remR; (repeat (first | rw [if_neg (by omega)] | rw [if_pos (by omega)]))
        have zc : rc (remR r a) = rc r - 1 := by unfold rc at *; rw [z32]; exact nn_I (by omega)
        refine hfin.st ⟨fun k hk => by unfold remR; (repeat (first | rw [if_neg (by omega)] | rw [if_pos (by omega)])); exact e1 k hk, fun k hk => by unfold remR; (repeat (first | rw [if_neg (by omega)] | rw [if_pos (by omega)])); exact e2 k hk, ⟨by rw [z32]; rfl, by rw [z75, hv.2.1.1]; rfl, by unfold remR; (repeat (first | rw [if_neg (by omega)] | rw [if_pos (by omega)])); exact hv.2.2.2.2.2.2.2.1.1.symm, by unfold remR; (repeat (first | rw [if_neg (by omega)] | rw [if_pos (by omega)])); exact hv.2.2.2.2.2.2.2.2.1.symm⟩, fun k hk j hj => ?_, fun k hk j hj => ?_⟩
        · rw [zc] at hk
          show V (cyc a (rc r - 1) k) j = _
          unfold cyc remR
          by_cases e : a ≤ k
          · (repeat (first | rw [if_neg (by omega)] | rw [if_pos (by omega)]))
            rw [e3 (k + 1) (by omega) j hj]
            exact congrArg r (by omega)
          · (repeat (first | rw [if_neg (by omega)] | rw [if_pos (by omega)]))
            exact e3 k (by omega) j hj
        · rw [gc_of z75] at hk
          unfold remR
          (repeat (first | rw [if_neg (by omega)] | rw [if_pos (by omega)]))
          exact e4 k hk j hj
      · refine y_aload_n hC dX4_dropRange_27 (i := 0) rfl rfl ?_
        refine y_get hC fX4_20 dX4_dropRange_28 (k := b) (hX_14.k (k := 0) (by decide)) ((va_up_ne _ _ (by omega)).trans hX_14.s0) rfl ?_
        refine y_iload_n hC dX4_dropRange_31 (i := 3) rfl rfl ?_
        refine y_aload_n hC dX4_dropRange_32 (i := 0) rfl rfl ?_
        refine y_get hC fX4_20 dX4_dropRange_33 (k := b) (hX_14.k (k := 0) (by decide)) ((va_up_ne _ _ (by omega)).trans hX_14.s0) rfl ?_
        refine y_iload_n hC dX4_dropRange_36 (i := 3) rfl rfl ?_
        refine y_iconst (v := nI 1) hC dX4_dropRange_37 (by decide) ?_
        refine y_iadd_n hC dX4_dropRange_38 ?_
        refine y_aald hC (Or.inl ⟨rfl, rfl, rfl⟩ : yT 3 3 RX3) dX4_dropRange_39 (k := b + 3) (j := i + 1) (hX_14.k (k := 3) (by decide)) (va_up_self _ _ _) (rfl) (by omega) (by decide) ?_
        refine y_mem rfl ?_
        show Y l E X _ 40 _ (rf E (b + 5 + π (sft a i (i + 1))) :: _) _
        rw [show sft a i (i + 1) = i + 1 from by unfold sft; (repeat (first | rw [if_neg (by omega)] | rw [if_pos (by omega)]))]
        refine y_aast hC (Or.inl ⟨rfl, rfl, rfl⟩ : yT 3 3 RX3) dX4_dropRange_40 (k := b + 3) (j := i) (hX_14.k (k := 3) (by decide)) (va_up_self _ _ _) (r := b + 5 + π (i + 1)) (hX_14.kV (i := i + 1) (by omega)) ((va_up_ne _ _ (by omega)).trans (hX_14.gV (i := i + 1) (by omega))) (rfl) (by omega) (by decide) ?_
        refine y_mem (g2 := va_up g_14 (b + 3) (aR E 3 6 (fun k => b + 5 + π (sft a (i + 1) k)))) ?_ ?_
        · rw [zup_up]
          refine congrArg (va_up g_14 (b + 3)) (congrArg (aR E 3 6) (funext fun k => ?_))
          by_cases e : k = i
          · rw [e, va_up_self]
            unfold sft
            (repeat (first | rw [if_neg (by omega)] | rw [if_pos (by omega)]))
          · rw [va_up_ne _ _ e]
            unfold sft
            by_cases e2 : a ≤ k ∧ k < i
            · rw [if_pos e2, if_pos ⟨e2.1, by omega⟩]
            · rw [if_neg e2, if_neg (by omega)]
        refine y_iinc_n hC dX4_dropRange_41 (a := i) (k := 1) rfl (by decide) (Nat.le_of_ble_eq_true rfl) rfl (lo' := [some (rf E (b)), some (.int (nI (a))), some (rf E (b + 5 + π (a))), some (.int (nI (i + 1)))]) rfl ?_
        refine y_goto (tgt := 19) hC dX4_dropRange_44 (by decide) ?_
        exact ih_19 (i + 1) (by omega) (by omega) (by omega)
  exact L_19 (rc r + 1) a (by omega) (by omega) (by omega)

theorem dX4_dropGlow_0 : decode cX4_dropGlow 0 = .ok (.aload_n 0, 1) := by decide +kernel
theorem dX4_dropGlow_1 : decode cX4_dropGlow 1 = .ok (.getfield 26, 3) := by decide +kernel
theorem dX4_dropGlow_4 : decode cX4_dropGlow 4 = .ok (.iload_n 1, 1) := by decide +kernel
theorem dX4_dropGlow_5 : decode cX4_dropGlow 5 = .ok (.aaload, 1) := by decide +kernel
theorem dX4_dropGlow_6 : decode cX4_dropGlow 6 = .ok (.astore_n 2, 1) := by decide +kernel
theorem dX4_dropGlow_7 : decode cX4_dropGlow 7 = .ok (.aload_n 0, 1) := by decide +kernel
theorem dX4_dropGlow_8 : decode cX4_dropGlow 8 = .ok (.dup, 1) := by decide +kernel
theorem dX4_dropGlow_9 : decode cX4_dropGlow 9 = .ok (.getfield 34, 3) := by decide +kernel
theorem dX4_dropGlow_12 : decode cX4_dropGlow 12 = .ok (.iconst 1, 1) := by decide +kernel
theorem dX4_dropGlow_13 : decode cX4_dropGlow 13 = .ok (.isub, 1) := by decide +kernel
theorem dX4_dropGlow_14 : decode cX4_dropGlow 14 = .ok (.putfield 34, 3) := by decide +kernel
theorem dX4_dropGlow_17 : decode cX4_dropGlow 17 = .ok (.iload_n 1, 1) := by decide +kernel
theorem dX4_dropGlow_18 : decode cX4_dropGlow 18 = .ok (.istore_n 3, 1) := by decide +kernel
theorem dX4_dropGlow_19 : decode cX4_dropGlow 19 = .ok (.iload_n 3, 1) := by decide +kernel
theorem dX4_dropGlow_20 : decode cX4_dropGlow 20 = .ok (.aload_n 0, 1) := by decide +kernel
theorem dX4_dropGlow_21 : decode cX4_dropGlow 21 = .ok (.getfield 34, 3) := by decide +kernel
theorem dX4_dropGlow_24 : decode cX4_dropGlow 24 = .ok (.if_icmp .ge 23, 3) := by decide +kernel
theorem dX4_dropGlow_27 : decode cX4_dropGlow 27 = .ok (.aload_n 0, 1) := by decide +kernel
theorem dX4_dropGlow_28 : decode cX4_dropGlow 28 = .ok (.getfield 26, 3) := by decide +kernel
theorem dX4_dropGlow_31 : decode cX4_dropGlow 31 = .ok (.iload_n 3, 1) := by decide +kernel
theorem dX4_dropGlow_32 : decode cX4_dropGlow 32 = .ok (.aload_n 0, 1) := by decide +kernel
theorem dX4_dropGlow_33 : decode cX4_dropGlow 33 = .ok (.getfield 26, 3) := by decide +kernel
theorem dX4_dropGlow_36 : decode cX4_dropGlow 36 = .ok (.iload_n 3, 1) := by decide +kernel
theorem dX4_dropGlow_37 : decode cX4_dropGlow 37 = .ok (.iconst 1, 1) := by decide +kernel
theorem dX4_dropGlow_38 : decode cX4_dropGlow 38 = .ok (.iadd, 1) := by decide +kernel
theorem dX4_dropGlow_39 : decode cX4_dropGlow 39 = .ok (.aaload, 1) := by decide +kernel
theorem dX4_dropGlow_40 : decode cX4_dropGlow 40 = .ok (.aastore, 1) := by decide +kernel
theorem dX4_dropGlow_41 : decode cX4_dropGlow 41 = .ok (.iinc 3 1, 3) := by decide +kernel
theorem dX4_dropGlow_44 : decode cX4_dropGlow 44 = .ok (.goto (-25), 3) := by decide +kernel
theorem dX4_dropGlow_47 : decode cX4_dropGlow 47 = .ok (.aload_n 0, 1) := by decide +kernel
theorem dX4_dropGlow_48 : decode cX4_dropGlow 48 = .ok (.getfield 26, 3) := by decide +kernel
theorem dX4_dropGlow_51 : decode cX4_dropGlow 51 = .ok (.aload_n 0, 1) := by decide +kernel
theorem dX4_dropGlow_52 : decode cX4_dropGlow 52 = .ok (.getfield 34, 3) := by decide +kernel
theorem dX4_dropGlow_55 : decode cX4_dropGlow 55 = .ok (.aload_n 2, 1) := by decide +kernel
theorem dX4_dropGlow_56 : decode cX4_dropGlow 56 = .ok (.aastore, 1) := by decide +kernel
theorem dX4_dropGlow_57 : decode cX4_dropGlow 57 = .ok (.return_, 1) := by decide +kernel
set_option maxHeartbeats 4000000 in
set_option maxRecDepth 100000 in
theorem c_X4_dropGlow (l : Launch) (E : gE) (g : Mem) (b : Nat) (r : Row) (B : Nat) (hB : B < 100000000) (h : StA E g b r) (hv : Vr r B) (a : Nat) (ha : a < gc r) : Mt l E yX4_dropGlow cX4_dropGlow 4 none 0 0 [rf E (b), .int (nI (a))] g (pV (fun g' => StA E g' b (remG r a) ∧ Fr b g g')) := by
  obtain ⟨co, pi, π, ρ, V, U, hX, e1, e2, e3, e4⟩ := zStF h hv
  have hrc : rc r ≤ 6 := hv.1.2
  have hgc : gc r ≤ 4 := hv.2.1.2
  have ht1 : nn (r 156) ≤ B := hv.2.2.2.2.2.2.2.1.2
  have ht2 : nn (r 157) ≤ 7 * B := hv.2.2.2.2.2.2.2.2.2
  refine mt_go (own := RX4) (by decide) rfl (lo := [some (rf E (b)), some (.int (nI (a))), none, none]) rfl (Nat.le_of_ble_eq_true rfl) (fun X hC => ?_)
  refine y_aload_n hC dX4_dropGlow_0 (i := 0) rfl rfl ?_
  refine y_get hC fX4_26 dX4_dropGlow_1 (k := b) (hX.k (k := 0) (by decide)) hX.s0 rfl ?_
  refine y_iload_n hC dX4_dropGlow_4 (i := 1) rfl rfl ?_
  refine y_aald hC (Or.inr (Or.inl ⟨rfl, rfl, rfl⟩) : yT 4 0 RX0) dX4_dropGlow_5 (k := b + 4) (j := a) (hX.k (k := 4) (by decide)) hX.s4 (rfl) (by omega) (by decide) ?_
  refine y_astore_n hC (o := some (b + 11 + ρ (a))) dX4_dropGlow_6 (i := 2) rfl (Nat.le_of_ble_eq_true rfl) rfl (lo' := [some (rf E (b)), some (.int (nI (a))), some (rf E (b + 11 + ρ (a))), none]) rfl ?_
  refine y_aload_n hC dX4_dropGlow_7 (i := 0) rfl rfl ?_
  refine y_dup hC dX4_dropGlow_8 rfl ?_
  refine y_get hC fX4_34 dX4_dropGlow_9 (k := b) (hX.k (k := 0) (by decide)) hX.s0 rfl ?_
  refine y_iconst (v := nI 1) hC dX4_dropGlow_12 (by decide) ?_
  refine y_isub_n hC dX4_dropGlow_13 (by omega) ?_
  refine y_put hC fpX4_34 dX4_dropGlow_14 (k := b) (hX.k (k := 0) (by decide)) hX.s0 (Nat.le_of_ble_eq_true rfl) (rfl) (rfl) (fs' := [rf E (b + 1), rf E (b + 2), rf E (b + 3), rf E (b + 4), .int (nI (rc r)), .int (nI ((gc r) - (1))), .int (nI (nn (r 156))), .int (nI (nn (r 157)))]) rfl ?_
  have hX_14 : SF E g (va_up g (b) (oB 4 [rf E (b + 1), rf E (b + 2), rf E (b + 3), rf E (b + 4), .int (nI (rc r)), .int (nI ((gc r) - (1))), .int (nI (nn (r 156))), .int (nI (nn (r 157)))])) b co pi π ρ V U (v4 (nI (rc r)) (nI ((gc r) - (1))) (nI (nn (r 156))) (nI (nn (r 157)))) := hX.upn (v4 (nI (rc r)) (nI ((gc r) - (1))) (nI (nn (r 156))) (nI (nn (r 157))))
  generalize (va_up g (b) (oB 4 [rf E (b + 1), rf E (b + 2), rf E (b + 3), rf E (b + 4), .int (nI (rc r)), .int (nI ((gc r) - (1))), .int (nI (nn (r 156))), .int (nI (nn (r 157)))])) = g_14 at hX_14 ⊢
  refine y_iload_n hC dX4_dropGlow_17 (i := 1) rfl rfl ?_
  refine y_istore_n hC dX4_dropGlow_18 (i := 3) rfl (Nat.le_of_ble_eq_true rfl) rfl (lo' := [some (rf E (b)), some (.int (nI (a))), some (rf E (b + 11 + ρ (a))), some (.int (nI (a)))]) rfl ?_
  refine y_mem (g2 := va_up g_14 (b + 4) (aR E 4 4 (fun k => b + 11 + ρ (sft a (a) k)))) ?_ ?_
  · refine (zup_same ?_).symm
    rw [hX_14.s4]
    refine congrArg (aR E 4 4) (funext fun k => ?_)
    unfold sft
    rw [if_neg (by omega)]
  have L_19 : ∀ (m : Nat) (i : Nat), (hm : gc r - i < m) → (ha2 : a ≤ i) → (hi : i ≤ gc r - 1) → Y l E X (pV (fun g' => StA E g' b (remG r a) ∧ Fr b g g')) 19 [some (rf E (b)), some (.int (nI (a))), some (rf E (b + 11 + ρ (a))), some (.int (nI (i)))] [] (va_up g_14 (b + 4) (aR E 4 4 (fun k => b + 11 + ρ (sft a (i) k)))) := by
    intro m
    induction m with
    | zero => intro i hm ha2 hi; exact absurd hm (Nat.not_lt_zero _)
    | succ m ih_19 =>
      intro i hm ha2 hi
      refine y_iload_n hC dX4_dropGlow_19 (i := 3) rfl rfl ?_
      refine y_aload_n hC dX4_dropGlow_20 (i := 0) rfl rfl ?_
      refine y_get hC fX4_34 dX4_dropGlow_21 (k := b) (hX_14.k (k := 0) (by decide)) ((va_up_ne _ _ (by omega)).trans hX_14.s0) rfl ?_
      refine y_icmp_ge_n (tgt := 47) hC dX4_dropGlow_24 (by decide) (by omega) (by omega) (fun c_24 => ?_) (fun c_24 => ?_)
      · refine y_aload_n hC dX4_dropGlow_47 (i := 0) rfl rfl ?_
        refine y_get hC fX4_26 dX4_dropGlow_48 (k := b) (hX_14.k (k := 0) (by decide)) ((va_up_ne _ _ (by omega)).trans hX_14.s0) rfl ?_
        refine y_aload_n hC dX4_dropGlow_51 (i := 0) rfl rfl ?_
        refine y_get hC fX4_34 dX4_dropGlow_52 (k := b) (hX_14.k (k := 0) (by decide)) ((va_up_ne _ _ (by omega)).trans hX_14.s0) rfl ?_
        refine y_aload_n hC dX4_dropGlow_55 (i := 2) rfl rfl ?_
        refine y_aast hC (Or.inr (Or.inl ⟨rfl, rfl, rfl⟩) : yT 4 0 RX0) dX4_dropGlow_56 (k := b + 4) (j := gc r - 1) (hX_14.k (k := 4) (by decide)) (va_up_self _ _ _) (r := b + 11 + ρ (a)) (hX_14.kU (i := a) (by omega)) ((va_up_ne _ _ (by omega)).trans (hX_14.gU (i := a) (by omega))) (rfl) (by omega) (by decide) ?_
        refine y_mem (g2 := va_up g_14 (b + 4) (aR E 4 4 (fun k => b + 11 + ρ (cyc a (gc r - 1) k)))) ?_ ?_
        · rw [zup_up]
          refine congrArg (va_up g_14 (b + 4)) (congrArg (aR E 4 4) (funext fun k => ?_))
          by_cases e : k = gc r - 1
          · rw [e, va_up_self]
            unfold cyc
            (repeat (first | rw [if_neg (by omega)] | rw [if_pos (by omega)]))
          · rw [va_up_ne _ _ e]
            unfold cyc sft
            by_cases e2 : a ≤ k ∧ k < i
            · rw [if_pos e2, if_pos ⟨e2.1, by omega⟩]
            · rw [if_neg e2, if_neg (by omega), if_neg e]
        refine y_vret (hC := hC) (hd := dX4_dropGlow_57) (hq := ?_)
        have hfin := hX_14.permG (cyc_pm (a := a) (m := gc r - 1) (n := 4) (by omega) (by omega))
        have z32 : remG r a 32 = r 32 := by unfold remG; (repeat (first | rw [if_neg (by omega)] | rw [if_pos (by omega)]))
        have z75 : remG r a 75 = nI (gc r - 1) := by unfold remG; (repeat (first | rw [if_neg (by omega)] | rw [if_pos (by omega)]))
        have zc : gc (remG r a) = gc r - 1 := by unfold gc at *; rw [z75]; exact nn_I (by omega)
        refine hfin.st ⟨fun k hk => by unfold remG; (repeat (first | rw [if_neg (by omega)] | rw [if_pos (by omega)])); exact e1 k hk, fun k hk => by unfold remG; (repeat (first | rw [if_neg (by omega)] | rw [if_pos (by omega)])); exact e2 k hk, ⟨by rw [z32, hv.1.1]; rfl, by rw [z75]; rfl, by unfold remG; (repeat (first | rw [if_neg (by omega)] | rw [if_pos (by omega)])); exact hv.2.2.2.2.2.2.2.1.1.symm, by unfold remG; (repeat (first | rw [if_neg (by omega)] | rw [if_pos (by omega)])); exact hv.2.2.2.2.2.2.2.2.1.symm⟩, fun k hk j hj => ?_, fun k hk j hj => ?_⟩
        · rw [rc_of z32] at hk
          unfold remG
          (repeat (first | rw [if_neg (by omega)] | rw [if_pos (by omega)]))
          exact e3 k hk j hj
        · rw [zc] at hk
          show U (cyc a (gc r - 1) k) j = _
          unfold cyc remG
          by_cases e : a ≤ k
          · (repeat (first | rw [if_neg (by omega)] | rw [if_pos (by omega)]))
            rw [e4 (k + 1) (by omega) j hj]
            exact congrArg r (by omega)
          · (repeat (first | rw [if_neg (by omega)] | rw [if_pos (by omega)]))
            exact e4 k (by omega) j hj
      · refine y_aload_n hC dX4_dropGlow_27 (i := 0) rfl rfl ?_
        refine y_get hC fX4_26 dX4_dropGlow_28 (k := b) (hX_14.k (k := 0) (by decide)) ((va_up_ne _ _ (by omega)).trans hX_14.s0) rfl ?_
        refine y_iload_n hC dX4_dropGlow_31 (i := 3) rfl rfl ?_
        refine y_aload_n hC dX4_dropGlow_32 (i := 0) rfl rfl ?_
        refine y_get hC fX4_26 dX4_dropGlow_33 (k := b) (hX_14.k (k := 0) (by decide)) ((va_up_ne _ _ (by omega)).trans hX_14.s0) rfl ?_
        refine y_iload_n hC dX4_dropGlow_36 (i := 3) rfl rfl ?_
        refine y_iconst (v := nI 1) hC dX4_dropGlow_37 (by decide) ?_
        refine y_iadd_n hC dX4_dropGlow_38 ?_
        refine y_aald hC (Or.inr (Or.inl ⟨rfl, rfl, rfl⟩) : yT 4 0 RX0) dX4_dropGlow_39 (k := b + 4) (j := i + 1) (hX_14.k (k := 4) (by decide)) (va_up_self _ _ _) (rfl) (by omega) (by decide) ?_
        refine y_mem rfl ?_
        show Y l E X _ 40 _ (rf E (b + 11 + ρ (sft a i (i + 1))) :: _) _
        rw [show sft a i (i + 1) = i + 1 from by unfold sft; (repeat (first | rw [if_neg (by omega)] | rw [if_pos (by omega)]))]
        refine y_aast hC (Or.inr (Or.inl ⟨rfl, rfl, rfl⟩) : yT 4 0 RX0) dX4_dropGlow_40 (k := b + 4) (j := i) (hX_14.k (k := 4) (by decide)) (va_up_self _ _ _) (r := b + 11 + ρ (i + 1)) (hX_14.kU (i := i + 1) (by omega)) ((va_up_ne _ _ (by omega)).trans (hX_14.gU (i := i + 1) (by omega))) (rfl) (by omega) (by decide) ?_
        refine y_mem (g2 := va_up g_14 (b + 4) (aR E 4 4 (fun k => b + 11 + ρ (sft a (i + 1) k)))) ?_ ?_
        · rw [zup_up]
          refine congrArg (va_up g_14 (b + 4)) (congrArg (aR E 4 4) (funext fun k => ?_))
          by_cases e : k = i
          · rw [e, va_up_self]
            unfold sft
            (repeat (first | rw [if_neg (by omega)] | rw [if_pos (by omega)]))
          · rw [va_up_ne _ _ e]
            unfold sft
            by_cases e2 : a ≤ k ∧ k < i
            · rw [if_pos e2, if_pos ⟨e2.1, by omega⟩]
            · rw [if_neg e2, if_neg (by omega)]
        refine y_iinc_n hC dX4_dropGlow_41 (a := i) (k := 1) rfl (by decide) (Nat.le_of_ble_eq_true rfl) rfl (lo' := [some (rf E (b)), some (.int (nI (a))), some (rf E (b + 11 + ρ (a))), some (.int (nI (i + 1)))]) rfl ?_
        refine y_goto (tgt := 19) hC dX4_dropGlow_44 (by decide) ?_
        exact ih_19 (i + 1) (by omega) (by omega) (by omega)
  exact L_19 (gc r + 1) a (by omega) (by omega) (by omega)
end
section
/-! ===== a state copied; the history ===== -/
theorem zb01 {n : Nat} (h : n ≤ 1) : nI n = 0 ∨ nI n = 1 := by
  rcases (show n = 0 ∨ n = 1 by omega) with rfl | rfl
  · exact Or.inl rfl
  · exact Or.inr rfl
theorem zcpy0 {f h : Nat → Int32} {n k : Nat} (hk : k < n) : va_cpy f h 0 0 n k = f k := by
  rw [pk_cpy_in (Nat.zero_le _) (by omega)]
  exact congrArg f (by omega)
theorem dX4_copy_0 : decode cX4_copy 0 = .ok (.aload_n 1, 1) := by decide +kernel
theorem dX4_copy_1 : decode cX4_copy 1 = .ok (.getfield 9, 3) := by decide +kernel
theorem dX4_copy_4 : decode cX4_copy 4 = .ok (.iconst 0, 1) := by decide +kernel
theorem dX4_copy_5 : decode cX4_copy 5 = .ok (.aload_n 0, 1) := by decide +kernel
theorem dX4_copy_6 : decode cX4_copy 6 = .ok (.getfield 9, 3) := by decide +kernel
theorem dX4_copy_9 : decode cX4_copy 9 = .ok (.iconst 0, 1) := by decide +kernel
theorem dX4_copy_10 : decode cX4_copy 10 = .ok (.bipush 32, 2) := by decide +kernel
theorem dX4_copy_12 : decode cX4_copy 12 = .ok (.invokestatic 45, 3) := by decide +kernel
theorem dX4_copy_15 : decode cX4_copy 15 = .ok (.aload_n 1, 1) := by decide +kernel
theorem dX4_copy_16 : decode cX4_copy 16 = .ok (.getfield 15, 3) := by decide +kernel
theorem dX4_copy_19 : decode cX4_copy 19 = .ok (.iconst 0, 1) := by decide +kernel
theorem dX4_copy_20 : decode cX4_copy 20 = .ok (.aload_n 0, 1) := by decide +kernel
theorem dX4_copy_21 : decode cX4_copy 21 = .ok (.getfield 15, 3) := by decide +kernel
theorem dX4_copy_24 : decode cX4_copy 24 = .ok (.iconst 0, 1) := by decide +kernel
theorem dX4_copy_25 : decode cX4_copy 25 = .ok (.bipush 64, 2) := by decide +kernel
theorem dX4_copy_27 : decode cX4_copy 27 = .ok (.invokestatic 45, 3) := by decide +kernel
theorem dX4_copy_30 : decode cX4_copy 30 = .ok (.aload_n 0, 1) := by decide +kernel
theorem dX4_copy_31 : decode cX4_copy 31 = .ok (.aload_n 1, 1) := by decide +kernel
theorem dX4_copy_32 : decode cX4_copy 32 = .ok (.getfield 30, 3) := by decide +kernel
theorem dX4_copy_35 : decode cX4_copy 35 = .ok (.putfield 30, 3) := by decide +kernel
theorem dX4_copy_38 : decode cX4_copy 38 = .ok (.iconst 0, 1) := by decide +kernel
theorem dX4_copy_39 : decode cX4_copy 39 = .ok (.istore_n 2, 1) := by decide +kernel
theorem dX4_copy_40 : decode cX4_copy 40 = .ok (.iload_n 2, 1) := by decide +kernel
theorem dX4_copy_41 : decode cX4_copy 41 = .ok (.aload_n 0, 1) := by decide +kernel
theorem dX4_copy_42 : decode cX4_copy 42 = .ok (.getfield 30, 3) := by decide +kernel
theorem dX4_copy_45 : decode cX4_copy 45 = .ok (.if_icmp .ge 24, 3) := by decide +kernel
theorem dX4_copy_48 : decode cX4_copy 48 = .ok (.aload_n 0, 1) := by decide +kernel
theorem dX4_copy_49 : decode cX4_copy 49 = .ok (.getfield 20, 3) := by decide +kernel
theorem dX4_copy_52 : decode cX4_copy 52 = .ok (.iload_n 2, 1) := by decide +kernel
theorem dX4_copy_53 : decode cX4_copy 53 = .ok (.aaload, 1) := by decide +kernel
theorem dX4_copy_54 : decode cX4_copy 54 = .ok (.aload_n 1, 1) := by decide +kernel
theorem dX4_copy_55 : decode cX4_copy 55 = .ok (.getfield 20, 3) := by decide +kernel
theorem dX4_copy_58 : decode cX4_copy 58 = .ok (.iload_n 2, 1) := by decide +kernel
theorem dX4_copy_59 : decode cX4_copy 59 = .ok (.aaload, 1) := by decide +kernel
theorem dX4_copy_60 : decode cX4_copy 60 = .ok (.invokevirtual 51, 3) := by decide +kernel
theorem dX4_copy_63 : decode cX4_copy 63 = .ok (.iinc 2 1, 3) := by decide +kernel
theorem dX4_copy_66 : decode cX4_copy 66 = .ok (.goto (-26), 3) := by decide +kernel
theorem dX4_copy_69 : decode cX4_copy 69 = .ok (.aload_n 0, 1) := by decide +kernel
theorem dX4_copy_70 : decode cX4_copy 70 = .ok (.aload_n 1, 1) := by decide +kernel
theorem dX4_copy_71 : decode cX4_copy 71 = .ok (.getfield 34, 3) := by decide +kernel
theorem dX4_copy_74 : decode cX4_copy 74 = .ok (.putfield 34, 3) := by decide +kernel
theorem dX4_copy_77 : decode cX4_copy 77 = .ok (.iconst 0, 1) := by decide +kernel
theorem dX4_copy_78 : decode cX4_copy 78 = .ok (.istore_n 2, 1) := by decide +kernel
theorem dX4_copy_79 : decode cX4_copy 79 = .ok (.iload_n 2, 1) := by decide +kernel
theorem dX4_copy_80 : decode cX4_copy 80 = .ok (.aload_n 0, 1) := by decide +kernel
theorem dX4_copy_81 : decode cX4_copy 81 = .ok (.getfield 34, 3) := by decide +kernel
theorem dX4_copy_84 : decode cX4_copy 84 = .ok (.if_icmp .ge 24, 3) := by decide +kernel
theorem dX4_copy_87 : decode cX4_copy 87 = .ok (.aload_n 0, 1) := by decide +kernel
theorem dX4_copy_88 : decode cX4_copy 88 = .ok (.getfield 26, 3) := by decide +kernel
theorem dX4_copy_91 : decode cX4_copy 91 = .ok (.iload_n 2, 1) := by decide +kernel
theorem dX4_copy_92 : decode cX4_copy 92 = .ok (.aaload, 1) := by decide +kernel
theorem dX4_copy_93 : decode cX4_copy 93 = .ok (.aload_n 1, 1) := by decide +kernel
theorem dX4_copy_94 : decode cX4_copy 94 = .ok (.getfield 26, 3) := by decide +kernel
theorem dX4_copy_97 : decode cX4_copy 97 = .ok (.iload_n 2, 1) := by decide +kernel
theorem dX4_copy_98 : decode cX4_copy 98 = .ok (.aaload, 1) := by decide +kernel
theorem dX4_copy_99 : decode cX4_copy 99 = .ok (.invokevirtual 55, 3) := by decide +kernel
theorem dX4_copy_102 : decode cX4_copy 102 = .ok (.iinc 2 1, 3) := by decide +kernel
theorem dX4_copy_105 : decode cX4_copy 105 = .ok (.goto (-26), 3) := by decide +kernel
theorem dX4_copy_108 : decode cX4_copy 108 = .ok (.aload_n 0, 1) := by decide +kernel
theorem dX4_copy_109 : decode cX4_copy 109 = .ok (.aload_n 1, 1) := by decide +kernel
theorem dX4_copy_110 : decode cX4_copy 110 = .ok (.getfield 37, 3) := by decide +kernel
theorem dX4_copy_113 : decode cX4_copy 113 = .ok (.putfield 37, 3) := by decide +kernel
theorem dX4_copy_116 : decode cX4_copy 116 = .ok (.aload_n 0, 1) := by decide +kernel
theorem dX4_copy_117 : decode cX4_copy 117 = .ok (.aload_n 1, 1) := by decide +kernel
theorem dX4_copy_118 : decode cX4_copy 118 = .ok (.getfield 40, 3) := by decide +kernel
theorem dX4_copy_121 : decode cX4_copy 121 = .ok (.putfield 40, 3) := by decide +kernel
theorem dX4_copy_124 : decode cX4_copy 124 = .ok (.return_, 1) := by decide +kernel
set_option maxHeartbeats 4000000 in
set_option maxRecDepth 100000 in
theorem c_X4_copy (l : Launch) (E : gE) (g : Mem) (b b2 : Nat) (r r2 : Row) (B : Nat) (h : StA E g b r) (h2 : StA E g b2 r2) (hv2 : Vr r2 B) (hd : b2 + 15 ≤ b ∨ b + 15 ≤ b2) : Mt l E yX4_copy cX4_copy 3 none 1 26 [rf E (b), rf E (b2)] g (pV (fun g' => StA E g' b r2 ∧ Fr b g g')) := by
  obtain ⟨co, pi, π, ρ, V, U, n, hX0, -⟩ := h
  have hX := hX0.eta
  obtain ⟨co2, pi2, π2, ρ2, V2, U2, hZ, f1, f2, f3, f4⟩ := zStF h2 hv2
  have hrc : rc r2 ≤ 6 := hv2.1.2
  have hgc : gc r2 ≤ 4 := hv2.2.1.2
  refine mt_go (own := RX4) (by decide) rfl (lo := [some (rf E (b)), some (rf E (b2)), none]) rfl (Nat.le_of_ble_eq_true rfl) (fun X hC => ?_)
  refine y_aload_n hC dX4_copy_0 (i := 1) rfl rfl ?_
  refine y_get hC fX4_9 dX4_copy_1 (k := b2) (hZ.k (k := 0) (by decide)) hZ.s0 rfl ?_
  refine y_iconst (v := nI 0) hC dX4_copy_4 (by decide) ?_
  refine y_aload_n hC dX4_copy_5 (i := 0) rfl rfl ?_
  refine y_get hC fX4_9 dX4_copy_6 (k := b) (hX.k (k := 0) (by decide)) hX.s0 rfl ?_
  refine y_iconst (v := nI 0) hC dX4_copy_9 (by decide) ?_
  refine y_bipush (v := nI 32) hC dX4_copy_10 (by decide) ?_
  refine y_copy hC rfl kX4_45 wac_n wac_s wsys dX4_copy_12 (k := b2 + 1) (k2 := b + 1) (hZ.k (k := 1) (by decide)) hZ.s1 (hX.k (k := 1) (by decide)) hX.s1 (a := 0) (b := 0) (z := 32) rfl rfl rfl (by decide) (by decide) (by decide) (by decide) (by decide) (Nat.le_of_ble_eq_true rfl) ?_
  have hX_12 : SF E g (va_up g (b + 1) (aI E 0 32 (va_cpy co2 co (0) (0) (32)))) b (va_cpy co2 co (0) (0) (32)) pi π ρ V U (v4 ((n 0)) ((n 1)) ((n 2)) ((n 3))) := hX.upco _
  generalize (va_up g (b + 1) (aI E 0 32 (va_cpy co2 co (0) (0) (32)))) = g_12 at hX_12 ⊢
  have hZ_12 := hZ.on hX_12.fr hd
  refine y_aload_n hC dX4_copy_15 (i := 1) rfl rfl ?_
  refine y_get hC fX4_15 dX4_copy_16 (k := b2) (hZ_12.k (k := 0) (by decide)) hZ_12.s0 rfl ?_
  refine y_iconst (v := nI 0) hC dX4_copy_19 (by decide) ?_
  refine y_aload_n hC dX4_copy_20 (i := 0) rfl rfl ?_
  refine y_get hC fX4_15 dX4_copy_21 (k := b) (hX_12.k (k := 0) (by decide)) hX_12.s0 rfl ?_
  refine y_iconst (v := nI 0) hC dX4_copy_24 (by decide) ?_
  refine y_bipush (v := nI 64) hC dX4_copy_25 (by decide) ?_
  refine y_copy hC rfl kX4_45 wac_n wac_s wsys dX4_copy_27 (k := b2 + 2) (k2 := b + 2) (hZ_12.k (k := 2) (by decide)) hZ_12.s2 (hX_12.k (k := 2) (by decide)) hX_12.s2 (a := 0) (b := 0) (z := 64) rfl rfl rfl (by decide) (by decide) (by decide) (by decide) (by decide) (Nat.le_of_ble_eq_true rfl) ?_
  have hX_27 : SF E g (va_up g_12 (b + 2) (aI E 0 64 (va_cpy pi2 pi (0) (0) (64)))) b (va_cpy co2 co (0) (0) (32)) (va_cpy pi2 pi (0) (0) (64)) π ρ V U (v4 ((n 0)) ((n 1)) ((n 2)) ((n 3))) := hX_12.uppi _
  generalize (va_up g_12 (b + 2) (aI E 0 64 (va_cpy pi2 pi (0) (0) (64)))) = g_27 at hX_27 ⊢
  have hZ_27 := hZ.on hX_27.fr hd
  refine y_aload_n hC dX4_copy_30 (i := 0) rfl rfl ?_
  refine y_aload_n hC dX4_copy_31 (i := 1) rfl rfl ?_
  refine y_get hC fX4_30 dX4_copy_32 (k := b2) (hZ_27.k (k := 0) (by decide)) hZ_27.s0 rfl ?_
  refine y_put hC fpX4_30 dX4_copy_35 (k := b) (hX_27.k (k := 0) (by decide)) hX_27.s0 (Nat.le_of_ble_eq_true rfl) (rfl) (rfl) (fs' := [rf E (b + 1), rf E (b + 2), rf E (b + 3), rf E (b + 4), .int (nI (rc r2)), .int (n 1), .int (n 2), .int (n 3)]) rfl ?_
  have hX_35 : SF E g (va_up g_27 (b) (oB 4 [rf E (b + 1), rf E (b + 2), rf E (b + 3), rf E (b + 4), .int (nI (rc r2)), .int (n 1), .int (n 2), .int (n 3)])) b (va_cpy co2 co (0) (0) (32)) (va_cpy pi2 pi (0) (0) (64)) π ρ V U (v4 (nI (rc r2)) ((n 1)) ((n 2)) ((n 3))) := hX_27.upn (v4 (nI (rc r2)) ((n 1)) ((n 2)) ((n 3)))
  generalize (va_up g_27 (b) (oB 4 [rf E (b + 1), rf E (b + 2), rf E (b + 3), rf E (b + 4), .int (nI (rc r2)), .int (n 1), .int (n 2), .int (n 3)])) = g_35 at hX_35 ⊢
  have hZ_35 := hZ.on hX_35.fr hd
  refine y_iconst (v := nI 0) hC dX4_copy_38 (by decide) ?_
  refine y_istore_n hC dX4_copy_39 (i := 2) rfl (Nat.le_of_ble_eq_true rfl) rfl (lo' := [some (rf E (b)), some (rf E (b2)), some (.int (nI (0)))]) rfl ?_
  have L_40 : ∀ (m : Nat) (i : Nat) (g1 : Mem) (V1 : Nat → Nat → Int32), (hm : rc r2 - i < m) → (hi : i ≤ rc r2) → (hX1 : SF E g g1 b (va_cpy co2 co (0) (0) (32)) (va_cpy pi2 pi (0) (0) (64)) π ρ V1 U (v4 (nI (rc r2)) ((n 1)) ((n 2)) ((n 3)))) → (hk1 : ∀ k, k < i → ∀ j, j < 7 → V1 k j = r2 (33 + 7 * k + j)) → Y l E X (pV (fun g' => StA E g' b r2 ∧ Fr b g g')) 40 [some (rf E (b)), some (rf E (b2)), some (.int (nI (i)))] [] g1 := by
    intro m
    induction m with
    | zero => intro i g1 V1 hm hi hX1 hk1; exact absurd hm (Nat.not_lt_zero _)
    | succ m ih_40 =>
      intro i g1 V1 hm hi hX1 hk1
      have hZ1 := hZ.on hX1.fr hd
      refine y_iload_n hC dX4_copy_40 (i := 2) rfl rfl ?_
      refine y_aload_n hC dX4_copy_41 (i := 0) rfl rfl ?_
      refine y_get hC fX4_30 dX4_copy_42 (k := b) (hX1.k (k := 0) (by decide)) hX1.s0 rfl ?_
      refine y_icmp_ge_n (tgt := 69) hC dX4_copy_45 (by decide) (by omega) (by omega) (fun c_45 => ?_) (fun c_45 => ?_)
      · refine y_aload_n hC dX4_copy_69 (i := 0) rfl rfl ?_
        refine y_aload_n hC dX4_copy_70 (i := 1) rfl rfl ?_
        refine y_get hC fX4_34 dX4_copy_71 (k := b2) (hZ1.k (k := 0) (by decide)) hZ1.s0 rfl ?_
        refine y_put hC fpX4_34 dX4_copy_74 (k := b) (hX1.k (k := 0) (by decide)) hX1.s0 (Nat.le_of_ble_eq_true rfl) (rfl) (rfl) (fs' := [rf E (b + 1), rf E (b + 2), rf E (b + 3), rf E (b + 4), .int (nI (rc r2)), .int (nI (gc r2)), .int (n 2), .int (n 3)]) rfl ?_
        have hX_74 : SF E g (va_up g1 (b) (oB 4 [rf E (b + 1), rf E (b + 2), rf E (b + 3), rf E (b + 4), .int (nI (rc r2)), .int (nI (gc r2)), .int (n 2), .int (n 3)])) b (va_cpy co2 co (0) (0) (32)) (va_cpy pi2 pi (0) (0) (64)) π ρ V1 U (v4 (nI (rc r2)) (nI (gc r2)) ((n 2)) ((n 3))) := hX1.upn (v4 (nI (rc r2)) (nI (gc r2)) ((n 2)) ((n 3)))
        generalize (va_up g1 (b) (oB 4 [rf E (b + 1), rf E (b + 2), rf E (b + 3), rf E (b + 4), .int (nI (rc r2)), .int (nI (gc r2)), .int (n 2), .int (n 3)])) = g_74 at hX_74 ⊢
        have hZ_74 := hZ.on hX_74.fr hd
        refine y_iconst (v := nI 0) hC dX4_copy_77 (by decide) ?_
        refine y_istore_n hC dX4_copy_78 (i := 2) rfl (Nat.le_of_ble_eq_true rfl) rfl (lo' := [some (rf E (b)), some (rf E (b2)), some (.int (nI (0)))]) rfl ?_
        have hk3 : ∀ k, k < rc r2 → ∀ j, j < 7 → V1 k j = r2 (33 + 7 * k + j) := fun k hk => hk1 k (by omega)
        clear hk1 hi ih_40
        have L_79 : ∀ (m : Nat) (i : Nat) (g2 : Mem) (U1 : Nat → Nat → Int32), (hm : gc r2 - i < m) → (hi : i ≤ gc r2) → (hX2 : SF E g g2 b (va_cpy co2 co (0) (0) (32)) (va_cpy pi2 pi (0) (0) (64)) π ρ V1 U1 (v4 (nI (rc r2)) (nI (gc r2)) ((n 2)) ((n 3)))) → (hs1 : ∀ k, k < i → ∀ j, j < 4 → U1 k j = r2 (76 + 4 * k + j)) → Y l E X (pV (fun g' => StA E g' b r2 ∧ Fr b g g')) 79 [some (rf E (b)), some (rf E (b2)), some (.int (nI (i)))] [] g2 := by
          intro m
          induction m with
          | zero => intro i g2 U1 hm hi hX2 hs1; exact absurd hm (Nat.not_lt_zero _)
          | succ m ih_79 =>
            intro i g2 U1 hm hi hX2 hs1
            have hZ2 := hZ.on hX2.fr hd
            refine y_iload_n hC dX4_copy_79 (i := 2) rfl rfl ?_
            refine y_aload_n hC dX4_copy_80 (i := 0) rfl rfl ?_
            refine y_get hC fX4_34 dX4_copy_81 (k := b) (hX2.k (k := 0) (by decide)) hX2.s0 rfl ?_
            refine y_icmp_ge_n (tgt := 108) hC dX4_copy_84 (by decide) (by omega) (by omega) (fun c_84 => ?_) (fun c_84 => ?_)
            · refine y_aload_n hC dX4_copy_108 (i := 0) rfl rfl ?_
              refine y_aload_n hC dX4_copy_109 (i := 1) rfl rfl ?_
              refine y_get hC fX4_37 dX4_copy_110 (k := b2) (hZ2.k (k := 0) (by decide)) hZ2.s0 rfl ?_
              refine y_put hC fpX4_37 dX4_copy_113 (k := b) (hX2.k (k := 0) (by decide)) hX2.s0 (Nat.le_of_ble_eq_true rfl) (rfl) (rfl) (fs' := [rf E (b + 1), rf E (b + 2), rf E (b + 3), rf E (b + 4), .int (nI (rc r2)), .int (nI (gc r2)), .int (nI (nn (r2 156))), .int (n 3)]) rfl ?_
              have hX_113 : SF E g (va_up g2 (b) (oB 4 [rf E (b + 1), rf E (b + 2), rf E (b + 3), rf E (b + 4), .int (nI (rc r2)), .int (nI (gc r2)), .int (nI (nn (r2 156))), .int (n 3)])) b (va_cpy co2 co (0) (0) (32)) (va_cpy pi2 pi (0) (0) (64)) π ρ V1 U1 (v4 (nI (rc r2)) (nI (gc r2)) (nI (nn (r2 156))) ((n 3))) := hX2.upn (v4 (nI (rc r2)) (nI (gc r2)) (nI (nn (r2 156))) ((n 3)))
              generalize (va_up g2 (b) (oB 4 [rf E (b + 1), rf E (b + 2), rf E (b + 3), rf E (b + 4), .int (nI (rc r2)), .int (nI (gc r2)), .int (nI (nn (r2 156))), .int (n 3)])) = g_113 at hX_113 ⊢
              have hZ_113 := hZ.on hX_113.fr hd
              refine y_aload_n hC dX4_copy_116 (i := 0) rfl rfl ?_
              refine y_aload_n hC dX4_copy_117 (i := 1) rfl rfl ?_
              refine y_get hC fX4_40 dX4_copy_118 (k := b2) (hZ_113.k (k := 0) (by decide)) hZ_113.s0 rfl ?_
              refine y_put hC fpX4_40 dX4_copy_121 (k := b) (hX_113.k (k := 0) (by decide)) hX_113.s0 (Nat.le_of_ble_eq_true rfl) (rfl) (rfl) (fs' := [rf E (b + 1), rf E (b + 2), rf E (b + 3), rf E (b + 4), .int (nI (rc r2)), .int (nI (gc r2)), .int (nI (nn (r2 156))), .int (nI (nn (r2 157)))]) rfl ?_
              have hX_121 : SF E g (va_up g_113 (b) (oB 4 [rf E (b + 1), rf E (b + 2), rf E (b + 3), rf E (b + 4), .int (nI (rc r2)), .int (nI (gc r2)), .int (nI (nn (r2 156))), .int (nI (nn (r2 157)))])) b (va_cpy co2 co (0) (0) (32)) (va_cpy pi2 pi (0) (0) (64)) π ρ V1 U1 (v4 (nI (rc r2)) (nI (gc r2)) (nI (nn (r2 156))) (nI (nn (r2 157)))) := hX_113.upn (v4 (nI (rc r2)) (nI (gc r2)) (nI (nn (r2 156))) (nI (nn (r2 157))))
              generalize (va_up g_113 (b) (oB 4 [rf E (b + 1), rf E (b + 2), rf E (b + 3), rf E (b + 4), .int (nI (rc r2)), .int (nI (gc r2)), .int (nI (nn (r2 156))), .int (nI (nn (r2 157)))])) = g_121 at hX_121 ⊢
              have hZ_121 := hZ.on hX_121.fr hd
              refine y_vret (hC := hC) (hd := dX4_copy_124) (hq := ?_)
              exact hX_121.st ⟨fun k hk => (zcpy0 hk).trans (f1 k hk), fun k hk => (zcpy0 hk).trans (f2 k hk), ⟨hv2.1.1.symm, hv2.2.1.1.symm, hv2.2.2.2.2.2.2.2.1.1.symm, hv2.2.2.2.2.2.2.2.2.1.symm⟩, hk3, fun k hk => hs1 k (by omega)⟩
            · have hlt : i < gc r2 := by omega
              obtain ⟨⟨q1, q2, q3⟩, -⟩ := hv2.gl (i := i) hlt
              have hne : b2 + 11 + ρ2 i ≠ b + 11 + ρ i := by
                have h1 := hX2.2.2.2.2.2.2.2.2.1.1 i (by omega)
                have h2 := hZ2.2.2.2.2.2.2.2.2.1.1 i (by omega)
                omega
              refine y_aload_n hC dX4_copy_87 (i := 0) rfl rfl ?_
              refine y_get hC fX4_26 dX4_copy_88 (k := b) (hX2.k (k := 0) (by decide)) hX2.s0 rfl ?_
              refine y_iload_n hC dX4_copy_91 (i := 2) rfl rfl ?_
              refine y_aald hC (Or.inr (Or.inl ⟨rfl, rfl, rfl⟩) : yT 4 0 RX0) dX4_copy_92 (k := b + 4) (j := i) (hX2.k (k := 4) (by decide)) hX2.s4 (rfl) (by omega) (by decide) ?_
              refine y_aload_n hC dX4_copy_93 (i := 1) rfl rfl ?_
              refine y_get hC fX4_26 dX4_copy_94 (k := b2) (hZ2.k (k := 0) (by decide)) hZ2.s0 rfl ?_
              refine y_iload_n hC dX4_copy_97 (i := 2) rfl rfl ?_
              refine y_aald hC (Or.inr (Or.inl ⟨rfl, rfl, rfl⟩) : yT 4 0 RX0) dX4_copy_98 (k := b2 + 4) (j := i) (hZ2.k (k := 4) (by decide)) hZ2.s4 (rfl) (by omega) (by decide) ?_
              refine y_callV hC mX0_copy kX4_55 dX4_copy_99 (b := b + 11 + ρ (i)) (As := [rf E (b2 + 11 + ρ2 (i))]) (rest := []) (c_X0_copy l E g2 (b + 11 + ρ (i)) (hX2.kU (i := i) (by omega)) _ _ _ _ (hX2.vU (i := i) (by omega)) (b2 + 11 + ρ2 (i)) (hZ2.kU (i := i) (by omega)) hne _ _ _ _ (hZ2.rU hv2 (i := i) (by omega) (f4 i (by omega)))) (hX2.kU (i := i) (by omega)) (hX2.vU (i := i) (by omega)) rfl rfl rfl (Nat.le_of_ble_eq_true rfl) ⟨Nat.le_of_ble_eq_true rfl, Nat.le_of_ble_eq_true rfl⟩ (pk_v ?_)
              rintro g_99 hq_99
              have hX_99 : SF E g g_99 b (va_cpy co2 co (0) (0) (32)) (va_cpy pi2 pi (0) (0) (64)) π ρ V1 (va_up U1 (i) (v4 (nI (gl r2 (i) 0)) ((r2 (76 + 4 * (i) + 1))) (nI (gl r2 (i) 2)) (nI (gl r2 (i) 3)))) (v4 (nI (rc r2)) (nI (gc r2)) ((n 2)) ((n 3))) := by rw [hq_99]; exact hX2.upU (i := i) (by omega) (v4 (nI (gl r2 (i) 0)) ((r2 (76 + 4 * (i) + 1))) (nI (gl r2 (i) 2)) (nI (gl r2 (i) 3)))
              refine y_iinc_n hC dX4_copy_102 (a := i) (k := 1) rfl (by decide) (Nat.le_of_ble_eq_true rfl) rfl (lo' := [some (rf E (b)), some (rf E (b2)), some (.int (nI (i + 1)))]) rfl ?_
              refine y_goto (tgt := 79) hC dX4_copy_105 (by decide) ?_
              have hk2 : ∀ k, k < i + 1 → ∀ j, j < 4 → (va_up U1 (i) (v4 (nI (gl r2 (i) 0)) ((r2 (76 + 4 * (i) + 1))) (nI (gl r2 (i) 2)) (nI (gl r2 (i) 3)))) k j = r2 (76 + 4 * k + j) := by
                intro k hk
                by_cases e : k = i
                · subst e
                  rw [va_up_self]
                  exact v4_j (f := fun j => r2 (76 + 4 * k + j)) q1.symm rfl q2.symm q3.symm
                · rw [va_up_ne _ _ e]
                  exact hs1 k (by omega)
              exact ih_79 (i + 1) g_99 _ (by omega) (by omega) hX_99 hk2
        exact L_79 (gc r2 + 1) 0 g_74 U (by omega) (by omega) hX_74 (fun k hk => absurd hk (Nat.not_lt_zero k))
      · have hlt : i < rc r2 := by omega
        obtain ⟨q1, q2, q3, q4, q5, q6, q7, q8, q9⟩ := hv2.rg (i := i) hlt
        have hne : b2 + 5 + π2 i ≠ b + 5 + π i := by
          have h1 := hX1.2.2.2.2.2.2.2.1.1 i (by omega)
          have h2 := hZ1.2.2.2.2.2.2.2.1.1 i (by omega)
          omega
        refine y_aload_n hC dX4_copy_48 (i := 0) rfl rfl ?_
        refine y_get hC fX4_20 dX4_copy_49 (k := b) (hX1.k (k := 0) (by decide)) hX1.s0 rfl ?_
        refine y_iload_n hC dX4_copy_52 (i := 2) rfl rfl ?_
        refine y_aald hC (Or.inl ⟨rfl, rfl, rfl⟩ : yT 3 3 RX3) dX4_copy_53 (k := b + 3) (j := i) (hX1.k (k := 3) (by decide)) hX1.s3 (rfl) (by omega) (by decide) ?_
        refine y_aload_n hC dX4_copy_54 (i := 1) rfl rfl ?_
        refine y_get hC fX4_20 dX4_copy_55 (k := b2) (hZ1.k (k := 0) (by decide)) hZ1.s0 rfl ?_
        refine y_iload_n hC dX4_copy_58 (i := 2) rfl rfl ?_
        refine y_aald hC (Or.inl ⟨rfl, rfl, rfl⟩ : yT 3 3 RX3) dX4_copy_59 (k := b2 + 3) (j := i) (hZ1.k (k := 3) (by decide)) hZ1.s3 (rfl) (by omega) (by decide) ?_
        refine y_callV hC mX3_copy kX4_51 dX4_copy_60 (b := b + 5 + π (i)) (As := [rf E (b2 + 5 + π2 (i))]) (rest := []) (c_X3_copy l E g1 (b + 5 + π (i)) (hX1.kV (i := i) (by omega)) _ _ _ _ _ _ _ (hX1.vV (i := i) (by omega)) (b2 + 5 + π2 (i)) (hZ1.kV (i := i) (by omega)) hne _ _ _ _ _ _ _ (zb01 q7) (hZ1.rV hv2 (i := i) (by omega) (f3 i (by omega)))) (hX1.kV (i := i) (by omega)) (hX1.vV (i := i) (by omega)) rfl rfl rfl (Nat.le_of_ble_eq_true rfl) ⟨Nat.le_of_ble_eq_true rfl, Nat.le_of_ble_eq_true rfl⟩ (pk_v ?_)
        rintro g_60 hq_60
        have hX_60 : SF E g g_60 b (va_cpy co2 co (0) (0) (32)) (va_cpy pi2 pi (0) (0) (64)) π ρ (va_up V1 (i) (v7 (nI (rg r2 (i) 0)) (nI (rg r2 (i) 1)) (nI (rg r2 (i) 2)) (nI (rg r2 (i) 3)) (nI (rg r2 (i) 4)) (nI (rg r2 (i) 5)) (nI (rg r2 (i) 6)))) U (v4 (nI (rc r2)) ((n 1)) ((n 2)) ((n 3))) := by rw [hq_60]; exact hX1.upV (i := i) (by omega) (v7 (nI (rg r2 (i) 0)) (nI (rg r2 (i) 1)) (nI (rg r2 (i) 2)) (nI (rg r2 (i) 3)) (nI (rg r2 (i) 4)) (nI (rg r2 (i) 5)) (nI (rg r2 (i) 6)))
        refine y_iinc_n hC dX4_copy_63 (a := i) (k := 1) rfl (by decide) (Nat.le_of_ble_eq_true rfl) rfl (lo' := [some (rf E (b)), some (rf E (b2)), some (.int (nI (i + 1)))]) rfl ?_
        refine y_goto (tgt := 40) hC dX4_copy_66 (by decide) ?_
        have hk2 : ∀ k, k < i + 1 → ∀ j, j < 7 → (va_up V1 (i) (v7 (nI (rg r2 (i) 0)) (nI (rg r2 (i) 1)) (nI (rg r2 (i) 2)) (nI (rg r2 (i) 3)) (nI (rg r2 (i) 4)) (nI (rg r2 (i) 5)) (nI (rg r2 (i) 6)))) k j = r2 (33 + 7 * k + j) := by
          intro k hk
          by_cases e : k = i
          · subst e
            rw [va_up_self]
            exact v7_j (f := fun j => r2 (33 + 7 * k + j)) (q1 0 (by decide)).symm (q1 1 (by decide)).symm (q1 2 (by decide)).symm (q1 3 (by decide)).symm (q1 4 (by decide)).symm (q1 5 (by decide)).symm (q1 6 (by decide)).symm
          · rw [va_up_ne _ _ e]
            exact hk1 k (by omega)
        exact ih_40 (i + 1) g_60 _ (by omega) (by omega) hX_60 hk2
  exact L_40 (rc r2 + 1) 0 g_35 V (by omega) (by omega) hX_35 (fun k hk => absurd hk (Nat.not_lt_zero k))

/-- the history: c states, the oldest first; the snapshot, if there is one -/
def HA (E : gE) (g : Mem) (c kp : Nat) (hr : Nat → Row) (sn : Row) : Prop :=
  100 ≤ eK E ∧ c ≤ 4 ∧ kp ≤ 1 ∧ g 16 = oB 1 [rf E 17, rf E 18, .int (nI c), .int (nI kp)] ∧
  (∃ π : Nat → Nat, Pm 4 π ∧ g 17 = aR E 5 4 (fun i => 33 + 15 * π i) ∧ (∀ i, i < 4 → ∃ r, StA E g (33 + 15 * π i) r) ∧ ∀ i, i < c → StA E g (33 + 15 * π i) (hr i)) ∧ (∃ r, StA E g 18 r) ∧ (kp = 1 → StA E g 18 sn)
def recC (c : Nat) : Nat := if c = 4 then 4 else c + 1
def recH (c : Nat) (hr : Nat → Row) (r : Row) : Nat → Row := fun i => if c = 4 then (if i < 3 then hr (i + 1) else r) else if i < c then hr i else r
/-- outside the history's cells nothing has changed -/
def Fh (g g2 : Mem) : Prop := ∀ k, k < 16 ∨ 93 ≤ k → g2 k = g k
theorem StA.ne16 {E : gE} {g : Mem} {b k : Nat} {e : va_E} {r : Row} (h : StA E g b r) (hk : k < b ∨ b + 15 ≤ k) : StA E (va_up g k e) b r := h.keep (fun j h1 h2 => va_up_ne _ _ (by omega))
theorem StA.of_lt {E : gE} {g : Mem} {b : Nat} {r : Row} (h : StA E g b r) : b < eK E ∧ ∃ fs, g b = oB 4 fs := by
  obtain ⟨co, pi, π, ρ, V, U, n, h1, -⟩ := h
  exact ⟨by have := h1.1; omega, _, h1.2.2.1⟩
theorem dX1_dropOldest_0 : decode cX1_dropOldest 0 = .ok (.aload_n 0, 1) := by decide +kernel
theorem dX1_dropOldest_1 : decode cX1_dropOldest 1 = .ok (.getfield 11, 3) := by decide +kernel
theorem dX1_dropOldest_4 : decode cX1_dropOldest 4 = .ok (.iconst 0, 1) := by decide +kernel
theorem dX1_dropOldest_5 : decode cX1_dropOldest 5 = .ok (.aaload, 1) := by decide +kernel
theorem dX1_dropOldest_6 : decode cX1_dropOldest 6 = .ok (.astore_n 1, 1) := by decide +kernel
theorem dX1_dropOldest_7 : decode cX1_dropOldest 7 = .ok (.aload_n 0, 1) := by decide +kernel
theorem dX1_dropOldest_8 : decode cX1_dropOldest 8 = .ok (.dup, 1) := by decide +kernel
theorem dX1_dropOldest_9 : decode cX1_dropOldest 9 = .ok (.getfield 22, 3) := by decide +kernel
theorem dX1_dropOldest_12 : decode cX1_dropOldest 12 = .ok (.iconst 1, 1) := by decide +kernel
theorem dX1_dropOldest_13 : decode cX1_dropOldest 13 = .ok (.isub, 1) := by decide +kernel
theorem dX1_dropOldest_14 : decode cX1_dropOldest 14 = .ok (.putfield 22, 3) := by decide +kernel
theorem dX1_dropOldest_17 : decode cX1_dropOldest 17 = .ok (.iconst 0, 1) := by decide +kernel
theorem dX1_dropOldest_18 : decode cX1_dropOldest 18 = .ok (.istore_n 2, 1) := by decide +kernel
theorem dX1_dropOldest_19 : decode cX1_dropOldest 19 = .ok (.iload_n 2, 1) := by decide +kernel
theorem dX1_dropOldest_20 : decode cX1_dropOldest 20 = .ok (.aload_n 0, 1) := by decide +kernel
theorem dX1_dropOldest_21 : decode cX1_dropOldest 21 = .ok (.getfield 22, 3) := by decide +kernel
theorem dX1_dropOldest_24 : decode cX1_dropOldest 24 = .ok (.if_icmp .ge 23, 3) := by decide +kernel
theorem dX1_dropOldest_27 : decode cX1_dropOldest 27 = .ok (.aload_n 0, 1) := by decide +kernel
theorem dX1_dropOldest_28 : decode cX1_dropOldest 28 = .ok (.getfield 11, 3) := by decide +kernel
theorem dX1_dropOldest_31 : decode cX1_dropOldest 31 = .ok (.iload_n 2, 1) := by decide +kernel
theorem dX1_dropOldest_32 : decode cX1_dropOldest 32 = .ok (.aload_n 0, 1) := by decide +kernel
theorem dX1_dropOldest_33 : decode cX1_dropOldest 33 = .ok (.getfield 11, 3) := by decide +kernel
theorem dX1_dropOldest_36 : decode cX1_dropOldest 36 = .ok (.iload_n 2, 1) := by decide +kernel
theorem dX1_dropOldest_37 : decode cX1_dropOldest 37 = .ok (.iconst 1, 1) := by decide +kernel
theorem dX1_dropOldest_38 : decode cX1_dropOldest 38 = .ok (.iadd, 1) := by decide +kernel
theorem dX1_dropOldest_39 : decode cX1_dropOldest 39 = .ok (.aaload, 1) := by decide +kernel
theorem dX1_dropOldest_40 : decode cX1_dropOldest 40 = .ok (.aastore, 1) := by decide +kernel
theorem dX1_dropOldest_41 : decode cX1_dropOldest 41 = .ok (.iinc 2 1, 3) := by decide +kernel
theorem dX1_dropOldest_44 : decode cX1_dropOldest 44 = .ok (.goto (-25), 3) := by decide +kernel
theorem dX1_dropOldest_47 : decode cX1_dropOldest 47 = .ok (.aload_n 0, 1) := by decide +kernel
theorem dX1_dropOldest_48 : decode cX1_dropOldest 48 = .ok (.getfield 11, 3) := by decide +kernel
theorem dX1_dropOldest_51 : decode cX1_dropOldest 51 = .ok (.aload_n 0, 1) := by decide +kernel
theorem dX1_dropOldest_52 : decode cX1_dropOldest 52 = .ok (.getfield 22, 3) := by decide +kernel
theorem dX1_dropOldest_55 : decode cX1_dropOldest 55 = .ok (.aload_n 1, 1) := by decide +kernel
theorem dX1_dropOldest_56 : decode cX1_dropOldest 56 = .ok (.aastore, 1) := by decide +kernel
theorem dX1_dropOldest_57 : decode cX1_dropOldest 57 = .ok (.return_, 1) := by decide +kernel
set_option maxHeartbeats 4000000 in
set_option maxRecDepth 100000 in
theorem c_X1_dropOldest (l : Launch) (E : gE) (g : Mem) (kp : Nat) (hr : Nat → Row) (sn : Row) (h : HA E g 4 kp hr sn) : Mt l E yX1_dropOldest cX1_dropOldest 3 none 0 0 [rf E (16)] g (pV (fun g' => HA E g' 3 kp (fun i => hr (i + 1)) sn ∧ ∀ k, k ≠ 16 → k ≠ 17 → g' k = g k)) := by
  obtain ⟨hK, hc4, hkp, h16, ⟨π, hπ, h17, hs, hh⟩, hsn0, hsn⟩ := h
  have hS5 : ∀ j, j < 4 → 33 + 15 * π j < eK E ∧ ∃ fs, (va_up (va_up g 16 (oB 1 [rf E 17, rf E 18, .int (nI 3), .int (nI kp)])) 17 (aR E 5 4 (fun k => 33))) (33 + 15 * π j) = oB 4 fs := by
    intro j hj
    obtain ⟨r, hr⟩ := hs j hj
    obtain ⟨h1, fs, h2⟩ := hr.of_lt
    exact ⟨h1, fs, (va_up_ne _ _ (by omega)).trans ((va_up_ne _ _ (by omega)).trans h2)⟩
  clear hS5
  have hS5 : ∀ (X : va_E) (j : Nat), j < 4 → 33 + 15 * π j < eK E ∧ ∃ fs, (va_up (va_up g (16) (oB 1 [rf E (17), rf E (18), .int (nI (3)), .int (nI (kp))])) 17 X) (33 + 15 * π j) = oB 4 fs := by
    intro X j hj
    obtain ⟨r, hr⟩ := hs j hj
    obtain ⟨h1, fs, h2⟩ := hr.of_lt
    exact ⟨h1, fs, (va_up_ne _ _ (by omega)).trans ((va_up_ne _ _ (by omega)).trans h2)⟩
  refine mt_go (own := RX1) (by decide) rfl (lo := [some (rf E (16)), none, none]) rfl (Nat.le_of_ble_eq_true rfl) (fun X hC => ?_)
  refine y_aload_n hC dX1_dropOldest_0 (i := 0) rfl rfl ?_
  refine y_get hC fX1_11 dX1_dropOldest_1 (k := 16) (by omega) h16 rfl ?_
  refine y_iconst (v := nI 0) hC dX1_dropOldest_4 (by decide) ?_
  refine y_aald hC (Or.inr (Or.inr ⟨rfl, rfl, rfl⟩) : yT 5 4 RX4) dX1_dropOldest_5 (k := 17) (j := 0) (by omega) h17 (rfl) (by omega) (by decide) ?_
  refine y_astore_n hC (o := some (33 + 15 * π (0))) dX1_dropOldest_6 (i := 1) rfl (Nat.le_of_ble_eq_true rfl) rfl (lo' := [some (rf E (16)), some (rf E (33 + 15 * π (0))), none]) rfl ?_
  refine y_aload_n hC dX1_dropOldest_7 (i := 0) rfl rfl ?_
  refine y_dup hC dX1_dropOldest_8 rfl ?_
  refine y_get hC fX1_22 dX1_dropOldest_9 (k := 16) (by omega) h16 rfl ?_
  refine y_iconst (v := nI 1) hC dX1_dropOldest_12 (by decide) ?_
  refine y_isub_n hC dX1_dropOldest_13 (by decide) ?_
  refine y_top (y := nI 3) rfl ?_
  refine y_put hC fpX1_22 dX1_dropOldest_14 (k := 16) (by omega) h16 (Nat.le_of_ble_eq_true rfl) (rfl) (rfl) (fs' := [rf E (17), rf E (18), .int (nI (3)), .int (nI (kp))]) rfl ?_
  refine y_iconst (v := nI 0) hC dX1_dropOldest_17 (by decide) ?_
  refine y_istore_n hC dX1_dropOldest_18 (i := 2) rfl (Nat.le_of_ble_eq_true rfl) rfl (lo' := [some (rf E (16)), some (rf E (33 + 15 * π (0))), some (.int (nI (0)))]) rfl ?_
  refine y_mem (g2 := va_up (va_up g (16) (oB 1 [rf E (17), rf E (18), .int (nI (3)), .int (nI (kp))])) 17 (aR E 5 4 (fun k => 33 + 15 * π (sft 0 0 k)))) ?_ ?_
  · refine (zup_same ?_).symm
    rw [va_up_ne _ _ (by decide), h17]
    refine congrArg (aR E 5 4) (funext fun k => ?_)
    unfold sft
    rw [if_neg (by omega)]
  have L_19 : ∀ (m : Nat) (i : Nat), (hm : 3 - i < m) → (hi : i ≤ 3) → Y l E X (pV (fun g' => HA E g' 3 kp (fun i => hr (i + 1)) sn ∧ ∀ k, k ≠ 16 → k ≠ 17 → g' k = g k)) 19 [some (rf E (16)), some (rf E (33 + 15 * π (0))), some (.int (nI (i)))] [] (va_up (va_up g (16) (oB 1 [rf E (17), rf E (18), .int (nI (3)), .int (nI (kp))])) 17 (aR E 5 4 (fun k => 33 + 15 * π (sft 0 (i) k)))) := by
    intro m
    induction m with
    | zero => intro i hm hi; exact absurd hm (Nat.not_lt_zero _)
    | succ m ih_19 =>
      intro i hm hi
      refine y_iload_n hC dX1_dropOldest_19 (i := 2) rfl rfl ?_
      refine y_aload_n hC dX1_dropOldest_20 (i := 0) rfl rfl ?_
      refine y_get hC fX1_22 dX1_dropOldest_21 (k := 16) (by omega) ((va_up_ne _ _ (by decide)).trans (va_up_self _ _ _)) rfl ?_
      refine y_icmp_ge_n (tgt := 47) hC dX1_dropOldest_24 (by decide) (by omega) (by omega) (fun c_24 => ?_) (fun c_24 => ?_)
      · refine y_aload_n hC dX1_dropOldest_47 (i := 0) rfl rfl ?_
        refine y_get hC fX1_11 dX1_dropOldest_48 (k := 16) (by omega) ((va_up_ne _ _ (by decide)).trans (va_up_self _ _ _)) rfl ?_
        refine y_aload_n hC dX1_dropOldest_51 (i := 0) rfl rfl ?_
        refine y_get hC fX1_22 dX1_dropOldest_52 (k := 16) (by omega) ((va_up_ne _ _ (by decide)).trans (va_up_self _ _ _)) rfl ?_
        refine y_aload_n hC dX1_dropOldest_55 (i := 1) rfl rfl ?_
        refine y_aast hC (Or.inr (Or.inr ⟨rfl, rfl, rfl⟩) : yT 5 4 RX4) dX1_dropOldest_56 (k := 17) (j := 3) (by omega) (va_up_self _ _ _) (r := 33 + 15 * π (0)) (hS5 (g 0) (0) (by omega)).1 (hS5 _ (0) (by omega)).2.choose_spec (rfl) (by omega) (by decide) ?_
        refine y_mem (g2 := va_up (va_up g (16) (oB 1 [rf E (17), rf E (18), .int (nI (3)), .int (nI (kp))])) 17 (aR E 5 4 (fun k => 33 + 15 * π (cyc 0 3 k)))) ?_ ?_
        · rw [zup_up]
          refine congrArg (va_up (va_up g (16) (oB 1 [rf E (17), rf E (18), .int (nI (3)), .int (nI (kp))])) 17) (congrArg (aR E 5 4) (funext fun k => ?_))
          by_cases e : k = 3
          · rw [e, va_up_self]
            unfold cyc
            (repeat (first | rw [if_neg (by omega)] | rw [if_pos (by omega)]))
          · rw [va_up_ne _ _ e]
            unfold cyc sft
            by_cases e2 : 0 ≤ k ∧ k < i
            · rw [if_pos e2, if_pos ⟨e2.1, by omega⟩]
            · rw [if_neg e2, if_neg (by omega), if_neg e]
        refine y_vret (hC := hC) (hd := dX1_dropOldest_57) (hq := ?_)
        refine ⟨⟨hK, by omega, hkp, (va_up_ne _ _ (by decide)).trans (va_up_self _ _ _), ⟨fun k => π (cyc 0 3 k), ⟨fun i hi => hπ.1 _ ((cyc_pm (a := 0) (m := 3) (n := 4) (by omega) (by omega)).1 i hi), fun i j hi hj e => (cyc_pm (a := 0) (m := 3) (n := 4) (by omega) (by omega)).2 i j hi hj (hπ.2 _ _ ((cyc_pm (a := 0) (m := 3) (n := 4) (by omega) (by omega)).1 i hi) ((cyc_pm (a := 0) (m := 3) (n := 4) (by omega) (by omega)).1 j hj) e)⟩, va_up_self _ _ _, fun i hi => ?_, fun i hi => ?_⟩, ?_, fun e => ?_⟩, fun k h1 h2 => (va_up_ne _ _ h2).trans (va_up_ne _ _ h1)⟩
        · obtain ⟨r, hr⟩ := hs _ ((cyc_pm (a := 0) (m := 3) (n := 4) (by omega) (by omega)).1 i hi)
          exact ⟨r, (hr.ne16 (by omega)).ne16 (by omega)⟩
        · have e : cyc 0 3 i = i + 1 := by unfold cyc; (repeat (first | rw [if_neg (by omega)] | rw [if_pos (by omega)]))
          show StA E _ (33 + 15 * π (cyc 0 3 i)) _
          rw [e]
          exact ((hh (i + 1) (by omega)).ne16 (by omega)).ne16 (by omega)
        · obtain ⟨r, hr⟩ := hsn0
          exact ⟨r, (hr.ne16 (by omega)).ne16 (by omega)⟩
        · exact ((hsn e).ne16 (by omega)).ne16 (by omega)
      · refine y_aload_n hC dX1_dropOldest_27 (i := 0) rfl rfl ?_
        refine y_get hC fX1_11 dX1_dropOldest_28 (k := 16) (by omega) ((va_up_ne _ _ (by decide)).trans (va_up_self _ _ _)) rfl ?_
        refine y_iload_n hC dX1_dropOldest_31 (i := 2) rfl rfl ?_
        refine y_aload_n hC dX1_dropOldest_32 (i := 0) rfl rfl ?_
        refine y_get hC fX1_11 dX1_dropOldest_33 (k := 16) (by omega) ((va_up_ne _ _ (by decide)).trans (va_up_self _ _ _)) rfl ?_
        refine y_iload_n hC dX1_dropOldest_36 (i := 2) rfl rfl ?_
        refine y_iconst (v := nI 1) hC dX1_dropOldest_37 (by decide) ?_
        refine y_iadd_n hC dX1_dropOldest_38 ?_
        refine y_aald hC (Or.inr (Or.inr ⟨rfl, rfl, rfl⟩) : yT 5 4 RX4) dX1_dropOldest_39 (k := 17) (j := i + 1) (by omega) (va_up_self _ _ _) (rfl) (by omega) (by decide) ?_
        show Y l E X _ 40 _ (rf E (33 + 15 * π (sft 0 i (i + 1))) :: _) _
        rw [show sft 0 i (i + 1) = i + 1 from by unfold sft; (repeat (first | rw [if_neg (by omega)] | rw [if_pos (by omega)]))]
        refine y_aast hC (Or.inr (Or.inr ⟨rfl, rfl, rfl⟩) : yT 5 4 RX4) dX1_dropOldest_40 (k := 17) (j := i) (by omega) (va_up_self _ _ _) (r := 33 + 15 * π (i + 1)) (hS5 (g 0) (i + 1) (by omega)).1 (hS5 _ (i + 1) (by omega)).2.choose_spec (rfl) (by omega) (by decide) ?_
        refine y_mem (g2 := va_up (va_up g (16) (oB 1 [rf E (17), rf E (18), .int (nI (3)), .int (nI (kp))])) 17 (aR E 5 4 (fun k => 33 + 15 * π (sft 0 (i + 1) k)))) ?_ ?_
        · rw [zup_up]
          refine congrArg (va_up (va_up g (16) (oB 1 [rf E (17), rf E (18), .int (nI (3)), .int (nI (kp))])) 17) (congrArg (aR E 5 4) (funext fun k => ?_))
          by_cases e : k = i
          · rw [e, va_up_self]
            unfold sft
            (repeat (first | rw [if_neg (by omega)] | rw [if_pos (by omega)]))
          · rw [va_up_ne _ _ e]
            unfold sft
            by_cases e2 : 0 ≤ k ∧ k < i
            · rw [if_pos e2, if_pos ⟨e2.1, by omega⟩]
            · rw [if_neg e2, if_neg (by omega)]
        refine y_iinc_n hC dX1_dropOldest_41 (a := i) (k := 1) rfl (by decide) (Nat.le_of_ble_eq_true rfl) rfl (lo' := [some (rf E (16)), some (rf E (33 + 15 * π (0))), some (.int (nI (i + 1)))]) rfl ?_
        refine y_goto (tgt := 19) hC dX1_dropOldest_44 (by decide) ?_
        exact ih_19 (i + 1) (by omega) (by omega)
  exact L_19 4 0 (by omega) (by omega)

theorem HA.c4 {E : gE} {g : Mem} {c kp : Nat} {hr : Nat → Row} {sn : Row} (h : HA E g c kp hr sn) : c ≤ 4 := h.2.1
theorem dX1_record_0 : decode cX1_record 0 = .ok (.aload_n 0, 1) := by decide +kernel
theorem dX1_record_1 : decode cX1_record 1 = .ok (.getfield 22, 3) := by decide +kernel
theorem dX1_record_4 : decode cX1_record 4 = .ok (.iconst 4, 1) := by decide +kernel
theorem dX1_record_5 : decode cX1_record 5 = .ok (.if_icmp .ne 7, 3) := by decide +kernel
theorem dX1_record_8 : decode cX1_record 8 = .ok (.aload_n 0, 1) := by decide +kernel
theorem dX1_record_9 : decode cX1_record 9 = .ok (.invokevirtual 30, 3) := by decide +kernel
theorem dX1_record_12 : decode cX1_record 12 = .ok (.aload_n 0, 1) := by decide +kernel
theorem dX1_record_13 : decode cX1_record 13 = .ok (.getfield 11, 3) := by decide +kernel
theorem dX1_record_16 : decode cX1_record 16 = .ok (.aload_n 0, 1) := by decide +kernel
theorem dX1_record_17 : decode cX1_record 17 = .ok (.getfield 22, 3) := by decide +kernel
theorem dX1_record_20 : decode cX1_record 20 = .ok (.aaload, 1) := by decide +kernel
theorem dX1_record_21 : decode cX1_record 21 = .ok (.aload_n 1, 1) := by decide +kernel
theorem dX1_record_22 : decode cX1_record 22 = .ok (.invokevirtual 33, 3) := by decide +kernel
theorem dX1_record_25 : decode cX1_record 25 = .ok (.aload_n 0, 1) := by decide +kernel
theorem dX1_record_26 : decode cX1_record 26 = .ok (.dup, 1) := by decide +kernel
theorem dX1_record_27 : decode cX1_record 27 = .ok (.getfield 22, 3) := by decide +kernel
theorem dX1_record_30 : decode cX1_record 30 = .ok (.iconst 1, 1) := by decide +kernel
theorem dX1_record_31 : decode cX1_record 31 = .ok (.iadd, 1) := by decide +kernel
theorem dX1_record_32 : decode cX1_record 32 = .ok (.putfield 22, 3) := by decide +kernel
theorem dX1_record_35 : decode cX1_record 35 = .ok (.return_, 1) := by decide +kernel
set_option maxHeartbeats 4000000 in
set_option maxRecDepth 100000 in
theorem c_X1_record (l : Launch) (E : gE) (g : Mem) (c kp : Nat) (hr : Nat → Row) (sn r : Row) (B : Nat) (h : HA E g c kp hr sn) (hs : StA E g 1 r) (hv : Vr r B) : Mt l E yX1_record cX1_record 2 none 2 48 [rf E (16), rf E (1)] g (pV (fun g' => HA E g' (recC c) kp (recH c hr r) sn ∧ StA E g' 1 r ∧ Fh g g')) := by
  have hh0 := h
  obtain ⟨hK, hc4, hkp, h16, -⟩ := hh0
  refine mt_go (own := RX1) (by decide) rfl (lo := [some (rf E (16)), some (rf E (1))]) rfl (Nat.le_of_ble_eq_true rfl) (fun X hC => ?_)
  have J_12 : ∀ (g1 : Mem) (c1 : Nat) (hr1 : Nat → Row), (hq : HA E g1 c1 kp hr1 sn) → (hc1 : c1 ≤ 3) → (hs1 : StA E g1 1 r) → (hf1 : ∀ k, k < 16 ∨ 93 ≤ k → g1 k = g k) → (e1 : recC c = c1 + 1) → (e2 : ∀ i, i < c1 → recH c hr r i = hr1 i) → (e3 : recH c hr r c1 = r) → Y l E X (pV (fun g' => HA E g' (recC c) kp (recH c hr r) sn ∧ StA E g' 1 r ∧ Fh g g')) 12 [some (rf E (16)), some (rf E (1))] [] g1 := by
    intro g1 c1 hr1 hq hc1 hs1 hf1 e1 e2 e3
    obtain ⟨hK, hc4, hkp, h16, ⟨π, hπ, h17, hs, hh⟩, hsn0, hsn⟩ := hq
    obtain ⟨ro, hro⟩ := hs c1 (by omega)
    have hpc := hπ.1 c1 (by omega)
    refine y_aload_n hC dX1_record_12 (i := 0) rfl rfl ?_
    refine y_get hC fX1_11 dX1_record_13 (k := 16) (by omega) h16 rfl ?_
    refine y_aload_n hC dX1_record_16 (i := 0) rfl rfl ?_
    refine y_get hC fX1_22 dX1_record_17 (k := 16) (by omega) h16 rfl ?_
    refine y_aald hC (Or.inr (Or.inr ⟨rfl, rfl, rfl⟩) : yT 5 4 RX4) dX1_record_20 (k := 17) (j := c1) (by omega) h17 (rfl) (by omega) (by decide) ?_
    refine y_aload_n hC dX1_record_21 (i := 1) rfl rfl ?_
    refine y_callV hC mX4_copy kX1_33 dX1_record_22 (b := 33 + 15 * π (c1)) (As := [rf E (1)]) (rest := []) (c_X4_copy l E g1 (33 + 15 * π (c1)) 1 ro r B hro hs1 hv (by omega)) hro.of_lt.1 hro.of_lt.2.choose_spec rfl rfl rfl (Nat.le_of_ble_eq_true rfl) ⟨Nat.le_of_ble_eq_true rfl, Nat.le_of_ble_eq_true rfl⟩ (pk_v ?_)
    rintro g_22 ⟨hcp, hfr⟩
    refine y_aload_n hC dX1_record_25 (i := 0) rfl rfl ?_
    refine y_dup hC dX1_record_26 rfl ?_
    refine y_get hC fX1_22 dX1_record_27 (k := 16) (by omega) ((hfr 16 (by omega)).trans h16) rfl ?_
    refine y_iconst (v := nI 1) hC dX1_record_30 (by decide) ?_
    refine y_iadd_n hC dX1_record_31 ?_
    refine y_put hC fpX1_22 dX1_record_32 (k := 16) (by omega) ((hfr 16 (by omega)).trans h16) (Nat.le_of_ble_eq_true rfl) (rfl) (rfl) (fs' := [rf E (17), rf E (18), .int (nI (c1 + 1)), .int (nI (kp))]) rfl ?_
    refine y_vret (hC := hC) (hd := dX1_record_35) (hq := ?_)
    refine ⟨⟨hK, by omega, hkp, by rw [e1]; exact va_up_self _ _ _, ⟨π, hπ, (va_up_ne _ _ (by decide)).trans ((hfr 17 (by omega)).trans h17), fun i hi => ?_, fun i hi => ?_⟩, ?_, fun e => ?_⟩, ?_, fun k hk => ?_⟩
    · by_cases e : i = c1
      · subst e
        exact ⟨r, hcp.ne16 (by omega)⟩
      · have h1 : π i ≠ π c1 := fun q => e (hπ.2 i c1 hi (by omega) q)
        obtain ⟨r3, h3⟩ := hs i hi
        exact ⟨r3, (h3.on hfr (by omega)).ne16 (by omega)⟩
    · rw [e1] at hi
      by_cases e : i = c1
      · subst e
        rw [e3]
        exact hcp.ne16 (by omega)
      · have h1 : π i ≠ π c1 := fun q => e (hπ.2 i c1 (by omega) (by omega) q)
        rw [e2 i (by omega)]
        exact ((hh i (by omega)).on hfr (by omega)).ne16 (by omega)
    · obtain ⟨r3, h3⟩ := hsn0
      exact ⟨r3, (h3.on hfr (by omega)).ne16 (by omega)⟩
    · exact ((hsn e).on hfr (by omega)).ne16 (by omega)
    · exact (hs1.on hfr (by omega)).ne16 (by omega)
    · exact (va_up_ne _ _ (by omega)).trans ((hfr k (by have := hk; omega)).trans (hf1 k hk))
  refine y_aload_n hC dX1_record_0 (i := 0) rfl rfl ?_
  refine y_get hC fX1_22 dX1_record_1 (k := 16) (by omega) h16 rfl ?_
  refine y_iconst (v := nI 4) hC dX1_record_4 (by decide) ?_
  refine y_icmp_ne_n (tgt := 12) hC dX1_record_5 (by decide) (by omega) (by omega) (fun c_5 => ?_) (fun c_5 => ?_)
  · exact J_12 g c hr h (by omega) hs (fun _ _ => rfl) (if_neg c_5) (fun i hi => by unfold recH; rw [if_neg c_5, if_pos hi]) (by unfold recH; rw [if_neg c_5, if_neg (Nat.lt_irrefl _)])
  · refine y_aload_n hC dX1_record_8 (i := 0) rfl rfl ?_
    refine y_callV hC mX1_dropOldest kX1_30 dX1_record_9 (b := 16) (As := []) (rest := []) (c_X1_dropOldest l E g kp hr sn (c_5 ▸ h)) (by omega) h16 rfl rfl rfl (Nat.le_of_ble_eq_true rfl) ⟨Nat.le_of_ble_eq_true rfl, Nat.le_of_ble_eq_true rfl⟩ (pk_v ?_)
    rintro g_9 ⟨hd1, hd2⟩
    exact J_12 g_9 3 (fun i => hr (i + 1)) hd1 (by omega) (hs.keep (fun k h1 h2 => hd2 k (by omega) (by omega))) (fun k hk => hd2 k (by omega) (by omega)) (if_pos c_5) (fun i hi => by unfold recH; rw [if_pos c_5, if_pos hi]) (by unfold recH; rw [if_pos c_5, if_neg (Nat.lt_irrefl _)])

theorem dX1_takeBack_0 : decode cX1_takeBack 0 = .ok (.aload_n 0, 1) := by decide +kernel
theorem dX1_takeBack_1 : decode cX1_takeBack 1 = .ok (.dup, 1) := by decide +kernel
theorem dX1_takeBack_2 : decode cX1_takeBack 2 = .ok (.getfield 22, 3) := by decide +kernel
theorem dX1_takeBack_5 : decode cX1_takeBack 5 = .ok (.iconst 1, 1) := by decide +kernel
theorem dX1_takeBack_6 : decode cX1_takeBack 6 = .ok (.isub, 1) := by decide +kernel
theorem dX1_takeBack_7 : decode cX1_takeBack 7 = .ok (.putfield 22, 3) := by decide +kernel
theorem dX1_takeBack_10 : decode cX1_takeBack 10 = .ok (.aload_n 1, 1) := by decide +kernel
theorem dX1_takeBack_11 : decode cX1_takeBack 11 = .ok (.aload_n 0, 1) := by decide +kernel
theorem dX1_takeBack_12 : decode cX1_takeBack 12 = .ok (.getfield 11, 3) := by decide +kernel
theorem dX1_takeBack_15 : decode cX1_takeBack 15 = .ok (.aload_n 0, 1) := by decide +kernel
theorem dX1_takeBack_16 : decode cX1_takeBack 16 = .ok (.getfield 22, 3) := by decide +kernel
theorem dX1_takeBack_19 : decode cX1_takeBack 19 = .ok (.aaload, 1) := by decide +kernel
theorem dX1_takeBack_20 : decode cX1_takeBack 20 = .ok (.invokevirtual 33, 3) := by decide +kernel
theorem dX1_takeBack_23 : decode cX1_takeBack 23 = .ok (.return_, 1) := by decide +kernel
set_option maxHeartbeats 4000000 in
set_option maxRecDepth 100000 in
theorem c_X1_takeBack (l : Launch) (E : gE) (g : Mem) (c kp : Nat) (hr : Nat → Row) (sn r : Row) (B : Nat) (h : HA E g c kp hr sn) (hs : StA E g 1 r) (h0 : 0 < c) (hv : Vr (hr (c - 1)) B) : Mt l E yX1_takeBack cX1_takeBack 2 none 2 48 [rf E (16), rf E (1)] g (pV (fun g' => HA E g' (c - 1) kp hr sn ∧ StA E g' 1 (hr (c - 1)) ∧ ∀ k, k < 1 ∨ 93 ≤ k → g' k = g k)) := by
  obtain ⟨hK, hc4, hkp, h16, ⟨π, hπ, h17, hz, hh⟩, hsn0, hsn⟩ := h
  have hpc := hπ.1 (c - 1) (by omega)
  refine mt_go (own := RX1) (by decide) rfl (lo := [some (rf E (16)), some (rf E (1))]) rfl (Nat.le_of_ble_eq_true rfl) (fun X hC => ?_)
  refine y_aload_n hC dX1_takeBack_0 (i := 0) rfl rfl ?_
  refine y_dup hC dX1_takeBack_1 rfl ?_
  refine y_get hC fX1_22 dX1_takeBack_2 (k := 16) (by omega) h16 rfl ?_
  refine y_iconst (v := nI 1) hC dX1_takeBack_5 (by decide) ?_
  refine y_isub_n hC dX1_takeBack_6 (by omega) ?_
  refine y_put hC fpX1_22 dX1_takeBack_7 (k := 16) (by omega) h16 (Nat.le_of_ble_eq_true rfl) (rfl) (rfl) (fs' := [rf E (17), rf E (18), .int (nI (c - (1))), .int (nI (kp))]) rfl ?_
  refine y_aload_n hC dX1_takeBack_10 (i := 1) rfl rfl ?_
  refine y_aload_n hC dX1_takeBack_11 (i := 0) rfl rfl ?_
  refine y_get hC fX1_11 dX1_takeBack_12 (k := 16) (by omega) (va_up_self _ _ _) rfl ?_
  refine y_aload_n hC dX1_takeBack_15 (i := 0) rfl rfl ?_
  refine y_get hC fX1_22 dX1_takeBack_16 (k := 16) (by omega) (va_up_self _ _ _) rfl ?_
  refine y_aald hC (Or.inr (Or.inr ⟨rfl, rfl, rfl⟩) : yT 5 4 RX4) dX1_takeBack_19 (k := 17) (j := c - (1)) (by omega) ((va_up_ne _ _ (by decide)).trans h17) (rfl) (by omega) (by decide) ?_
  refine y_callV hC mX4_copy kX1_33 dX1_takeBack_20 (b := 1) (As := [rf E (33 + 15 * π (c - (1)))]) (rest := []) (c_X4_copy l E (va_up g (16) (oB 1 [rf E (17), rf E (18), .int (nI (c - (1))), .int (nI (kp))])) 1 (33 + 15 * π (c - 1)) r (hr (c - 1)) B (hs.ne16 (by omega)) ((hh (c - 1) (by omega)).ne16 (by omega)) hv (by omega)) hs.of_lt.1 (hs.ne16 (k := 16) (by omega)).of_lt.2.choose_spec rfl rfl rfl (Nat.le_of_ble_eq_true rfl) ⟨Nat.le_of_ble_eq_true rfl, Nat.le_of_ble_eq_true rfl⟩ (pk_v ?_)
  rintro g_20 ⟨hcp, hfr⟩
  refine y_vret (hC := hC) (hd := dX1_takeBack_23) (hq := ?_)
  refine ⟨⟨hK, by omega, hkp, (hfr 16 (by omega)).trans (va_up_self _ _ _), ⟨π, hπ, (hfr 17 (by omega)).trans ((va_up_ne _ _ (by decide)).trans h17), fun i hi => ?_, fun i hi => ?_⟩, ?_, fun e => ?_⟩, hcp, fun k hk => (hfr k (by omega)).trans (va_up_ne _ _ (by omega))⟩
  · obtain ⟨r3, h3⟩ := hz i hi
    exact ⟨r3, (h3.ne16 (by omega)).on hfr (by omega)⟩
  · exact ((hh i (by omega)).ne16 (by omega)).on hfr (by omega)
  · obtain ⟨r3, h3⟩ := hsn0
    exact ⟨r3, (h3.ne16 (by omega)).on hfr (by omega)⟩
  · exact ((hsn e).ne16 (by omega)).on hfr (by omega)
end
section
/-! ===== the class as a whole: what it stands for ===== -/
/-- a slot may be forgotten -/
theorem y_fg {l : Launch} {E : gE} {X : gX} {post : Option Value → Mem → Prop} {pc : Nat} {lo lo' : List (Option Value)} {st : List Value} {g : Mem} (i : Nat) (h : lo.set i none = lo') (kk : Y l E X post pc lo' st g) : Y l E X post pc lo st g := by
  intro H locs ls hP hS hl
  refine kk H locs ls hP hS ⟨by rw [← h, List.length_set]; exact hl.1, hl.2.1, fun j v hj => ?_⟩
  rw [← h] at hj
  by_cases e : i = j
  · subst e
    by_cases q : i < lo.length
    · rw [List.getElem?_set_self q] at hj
      cases hj
    · rw [List.getElem?_eq_none (by rw [List.length_set]; omega)] at hj
      cases hj
  · rw [List.getElem?_set_ne e] at hj
    exact hl.2.2 j v hj
/-- what a run stands at: the row, the history (how many, the rows), the snapshot (is there one, the row), the text -/
def AS : Type := Row × Nat × Nat × (Nat → Row) × Row × Nat × (Nat → Nat)
def AS.mk (r : Row) (c kp : Nat) (hr : Nat → Row) (sn : Row) (ln : Nat) (tx : Nat → Nat) : AS := (r, c, kp, hr, sn, ln, tx)
def AS.r (S : AS) : Row := S.1
def AS.c (S : AS) : Nat := S.2.1
def AS.kp (S : AS) : Nat := S.2.2.1
def AS.hr (S : AS) : Nat → Row := S.2.2.2.1
def AS.sn (S : AS) : Row := S.2.2.2.2.1
def AS.ln (S : AS) : Nat := S.2.2.2.2.2.1
def AS.tx (S : AS) : Nat → Nat := S.2.2.2.2.2.2
def AS.rec (S : AS) : AS := .mk S.r (recC S.c) S.kp (recH S.c S.hr S.r) S.sn S.ln S.tx
def AS.row (S : AS) (r : Row) : AS := .mk r S.c S.kp S.hr S.sn S.ln S.tx
/-- what the document allows -/
def OK (S : AS) (B : Nat) : Prop := Vr S.r B ∧ S.c ≤ 4 ∧ S.kp ≤ 1 ∧ (∀ i, i < S.c → Vr (S.hr i) B) ∧ (S.kp = 1 → Vr S.sn B) ∧ S.ln ≤ 60 ∧ ∀ k, k < S.ln → S.tx k < 65536
/-- the program's cells -/
def PX (E : gE) (g : Mem) (ln : Nat) (tx : Nat → Nat) (f : Nat → Int32) (tk it : Int32) (st ti : Nat → Int32) : Prop :=
  100 ≤ eK E ∧ ln ≤ 60 ∧ (∀ k, k < ln → tx k < 65536) ∧ (∀ k, k < ln → f k = nI (tx k)) ∧ g 93 = oB 2 [rf E 94, rf E 95, rf E 96, .int (nI ln), .int tk, .int it] ∧ g 94 = aI E 1 60 f ∧ g 95 = aI E 0 60 st ∧ g 96 = aI E 0 60 ti
def PA (E : gE) (g : Mem) (ln : Nat) (tx : Nat → Nat) : Prop := ∃ (f : Nat → Int32) (tk it : Int32) (st ti : Nat → Int32), PX E g ln tx f tk it st ti
/-- outside the program's cells nothing has changed -/
def Fp (g g2 : Mem) : Prop := ∀ k, k < 93 ∨ 97 ≤ k → g2 k = g k
/-- the class stands for S; its scratch rows hold sh, mk, wa -/
def CQ (E : gE) (g : Mem) (S : AS) (sh mk wa : Nat → Int32) : Prop :=
  100 ≤ eK E ∧ g 0 = oB 5 [rf E 1, rf E 16, rf E 93, rf E 97, rf E 98, rf E 99] ∧ StA E g 1 S.r ∧ HA E g S.c S.kp S.hr S.sn ∧ PA E g S.ln S.tx ∧ g 97 = aI E 0 32 sh ∧ g 98 = aI E 2 32 mk ∧ g 99 = aI E 0 64 wa
def CP (E : gE) (g : Mem) (S : AS) : Prop := ∃ sh mk wa, CQ E g S sh mk wa
theorem PX.keep {E : gE} {g g2 : Mem} {ln : Nat} {tx : Nat → Nat} {f : Nat → Int32} {tk it : Int32} {st ti : Nat → Int32} (h : PX E g ln tx f tk it st ti) (e : ∀ k, 93 ≤ k → k < 97 → g2 k = g k) : PX E g2 ln tx f tk it st ti := by
  obtain ⟨h0, h1, h2, h3, h4, h5, h6, h7⟩ := h
  exact ⟨h0, h1, h2, h3, (e _ (by decide) (by decide)).trans h4, (e _ (by decide) (by decide)).trans h5, (e _ (by decide) (by decide)).trans h6, (e _ (by decide) (by decide)).trans h7⟩
theorem PA.keep {E : gE} {g g2 : Mem} {ln : Nat} {tx : Nat → Nat} (h : PA E g ln tx) (e : ∀ k, 93 ≤ k → k < 97 → g2 k = g k) : PA E g2 ln tx := by
  obtain ⟨f, tk, it, st, ti, h⟩ := h
  exact ⟨f, tk, it, st, ti, h.keep e⟩
theorem HA.keep {E : gE} {g g2 : Mem} {c kp : Nat} {hr : Nat → Row} {sn : Row} (h : HA E g c kp hr sn) (e : ∀ k, 16 ≤ k → k < 93 → g2 k = g k) : HA E g2 c kp hr sn := by
  obtain ⟨h0, h1, h2, h3, ⟨π, hπ, h17, hs, hh⟩, hsn0, hsn⟩ := h
  refine ⟨h0, h1, h2, (e _ (by decide) (by decide)).trans h3, ⟨π, hπ, (e _ (by decide) (by decide)).trans h17, fun i hi => ?_, fun i hi => ?_⟩, ?_, fun q => ?_⟩
  · obtain ⟨r, hr⟩ := hs i hi
    have := hπ.1 i hi
    exact ⟨r, hr.keep (fun k _ _ => e k (by omega) (by omega))⟩
  · have := hπ.1 i (by omega)
    exact (hh i hi).keep (fun k _ _ => e k (by omega) (by omega))
  · obtain ⟨r, hr⟩ := hsn0
    exact ⟨r, hr.keep (fun k _ _ => e k (by omega) (by omega))⟩
  · exact (hsn q).keep (fun k _ _ => e k (by omega) (by omega))
section CQs
variable {E : gE} {g g2 : Mem} {S : AS} {sh mk wa : Nat → Int32}
theorem CQ.cp (h : CQ E g S sh mk wa) : CP E g S := ⟨sh, mk, wa, h⟩
theorem CQ.k (h : CQ E g S sh mk wa) : 100 ≤ eK E := h.1
theorem CQ.a0 (h : CQ E g S sh mk wa) : g 0 = oB 5 [rf E 1, rf E 16, rf E 93, rf E 97, rf E 98, rf E 99] := h.2.1
theorem CQ.sta (h : CQ E g S sh mk wa) : StA E g 1 S.r := h.2.2.1
theorem CQ.ha (h : CQ E g S sh mk wa) : HA E g S.c S.kp S.hr S.sn := h.2.2.2.1
theorem CQ.pa (h : CQ E g S sh mk wa) : PA E g S.ln S.tx := h.2.2.2.2.1
theorem CQ.a97 (h : CQ E g S sh mk wa) : g 97 = aI E 0 32 sh := h.2.2.2.2.2.1
theorem CQ.a98 (h : CQ E g S sh mk wa) : g 98 = aI E 2 32 mk := h.2.2.2.2.2.2.1
theorem CQ.a99 (h : CQ E g S sh mk wa) : g 99 = aI E 0 64 wa := h.2.2.2.2.2.2.2
theorem CQ.a16 (h : CQ E g S sh mk wa) : g 16 = oB 1 [rf E 17, rf E 18, .int (nI S.c), .int (nI S.kp)] := h.ha.2.2.2.1
/-- the state changes -/
theorem CQ.upst {r : Row} (h : CQ E g S sh mk wa) (hs : StA E g2 1 r) (hf : Fr 1 g g2) : CQ E g2 (S.row r) sh mk wa := by
  obtain ⟨h0, h1, h2, h3, h4, h5, h6, h7⟩ := h
  exact ⟨h0, (hf _ (by decide)).trans h1, hs, h3.keep (fun k _ _ => hf k (by omega)), h4.keep (fun k _ _ => hf k (by omega)), (hf _ (by decide)).trans h5, (hf _ (by decide)).trans h6, (hf _ (by decide)).trans h7⟩
/-- it is recorded -/
theorem CQ.uprec (h : CQ E g S sh mk wa) (hh : HA E g2 (recC S.c) S.kp (recH S.c S.hr S.r) S.sn ∧ StA E g2 1 S.r ∧ Fh g g2) : CQ E g2 S.rec sh mk wa := by
  obtain ⟨h0, h1, h2, h3, h4, h5, h6, h7⟩ := h
  obtain ⟨k1, k2, hf⟩ := hh
  exact ⟨h0, (hf _ (by decide)).trans h1, k2, k1, h4.keep (fun k _ _ => hf k (by omega)), (hf _ (by decide)).trans h5, (hf _ (by decide)).trans h6, (hf _ (by decide)).trans h7⟩
theorem CQ.up97 (h : CQ E g S sh mk wa) (sh2 : Nat → Int32) : CQ E (va_up g 97 (aI E 0 32 sh2)) S sh2 mk wa := by
  obtain ⟨h0, h1, h2, h3, h4, h5, h6, h7⟩ := h
  exact ⟨h0, (va_up_ne _ _ (by decide)).trans h1, h2.ne16 (by decide), h3.keep (fun k _ _ => va_up_ne _ _ (by omega)), h4.keep (fun k _ _ => va_up_ne _ _ (by omega)), va_up_self _ _ _, (va_up_ne _ _ (by decide)).trans h6, (va_up_ne _ _ (by decide)).trans h7⟩
theorem CQ.up98 (h : CQ E g S sh mk wa) (mk2 : Nat → Int32) : CQ E (va_up g 98 (aI E 2 32 mk2)) S sh mk2 wa := by
  obtain ⟨h0, h1, h2, h3, h4, h5, h6, h7⟩ := h
  exact ⟨h0, (va_up_ne _ _ (by decide)).trans h1, h2.ne16 (by decide), h3.keep (fun k _ _ => va_up_ne _ _ (by omega)), h4.keep (fun k _ _ => va_up_ne _ _ (by omega)), (va_up_ne _ _ (by decide)).trans h5, va_up_self _ _ _, (va_up_ne _ _ (by decide)).trans h7⟩
theorem CQ.up99 (h : CQ E g S sh mk wa) (wa2 : Nat → Int32) : CQ E (va_up g 99 (aI E 0 64 wa2)) S sh mk wa2 := by
  obtain ⟨h0, h1, h2, h3, h4, h5, h6, h7⟩ := h
  exact ⟨h0, (va_up_ne _ _ (by decide)).trans h1, h2.ne16 (by decide), h3.keep (fun k _ _ => va_up_ne _ _ (by omega)), h4.keep (fun k _ _ => va_up_ne _ _ (by omega)), (va_up_ne _ _ (by decide)).trans h5, (va_up_ne _ _ (by decide)).trans h6, va_up_self _ _ _⟩
/-- the program's cells change -/
theorem CQ.uppa {ln : Nat} {tx : Nat → Nat} (h : CQ E g S sh mk wa) (hp : PA E g2 ln tx) (hf : Fp g g2) : CQ E g2 (.mk S.r S.c S.kp S.hr S.sn ln tx) sh mk wa := by
  obtain ⟨h0, h1, h2, h3, h4, h5, h6, h7⟩ := h
  exact ⟨h0, (hf _ (by decide)).trans h1, h2.keep (fun k _ _ => hf k (by omega)), h3.keep (fun k _ _ => hf k (by omega)), hp, (hf _ (by decide)).trans h5, (hf _ (by decide)).trans h6, (hf _ (by decide)).trans h7⟩
end CQs
theorem OK.v {S : AS} {B : Nat} (h : OK S B) : Vr S.r B := h.1
theorem OK.c4 {S : AS} {B : Nat} (h : OK S B) : S.c ≤ 4 := h.2.1
theorem Vr.le {r : Row} {B B2 : Nat} (h : Vr r B) (hb : B ≤ B2) : Vr r B2 := by
  obtain ⟨h1, h2, h3, h4, h5, h6, h7, h8, h9⟩ := h
  exact ⟨h1, h2, fun i hi => by obtain ⟨q1, q2, q3, q4, q5, q6, q7, q8, q9⟩ := h3 i hi; exact ⟨q1, q2, q3, q4, q5, q6, q7, q8, by omega⟩, h4, h5, h6, h7, ⟨h8.1, by have := h8.2; omega⟩, h9.1, by have := h9.2; omega⟩
theorem OK.le {S : AS} {B B2 : Nat} (h : OK S B) (hb : B ≤ B2) : OK S B2 := ⟨h.1.le hb, h.2.1, h.2.2.1, fun i hi => (h.2.2.2.1 i hi).le hb, fun e => (h.2.2.2.2.1 e).le hb, h.2.2.2.2.2⟩
theorem OK.rec {S : AS} {B : Nat} (h : OK S B) : OK S.rec B := by
  obtain ⟨h1, h2, h3, h4, h5, h6, h7⟩ := h
  refine ⟨h1, ?_, h3, fun i hi => ?_, h5, h6, h7⟩
  · show recC S.c ≤ 4
    unfold recC
    split <;> omega
  · have hi' : i < recC S.c := hi
    show Vr (recH S.c S.hr S.r i) B
    unfold recC at hi'
    unfold recH
    split at hi'
    · rename_i e
      rw [if_pos e]
      split
      · exact h4 _ (by omega)
      · exact h1
    · rename_i e
      rw [if_neg e]
      split
      · exact h4 _ (by omega)
      · exact h1
theorem OK.row {S : AS} {B : Nat} {r : Row} (h : OK S B) (hr : Vr r B) : OK (S.row r) B := ⟨hr, h.2⟩
end
section
/-! ===== the program of the class ===== -/
/-- the sign at an index; what signs are -/
def sgn (ln : Nat) (tx : Nat → Nat) (i : Nat) : Nat := if i < ln then tx i else 0
def isRep (a : Nat) : Bool := decide (50 ≤ a ∧ a ≤ 57)
def isFor (a : Nat) : Bool := decide (a = 112 ∨ a = 107)
def isBeg (a : Nat) : Bool := decide (a = 116) || (isFor a || isRep a)
def isAlw (a b : Nat) : Bool := if a = 116 then decide (49 ≤ b ∧ b ≤ 57) else if isFor a then decide (48 ≤ b ∧ b ≤ 53) else decide (b = 40)
def bhd (s : Nat → Nat) (i : Nat) : Nat := if s i = 41 then i + 1 else if s i = 116 ∧ 48 ≤ s (i + 2) ∧ s (i + 2) ≤ 57 then i + 3 else i + 2
def nmb (s : Nat → Nat) (i : Nat) : Nat := if 48 ≤ s (i + 1) ∧ s (i + 1) ≤ 57 then 10 * (s i - 48) + (s (i + 1) - 48) else s i - 48
/-- where the text has its fault, read on from i with so many open brackets -/
def ft (s : Nat → Nat) (ln : Nat) : Nat → Nat → Nat → Bool → Option Nat
  | 0, _, op, due => if due = true ∨ 0 < op then some ln else none
  | n + 1, i, op, due => if i < ln then (if s i = 41 ∧ 0 < op ∧ due = false then ft s ln n (i + 1) (op - 1) false else if isBeg (s i) = false then some i else if isAlw (s i) (s (i + 1)) = false then some (i + 1) else ft s ln n (bhd s i) (if isRep (s i) then op + 1 else op) (isRep (s i))) else (if due = true ∨ 0 < op then some ln else none)
/-- the counts of ticks and items, read on from i -/
def cT (s : Nat → Nat) (ln : Nat) : Nat → Nat → Nat → (Nat → Nat) → Nat → Nat → Nat × Nat
  | 0, _, _, _, tk, it => (tk, it)
  | n + 1, i, d, tf, tk, it => if i < ln then (if s i = 41 then cT s ln n (bhd s i) (d - 1) tf tk it else if isRep (s i) then cT s ln n (bhd s i) (d + 1) (va_up tf (d + 1) (min (tf d * (s i - 48)) 5001)) tk it else cT s ln n (bhd s i) d tf (min (tk + tf d * (if s i = 116 then nmb s (i + 1) else 0)) 5001) (min (it + tf d) 5001)) else (tk, it)
/-- the highest number of a range that is named ahead of i, and one more; 0 if none is -/
def hiN (s : Nat → Nat) : Nat → Nat
  | 0 => 0
  | i + 1 => if isFor (s i) then max (hiN s i) (s (i + 1) - 48 + 1) else hiN s i
/-- one item -/
def itR (s : Nat → Nat) (r : Row) (i : Nat) : Row := if s i = 116 then tkR r (nmb s (i + 1)) else if s i = 112 then flpR r (s (i + 1) - 48) else stpR r (s (i + 1) - 48)
def itB (s : Nat → Nat) (i : Nat) : Nat := if s i = 116 then nmb s (i + 1) else 1
def itOk (s : Nat → Nat) (r : Row) (i : Nat) : Prop := (s i = 116 ∧ 49 ≤ s (i + 1) ∧ s (i + 1) ≤ 57) ∨ ((s i = 112 ∨ s i = 107) ∧ 48 ≤ s (i + 1) ∧ s (i + 1) ≤ 57 ∧ s (i + 1) - 48 < rc r)
/-- the program runs on from i, with d repeats open, in so many rounds, and leaves the row fin -/
def Run (s : Nat → Nat) (ln : Nat) : Nat → Nat → Nat → (Nat → Nat) → (Nat → Nat) → Row → Nat → Row → Prop
  | 0, i, _, _, _, r, _, fin => i = ln ∧ fin = r
  | n + 1, i, d, sf, tf, r, B, fin => i < ln ∧ Vr r B ∧ B < 90000000 ∧
    ((50 ≤ s i ∧ s i ≤ 57 ∧ s (i + 1) = 40 ∧ d < 30 ∧ Run s ln n (bhd s i) (d + 1) (va_up sf d (bhd s i)) (va_up tf d (s i - 48)) r B fin) ∨
     (s i = 41 ∧ 0 < d ∧ d ≤ 30 ∧ 1 ≤ tf (d - 1) ∧ tf (d - 1) ≤ 9 ∧ sf (d - 1) ≤ 60 ∧ ((1 < tf (d - 1) ∧ Run s ln n (sf (d - 1)) d sf (va_up tf (d - 1) (tf (d - 1) - 1)) r B fin) ∨ (tf (d - 1) = 1 ∧ Run s ln n (bhd s i) (d - 1) sf tf r B fin))) ∨
     (itOk s r i ∧ Run s ln n (bhd s i) d sf tf (itR s r i) (B + itB s i) fin))
def PF (E : gE) (g0 g : Mem) (ln : Nat) (tx : Nat → Nat) (f : Nat → Int32) (tk it : Int32) (st ti : Nat → Int32) : Prop := PX E g ln tx f tk it st ti ∧ Fp g0 g
section PFs
variable {E : gE} {g0 g : Mem} {ln : Nat} {tx : Nat → Nat} {f : Nat → Int32} {tk it : Int32} {st ti : Nat → Int32}
theorem PX.k (h : PX E g ln tx f tk it st ti) : 100 ≤ eK E := h.1
theorem PX.l (h : PX E g ln tx f tk it st ti) : ln ≤ 60 := h.2.1
theorem PX.t (h : PX E g ln tx f tk it st ti) : ∀ k, k < ln → tx k < 65536 := h.2.2.1
theorem PX.fx (h : PX E g ln tx f tk it st ti) : ∀ k, k < ln → f k = nI (tx k) := h.2.2.2.1
theorem PX.a93 (h : PX E g ln tx f tk it st ti) : g 93 = oB 2 [rf E 94, rf E 95, rf E 96, .int (nI ln), .int tk, .int it] := h.2.2.2.2.1
theorem PX.a94 (h : PX E g ln tx f tk it st ti) : g 94 = aI E 1 60 f := h.2.2.2.2.2.1
theorem PX.a95 (h : PX E g ln tx f tk it st ti) : g 95 = aI E 0 60 st := h.2.2.2.2.2.2.1
theorem PX.a96 (h : PX E g ln tx f tk it st ti) : g 96 = aI E 0 60 ti := h.2.2.2.2.2.2.2
theorem PX.u93 (h : PX E g ln tx f tk it st ti) (tk2 it2 : Int32) : PX E (va_up g 93 (oB 2 [rf E 94, rf E 95, rf E 96, .int (nI ln), .int tk2, .int it2])) ln tx f tk2 it2 st ti := ⟨h.1, h.2.1, h.2.2.1, h.2.2.2.1, va_up_self _ _ _, (va_up_ne _ _ (by decide)).trans h.a94, (va_up_ne _ _ (by decide)).trans h.a95, (va_up_ne _ _ (by decide)).trans h.a96⟩
theorem PX.u95 (h : PX E g ln tx f tk it st ti) (st2 : Nat → Int32) : PX E (va_up g 95 (aI E 0 60 st2)) ln tx f tk it st2 ti := ⟨h.1, h.2.1, h.2.2.1, h.2.2.2.1, (va_up_ne _ _ (by decide)).trans h.a93, (va_up_ne _ _ (by decide)).trans h.a94, va_up_self _ _ _, (va_up_ne _ _ (by decide)).trans h.a96⟩
theorem PX.u96 (h : PX E g ln tx f tk it st ti) (ti2 : Nat → Int32) : PX E (va_up g 96 (aI E 0 60 ti2)) ln tx f tk it st ti2 := ⟨h.1, h.2.1, h.2.2.1, h.2.2.2.1, (va_up_ne _ _ (by decide)).trans h.a93, (va_up_ne _ _ (by decide)).trans h.a94, (va_up_ne _ _ (by decide)).trans h.a95, va_up_self _ _ _⟩
theorem Fp.up (h : Fp g0 g) {k : Nat} {e : va_E} (h1 : 93 ≤ k) (h2 : k < 97) : Fp g0 (va_up g k e) := fun j hj => (va_up_ne _ _ (by omega)).trans (h j hj)
theorem PF.u93 (h : PF E g0 g ln tx f tk it st ti) (tk2 it2 : Int32) : PF E g0 (va_up g 93 (oB 2 [rf E 94, rf E 95, rf E 96, .int (nI ln), .int tk2, .int it2])) ln tx f tk2 it2 st ti := ⟨h.1.u93 _ _, h.2.up (by decide) (by decide)⟩
theorem PF.u95 (h : PF E g0 g ln tx f tk it st ti) (st2 : Nat → Int32) : PF E g0 (va_up g 95 (aI E 0 60 st2)) ln tx f tk it st2 ti := ⟨h.1.u95 _, h.2.up (by decide) (by decide)⟩
theorem PF.u96 (h : PF E g0 g ln tx f tk it st ti) (ti2 : Nat → Int32) : PF E g0 (va_up g 96 (aI E 0 60 ti2)) ln tx f tk it st ti2 := ⟨h.1.u96 _, h.2.up (by decide) (by decide)⟩
theorem sgn_lt (h : PX E g ln tx f tk it st ti) (i : Nat) : sgn ln tx i < 65536 := by
  unfold sgn
  split
  · exact h.t _ (by assumption)
  · decide
end PFs
theorem z_vpc {c : Nat} (h : c < 65536) : vp_nar .char (nI c) = nI c := by
  unfold vp_nar
  rw [(pk_charN h).1]
theorem sgn_0 {ln : Nat} {tx : Nat → Nat} {i : Nat} (h : ln ≤ i) : sgn ln tx i = 0 := if_neg (by omega)
/-- what a sign that is allowed tells -/
theorem tok {s : Nat → Nat} {i : Nat} (h1 : ¬ isBeg (s i) = false) (h2 : ¬ isAlw (s i) (s (i + 1)) = false) :
    (s i = 116 ∧ 49 ≤ s (i + 1) ∧ s (i + 1) ≤ 57 ∧ isRep (s i) = false ∧ isFor (s i) = false) ∨ ((s i = 112 ∨ s i = 107) ∧ 48 ≤ s (i + 1) ∧ s (i + 1) ≤ 53 ∧ isRep (s i) = false ∧ isFor (s i) = true ∧ bhd s i = i + 2) ∨ (50 ≤ s i ∧ s i ≤ 57 ∧ s (i + 1) = 40 ∧ isRep (s i) = true ∧ isFor (s i) = false ∧ bhd s i = i + 2) := by
  have e2 : s i ≠ 116 → s i ≠ 41 → bhd s i = i + 2 := fun a b => by unfold bhd; rw [if_neg b, if_neg (fun q => a q.1)]
  unfold isBeg isFor isRep at h1
  unfold isAlw isFor at h2
  by_cases a : s i = 116
  · rw [if_pos a] at h2
    simp only [decide_eq_false_iff_not, Decidable.not_not] at h2
    exact Or.inl ⟨a, h2.1, h2.2, decide_eq_false (by omega), decide_eq_false (by omega)⟩
  rw [if_neg a] at h2
  by_cases b : s i = 112 ∨ s i = 107
  · rw [if_pos (decide_eq_true b)] at h2
    simp only [decide_eq_false_iff_not, Decidable.not_not] at h2
    exact Or.inr (Or.inl ⟨b, h2.1, h2.2, decide_eq_false (by omega), decide_eq_true b, e2 a (by omega)⟩)
  · rw [if_neg (by simpa using b)] at h2
    simp only [decide_eq_false_iff_not, Decidable.not_not] at h2
    have c : 50 ≤ s i ∧ s i ≤ 57 := by
      apply Decidable.byContradiction
      intro q
      exact h1 (by simp only [decide_eq_false a, decide_eq_false b, decide_eq_false q]; rfl)
    exact Or.inr (Or.inr ⟨c.1, c.2, h2, decide_eq_true c, decide_eq_false b, e2 a (by omega)⟩)
theorem bhd_le {s : Nat → Nat} {i ln : Nat} (h0 : ∀ k, ln ≤ k → s k = 0) (hi : i < ln) (h2 : s i = 41 ∨ s (i + 1) ≠ 0) : i < bhd s i ∧ bhd s i ≤ ln ∧ (s i ≠ 41 → i + 2 ≤ bhd s i) := by
  have e1 : s (i + 1) ≠ 0 → i + 1 < ln := fun q => by
    apply Decidable.byContradiction
    intro q2
    exact q (h0 _ (by omega))
  have e2 : s (i + 2) ≠ 0 → i + 2 < ln := fun q => by
    apply Decidable.byContradiction
    intro q2
    exact q (h0 _ (by omega))
  unfold bhd
  split
  · omega
  · split <;> omega
/-- a text without a fault, one sign on -/
theorem ft_inv {s : Nat → Nat} {ln n i d : Nat} {due : Bool} (hi : i < ln) (h : ft s ln (n + 1) i d due = none) :
    (s i = 41 ∧ 0 < d ∧ due = false ∧ ft s ln n (i + 1) (d - 1) false = none) ∨ (¬ isBeg (s i) = false ∧ ¬ isAlw (s i) (s (i + 1)) = false ∧ ft s ln n (bhd s i) (if isRep (s i) then d + 1 else d) (isRep (s i)) = none) := by
  rw [ft, if_pos hi] at h
  split at h
  · rename_i q
    exact Or.inl ⟨q.1, q.2.1, q.2.2, h⟩
  · split at h
    · cases h
    · split at h
      · cases h
      · rename_i q1 q2
        exact Or.inr ⟨q1, q2, h⟩
theorem dX2_append_0 : decode cX2_append 0 = .ok (.aload_n 0, 1) := by decide +kernel
theorem dX2_append_1 : decode cX2_append 1 = .ok (.getfield 9, 3) := by decide +kernel
theorem dX2_append_4 : decode cX2_append 4 = .ok (.aload_n 0, 1) := by decide +kernel
theorem dX2_append_5 : decode cX2_append 5 = .ok (.getfield 22, 3) := by decide +kernel
theorem dX2_append_8 : decode cX2_append 8 = .ok (.iload_n 1, 1) := by decide +kernel
theorem dX2_append_9 : decode cX2_append 9 = .ok (.castore, 1) := by decide +kernel
theorem dX2_append_10 : decode cX2_append 10 = .ok (.aload_n 0, 1) := by decide +kernel
theorem dX2_append_11 : decode cX2_append 11 = .ok (.dup, 1) := by decide +kernel
theorem dX2_append_12 : decode cX2_append 12 = .ok (.getfield 22, 3) := by decide +kernel
theorem dX2_append_15 : decode cX2_append 15 = .ok (.iconst 1, 1) := by decide +kernel
theorem dX2_append_16 : decode cX2_append 16 = .ok (.iadd, 1) := by decide +kernel
theorem dX2_append_17 : decode cX2_append 17 = .ok (.putfield 22, 3) := by decide +kernel
theorem dX2_append_20 : decode cX2_append 20 = .ok (.return_, 1) := by decide +kernel
set_option maxHeartbeats 4000000 in
set_option maxRecDepth 100000 in
theorem c_X2_append (l : Launch) (E : gE) (g : Mem) (ln : Nat) (tx : Nat → Nat) (f : Nat → Int32) (tk it : Int32) (st ti : Nat → Int32) (h : PX E g ln tx f tk it st ti) (c : Nat) (hc : c < 65536) (hl : ln < 60) : Mt l E yX2_append cX2_append 2 none 0 0 [rf E (93), .int (nI (c))] g (pV (fun g' => PA E g' (ln + 1) (va_up tx ln c) ∧ Fp g g')) := by
  have hK := h.k
  have hln := h.l
  refine mt_go (own := RX2) (by decide) rfl (lo := [some (rf E (93)), some (.int (nI (c)))]) rfl (Nat.le_of_ble_eq_true rfl) (fun X hC => ?_)
  refine y_aload_n hC dX2_append_0 (i := 0) rfl rfl ?_
  refine y_get hC fX2_9 dX2_append_1 (k := 93) (by omega) h.a93 rfl ?_
  refine y_aload_n hC dX2_append_4 (i := 0) rfl rfl ?_
  refine y_get hC fX2_22 dX2_append_5 (k := 93) (by omega) h.a93 rfl ?_
  refine y_iload_n hC dX2_append_8 (i := 1) rfl rfl ?_
  refine y_cast hC dX2_append_9 (k := 94) (j := ln) (by omega) h.a94 (rfl) (by omega) (by decide) (z_vpc hc) ?_
  refine y_aload_n hC dX2_append_10 (i := 0) rfl rfl ?_
  refine y_dup hC dX2_append_11 rfl ?_
  refine y_get hC fX2_22 dX2_append_12 (k := 93) (by omega) ((va_up_ne _ _ (by decide)).trans h.a93) rfl ?_
  refine y_iconst (v := nI 1) hC dX2_append_15 (by decide) ?_
  refine y_iadd_n hC dX2_append_16 ?_
  refine y_put hC fpX2_22 dX2_append_17 (k := 93) (by omega) ((va_up_ne _ _ (by decide)).trans h.a93) (Nat.le_of_ble_eq_true rfl) (rfl) (rfl) (fs' := [rf E (94), rf E (95), rf E (96), .int (nI (ln + 1)), .int (tk), .int (it)]) rfl ?_
  refine y_vret (hC := hC) (hd := dX2_append_20) (hq := ?_)
  refine ⟨⟨upd f ln (nI c), tk, it, st, ti, hK, by omega, fun k hk => ?_, fun k hk => ?_, va_up_self _ _ _, (va_up_ne _ _ (by decide)).trans (va_up_self _ _ _), (va_up_ne _ _ (by decide)).trans ((va_up_ne _ _ (by decide)).trans h.a95), (va_up_ne _ _ (by decide)).trans ((va_up_ne _ _ (by decide)).trans h.a96)⟩, fun k hk => (va_up_ne _ _ (by omega)).trans (va_up_ne _ _ (by omega))⟩
  · by_cases e : k = ln
    · rw [e, va_up_self]
      exact hc
    · rw [va_up_ne _ _ e]
      exact h.t k (by omega)
  · by_cases e : k = ln
    · rw [e, va_up_self, pk_us]
    · rw [va_up_ne _ _ e, pk_un e]
      exact h.fx k (by omega)

theorem dX2_signAt_0 : decode cX2_signAt 0 = .ok (.iload_n 1, 1) := by decide +kernel
theorem dX2_signAt_1 : decode cX2_signAt 1 = .ok (.aload_n 0, 1) := by decide +kernel
theorem dX2_signAt_2 : decode cX2_signAt 2 = .ok (.getfield 22, 3) := by decide +kernel
theorem dX2_signAt_5 : decode cX2_signAt 5 = .ok (.if_icmp .ge 12, 3) := by decide +kernel
theorem dX2_signAt_8 : decode cX2_signAt 8 = .ok (.aload_n 0, 1) := by decide +kernel
theorem dX2_signAt_9 : decode cX2_signAt 9 = .ok (.getfield 9, 3) := by decide +kernel
theorem dX2_signAt_12 : decode cX2_signAt 12 = .ok (.iload_n 1, 1) := by decide +kernel
theorem dX2_signAt_13 : decode cX2_signAt 13 = .ok (.caload, 1) := by decide +kernel
theorem dX2_signAt_14 : decode cX2_signAt 14 = .ok (.goto 4, 3) := by decide +kernel
theorem dX2_signAt_17 : decode cX2_signAt 17 = .ok (.iconst 0, 1) := by decide +kernel
theorem dX2_signAt_18 : decode cX2_signAt 18 = .ok (.ireturn, 1) := by decide +kernel
set_option maxHeartbeats 4000000 in
set_option maxRecDepth 100000 in
theorem c_X2_signAt (l : Launch) (E : gE) (g : Mem) (ln : Nat) (tx : Nat → Nat) (f : Nat → Int32) (tk it : Int32) (st ti : Nat → Int32) (h : PX E g ln tx f tk it st ti) (i : Nat) (hi : i < 2147483648) : Mt l E yX2_signAt cX2_signAt 2 (some .char) 0 0 [rf E (93), .int (nI (i))] g (pI (fun z g' => z = nI (sgn ln tx i) ∧ g' = g)) := by
  have hK := h.k
  have hln := h.l
  refine mt_go (own := RX2) (by decide) rfl (lo := [some (rf E (93)), some (.int (nI (i)))]) rfl (Nat.le_of_ble_eq_true rfl) (fun X hC => ?_)
  refine y_iload_n hC dX2_signAt_0 (i := 1) rfl rfl ?_
  refine y_aload_n hC dX2_signAt_1 (i := 0) rfl rfl ?_
  refine y_get hC fX2_22 dX2_signAt_2 (k := 93) (by omega) h.a93 rfl ?_
  refine y_icmp_ge_n (tgt := 17) hC dX2_signAt_5 (by decide) (by omega) (by omega) (fun c_5 => ?_) (fun c_5 => ?_)
  · refine y_iconst (v := nI 0) hC dX2_signAt_17 (by decide) ?_
    refine y_top (y := nI (sgn ln tx i)) (by rw [sgn_0 (by omega)]) ?_
    refine y_zret (hrt := rfl) (hn := (pk_charN (sgn_lt h i)).1) (hC := hC) (hd := dX2_signAt_18) (hq := ?_)
    exact ⟨rfl, rfl⟩
  · refine y_aload_n hC dX2_signAt_8 (i := 0) rfl rfl ?_
    refine y_get hC fX2_9 dX2_signAt_9 (k := 93) (by omega) h.a93 rfl ?_
    refine y_iload_n hC dX2_signAt_12 (i := 1) rfl rfl ?_
    refine y_cald hC dX2_signAt_13 (k := 94) (j := i) (by omega) h.a94 (rfl) (by omega) (by decide) ?_
    refine y_top (y := nI (sgn ln tx i)) ((h.fx i (by omega)).trans (by unfold sgn; rw [if_pos (by omega)])) ?_
    refine y_goto (tgt := 18) hC dX2_signAt_14 (by decide) ?_
    refine y_zret (hrt := rfl) (hn := (pk_charN (sgn_lt h i)).1) (hC := hC) (hd := dX2_signAt_18) (hq := ?_)
    exact ⟨rfl, rfl⟩

theorem dX2_isDigit_0 : decode cX2_isDigit 0 = .ok (.iload_n 0, 1) := by decide +kernel
theorem dX2_isDigit_1 : decode cX2_isDigit 1 = .ok (.iload_n 1, 1) := by decide +kernel
theorem dX2_isDigit_2 : decode cX2_isDigit 2 = .ok (.if_icmp .lt 12, 3) := by decide +kernel
theorem dX2_isDigit_5 : decode cX2_isDigit 5 = .ok (.iload_n 0, 1) := by decide +kernel
theorem dX2_isDigit_6 : decode cX2_isDigit 6 = .ok (.iload_n 2, 1) := by decide +kernel
theorem dX2_isDigit_7 : decode cX2_isDigit 7 = .ok (.if_icmp .gt 7, 3) := by decide +kernel
theorem dX2_isDigit_10 : decode cX2_isDigit 10 = .ok (.iconst 1, 1) := by decide +kernel
theorem dX2_isDigit_11 : decode cX2_isDigit 11 = .ok (.goto 4, 3) := by decide +kernel
theorem dX2_isDigit_14 : decode cX2_isDigit 14 = .ok (.iconst 0, 1) := by decide +kernel
theorem dX2_isDigit_15 : decode cX2_isDigit 15 = .ok (.ireturn, 1) := by decide +kernel
set_option maxHeartbeats 4000000 in
set_option maxRecDepth 100000 in
theorem c_X2_isDigit (l : Launch) (E : gE) (g : Mem) (a b c : Nat) (ha : a < 65536) (hb : b < 65536) (hc : c < 65536) : Mt l E yX2_isDigit cX2_isDigit 3 (some .boolean) 0 0 [.int (nI (a)), .int (nI (b)), .int (nI (c))] g (pI (fun z g' => z = bI (b ≤ a ∧ a ≤ c) ∧ g' = g)) := by
  refine mt_go (own := RX2) (by decide) rfl (lo := [some (.int (nI (a))), some (.int (nI (b))), some (.int (nI (c)))]) rfl (Nat.le_of_ble_eq_true rfl) (fun X hC => ?_)
  refine y_iload_n hC dX2_isDigit_0 (i := 0) rfl rfl ?_
  refine y_iload_n hC dX2_isDigit_1 (i := 1) rfl rfl ?_
  refine y_icmp_lt_n (tgt := 14) hC dX2_isDigit_2 (by decide) (by omega) (by omega) (fun c_2 => ?_) (fun c_2 => ?_)
  · refine y_iconst (v := nI 0) hC dX2_isDigit_14 (by decide) ?_
    refine y_zret (hrt := rfl) (hn := rfl) (hC := hC) (hd := dX2_isDigit_15) (hq := ?_)
    first | exact ⟨(bI_t (by omega)).symm, rfl⟩ | exact ⟨(bI_f (by omega)).symm, rfl⟩
  · refine y_iload_n hC dX2_isDigit_5 (i := 0) rfl rfl ?_
    refine y_iload_n hC dX2_isDigit_6 (i := 2) rfl rfl ?_
    refine y_icmp_gt_n (tgt := 14) hC dX2_isDigit_7 (by decide) (by omega) (by omega) (fun c_7 => ?_) (fun c_7 => ?_)
    · refine y_iconst (v := nI 0) hC dX2_isDigit_14 (by decide) ?_
      refine y_zret (hrt := rfl) (hn := rfl) (hC := hC) (hd := dX2_isDigit_15) (hq := ?_)
      first | exact ⟨(bI_t (by omega)).symm, rfl⟩ | exact ⟨(bI_f (by omega)).symm, rfl⟩
    · refine y_iconst (v := nI 1) hC dX2_isDigit_10 (by decide) ?_
      refine y_goto (tgt := 15) hC dX2_isDigit_11 (by decide) ?_
      refine y_zret (hrt := rfl) (hn := rfl) (hC := hC) (hd := dX2_isDigit_15) (hq := ?_)
      first | exact ⟨(bI_t (by omega)).symm, rfl⟩ | exact ⟨(bI_f (by omega)).symm, rfl⟩

theorem dX2_isRepeat_0 : decode cX2_isRepeat 0 = .ok (.iload_n 0, 1) := by decide +kernel
theorem dX2_isRepeat_1 : decode cX2_isRepeat 1 = .ok (.bipush 50, 2) := by decide +kernel
theorem dX2_isRepeat_3 : decode cX2_isRepeat 3 = .ok (.bipush 57, 2) := by decide +kernel
theorem dX2_isRepeat_5 : decode cX2_isRepeat 5 = .ok (.invokestatic 32, 3) := by decide +kernel
theorem dX2_isRepeat_8 : decode cX2_isRepeat 8 = .ok (.ireturn, 1) := by decide +kernel
set_option maxHeartbeats 4000000 in
set_option maxRecDepth 100000 in
theorem c_X2_isRepeat (l : Launch) (E : gE) (g : Mem) (a : Nat) (ha : a < 65536) : Mt l E yX2_isRepeat cX2_isRepeat 1 (some .boolean) 1 22 [.int (nI (a))] g (pI (fun z g' => z = bI (isRep a = true) ∧ g' = g)) := by
  refine mt_go (own := RX2) (by decide) rfl (lo := [some (.int (nI (a)))]) rfl (Nat.le_of_ble_eq_true rfl) (fun X hC => ?_)
  refine y_iload_n hC dX2_isRepeat_0 (i := 0) rfl rfl ?_
  refine y_bipush (v := nI 50) hC dX2_isRepeat_1 (by decide) ?_
  refine y_bipush (v := nI 57) hC dX2_isRepeat_3 (by decide) ?_
  refine y_callS hC mX2_isDigit kX2_32 dX2_isRepeat_5 (As := [.int (nI (a)), .int (nI (50)), .int (nI (57))]) (rest := []) (c_X2_isDigit l E g (a) 50 57 (by omega) (by decide) (by decide)) rfl rfl rfl (Nat.le_of_ble_eq_true rfl) ⟨Nat.le_of_ble_eq_true rfl, Nat.le_of_ble_eq_true rfl⟩ (pk_i ?_)
  rintro r_5 g_5 ⟨hr_5, hq_5⟩
  obtain rfl := hq_5.symm
  rw [hr_5]
  clear hr_5 r_5
  refine y_zretb (hC := hC) (hd := dX2_isRepeat_8) (hq := ?_)
  exact ⟨bI_cg (by unfold isRep; rw [decide_eq_true_eq]), rfl⟩

theorem dX2_isForRange_0 : decode cX2_isForRange 0 = .ok (.iload_n 0, 1) := by decide +kernel
theorem dX2_isForRange_1 : decode cX2_isForRange 1 = .ok (.bipush 112, 2) := by decide +kernel
theorem dX2_isForRange_3 : decode cX2_isForRange 3 = .ok (.if_icmp .eq 9, 3) := by decide +kernel
theorem dX2_isForRange_6 : decode cX2_isForRange 6 = .ok (.iload_n 0, 1) := by decide +kernel
theorem dX2_isForRange_7 : decode cX2_isForRange 7 = .ok (.bipush 107, 2) := by decide +kernel
theorem dX2_isForRange_9 : decode cX2_isForRange 9 = .ok (.if_icmp .ne 7, 3) := by decide +kernel
theorem dX2_isForRange_12 : decode cX2_isForRange 12 = .ok (.iconst 1, 1) := by decide +kernel
theorem dX2_isForRange_13 : decode cX2_isForRange 13 = .ok (.goto 4, 3) := by decide +kernel
theorem dX2_isForRange_16 : decode cX2_isForRange 16 = .ok (.iconst 0, 1) := by decide +kernel
theorem dX2_isForRange_17 : decode cX2_isForRange 17 = .ok (.ireturn, 1) := by decide +kernel
set_option maxHeartbeats 4000000 in
set_option maxRecDepth 100000 in
theorem c_X2_isForRange (l : Launch) (E : gE) (g : Mem) (a : Nat) (ha : a < 65536) : Mt l E yX2_isForRange cX2_isForRange 1 (some .boolean) 0 0 [.int (nI (a))] g (pI (fun z g' => z = bI (isFor a = true) ∧ g' = g)) := by
  refine mt_go (own := RX2) (by decide) rfl (lo := [some (.int (nI (a)))]) rfl (Nat.le_of_ble_eq_true rfl) (fun X hC => ?_)
  refine y_iload_n hC dX2_isForRange_0 (i := 0) rfl rfl ?_
  refine y_bipush (v := nI 112) hC dX2_isForRange_1 (by decide) ?_
  refine y_icmp_eq_n (tgt := 12) hC dX2_isForRange_3 (by decide) (by omega) (by omega) (fun c_3 => ?_) (fun c_3 => ?_)
  · refine y_iconst (v := nI 1) hC dX2_isForRange_12 (by decide) ?_
    refine y_goto (tgt := 17) hC dX2_isForRange_13 (by decide) ?_
    refine y_zret (hrt := rfl) (hn := rfl) (hC := hC) (hd := dX2_isForRange_17) (hq := ?_)
    first | exact ⟨(bI_t (decide_eq_true (by omega))).symm, rfl⟩ | exact ⟨(bI_f (by unfold isFor; rw [decide_eq_true_eq]; omega)).symm, rfl⟩
  · refine y_iload_n hC dX2_isForRange_6 (i := 0) rfl rfl ?_
    refine y_bipush (v := nI 107) hC dX2_isForRange_7 (by decide) ?_
    refine y_icmp_ne_n (tgt := 16) hC dX2_isForRange_9 (by decide) (by omega) (by omega) (fun c_9 => ?_) (fun c_9 => ?_)
    · refine y_iconst (v := nI 0) hC dX2_isForRange_16 (by decide) ?_
      refine y_zret (hrt := rfl) (hn := rfl) (hC := hC) (hd := dX2_isForRange_17) (hq := ?_)
      first | exact ⟨(bI_t (decide_eq_true (by omega))).symm, rfl⟩ | exact ⟨(bI_f (by unfold isFor; rw [decide_eq_true_eq]; omega)).symm, rfl⟩
    · refine y_iconst (v := nI 1) hC dX2_isForRange_12 (by decide) ?_
      refine y_goto (tgt := 17) hC dX2_isForRange_13 (by decide) ?_
      refine y_zret (hrt := rfl) (hn := rfl) (hC := hC) (hd := dX2_isForRange_17) (hq := ?_)
      first | exact ⟨(bI_t (decide_eq_true (by omega))).symm, rfl⟩ | exact ⟨(bI_f (by unfold isFor; rw [decide_eq_true_eq]; omega)).symm, rfl⟩

theorem dX2_isBeginning_0 : decode cX2_isBeginning 0 = .ok (.iload_n 0, 1) := by decide +kernel
theorem dX2_isBeginning_1 : decode cX2_isBeginning 1 = .ok (.bipush 116, 2) := by decide +kernel
theorem dX2_isBeginning_3 : decode cX2_isBeginning 3 = .ok (.if_icmp .eq 17, 3) := by decide +kernel
theorem dX2_isBeginning_6 : decode cX2_isBeginning 6 = .ok (.iload_n 0, 1) := by decide +kernel
theorem dX2_isBeginning_7 : decode cX2_isBeginning 7 = .ok (.invokestatic 36, 3) := by decide +kernel
theorem dX2_isBeginning_10 : decode cX2_isBeginning 10 = .ok (.ifCond .ne 10, 3) := by decide +kernel
theorem dX2_isBeginning_13 : decode cX2_isBeginning 13 = .ok (.iload_n 0, 1) := by decide +kernel
theorem dX2_isBeginning_14 : decode cX2_isBeginning 14 = .ok (.invokestatic 40, 3) := by decide +kernel
theorem dX2_isBeginning_17 : decode cX2_isBeginning 17 = .ok (.ifCond .eq 7, 3) := by decide +kernel
theorem dX2_isBeginning_20 : decode cX2_isBeginning 20 = .ok (.iconst 1, 1) := by decide +kernel
theorem dX2_isBeginning_21 : decode cX2_isBeginning 21 = .ok (.goto 4, 3) := by decide +kernel
theorem dX2_isBeginning_24 : decode cX2_isBeginning 24 = .ok (.iconst 0, 1) := by decide +kernel
theorem dX2_isBeginning_25 : decode cX2_isBeginning 25 = .ok (.ireturn, 1) := by decide +kernel
set_option maxHeartbeats 4000000 in
set_option maxRecDepth 100000 in
theorem c_X2_isBeginning (l : Launch) (E : gE) (g : Mem) (a : Nat) (ha : a < 65536) : Mt l E yX2_isBeginning cX2_isBeginning 1 (some .boolean) 2 42 [.int (nI (a))] g (pI (fun z g' => z = bI (isBeg a = true) ∧ g' = g)) := by
  refine mt_go (own := RX2) (by decide) rfl (lo := [some (.int (nI (a)))]) rfl (Nat.le_of_ble_eq_true rfl) (fun X hC => ?_)
  refine y_iload_n hC dX2_isBeginning_0 (i := 0) rfl rfl ?_
  refine y_bipush (v := nI 116) hC dX2_isBeginning_1 (by decide) ?_
  refine y_icmp_eq_n (tgt := 20) hC dX2_isBeginning_3 (by decide) (by omega) (by omega) (fun c_3 => ?_) (fun c_3 => ?_)
  · refine y_iconst (v := nI 1) hC dX2_isBeginning_20 (by decide) ?_
    refine y_goto (tgt := 25) hC dX2_isBeginning_21 (by decide) ?_
    refine y_zret (hrt := rfl) (hn := rfl) (hC := hC) (hd := dX2_isBeginning_25) (hq := ?_)
    first
      | (refine ⟨(bI_t ?_).symm, rfl⟩; unfold isBeg; simp [*]; done)
      | (refine ⟨(bI_f ?_).symm, rfl⟩; unfold isBeg; simp [*]; done)
  · refine y_iload_n hC dX2_isBeginning_6 (i := 0) rfl rfl ?_
    refine y_callS hC mX2_isForRange kX2_36 dX2_isBeginning_7 (As := [.int (nI (a))]) (rest := []) (c_X2_isForRange l E g a ha) rfl rfl rfl (Nat.le_of_ble_eq_true rfl) ⟨Nat.le_of_ble_eq_true rfl, Nat.le_of_ble_eq_true rfl⟩ (pk_i ?_)
    rintro r_7 g_7 ⟨hr_7, hq_7⟩
    obtain rfl := hq_7.symm
    rw [hr_7]
    clear hr_7 r_7
    refine y_if_ne_b (tgt := 20) hC dX2_isBeginning_10 (by decide) (fun c_10 => ?_) (fun c_10 => ?_)
    · refine y_iconst (v := nI 1) hC dX2_isBeginning_20 (by decide) ?_
      refine y_goto (tgt := 25) hC dX2_isBeginning_21 (by decide) ?_
      refine y_zret (hrt := rfl) (hn := rfl) (hC := hC) (hd := dX2_isBeginning_25) (hq := ?_)
      first
        | (refine ⟨(bI_t ?_).symm, rfl⟩; unfold isBeg; simp [*]; done)
        | (refine ⟨(bI_f ?_).symm, rfl⟩; unfold isBeg; simp [*]; done)
    · refine y_iload_n hC dX2_isBeginning_13 (i := 0) rfl rfl ?_
      refine y_callS hC mX2_isRepeat kX2_40 dX2_isBeginning_14 (As := [.int (nI (a))]) (rest := []) (c_X2_isRepeat l E g a ha) rfl rfl rfl (Nat.le_of_ble_eq_true rfl) ⟨Nat.le_of_ble_eq_true rfl, Nat.le_of_ble_eq_true rfl⟩ (pk_i ?_)
      rintro r_14 g_14 ⟨hr_14, hq_14⟩
      obtain rfl := hq_14.symm
      rw [hr_14]
      clear hr_14 r_14
      refine y_if_eq_b (tgt := 24) hC dX2_isBeginning_17 (by decide) (fun c_17 => ?_) (fun c_17 => ?_)
      · refine y_iconst (v := nI 0) hC dX2_isBeginning_24 (by decide) ?_
        refine y_zret (hrt := rfl) (hn := rfl) (hC := hC) (hd := dX2_isBeginning_25) (hq := ?_)
        first
          | (refine ⟨(bI_t ?_).symm, rfl⟩; unfold isBeg; simp [*]; done)
          | (refine ⟨(bI_f ?_).symm, rfl⟩; unfold isBeg; simp [*]; done)
      · refine y_iconst (v := nI 1) hC dX2_isBeginning_20 (by decide) ?_
        refine y_goto (tgt := 25) hC dX2_isBeginning_21 (by decide) ?_
        refine y_zret (hrt := rfl) (hn := rfl) (hC := hC) (hd := dX2_isBeginning_25) (hq := ?_)
        first
          | (refine ⟨(bI_t ?_).symm, rfl⟩; unfold isBeg; simp [*]; done)
          | (refine ⟨(bI_f ?_).symm, rfl⟩; unfold isBeg; simp [*]; done)

theorem dX2_isAllowedBehind_0 : decode cX2_isAllowedBehind 0 = .ok (.iload_n 0, 1) := by decide +kernel
theorem dX2_isAllowedBehind_1 : decode cX2_isAllowedBehind 1 = .ok (.bipush 116, 2) := by decide +kernel
theorem dX2_isAllowedBehind_3 : decode cX2_isAllowedBehind 3 = .ok (.if_icmp .ne 12, 3) := by decide +kernel
theorem dX2_isAllowedBehind_6 : decode cX2_isAllowedBehind 6 = .ok (.iload_n 1, 1) := by decide +kernel
theorem dX2_isAllowedBehind_7 : decode cX2_isAllowedBehind 7 = .ok (.bipush 49, 2) := by decide +kernel
theorem dX2_isAllowedBehind_9 : decode cX2_isAllowedBehind 9 = .ok (.bipush 57, 2) := by decide +kernel
theorem dX2_isAllowedBehind_11 : decode cX2_isAllowedBehind 11 = .ok (.invokestatic 32, 3) := by decide +kernel
theorem dX2_isAllowedBehind_14 : decode cX2_isAllowedBehind 14 = .ok (.ireturn, 1) := by decide +kernel
theorem dX2_isAllowedBehind_15 : decode cX2_isAllowedBehind 15 = .ok (.iload_n 0, 1) := by decide +kernel
theorem dX2_isAllowedBehind_16 : decode cX2_isAllowedBehind 16 = .ok (.invokestatic 36, 3) := by decide +kernel
theorem dX2_isAllowedBehind_19 : decode cX2_isAllowedBehind 19 = .ok (.ifCond .eq 14, 3) := by decide +kernel
theorem dX2_isAllowedBehind_22 : decode cX2_isAllowedBehind 22 = .ok (.iload_n 1, 1) := by decide +kernel
theorem dX2_isAllowedBehind_23 : decode cX2_isAllowedBehind 23 = .ok (.bipush 48, 2) := by decide +kernel
theorem dX2_isAllowedBehind_25 : decode cX2_isAllowedBehind 25 = .ok (.bipush 53, 2) := by decide +kernel
theorem dX2_isAllowedBehind_27 : decode cX2_isAllowedBehind 27 = .ok (.invokestatic 32, 3) := by decide +kernel
theorem dX2_isAllowedBehind_30 : decode cX2_isAllowedBehind 30 = .ok (.goto 14, 3) := by decide +kernel
theorem dX2_isAllowedBehind_33 : decode cX2_isAllowedBehind 33 = .ok (.iload_n 1, 1) := by decide +kernel
theorem dX2_isAllowedBehind_34 : decode cX2_isAllowedBehind 34 = .ok (.bipush 40, 2) := by decide +kernel
theorem dX2_isAllowedBehind_36 : decode cX2_isAllowedBehind 36 = .ok (.if_icmp .ne 7, 3) := by decide +kernel
theorem dX2_isAllowedBehind_39 : decode cX2_isAllowedBehind 39 = .ok (.iconst 1, 1) := by decide +kernel
theorem dX2_isAllowedBehind_40 : decode cX2_isAllowedBehind 40 = .ok (.goto 4, 3) := by decide +kernel
theorem dX2_isAllowedBehind_43 : decode cX2_isAllowedBehind 43 = .ok (.iconst 0, 1) := by decide +kernel
theorem dX2_isAllowedBehind_44 : decode cX2_isAllowedBehind 44 = .ok (.ireturn, 1) := by decide +kernel
set_option maxHeartbeats 4000000 in
set_option maxRecDepth 100000 in
theorem c_X2_isAllowedBehind (l : Launch) (E : gE) (g : Mem) (a b : Nat) (ha : a < 65536) (hb : b < 65536) : Mt l E yX2_isAllowedBehind cX2_isAllowedBehind 2 (some .boolean) 1 22 [.int (nI (a)), .int (nI (b))] g (pI (fun z g' => z = bI (isAlw a b = true) ∧ g' = g)) := by
  refine mt_go (own := RX2) (by decide) rfl (lo := [some (.int (nI (a))), some (.int (nI (b)))]) rfl (Nat.le_of_ble_eq_true rfl) (fun X hC => ?_)
  refine y_iload_n hC dX2_isAllowedBehind_0 (i := 0) rfl rfl ?_
  refine y_bipush (v := nI 116) hC dX2_isAllowedBehind_1 (by decide) ?_
  refine y_icmp_ne_n (tgt := 15) hC dX2_isAllowedBehind_3 (by decide) (by omega) (by omega) (fun c_3 => ?_) (fun c_3 => ?_)
  · refine y_iload_n hC dX2_isAllowedBehind_15 (i := 0) rfl rfl ?_
    refine y_callS hC mX2_isForRange kX2_36 dX2_isAllowedBehind_16 (As := [.int (nI (a))]) (rest := []) (c_X2_isForRange l E g a ha) rfl rfl rfl (Nat.le_of_ble_eq_true rfl) ⟨Nat.le_of_ble_eq_true rfl, Nat.le_of_ble_eq_true rfl⟩ (pk_i ?_)
    rintro r_16 g_16 ⟨hr_16, hq_16⟩
    obtain rfl := hq_16.symm
    rw [hr_16]
    clear hr_16 r_16
    refine y_if_eq_b (tgt := 33) hC dX2_isAllowedBehind_19 (by decide) (fun c_19 => ?_) (fun c_19 => ?_)
    · refine y_iload_n hC dX2_isAllowedBehind_33 (i := 1) rfl rfl ?_
      refine y_bipush (v := nI 40) hC dX2_isAllowedBehind_34 (by decide) ?_
      refine y_icmp_ne_n (tgt := 43) hC dX2_isAllowedBehind_36 (by decide) (by omega) (by omega) (fun c_36 => ?_) (fun c_36 => ?_)
      · refine y_iconst (v := nI 0) hC dX2_isAllowedBehind_43 (by decide) ?_
        refine y_zret (hrt := rfl) (hn := rfl) (hC := hC) (hd := dX2_isAllowedBehind_44) (hq := ?_)
        first
          | (refine ⟨bI_cg ?_, rfl⟩; unfold isAlw; simp [*]; done)
          | (refine ⟨(bI_t ?_).symm, rfl⟩; unfold isAlw; simp [*]; done)
          | (refine ⟨(bI_f ?_).symm, rfl⟩; unfold isAlw; simp [*]; done)
      · refine y_iconst (v := nI 1) hC dX2_isAllowedBehind_39 (by decide) ?_
        refine y_goto (tgt := 44) hC dX2_isAllowedBehind_40 (by decide) ?_
        refine y_zret (hrt := rfl) (hn := rfl) (hC := hC) (hd := dX2_isAllowedBehind_44) (hq := ?_)
        first
          | (refine ⟨bI_cg ?_, rfl⟩; unfold isAlw; simp [*]; done)
          | (refine ⟨(bI_t ?_).symm, rfl⟩; unfold isAlw; simp [*]; done)
          | (refine ⟨(bI_f ?_).symm, rfl⟩; unfold isAlw; simp [*]; done)
    · refine y_iload_n hC dX2_isAllowedBehind_22 (i := 1) rfl rfl ?_
      refine y_bipush (v := nI 48) hC dX2_isAllowedBehind_23 (by decide) ?_
      refine y_bipush (v := nI 53) hC dX2_isAllowedBehind_25 (by decide) ?_
      refine y_callS hC mX2_isDigit kX2_32 dX2_isAllowedBehind_27 (As := [.int (nI (b)), .int (nI (48)), .int (nI (53))]) (rest := []) (c_X2_isDigit l E g (b) 48 53 (by omega) (by decide) (by decide)) rfl rfl rfl (Nat.le_of_ble_eq_true rfl) ⟨Nat.le_of_ble_eq_true rfl, Nat.le_of_ble_eq_true rfl⟩ (pk_i ?_)
      rintro r_27 g_27 ⟨hr_27, hq_27⟩
      obtain rfl := hq_27.symm
      rw [hr_27]
      clear hr_27 r_27
      refine y_goto (tgt := 44) hC dX2_isAllowedBehind_30 (by decide) ?_
      refine y_zretb (hC := hC) (hd := dX2_isAllowedBehind_44) (hq := ?_)
      first
        | (refine ⟨bI_cg ?_, rfl⟩; unfold isAlw; simp [*]; done)
        | (refine ⟨(bI_t ?_).symm, rfl⟩; unfold isAlw; simp [*]; done)
        | (refine ⟨(bI_f ?_).symm, rfl⟩; unfold isAlw; simp [*]; done)
  · refine y_iload_n hC dX2_isAllowedBehind_6 (i := 1) rfl rfl ?_
    refine y_bipush (v := nI 49) hC dX2_isAllowedBehind_7 (by decide) ?_
    refine y_bipush (v := nI 57) hC dX2_isAllowedBehind_9 (by decide) ?_
    refine y_callS hC mX2_isDigit kX2_32 dX2_isAllowedBehind_11 (As := [.int (nI (b)), .int (nI (49)), .int (nI (57))]) (rest := []) (c_X2_isDigit l E g (b) 49 57 (by omega) (by decide) (by decide)) rfl rfl rfl (Nat.le_of_ble_eq_true rfl) ⟨Nat.le_of_ble_eq_true rfl, Nat.le_of_ble_eq_true rfl⟩ (pk_i ?_)
    rintro r_11 g_11 ⟨hr_11, hq_11⟩
    obtain rfl := hq_11.symm
    rw [hr_11]
    clear hr_11 r_11
    refine y_zretb (hC := hC) (hd := dX2_isAllowedBehind_14) (hq := ?_)
    first
      | (refine ⟨bI_cg ?_, rfl⟩; unfold isAlw; simp [*]; done)
      | (refine ⟨(bI_t ?_).symm, rfl⟩; unfold isAlw; simp [*]; done)
      | (refine ⟨(bI_f ?_).symm, rfl⟩; unfold isAlw; simp [*]; done)

theorem dX2_behind_0 : decode cX2_behind 0 = .ok (.aload_n 0, 1) := by decide +kernel
theorem dX2_behind_1 : decode cX2_behind 1 = .ok (.iload_n 1, 1) := by decide +kernel
theorem dX2_behind_2 : decode cX2_behind 2 = .ok (.invokevirtual 43, 3) := by decide +kernel
theorem dX2_behind_5 : decode cX2_behind 5 = .ok (.bipush 41, 2) := by decide +kernel
theorem dX2_behind_7 : decode cX2_behind 7 = .ok (.if_icmp .ne 7, 3) := by decide +kernel
theorem dX2_behind_10 : decode cX2_behind 10 = .ok (.iload_n 1, 1) := by decide +kernel
theorem dX2_behind_11 : decode cX2_behind 11 = .ok (.iconst 1, 1) := by decide +kernel
theorem dX2_behind_12 : decode cX2_behind 12 = .ok (.iadd, 1) := by decide +kernel
theorem dX2_behind_13 : decode cX2_behind 13 = .ok (.ireturn, 1) := by decide +kernel
theorem dX2_behind_14 : decode cX2_behind 14 = .ok (.aload_n 0, 1) := by decide +kernel
theorem dX2_behind_15 : decode cX2_behind 15 = .ok (.iload_n 1, 1) := by decide +kernel
theorem dX2_behind_16 : decode cX2_behind 16 = .ok (.invokevirtual 43, 3) := by decide +kernel
theorem dX2_behind_19 : decode cX2_behind 19 = .ok (.bipush 116, 2) := by decide +kernel
theorem dX2_behind_21 : decode cX2_behind 21 = .ok (.if_icmp .ne 24, 3) := by decide +kernel
theorem dX2_behind_24 : decode cX2_behind 24 = .ok (.aload_n 0, 1) := by decide +kernel
theorem dX2_behind_25 : decode cX2_behind 25 = .ok (.iload_n 1, 1) := by decide +kernel
theorem dX2_behind_26 : decode cX2_behind 26 = .ok (.iconst 2, 1) := by decide +kernel
theorem dX2_behind_27 : decode cX2_behind 27 = .ok (.iadd, 1) := by decide +kernel
theorem dX2_behind_28 : decode cX2_behind 28 = .ok (.invokevirtual 43, 3) := by decide +kernel
theorem dX2_behind_31 : decode cX2_behind 31 = .ok (.bipush 48, 2) := by decide +kernel
theorem dX2_behind_33 : decode cX2_behind 33 = .ok (.bipush 57, 2) := by decide +kernel
theorem dX2_behind_35 : decode cX2_behind 35 = .ok (.invokestatic 32, 3) := by decide +kernel
theorem dX2_behind_38 : decode cX2_behind 38 = .ok (.ifCond .eq 7, 3) := by decide +kernel
theorem dX2_behind_41 : decode cX2_behind 41 = .ok (.iconst 1, 1) := by decide +kernel
theorem dX2_behind_42 : decode cX2_behind 42 = .ok (.goto 4, 3) := by decide +kernel
theorem dX2_behind_45 : decode cX2_behind 45 = .ok (.iconst 0, 1) := by decide +kernel
theorem dX2_behind_46 : decode cX2_behind 46 = .ok (.istore_n 2, 1) := by decide +kernel
theorem dX2_behind_47 : decode cX2_behind 47 = .ok (.iload_n 1, 1) := by decide +kernel
theorem dX2_behind_48 : decode cX2_behind 48 = .ok (.iload_n 2, 1) := by decide +kernel
theorem dX2_behind_49 : decode cX2_behind 49 = .ok (.ifCond .eq 7, 3) := by decide +kernel
theorem dX2_behind_52 : decode cX2_behind 52 = .ok (.iconst 3, 1) := by decide +kernel
theorem dX2_behind_53 : decode cX2_behind 53 = .ok (.goto 4, 3) := by decide +kernel
theorem dX2_behind_56 : decode cX2_behind 56 = .ok (.iconst 2, 1) := by decide +kernel
theorem dX2_behind_57 : decode cX2_behind 57 = .ok (.iadd, 1) := by decide +kernel
theorem dX2_behind_58 : decode cX2_behind 58 = .ok (.ireturn, 1) := by decide +kernel
set_option maxHeartbeats 4000000 in
set_option maxRecDepth 100000 in
theorem c_X2_behind (l : Launch) (E : gE) (g : Mem) (ln : Nat) (tx : Nat → Nat) (f : Nat → Int32) (tk it : Int32) (st ti : Nat → Int32) (h : PX E g ln tx f tk it st ti) (i : Nat) (hi : i < 1000000) : Mt l E yX2_behind cX2_behind 3 (some .int) 1 22 [rf E (93), .int (nI (i))] g (pI (fun z g' => z = nI (bhd (sgn ln tx) i) ∧ g' = g)) := by
  have hK := h.k
  have hln := h.l
  refine mt_go (own := RX2) (by decide) rfl (lo := [some (rf E (93)), some (.int (nI (i))), none]) rfl (Nat.le_of_ble_eq_true rfl) (fun X hC => ?_)
  refine y_aload_n hC dX2_behind_0 (i := 0) rfl rfl ?_
  refine y_iload_n hC dX2_behind_1 (i := 1) rfl rfl ?_
  refine y_callV hC mX2_signAt kX2_43 dX2_behind_2 (b := 93) (As := [.int (nI (i))]) (rest := []) (c_X2_signAt l E g ln tx f tk it st ti h (i) (by omega)) (by omega) h.a93 rfl rfl rfl (Nat.le_of_ble_eq_true rfl) ⟨Nat.le_of_ble_eq_true rfl, Nat.le_of_ble_eq_true rfl⟩ (pk_i ?_)
  rintro r_2 g_2 ⟨hr_2, hq_2⟩
  obtain rfl := hq_2.symm
  rw [hr_2]
  clear hr_2 r_2
  have hs_2 := sgn_lt h (i)
  refine y_bipush (v := nI 41) hC dX2_behind_5 (by decide) ?_
  refine y_icmp_ne_n (tgt := 14) hC dX2_behind_7 (by decide) (by omega) (by omega) (fun c_7 => ?_) (fun c_7 => ?_)
  · refine y_aload_n hC dX2_behind_14 (i := 0) rfl rfl ?_
    refine y_iload_n hC dX2_behind_15 (i := 1) rfl rfl ?_
    refine y_callV hC mX2_signAt kX2_43 dX2_behind_16 (b := 93) (As := [.int (nI (i))]) (rest := []) (c_X2_signAt l E g ln tx f tk it st ti h (i) (by omega)) (by omega) h.a93 rfl rfl rfl (Nat.le_of_ble_eq_true rfl) ⟨Nat.le_of_ble_eq_true rfl, Nat.le_of_ble_eq_true rfl⟩ (pk_i ?_)
    rintro r_16 g_16 ⟨hr_16, hq_16⟩
    obtain rfl := hq_16.symm
    rw [hr_16]
    clear hr_16 r_16
    have hs_16 := sgn_lt h (i)
    refine y_bipush (v := nI 116) hC dX2_behind_19 (by decide) ?_
    refine y_icmp_ne_n (tgt := 45) hC dX2_behind_21 (by decide) (by omega) (by omega) (fun c_21 => ?_) (fun c_21 => ?_)
    · refine y_iconst (v := nI 0) hC dX2_behind_45 (by decide) ?_
      refine y_istore_n hC dX2_behind_46 (i := 2) rfl (Nat.le_of_ble_eq_true rfl) rfl (lo' := [some (rf E (93)), some (.int (nI (i))), some (.int (nI (0)))]) rfl ?_
      refine y_iload_n hC dX2_behind_47 (i := 1) rfl rfl ?_
      refine y_iload_n hC dX2_behind_48 (i := 2) rfl rfl ?_
      refine y_if_eq_n (tgt := 56) hC dX2_behind_49 (by decide) (by omega) (fun c_49 => ?_) (fun c_49 => ?_)
      · refine y_iconst (v := nI 2) hC dX2_behind_56 (by decide) ?_
        refine y_iadd_n hC dX2_behind_57 ?_
        refine y_top (y := nI (bhd (sgn ln tx) i)) (by unfold bhd; first | (exfalso; omega) | (rw [if_neg (by omega), if_pos (by omega)]) | (rw [if_neg (by omega), if_neg (by omega)])) ?_
        refine y_iret (hC := hC) (hd := dX2_behind_58) (hq := ?_)
        exact ⟨rfl, rfl⟩
      · refine y_iconst (v := nI 3) hC dX2_behind_52 (by decide) ?_
        refine y_goto (tgt := 57) hC dX2_behind_53 (by decide) ?_
        refine y_iadd_n hC dX2_behind_57 ?_
        refine y_top (y := nI (bhd (sgn ln tx) i)) (by unfold bhd; first | (exfalso; omega) | (rw [if_neg (by omega), if_pos (by omega)]) | (rw [if_neg (by omega), if_neg (by omega)])) ?_
        refine y_iret (hC := hC) (hd := dX2_behind_58) (hq := ?_)
        exact ⟨rfl, rfl⟩
    · refine y_aload_n hC dX2_behind_24 (i := 0) rfl rfl ?_
      refine y_iload_n hC dX2_behind_25 (i := 1) rfl rfl ?_
      refine y_iconst (v := nI 2) hC dX2_behind_26 (by decide) ?_
      refine y_iadd_n hC dX2_behind_27 ?_
      refine y_callV hC mX2_signAt kX2_43 dX2_behind_28 (b := 93) (As := [.int (nI (i + 2))]) (rest := []) (c_X2_signAt l E g ln tx f tk it st ti h (i + 2) (by omega)) (by omega) h.a93 rfl rfl rfl (Nat.le_of_ble_eq_true rfl) ⟨Nat.le_of_ble_eq_true rfl, Nat.le_of_ble_eq_true rfl⟩ (pk_i ?_)
      rintro r_28 g_28 ⟨hr_28, hq_28⟩
      obtain rfl := hq_28.symm
      rw [hr_28]
      clear hr_28 r_28
      have hs_28 := sgn_lt h (i + 2)
      refine y_bipush (v := nI 48) hC dX2_behind_31 (by decide) ?_
      refine y_bipush (v := nI 57) hC dX2_behind_33 (by decide) ?_
      refine y_callS hC mX2_isDigit kX2_32 dX2_behind_35 (As := [.int (nI (sgn ln tx (i + 2))), .int (nI (48)), .int (nI (57))]) (rest := []) (c_X2_isDigit l E g (sgn ln tx (i + 2)) 48 57 (by omega) (by decide) (by decide)) rfl rfl rfl (Nat.le_of_ble_eq_true rfl) ⟨Nat.le_of_ble_eq_true rfl, Nat.le_of_ble_eq_true rfl⟩ (pk_i ?_)
      rintro r_35 g_35 ⟨hr_35, hq_35⟩
      obtain rfl := hq_35.symm
      rw [hr_35]
      clear hr_35 r_35
      refine y_if_eq_b (tgt := 45) hC dX2_behind_38 (by decide) (fun c_38 => ?_) (fun c_38 => ?_)
      · refine y_iconst (v := nI 0) hC dX2_behind_45 (by decide) ?_
        refine y_istore_n hC dX2_behind_46 (i := 2) rfl (Nat.le_of_ble_eq_true rfl) rfl (lo' := [some (rf E (93)), some (.int (nI (i))), some (.int (nI (0)))]) rfl ?_
        refine y_iload_n hC dX2_behind_47 (i := 1) rfl rfl ?_
        refine y_iload_n hC dX2_behind_48 (i := 2) rfl rfl ?_
        refine y_if_eq_n (tgt := 56) hC dX2_behind_49 (by decide) (by omega) (fun c_49 => ?_) (fun c_49 => ?_)
        · refine y_iconst (v := nI 2) hC dX2_behind_56 (by decide) ?_
          refine y_iadd_n hC dX2_behind_57 ?_
          refine y_top (y := nI (bhd (sgn ln tx) i)) (by unfold bhd; first | (exfalso; omega) | (rw [if_neg (by omega), if_pos (by omega)]) | (rw [if_neg (by omega), if_neg (by omega)])) ?_
          refine y_iret (hC := hC) (hd := dX2_behind_58) (hq := ?_)
          exact ⟨rfl, rfl⟩
        · refine y_iconst (v := nI 3) hC dX2_behind_52 (by decide) ?_
          refine y_goto (tgt := 57) hC dX2_behind_53 (by decide) ?_
          refine y_iadd_n hC dX2_behind_57 ?_
          refine y_top (y := nI (bhd (sgn ln tx) i)) (by unfold bhd; first | (exfalso; omega) | (rw [if_neg (by omega), if_pos (by omega)]) | (rw [if_neg (by omega), if_neg (by omega)])) ?_
          refine y_iret (hC := hC) (hd := dX2_behind_58) (hq := ?_)
          exact ⟨rfl, rfl⟩
      · refine y_iconst (v := nI 1) hC dX2_behind_41 (by decide) ?_
        refine y_goto (tgt := 46) hC dX2_behind_42 (by decide) ?_
        refine y_istore_n hC dX2_behind_46 (i := 2) rfl (Nat.le_of_ble_eq_true rfl) rfl (lo' := [some (rf E (93)), some (.int (nI (i))), some (.int (nI (1)))]) rfl ?_
        refine y_iload_n hC dX2_behind_47 (i := 1) rfl rfl ?_
        refine y_iload_n hC dX2_behind_48 (i := 2) rfl rfl ?_
        refine y_if_eq_n (tgt := 56) hC dX2_behind_49 (by decide) (by omega) (fun c_49 => ?_) (fun c_49 => ?_)
        · refine y_iconst (v := nI 2) hC dX2_behind_56 (by decide) ?_
          refine y_iadd_n hC dX2_behind_57 ?_
          refine y_top (y := nI (bhd (sgn ln tx) i)) (by unfold bhd; first | (exfalso; omega) | (rw [if_neg (by omega), if_pos (by omega)]) | (rw [if_neg (by omega), if_neg (by omega)])) ?_
          refine y_iret (hC := hC) (hd := dX2_behind_58) (hq := ?_)
          exact ⟨rfl, rfl⟩
        · refine y_iconst (v := nI 3) hC dX2_behind_52 (by decide) ?_
          refine y_goto (tgt := 57) hC dX2_behind_53 (by decide) ?_
          refine y_iadd_n hC dX2_behind_57 ?_
          refine y_top (y := nI (bhd (sgn ln tx) i)) (by unfold bhd; first | (exfalso; omega) | (rw [if_neg (by omega), if_pos (by omega)]) | (rw [if_neg (by omega), if_neg (by omega)])) ?_
          refine y_iret (hC := hC) (hd := dX2_behind_58) (hq := ?_)
          exact ⟨rfl, rfl⟩
  · refine y_iload_n hC dX2_behind_10 (i := 1) rfl rfl ?_
    refine y_iconst (v := nI 1) hC dX2_behind_11 (by decide) ?_
    refine y_iadd_n hC dX2_behind_12 ?_
    refine y_top (y := nI (bhd (sgn ln tx) i)) (by unfold bhd; rw [if_pos (by omega)]) ?_
    refine y_iret (hC := hC) (hd := dX2_behind_13) (hq := ?_)
    exact ⟨rfl, rfl⟩

theorem dX2_digitAt_0 : decode cX2_digitAt 0 = .ok (.aload_n 0, 1) := by decide +kernel
theorem dX2_digitAt_1 : decode cX2_digitAt 1 = .ok (.iload_n 1, 1) := by decide +kernel
theorem dX2_digitAt_2 : decode cX2_digitAt 2 = .ok (.invokevirtual 43, 3) := by decide +kernel
theorem dX2_digitAt_5 : decode cX2_digitAt 5 = .ok (.bipush 48, 2) := by decide +kernel
theorem dX2_digitAt_7 : decode cX2_digitAt 7 = .ok (.isub, 1) := by decide +kernel
theorem dX2_digitAt_8 : decode cX2_digitAt 8 = .ok (.ireturn, 1) := by decide +kernel
set_option maxHeartbeats 4000000 in
set_option maxRecDepth 100000 in
theorem c_X2_digitAt (l : Launch) (E : gE) (g : Mem) (ln : Nat) (tx : Nat → Nat) (f : Nat → Int32) (tk it : Int32) (st ti : Nat → Int32) (h : PX E g ln tx f tk it st ti) (i : Nat) (hi : i < 1000000) : Mt l E yX2_digitAt cX2_digitAt 2 (some .int) 1 21 [rf E (93), .int (nI (i))] g (pI (fun z g' => z = nI (sgn ln tx i) - nI 48 ∧ g' = g)) := by
  have hK := h.k
  have hln := h.l
  refine mt_go (own := RX2) (by decide) rfl (lo := [some (rf E (93)), some (.int (nI (i)))]) rfl (Nat.le_of_ble_eq_true rfl) (fun X hC => ?_)
  refine y_aload_n hC dX2_digitAt_0 (i := 0) rfl rfl ?_
  refine y_iload_n hC dX2_digitAt_1 (i := 1) rfl rfl ?_
  refine y_callV hC mX2_signAt kX2_43 dX2_digitAt_2 (b := 93) (As := [.int (nI (i))]) (rest := []) (c_X2_signAt l E g ln tx f tk it st ti h (i) (by omega)) (by omega) h.a93 rfl rfl rfl (Nat.le_of_ble_eq_true rfl) ⟨Nat.le_of_ble_eq_true rfl, Nat.le_of_ble_eq_true rfl⟩ (pk_i ?_)
  rintro r_2 g_2 ⟨hr_2, hq_2⟩
  obtain rfl := hq_2.symm
  rw [hr_2]
  clear hr_2 r_2
  have hs_2 := sgn_lt h (i)
  refine y_bipush (v := nI 48) hC dX2_digitAt_5 (by decide) ?_
  refine y_isub hC dX2_digitAt_7 ?_
  refine y_iret (hC := hC) (hd := dX2_digitAt_8) (hq := ?_)
  exact ⟨rfl, rfl⟩

theorem dX2_numberAt_0 : decode cX2_numberAt 0 = .ok (.aload_n 0, 1) := by decide +kernel
theorem dX2_numberAt_1 : decode cX2_numberAt 1 = .ok (.iload_n 1, 1) := by decide +kernel
theorem dX2_numberAt_2 : decode cX2_numberAt 2 = .ok (.invokevirtual 47, 3) := by decide +kernel
theorem dX2_numberAt_5 : decode cX2_numberAt 5 = .ok (.istore_n 2, 1) := by decide +kernel
theorem dX2_numberAt_6 : decode cX2_numberAt 6 = .ok (.aload_n 0, 1) := by decide +kernel
theorem dX2_numberAt_7 : decode cX2_numberAt 7 = .ok (.iload_n 1, 1) := by decide +kernel
theorem dX2_numberAt_8 : decode cX2_numberAt 8 = .ok (.iconst 1, 1) := by decide +kernel
theorem dX2_numberAt_9 : decode cX2_numberAt 9 = .ok (.iadd, 1) := by decide +kernel
theorem dX2_numberAt_10 : decode cX2_numberAt 10 = .ok (.invokevirtual 43, 3) := by decide +kernel
theorem dX2_numberAt_13 : decode cX2_numberAt 13 = .ok (.bipush 48, 2) := by decide +kernel
theorem dX2_numberAt_15 : decode cX2_numberAt 15 = .ok (.bipush 57, 2) := by decide +kernel
theorem dX2_numberAt_17 : decode cX2_numberAt 17 = .ok (.invokestatic 32, 3) := by decide +kernel
theorem dX2_numberAt_20 : decode cX2_numberAt 20 = .ok (.ifCond .eq 18, 3) := by decide +kernel
theorem dX2_numberAt_23 : decode cX2_numberAt 23 = .ok (.bipush 10, 2) := by decide +kernel
theorem dX2_numberAt_25 : decode cX2_numberAt 25 = .ok (.iload_n 2, 1) := by decide +kernel
theorem dX2_numberAt_26 : decode cX2_numberAt 26 = .ok (.imul, 1) := by decide +kernel
theorem dX2_numberAt_27 : decode cX2_numberAt 27 = .ok (.aload_n 0, 1) := by decide +kernel
theorem dX2_numberAt_28 : decode cX2_numberAt 28 = .ok (.iload_n 1, 1) := by decide +kernel
theorem dX2_numberAt_29 : decode cX2_numberAt 29 = .ok (.iconst 1, 1) := by decide +kernel
theorem dX2_numberAt_30 : decode cX2_numberAt 30 = .ok (.iadd, 1) := by decide +kernel
theorem dX2_numberAt_31 : decode cX2_numberAt 31 = .ok (.invokevirtual 47, 3) := by decide +kernel
theorem dX2_numberAt_34 : decode cX2_numberAt 34 = .ok (.iadd, 1) := by decide +kernel
theorem dX2_numberAt_35 : decode cX2_numberAt 35 = .ok (.goto 4, 3) := by decide +kernel
theorem dX2_numberAt_38 : decode cX2_numberAt 38 = .ok (.iload_n 2, 1) := by decide +kernel
theorem dX2_numberAt_39 : decode cX2_numberAt 39 = .ok (.ireturn, 1) := by decide +kernel
set_option maxHeartbeats 4000000 in
set_option maxRecDepth 100000 in
theorem c_X2_numberAt (l : Launch) (E : gE) (g : Mem) (ln : Nat) (tx : Nat → Nat) (f : Nat → Int32) (tk it : Int32) (st ti : Nat → Int32) (h : PX E g ln tx f tk it st ti) (i : Nat) (hi : i < 100000) (h1 : 48 ≤ sgn ln tx i) (h2 : sgn ln tx i ≤ 57) : Mt l E yX2_numberAt cX2_numberAt 3 (some .int) 2 42 [rf E (93), .int (nI (i))] g (pI (fun z g' => z = nI (nmb (sgn ln tx) i) ∧ g' = g)) := by
  have hK := h.k
  have hln := h.l
  refine mt_go (own := RX2) (by decide) rfl (lo := [some (rf E (93)), some (.int (nI (i))), none]) rfl (Nat.le_of_ble_eq_true rfl) (fun X hC => ?_)
  refine y_aload_n hC dX2_numberAt_0 (i := 0) rfl rfl ?_
  refine y_iload_n hC dX2_numberAt_1 (i := 1) rfl rfl ?_
  refine y_callV hC mX2_digitAt kX2_47 dX2_numberAt_2 (b := 93) (As := [.int (nI (i))]) (rest := []) (c_X2_digitAt l E g ln tx f tk it st ti h (i) (by omega)) (by omega) h.a93 rfl rfl rfl (Nat.le_of_ble_eq_true rfl) ⟨Nat.le_of_ble_eq_true rfl, Nat.le_of_ble_eq_true rfl⟩ (pk_i ?_)
  rintro r_2 g_2 ⟨hr_2, hq_2⟩
  obtain rfl := hq_2.symm
  rw [hr_2]
  clear hr_2 r_2
  rw [pk_sub (a := sgn ln tx (i)) (b := 48) (by omega)]
  refine y_istore_n hC dX2_numberAt_5 (i := 2) rfl (Nat.le_of_ble_eq_true rfl) rfl (lo' := [some (rf E (93)), some (.int (nI (i))), some (.int (nI (sgn ln tx (i) - 48)))]) rfl ?_
  refine y_aload_n hC dX2_numberAt_6 (i := 0) rfl rfl ?_
  refine y_iload_n hC dX2_numberAt_7 (i := 1) rfl rfl ?_
  refine y_iconst (v := nI 1) hC dX2_numberAt_8 (by decide) ?_
  refine y_iadd_n hC dX2_numberAt_9 ?_
  refine y_callV hC mX2_signAt kX2_43 dX2_numberAt_10 (b := 93) (As := [.int (nI (i + 1))]) (rest := []) (c_X2_signAt l E g ln tx f tk it st ti h (i + 1) (by omega)) (by omega) h.a93 rfl rfl rfl (Nat.le_of_ble_eq_true rfl) ⟨Nat.le_of_ble_eq_true rfl, Nat.le_of_ble_eq_true rfl⟩ (pk_i ?_)
  rintro r_10 g_10 ⟨hr_10, hq_10⟩
  obtain rfl := hq_10.symm
  rw [hr_10]
  clear hr_10 r_10
  have hs_10 := sgn_lt h (i + 1)
  refine y_bipush (v := nI 48) hC dX2_numberAt_13 (by decide) ?_
  refine y_bipush (v := nI 57) hC dX2_numberAt_15 (by decide) ?_
  refine y_callS hC mX2_isDigit kX2_32 dX2_numberAt_17 (As := [.int (nI (sgn ln tx (i + 1))), .int (nI (48)), .int (nI (57))]) (rest := []) (c_X2_isDigit l E g (sgn ln tx (i + 1)) 48 57 (by omega) (by decide) (by decide)) rfl rfl rfl (Nat.le_of_ble_eq_true rfl) ⟨Nat.le_of_ble_eq_true rfl, Nat.le_of_ble_eq_true rfl⟩ (pk_i ?_)
  rintro r_17 g_17 ⟨hr_17, hq_17⟩
  obtain rfl := hq_17.symm
  rw [hr_17]
  clear hr_17 r_17
  refine y_if_eq_b (tgt := 38) hC dX2_numberAt_20 (by decide) (fun c_20 => ?_) (fun c_20 => ?_)
  · refine y_iload_n hC dX2_numberAt_38 (i := 2) rfl rfl ?_
    refine y_top (y := nI (nmb (sgn ln tx) i)) (by unfold nmb; first | rw [if_pos (by omega)] | rw [if_neg (by omega)]) ?_
    refine y_iret (hC := hC) (hd := dX2_numberAt_39) (hq := ?_)
    exact ⟨rfl, rfl⟩
  · refine y_bipush (v := nI 10) hC dX2_numberAt_23 (by decide) ?_
    refine y_iload_n hC dX2_numberAt_25 (i := 2) rfl rfl ?_
    refine y_imul_n hC dX2_numberAt_26 ?_
    refine y_aload_n hC dX2_numberAt_27 (i := 0) rfl rfl ?_
    refine y_iload_n hC dX2_numberAt_28 (i := 1) rfl rfl ?_
    refine y_iconst (v := nI 1) hC dX2_numberAt_29 (by decide) ?_
    refine y_iadd_n hC dX2_numberAt_30 ?_
    refine y_callV hC mX2_digitAt kX2_47 dX2_numberAt_31 (b := 93) (As := [.int (nI (i + 1))]) (rest := [.int (nI (10 * (sgn ln tx (i) - 48)))]) (c_X2_digitAt l E g ln tx f tk it st ti h (i + 1) (by omega)) (by omega) h.a93 rfl rfl rfl (Nat.le_of_ble_eq_true rfl) ⟨Nat.le_of_ble_eq_true rfl, Nat.le_of_ble_eq_true rfl⟩ (pk_i ?_)
    rintro r_31 g_31 ⟨hr_31, hq_31⟩
    obtain rfl := hq_31.symm
    rw [hr_31]
    clear hr_31 r_31
    rw [pk_sub (a := sgn ln tx (i + 1)) (b := 48) (by omega)]
    refine y_iadd_n hC dX2_numberAt_34 ?_
    refine y_goto (tgt := 39) hC dX2_numberAt_35 (by decide) ?_
    refine y_top (y := nI (nmb (sgn ln tx) i)) (by unfold nmb; first | rw [if_pos (by omega)] | rw [if_neg (by omega)]) ?_
    refine y_iret (hC := hC) (hd := dX2_numberAt_39) (hq := ?_)
    exact ⟨rfl, rfl⟩

theorem sz {ln : Nat} {tx : Nat → Nat} : ∀ k, ln ≤ k → sgn ln tx k = 0 := fun _ h => sgn_0 h
theorem beg_cp (a : Nat) : ¬ isBeg a = true ↔ isBeg a = false := by simp
theorem ft_step {s : Nat → Nat} {ln n i d : Nat} {due : Bool} (hi : i < ln) (h1 : ¬ (s i = 41 ∧ 0 < d ∧ due = false)) (h2 : isBeg (s i) = true) (h3 : isAlw (s i) (s (i + 1)) = true) : ft s ln (n + 1) i d due = ft s ln n (bhd s i) (if isRep (s i) then d + 1 else d) (isRep (s i)) := by
  rw [ft, if_pos hi, if_neg h1, if_neg (by simp [h2]), if_neg (by simp [h3])]
theorem ft_end {s : Nat → Nat} {ln n i d : Nat} {due : Bool} (hi : ¬ i < ln) : ft s ln n i d due = if due = true ∨ 0 < d then some ln else none := by
  cases n with
  | zero => rfl
  | succ n => rw [ft, if_neg hi]
def ftI (o : Option Nat) : Int32 := match o with
  | some k => nI k
  | none => -1
theorem dX2_fault_0 : decode cX2_fault 0 = .ok (.iconst 0, 1) := by decide +kernel
theorem dX2_fault_1 : decode cX2_fault 1 = .ok (.istore_n 1, 1) := by decide +kernel
theorem dX2_fault_2 : decode cX2_fault 2 = .ok (.iconst 1, 1) := by decide +kernel
theorem dX2_fault_3 : decode cX2_fault 3 = .ok (.istore_n 2, 1) := by decide +kernel
theorem dX2_fault_4 : decode cX2_fault 4 = .ok (.iconst 0, 1) := by decide +kernel
theorem dX2_fault_5 : decode cX2_fault 5 = .ok (.istore_n 3, 1) := by decide +kernel
theorem dX2_fault_6 : decode cX2_fault 6 = .ok (.iconst 0, 1) := by decide +kernel
theorem dX2_fault_7 : decode cX2_fault 7 = .ok (.istore 4, 2) := by decide +kernel
theorem dX2_fault_9 : decode cX2_fault 9 = .ok (.iload 4, 2) := by decide +kernel
theorem dX2_fault_11 : decode cX2_fault 11 = .ok (.bipush 60, 2) := by decide +kernel
theorem dX2_fault_13 : decode cX2_fault 13 = .ok (.if_icmp .ge 98, 3) := by decide +kernel
theorem dX2_fault_16 : decode cX2_fault 16 = .ok (.iload_n 3, 1) := by decide +kernel
theorem dX2_fault_17 : decode cX2_fault 17 = .ok (.aload_n 0, 1) := by decide +kernel
theorem dX2_fault_18 : decode cX2_fault 18 = .ok (.getfield 22, 3) := by decide +kernel
theorem dX2_fault_21 : decode cX2_fault 21 = .ok (.if_icmp .ge 90, 3) := by decide +kernel
theorem dX2_fault_24 : decode cX2_fault 24 = .ok (.aload_n 0, 1) := by decide +kernel
theorem dX2_fault_25 : decode cX2_fault 25 = .ok (.iload_n 3, 1) := by decide +kernel
theorem dX2_fault_26 : decode cX2_fault 26 = .ok (.invokevirtual 43, 3) := by decide +kernel
theorem dX2_fault_29 : decode cX2_fault 29 = .ok (.istore 5, 2) := by decide +kernel
theorem dX2_fault_31 : decode cX2_fault 31 = .ok (.iload 5, 2) := by decide +kernel
theorem dX2_fault_33 : decode cX2_fault 33 = .ok (.bipush 41, 2) := by decide +kernel
theorem dX2_fault_35 : decode cX2_fault 35 = .ok (.if_icmp .ne 17, 3) := by decide +kernel
theorem dX2_fault_38 : decode cX2_fault 38 = .ok (.iload_n 1, 1) := by decide +kernel
theorem dX2_fault_39 : decode cX2_fault 39 = .ok (.ifCond .le 13, 3) := by decide +kernel
theorem dX2_fault_42 : decode cX2_fault 42 = .ok (.iload_n 2, 1) := by decide +kernel
theorem dX2_fault_43 : decode cX2_fault 43 = .ok (.ifCond .ne 9, 3) := by decide +kernel
theorem dX2_fault_46 : decode cX2_fault 46 = .ok (.iinc 1 (-1), 3) := by decide +kernel
theorem dX2_fault_49 : decode cX2_fault 49 = .ok (.goto 50, 3) := by decide +kernel
theorem dX2_fault_52 : decode cX2_fault 52 = .ok (.iload 5, 2) := by decide +kernel
theorem dX2_fault_54 : decode cX2_fault 54 = .ok (.invokestatic 51, 3) := by decide +kernel
theorem dX2_fault_57 : decode cX2_fault 57 = .ok (.ifCond .ne 5, 3) := by decide +kernel
theorem dX2_fault_60 : decode cX2_fault 60 = .ok (.iload_n 3, 1) := by decide +kernel
theorem dX2_fault_61 : decode cX2_fault 61 = .ok (.ireturn, 1) := by decide +kernel
theorem dX2_fault_62 : decode cX2_fault 62 = .ok (.iload 5, 2) := by decide +kernel
theorem dX2_fault_64 : decode cX2_fault 64 = .ok (.aload_n 0, 1) := by decide +kernel
theorem dX2_fault_65 : decode cX2_fault 65 = .ok (.iload_n 3, 1) := by decide +kernel
theorem dX2_fault_66 : decode cX2_fault 66 = .ok (.iconst 1, 1) := by decide +kernel
theorem dX2_fault_67 : decode cX2_fault 67 = .ok (.iadd, 1) := by decide +kernel
theorem dX2_fault_68 : decode cX2_fault 68 = .ok (.invokevirtual 43, 3) := by decide +kernel
theorem dX2_fault_71 : decode cX2_fault 71 = .ok (.invokestatic 54, 3) := by decide +kernel
theorem dX2_fault_74 : decode cX2_fault 74 = .ok (.ifCond .ne 7, 3) := by decide +kernel
theorem dX2_fault_77 : decode cX2_fault 77 = .ok (.iload_n 3, 1) := by decide +kernel
theorem dX2_fault_78 : decode cX2_fault 78 = .ok (.iconst 1, 1) := by decide +kernel
theorem dX2_fault_79 : decode cX2_fault 79 = .ok (.iadd, 1) := by decide +kernel
theorem dX2_fault_80 : decode cX2_fault 80 = .ok (.ireturn, 1) := by decide +kernel
theorem dX2_fault_81 : decode cX2_fault 81 = .ok (.iload 5, 2) := by decide +kernel
theorem dX2_fault_83 : decode cX2_fault 83 = .ok (.invokestatic 40, 3) := by decide +kernel
theorem dX2_fault_86 : decode cX2_fault 86 = .ok (.istore_n 2, 1) := by decide +kernel
theorem dX2_fault_87 : decode cX2_fault 87 = .ok (.iload_n 1, 1) := by decide +kernel
theorem dX2_fault_88 : decode cX2_fault 88 = .ok (.iload_n 2, 1) := by decide +kernel
theorem dX2_fault_89 : decode cX2_fault 89 = .ok (.ifCond .eq 7, 3) := by decide +kernel
theorem dX2_fault_92 : decode cX2_fault 92 = .ok (.iconst 1, 1) := by decide +kernel
theorem dX2_fault_93 : decode cX2_fault 93 = .ok (.goto 4, 3) := by decide +kernel
theorem dX2_fault_96 : decode cX2_fault 96 = .ok (.iconst 0, 1) := by decide +kernel
theorem dX2_fault_97 : decode cX2_fault 97 = .ok (.iadd, 1) := by decide +kernel
theorem dX2_fault_98 : decode cX2_fault 98 = .ok (.istore_n 1, 1) := by decide +kernel
theorem dX2_fault_99 : decode cX2_fault 99 = .ok (.aload_n 0, 1) := by decide +kernel
theorem dX2_fault_100 : decode cX2_fault 100 = .ok (.iload_n 3, 1) := by decide +kernel
theorem dX2_fault_101 : decode cX2_fault 101 = .ok (.invokevirtual 58, 3) := by decide +kernel
theorem dX2_fault_104 : decode cX2_fault 104 = .ok (.istore_n 3, 1) := by decide +kernel
theorem dX2_fault_105 : decode cX2_fault 105 = .ok (.iinc 4 1, 3) := by decide +kernel
theorem dX2_fault_108 : decode cX2_fault 108 = .ok (.goto (-99), 3) := by decide +kernel
theorem dX2_fault_111 : decode cX2_fault 111 = .ok (.iload_n 2, 1) := by decide +kernel
theorem dX2_fault_112 : decode cX2_fault 112 = .ok (.ifCond .ne 7, 3) := by decide +kernel
theorem dX2_fault_115 : decode cX2_fault 115 = .ok (.iload_n 1, 1) := by decide +kernel
theorem dX2_fault_116 : decode cX2_fault 116 = .ok (.ifCond .le 10, 3) := by decide +kernel
theorem dX2_fault_119 : decode cX2_fault 119 = .ok (.aload_n 0, 1) := by decide +kernel
theorem dX2_fault_120 : decode cX2_fault 120 = .ok (.getfield 22, 3) := by decide +kernel
theorem dX2_fault_123 : decode cX2_fault 123 = .ok (.goto 4, 3) := by decide +kernel
theorem dX2_fault_126 : decode cX2_fault 126 = .ok (.iconst (-1), 1) := by decide +kernel
theorem dX2_fault_127 : decode cX2_fault 127 = .ok (.ireturn, 1) := by decide +kernel
set_option maxHeartbeats 4000000 in
set_option maxRecDepth 100000 in
theorem c_X2_fault (l : Launch) (E : gE) (g : Mem) (ln : Nat) (tx : Nat → Nat) (f : Nat → Int32) (tk it : Int32) (st ti : Nat → Int32) (h : PX E g ln tx f tk it st ti) : Mt l E yX2_fault cX2_fault 6 (some .int) 3 62 [rf E (93)] g (pI (fun z g' => z = ftI (ft (sgn ln tx) ln 60 0 0 true) ∧ g' = g)) := by
  have hK := h.k
  have hln := h.l
  refine mt_go (own := RX2) (by decide) rfl (lo := [some (rf E (93)), none, none, none, none, none]) rfl (Nat.le_of_ble_eq_true rfl) (fun X hC => ?_)
  refine y_iconst (v := nI 0) hC dX2_fault_0 (by decide) ?_
  refine y_istore_n hC dX2_fault_1 (i := 1) rfl (Nat.le_of_ble_eq_true rfl) rfl (lo' := [some (rf E (93)), some (.int (nI (0))), none, none, none, none]) rfl ?_
  refine y_iconst (v := nI 1) hC dX2_fault_2 (by decide) ?_
  refine y_top (y := bI (true = true)) (by decide) ?_
  refine y_istore_n hC dX2_fault_3 (i := 2) rfl (Nat.le_of_ble_eq_true rfl) rfl (lo' := [some (rf E (93)), some (.int (nI (0))), some (.int (bI (true = true))), none, none, none]) rfl ?_
  refine y_iconst (v := nI 0) hC dX2_fault_4 (by decide) ?_
  refine y_istore_n hC dX2_fault_5 (i := 3) rfl (Nat.le_of_ble_eq_true rfl) rfl (lo' := [some (rf E (93)), some (.int (nI (0))), some (.int (bI (true = true))), some (.int (nI (0))), none, none]) rfl ?_
  refine y_iconst (v := nI 0) hC dX2_fault_6 (by decide) ?_
  refine y_istore hC dX2_fault_7 (Nat.le_of_ble_eq_true rfl) rfl (lo' := [some (rf E (93)), some (.int (nI (0))), some (.int (bI (true = true))), some (.int (nI (0))), some (.int (nI (0))), none]) rfl ?_
  have L_9 : ∀ (m : Nat) (d : Nat) (due : Bool) (i c n : Nat), (hm : 60 - c < m) → (hci : c ≤ i) → (hil : i ≤ ln) → (hd : d ≤ i) → (hn : ln - i ≤ n) → (hft : ft (sgn ln tx) ln n i d due = ft (sgn ln tx) ln 60 0 0 true) → Y l E X (pI (fun z g' => z = ftI (ft (sgn ln tx) ln 60 0 0 true) ∧ g' = g)) 9 [some (rf E (93)), some (.int (nI (d))), some (.int (bI (due = true))), some (.int (nI (i))), some (.int (nI (c))), none] [] g := by
    intro m
    induction m with
    | zero => intro d due i c n hm hci hil hd hn hft; exact absurd hm (Nat.not_lt_zero _)
    | succ m ih_9 =>
      intro d due i c n hm hci hil hd hn hft
      refine y_iload hC dX2_fault_9 rfl ?_
      refine y_bipush (v := nI 60) hC dX2_fault_11 (by decide) ?_
      refine y_icmp_ge_n (tgt := 111) hC dX2_fault_13 (by decide) (by omega) (by omega) (fun c_13 => ?_) (fun c_13 => ?_)
      · refine y_iload_n hC dX2_fault_111 (i := 2) rfl rfl ?_
        refine y_if_ne_b (tgt := 119) hC dX2_fault_112 (by decide) (fun c_112 => ?_) (fun c_112 => ?_)
        · refine y_aload_n hC dX2_fault_119 (i := 0) rfl rfl ?_
          refine y_get hC fX2_22 dX2_fault_120 (k := 93) (by omega) h.a93 rfl ?_
          refine y_goto (tgt := 127) hC dX2_fault_123 (by decide) ?_
          refine y_top (y := ftI (ft (sgn ln tx) ln 60 0 0 true)) (by rw [← hft, ft_end (by omega)]; first | (rw [if_pos (Or.inl (by assumption))]; rfl) | (rw [if_pos (Or.inr (by omega))]; rfl) | (rw [if_neg (by rintro (q | q); exact absurd q (by assumption); omega)]; rfl)) ?_
          refine y_iret (hC := hC) (hd := dX2_fault_127) (hq := ?_)
          exact ⟨rfl, rfl⟩
        · refine y_iload_n hC dX2_fault_115 (i := 1) rfl rfl ?_
          refine y_if_le_n (tgt := 126) hC dX2_fault_116 (by decide) (by omega) (fun c_116 => ?_) (fun c_116 => ?_)
          · refine y_iconst (v := (-1)) hC dX2_fault_126 (by decide) ?_
            refine y_top (y := ftI (ft (sgn ln tx) ln 60 0 0 true)) (by rw [← hft, ft_end (by omega)]; first | (rw [if_pos (Or.inl (by assumption))]; rfl) | (rw [if_pos (Or.inr (by omega))]; rfl) | (rw [if_neg (by rintro (q | q); exact absurd q (by assumption); omega)]; rfl)) ?_
            refine y_iret (hC := hC) (hd := dX2_fault_127) (hq := ?_)
            exact ⟨rfl, rfl⟩
          · refine y_aload_n hC dX2_fault_119 (i := 0) rfl rfl ?_
            refine y_get hC fX2_22 dX2_fault_120 (k := 93) (by omega) h.a93 rfl ?_
            refine y_goto (tgt := 127) hC dX2_fault_123 (by decide) ?_
            refine y_top (y := ftI (ft (sgn ln tx) ln 60 0 0 true)) (by rw [← hft, ft_end (by omega)]; first | (rw [if_pos (Or.inl (by assumption))]; rfl) | (rw [if_pos (Or.inr (by omega))]; rfl) | (rw [if_neg (by rintro (q | q); exact absurd q (by assumption); omega)]; rfl)) ?_
            refine y_iret (hC := hC) (hd := dX2_fault_127) (hq := ?_)
            exact ⟨rfl, rfl⟩
      · refine y_iload_n hC dX2_fault_16 (i := 3) rfl rfl ?_
        refine y_aload_n hC dX2_fault_17 (i := 0) rfl rfl ?_
        refine y_get hC fX2_22 dX2_fault_18 (k := 93) (by omega) h.a93 rfl ?_
        refine y_icmp_ge_n (tgt := 111) hC dX2_fault_21 (by decide) (by omega) (by omega) (fun c_21 => ?_) (fun c_21 => ?_)
        · refine y_iload_n hC dX2_fault_111 (i := 2) rfl rfl ?_
          refine y_if_ne_b (tgt := 119) hC dX2_fault_112 (by decide) (fun c_112 => ?_) (fun c_112 => ?_)
          · refine y_aload_n hC dX2_fault_119 (i := 0) rfl rfl ?_
            refine y_get hC fX2_22 dX2_fault_120 (k := 93) (by omega) h.a93 rfl ?_
            refine y_goto (tgt := 127) hC dX2_fault_123 (by decide) ?_
            refine y_top (y := ftI (ft (sgn ln tx) ln 60 0 0 true)) (by rw [← hft, ft_end (by omega)]; first | (rw [if_pos (Or.inl (by assumption))]; rfl) | (rw [if_pos (Or.inr (by omega))]; rfl) | (rw [if_neg (by rintro (q | q); exact absurd q (by assumption); omega)]; rfl)) ?_
            refine y_iret (hC := hC) (hd := dX2_fault_127) (hq := ?_)
            exact ⟨rfl, rfl⟩
          · refine y_iload_n hC dX2_fault_115 (i := 1) rfl rfl ?_
            refine y_if_le_n (tgt := 126) hC dX2_fault_116 (by decide) (by omega) (fun c_116 => ?_) (fun c_116 => ?_)
            · refine y_iconst (v := (-1)) hC dX2_fault_126 (by decide) ?_
              refine y_top (y := ftI (ft (sgn ln tx) ln 60 0 0 true)) (by rw [← hft, ft_end (by omega)]; first | (rw [if_pos (Or.inl (by assumption))]; rfl) | (rw [if_pos (Or.inr (by omega))]; rfl) | (rw [if_neg (by rintro (q | q); exact absurd q (by assumption); omega)]; rfl)) ?_
              refine y_iret (hC := hC) (hd := dX2_fault_127) (hq := ?_)
              exact ⟨rfl, rfl⟩
            · refine y_aload_n hC dX2_fault_119 (i := 0) rfl rfl ?_
              refine y_get hC fX2_22 dX2_fault_120 (k := 93) (by omega) h.a93 rfl ?_
              refine y_goto (tgt := 127) hC dX2_fault_123 (by decide) ?_
              refine y_top (y := ftI (ft (sgn ln tx) ln 60 0 0 true)) (by rw [← hft, ft_end (by omega)]; first | (rw [if_pos (Or.inl (by assumption))]; rfl) | (rw [if_pos (Or.inr (by omega))]; rfl) | (rw [if_neg (by rintro (q | q); exact absurd q (by assumption); omega)]; rfl)) ?_
              refine y_iret (hC := hC) (hd := dX2_fault_127) (hq := ?_)
              exact ⟨rfl, rfl⟩
        · refine y_aload_n hC dX2_fault_24 (i := 0) rfl rfl ?_
          refine y_iload_n hC dX2_fault_25 (i := 3) rfl rfl ?_
          refine y_callV hC mX2_signAt kX2_43 dX2_fault_26 (b := 93) (As := [.int (nI (i))]) (rest := []) (c_X2_signAt l E g ln tx f tk it st ti h (i) (by omega)) (by omega) h.a93 rfl rfl rfl (Nat.le_of_ble_eq_true rfl) ⟨Nat.le_of_ble_eq_true rfl, Nat.le_of_ble_eq_true rfl⟩ (pk_i ?_)
          rintro r_26 g_26 ⟨hr_26, hq_26⟩
          obtain rfl := hq_26.symm
          rw [hr_26]
          clear hr_26 r_26
          have hs1 := sgn_lt h i
          have hlt : i < ln := by omega
          obtain ⟨n, rfl⟩ : ∃ m, n = m + 1 := ⟨n - 1, by omega⟩
          refine y_istore hC dX2_fault_29 (Nat.le_of_ble_eq_true rfl) rfl (lo' := [some (rf E (93)), some (.int (nI (d))), some (.int (bI (due = true))), some (.int (nI (i))), some (.int (nI (c))), some (.int (nI (sgn ln tx (i))))]) rfl ?_
          refine y_iload hC dX2_fault_31 rfl ?_
          refine y_bipush (v := nI 41) hC dX2_fault_33 (by decide) ?_
          refine y_icmp_ne_n (tgt := 52) hC dX2_fault_35 (by decide) (by omega) (by omega) (fun c_35 => ?_) (fun c_35 => ?_)
          · have h41 : ¬ (sgn ln tx i = 41 ∧ 0 < d ∧ due = false) := by first | (exact fun q => by omega) | (exact fun q => by simp [q.2.2] at c_43)
            refine y_iload hC dX2_fault_52 rfl ?_
            have hs5 : (sgn ln tx i) < 65536 := hs1
            refine y_callS hC mX2_isBeginning kX2_51 dX2_fault_54 (As := [.int (nI (sgn ln tx (i)))]) (rest := []) (c_X2_isBeginning l E g (sgn ln tx (i)) hs1) rfl rfl rfl (Nat.le_of_ble_eq_true rfl) ⟨Nat.le_of_ble_eq_true rfl, Nat.le_of_ble_eq_true rfl⟩ (pk_i ?_)
            rintro r_54 g_54 ⟨hr_54, hq_54⟩
            obtain rfl := hq_54.symm
            rw [hr_54]
            clear hr_54 r_54
            refine y_if_ne_b (tgt := 62) hC dX2_fault_57 (by decide) (fun c_57 => ?_) (fun c_57 => ?_)
            · refine y_iload hC dX2_fault_62 rfl ?_
              refine y_aload_n hC dX2_fault_64 (i := 0) rfl rfl ?_
              refine y_iload_n hC dX2_fault_65 (i := 3) rfl rfl ?_
              refine y_iconst (v := nI 1) hC dX2_fault_66 (by decide) ?_
              refine y_iadd_n hC dX2_fault_67 ?_
              refine y_callV hC mX2_signAt kX2_43 dX2_fault_68 (b := 93) (As := [.int (nI (i + 1))]) (rest := [.int (nI (sgn ln tx (i)))]) (c_X2_signAt l E g ln tx f tk it st ti h (i + 1) (by omega)) (by omega) h.a93 rfl rfl rfl (Nat.le_of_ble_eq_true rfl) ⟨Nat.le_of_ble_eq_true rfl, Nat.le_of_ble_eq_true rfl⟩ (pk_i ?_)
              rintro r_68 g_68 ⟨hr_68, hq_68⟩
              obtain rfl := hq_68.symm
              rw [hr_68]
              clear hr_68 r_68
              have hs_68 := sgn_lt h (i + 1)
              refine y_callS hC mX2_isAllowedBehind kX2_54 dX2_fault_71 (As := [.int (nI (sgn ln tx (i))), .int (nI (sgn ln tx (i + 1)))]) (rest := []) (c_X2_isAllowedBehind l E g (sgn ln tx (i)) (sgn ln tx (i + 1)) hs1 (sgn_lt h _)) rfl rfl rfl (Nat.le_of_ble_eq_true rfl) ⟨Nat.le_of_ble_eq_true rfl, Nat.le_of_ble_eq_true rfl⟩ (pk_i ?_)
              rintro r_71 g_71 ⟨hr_71, hq_71⟩
              obtain rfl := hq_71.symm
              rw [hr_71]
              clear hr_71 r_71
              refine y_if_ne_b (tgt := 81) hC dX2_fault_74 (by decide) (fun c_74 => ?_) (fun c_74 => ?_)
              · refine y_iload hC dX2_fault_81 rfl ?_
                refine y_callS hC mX2_isRepeat kX2_40 dX2_fault_83 (As := [.int (nI (sgn ln tx (i)))]) (rest := []) (c_X2_isRepeat l E g (sgn ln tx (i)) hs1) rfl rfl rfl (Nat.le_of_ble_eq_true rfl) ⟨Nat.le_of_ble_eq_true rfl, Nat.le_of_ble_eq_true rfl⟩ (pk_i ?_)
                rintro r_83 g_83 ⟨hr_83, hq_83⟩
                obtain rfl := hq_83.symm
                rw [hr_83]
                clear hr_83 r_83
                refine y_istore_n hC dX2_fault_86 (i := 2) rfl (Nat.le_of_ble_eq_true rfl) rfl (lo' := [some (rf E (93)), some (.int (nI (d))), some (.int (bI (isRep (sgn ln tx i) = true))), some (.int (nI (i))), some (.int (nI (c))), some (.int (nI (sgn ln tx (i))))]) rfl ?_
                refine y_iload_n hC dX2_fault_87 (i := 1) rfl rfl ?_
                refine y_iload_n hC dX2_fault_88 (i := 2) rfl rfl ?_
                refine y_if_eq_b (tgt := 96) hC dX2_fault_89 (by decide) (fun c_89 => ?_) (fun c_89 => ?_)
                · refine y_iconst (v := nI 0) hC dX2_fault_96 (by decide) ?_
                  refine y_iadd_n hC dX2_fault_97 ?_
                  refine y_istore_n hC dX2_fault_98 (i := 1) rfl (Nat.le_of_ble_eq_true rfl) rfl (lo' := [some (rf E (93)), some (.int (nI (d + 0))), some (.int (bI (isRep (sgn ln tx i) = true))), some (.int (nI (i))), some (.int (nI (c))), some (.int (nI (sgn ln tx (i))))]) rfl ?_
                  refine y_aload_n hC dX2_fault_99 (i := 0) rfl rfl ?_
                  refine y_iload_n hC dX2_fault_100 (i := 3) rfl rfl ?_
                  refine y_callV hC mX2_behind kX2_58 dX2_fault_101 (b := 93) (As := [.int (nI (i))]) (rest := []) (c_X2_behind l E g ln tx f tk it st ti h (i) (by omega)) (by omega) h.a93 rfl rfl rfl (Nat.le_of_ble_eq_true rfl) ⟨Nat.le_of_ble_eq_true rfl, Nat.le_of_ble_eq_true rfl⟩ (pk_i ?_)
                  rintro r_101 g_101 ⟨hr_101, hq_101⟩
                  obtain rfl := hq_101.symm
                  rw [hr_101]
                  clear hr_101 r_101
                  refine y_istore_n hC dX2_fault_104 (i := 3) rfl (Nat.le_of_ble_eq_true rfl) rfl (lo' := [some (rf E (93)), some (.int (nI (d + 0))), some (.int (bI (isRep (sgn ln tx i) = true))), some (.int (nI (bhd (sgn ln tx) i))), some (.int (nI (c))), some (.int (nI (sgn ln tx (i))))]) rfl ?_
                  refine y_iinc_n hC dX2_fault_105 (a := c) (k := 1) rfl (by decide) (Nat.le_of_ble_eq_true rfl) rfl (lo' := [some (rf E (93)), some (.int (nI (d + 0))), some (.int (bI (isRep (sgn ln tx i) = true))), some (.int (nI (bhd (sgn ln tx) i))), some (.int (nI (c + 1))), some (.int (nI (sgn ln tx (i))))]) rfl ?_
                  refine y_goto (tgt := 9) hC dX2_fault_108 (by decide) ?_
                  refine y_fg 5 (lo' := [some (rf E (93)), some (.int (nI (d + 0))), some (.int (bI (isRep (sgn ln tx i) = true))), some (.int (nI (bhd (sgn ln tx) i))), some (.int (nI (c + 1))), none]) rfl ?_
                  have hft2 : ft (sgn ln tx) ln n (bhd (sgn ln tx) i) (d + 0) (isRep (sgn ln tx i)) = ft (sgn ln tx) ln (n + 1) i d due := by
                    rw [ft_step hlt h41 (by simpa using c_57) (by simpa using c_74)]
                    refine congrArg (fun q => ft (sgn ln tx) ln n (bhd (sgn ln tx) i) q (isRep (sgn ln tx i))) ?_
                    first | (rw [if_pos c_89]; done) | (rw [if_neg c_89]; rfl)
                  have htk := tok (s := sgn ln tx) (i := i) (by simpa using c_57) (by simpa using c_74)
                  have hbl := bhd_le (s := sgn ln tx) (i := i) sz hlt (Or.inr (by omega))
                  exact ih_9 (d + 0) (isRep (sgn ln tx i)) (bhd (sgn ln tx) i) (c + 1) n (by omega) (by omega) (by omega) (by omega) (by omega) (hft2.trans hft)
                · refine y_iconst (v := nI 1) hC dX2_fault_92 (by decide) ?_
                  refine y_goto (tgt := 97) hC dX2_fault_93 (by decide) ?_
                  refine y_iadd_n hC dX2_fault_97 ?_
                  refine y_istore_n hC dX2_fault_98 (i := 1) rfl (Nat.le_of_ble_eq_true rfl) rfl (lo' := [some (rf E (93)), some (.int (nI (d + 1))), some (.int (bI (isRep (sgn ln tx i) = true))), some (.int (nI (i))), some (.int (nI (c))), some (.int (nI (sgn ln tx (i))))]) rfl ?_
                  refine y_aload_n hC dX2_fault_99 (i := 0) rfl rfl ?_
                  refine y_iload_n hC dX2_fault_100 (i := 3) rfl rfl ?_
                  refine y_callV hC mX2_behind kX2_58 dX2_fault_101 (b := 93) (As := [.int (nI (i))]) (rest := []) (c_X2_behind l E g ln tx f tk it st ti h (i) (by omega)) (by omega) h.a93 rfl rfl rfl (Nat.le_of_ble_eq_true rfl) ⟨Nat.le_of_ble_eq_true rfl, Nat.le_of_ble_eq_true rfl⟩ (pk_i ?_)
                  rintro r_101 g_101 ⟨hr_101, hq_101⟩
                  obtain rfl := hq_101.symm
                  rw [hr_101]
                  clear hr_101 r_101
                  refine y_istore_n hC dX2_fault_104 (i := 3) rfl (Nat.le_of_ble_eq_true rfl) rfl (lo' := [some (rf E (93)), some (.int (nI (d + 1))), some (.int (bI (isRep (sgn ln tx i) = true))), some (.int (nI (bhd (sgn ln tx) i))), some (.int (nI (c))), some (.int (nI (sgn ln tx (i))))]) rfl ?_
                  refine y_iinc_n hC dX2_fault_105 (a := c) (k := 1) rfl (by decide) (Nat.le_of_ble_eq_true rfl) rfl (lo' := [some (rf E (93)), some (.int (nI (d + 1))), some (.int (bI (isRep (sgn ln tx i) = true))), some (.int (nI (bhd (sgn ln tx) i))), some (.int (nI (c + 1))), some (.int (nI (sgn ln tx (i))))]) rfl ?_
                  refine y_goto (tgt := 9) hC dX2_fault_108 (by decide) ?_
                  refine y_fg 5 (lo' := [some (rf E (93)), some (.int (nI (d + 1))), some (.int (bI (isRep (sgn ln tx i) = true))), some (.int (nI (bhd (sgn ln tx) i))), some (.int (nI (c + 1))), none]) rfl ?_
                  have hft2 : ft (sgn ln tx) ln n (bhd (sgn ln tx) i) (d + 1) (isRep (sgn ln tx i)) = ft (sgn ln tx) ln (n + 1) i d due := by
                    rw [ft_step hlt h41 (by simpa using c_57) (by simpa using c_74)]
                    refine congrArg (fun q => ft (sgn ln tx) ln n (bhd (sgn ln tx) i) q (isRep (sgn ln tx i))) ?_
                    first | (rw [if_pos c_89]; done) | (rw [if_neg c_89]; rfl)
                  have htk := tok (s := sgn ln tx) (i := i) (by simpa using c_57) (by simpa using c_74)
                  have hbl := bhd_le (s := sgn ln tx) (i := i) sz hlt (Or.inr (by omega))
                  exact ih_9 (d + 1) (isRep (sgn ln tx i)) (bhd (sgn ln tx) i) (c + 1) n (by omega) (by omega) (by omega) (by omega) (by omega) (hft2.trans hft)
              · refine y_iload_n hC dX2_fault_77 (i := 3) rfl rfl ?_
                refine y_iconst (v := nI 1) hC dX2_fault_78 (by decide) ?_
                refine y_iadd_n hC dX2_fault_79 ?_
                refine y_top (y := ftI (ft (sgn ln tx) ln 60 0 0 true)) (by rw [← hft, ft, if_pos hlt, if_neg h41, if_neg (by simpa using c_57), if_pos (by simpa using c_74)]; rfl) ?_
                refine y_iret (hC := hC) (hd := dX2_fault_80) (hq := ?_)
                exact ⟨rfl, rfl⟩
            · refine y_iload_n hC dX2_fault_60 (i := 3) rfl rfl ?_
              refine y_top (y := ftI (ft (sgn ln tx) ln 60 0 0 true)) (by rw [← hft, ft, if_pos hlt, if_neg h41, if_pos (by simpa using c_57)]; rfl) ?_
              refine y_iret (hC := hC) (hd := dX2_fault_61) (hq := ?_)
              exact ⟨rfl, rfl⟩
          · refine y_iload_n hC dX2_fault_38 (i := 1) rfl rfl ?_
            refine y_if_le_n (tgt := 52) hC dX2_fault_39 (by decide) (by omega) (fun c_39 => ?_) (fun c_39 => ?_)
            · have h41 : ¬ (sgn ln tx i = 41 ∧ 0 < d ∧ due = false) := by first | (exact fun q => by omega) | (exact fun q => by simp [q.2.2] at c_43)
              refine y_iload hC dX2_fault_52 rfl ?_
              have hs5 : (sgn ln tx i) < 65536 := hs1
              refine y_callS hC mX2_isBeginning kX2_51 dX2_fault_54 (As := [.int (nI (sgn ln tx (i)))]) (rest := []) (c_X2_isBeginning l E g (sgn ln tx (i)) hs1) rfl rfl rfl (Nat.le_of_ble_eq_true rfl) ⟨Nat.le_of_ble_eq_true rfl, Nat.le_of_ble_eq_true rfl⟩ (pk_i ?_)
              rintro r_54 g_54 ⟨hr_54, hq_54⟩
              obtain rfl := hq_54.symm
              rw [hr_54]
              clear hr_54 r_54
              refine y_if_ne_b (tgt := 62) hC dX2_fault_57 (by decide) (fun c_57 => ?_) (fun c_57 => ?_)
              · refine y_iload hC dX2_fault_62 rfl ?_
                refine y_aload_n hC dX2_fault_64 (i := 0) rfl rfl ?_
                refine y_iload_n hC dX2_fault_65 (i := 3) rfl rfl ?_
                refine y_iconst (v := nI 1) hC dX2_fault_66 (by decide) ?_
                refine y_iadd_n hC dX2_fault_67 ?_
                refine y_callV hC mX2_signAt kX2_43 dX2_fault_68 (b := 93) (As := [.int (nI (i + 1))]) (rest := [.int (nI (sgn ln tx (i)))]) (c_X2_signAt l E g ln tx f tk it st ti h (i + 1) (by omega)) (by omega) h.a93 rfl rfl rfl (Nat.le_of_ble_eq_true rfl) ⟨Nat.le_of_ble_eq_true rfl, Nat.le_of_ble_eq_true rfl⟩ (pk_i ?_)
                rintro r_68 g_68 ⟨hr_68, hq_68⟩
                obtain rfl := hq_68.symm
                rw [hr_68]
                clear hr_68 r_68
                have hs_68 := sgn_lt h (i + 1)
                refine y_callS hC mX2_isAllowedBehind kX2_54 dX2_fault_71 (As := [.int (nI (sgn ln tx (i))), .int (nI (sgn ln tx (i + 1)))]) (rest := []) (c_X2_isAllowedBehind l E g (sgn ln tx (i)) (sgn ln tx (i + 1)) hs1 (sgn_lt h _)) rfl rfl rfl (Nat.le_of_ble_eq_true rfl) ⟨Nat.le_of_ble_eq_true rfl, Nat.le_of_ble_eq_true rfl⟩ (pk_i ?_)
                rintro r_71 g_71 ⟨hr_71, hq_71⟩
                obtain rfl := hq_71.symm
                rw [hr_71]
                clear hr_71 r_71
                refine y_if_ne_b (tgt := 81) hC dX2_fault_74 (by decide) (fun c_74 => ?_) (fun c_74 => ?_)
                · refine y_iload hC dX2_fault_81 rfl ?_
                  refine y_callS hC mX2_isRepeat kX2_40 dX2_fault_83 (As := [.int (nI (sgn ln tx (i)))]) (rest := []) (c_X2_isRepeat l E g (sgn ln tx (i)) hs1) rfl rfl rfl (Nat.le_of_ble_eq_true rfl) ⟨Nat.le_of_ble_eq_true rfl, Nat.le_of_ble_eq_true rfl⟩ (pk_i ?_)
                  rintro r_83 g_83 ⟨hr_83, hq_83⟩
                  obtain rfl := hq_83.symm
                  rw [hr_83]
                  clear hr_83 r_83
                  refine y_istore_n hC dX2_fault_86 (i := 2) rfl (Nat.le_of_ble_eq_true rfl) rfl (lo' := [some (rf E (93)), some (.int (nI (d))), some (.int (bI (isRep (sgn ln tx i) = true))), some (.int (nI (i))), some (.int (nI (c))), some (.int (nI (sgn ln tx (i))))]) rfl ?_
                  refine y_iload_n hC dX2_fault_87 (i := 1) rfl rfl ?_
                  refine y_iload_n hC dX2_fault_88 (i := 2) rfl rfl ?_
                  refine y_if_eq_b (tgt := 96) hC dX2_fault_89 (by decide) (fun c_89 => ?_) (fun c_89 => ?_)
                  · refine y_iconst (v := nI 0) hC dX2_fault_96 (by decide) ?_
                    refine y_iadd_n hC dX2_fault_97 ?_
                    refine y_istore_n hC dX2_fault_98 (i := 1) rfl (Nat.le_of_ble_eq_true rfl) rfl (lo' := [some (rf E (93)), some (.int (nI (d + 0))), some (.int (bI (isRep (sgn ln tx i) = true))), some (.int (nI (i))), some (.int (nI (c))), some (.int (nI (sgn ln tx (i))))]) rfl ?_
                    refine y_aload_n hC dX2_fault_99 (i := 0) rfl rfl ?_
                    refine y_iload_n hC dX2_fault_100 (i := 3) rfl rfl ?_
                    refine y_callV hC mX2_behind kX2_58 dX2_fault_101 (b := 93) (As := [.int (nI (i))]) (rest := []) (c_X2_behind l E g ln tx f tk it st ti h (i) (by omega)) (by omega) h.a93 rfl rfl rfl (Nat.le_of_ble_eq_true rfl) ⟨Nat.le_of_ble_eq_true rfl, Nat.le_of_ble_eq_true rfl⟩ (pk_i ?_)
                    rintro r_101 g_101 ⟨hr_101, hq_101⟩
                    obtain rfl := hq_101.symm
                    rw [hr_101]
                    clear hr_101 r_101
                    refine y_istore_n hC dX2_fault_104 (i := 3) rfl (Nat.le_of_ble_eq_true rfl) rfl (lo' := [some (rf E (93)), some (.int (nI (d + 0))), some (.int (bI (isRep (sgn ln tx i) = true))), some (.int (nI (bhd (sgn ln tx) i))), some (.int (nI (c))), some (.int (nI (sgn ln tx (i))))]) rfl ?_
                    refine y_iinc_n hC dX2_fault_105 (a := c) (k := 1) rfl (by decide) (Nat.le_of_ble_eq_true rfl) rfl (lo' := [some (rf E (93)), some (.int (nI (d + 0))), some (.int (bI (isRep (sgn ln tx i) = true))), some (.int (nI (bhd (sgn ln tx) i))), some (.int (nI (c + 1))), some (.int (nI (sgn ln tx (i))))]) rfl ?_
                    refine y_goto (tgt := 9) hC dX2_fault_108 (by decide) ?_
                    refine y_fg 5 (lo' := [some (rf E (93)), some (.int (nI (d + 0))), some (.int (bI (isRep (sgn ln tx i) = true))), some (.int (nI (bhd (sgn ln tx) i))), some (.int (nI (c + 1))), none]) rfl ?_
                    have hft2 : ft (sgn ln tx) ln n (bhd (sgn ln tx) i) (d + 0) (isRep (sgn ln tx i)) = ft (sgn ln tx) ln (n + 1) i d due := by
                      rw [ft_step hlt h41 (by simpa using c_57) (by simpa using c_74)]
                      refine congrArg (fun q => ft (sgn ln tx) ln n (bhd (sgn ln tx) i) q (isRep (sgn ln tx i))) ?_
                      first | (rw [if_pos c_89]; done) | (rw [if_neg c_89]; rfl)
                    have htk := tok (s := sgn ln tx) (i := i) (by simpa using c_57) (by simpa using c_74)
                    have hbl := bhd_le (s := sgn ln tx) (i := i) sz hlt (Or.inr (by omega))
                    exact ih_9 (d + 0) (isRep (sgn ln tx i)) (bhd (sgn ln tx) i) (c + 1) n (by omega) (by omega) (by omega) (by omega) (by omega) (hft2.trans hft)
                  · refine y_iconst (v := nI 1) hC dX2_fault_92 (by decide) ?_
                    refine y_goto (tgt := 97) hC dX2_fault_93 (by decide) ?_
                    refine y_iadd_n hC dX2_fault_97 ?_
                    refine y_istore_n hC dX2_fault_98 (i := 1) rfl (Nat.le_of_ble_eq_true rfl) rfl (lo' := [some (rf E (93)), some (.int (nI (d + 1))), some (.int (bI (isRep (sgn ln tx i) = true))), some (.int (nI (i))), some (.int (nI (c))), some (.int (nI (sgn ln tx (i))))]) rfl ?_
                    refine y_aload_n hC dX2_fault_99 (i := 0) rfl rfl ?_
                    refine y_iload_n hC dX2_fault_100 (i := 3) rfl rfl ?_
                    refine y_callV hC mX2_behind kX2_58 dX2_fault_101 (b := 93) (As := [.int (nI (i))]) (rest := []) (c_X2_behind l E g ln tx f tk it st ti h (i) (by omega)) (by omega) h.a93 rfl rfl rfl (Nat.le_of_ble_eq_true rfl) ⟨Nat.le_of_ble_eq_true rfl, Nat.le_of_ble_eq_true rfl⟩ (pk_i ?_)
                    rintro r_101 g_101 ⟨hr_101, hq_101⟩
                    obtain rfl := hq_101.symm
                    rw [hr_101]
                    clear hr_101 r_101
                    refine y_istore_n hC dX2_fault_104 (i := 3) rfl (Nat.le_of_ble_eq_true rfl) rfl (lo' := [some (rf E (93)), some (.int (nI (d + 1))), some (.int (bI (isRep (sgn ln tx i) = true))), some (.int (nI (bhd (sgn ln tx) i))), some (.int (nI (c))), some (.int (nI (sgn ln tx (i))))]) rfl ?_
                    refine y_iinc_n hC dX2_fault_105 (a := c) (k := 1) rfl (by decide) (Nat.le_of_ble_eq_true rfl) rfl (lo' := [some (rf E (93)), some (.int (nI (d + 1))), some (.int (bI (isRep (sgn ln tx i) = true))), some (.int (nI (bhd (sgn ln tx) i))), some (.int (nI (c + 1))), some (.int (nI (sgn ln tx (i))))]) rfl ?_
                    refine y_goto (tgt := 9) hC dX2_fault_108 (by decide) ?_
                    refine y_fg 5 (lo' := [some (rf E (93)), some (.int (nI (d + 1))), some (.int (bI (isRep (sgn ln tx i) = true))), some (.int (nI (bhd (sgn ln tx) i))), some (.int (nI (c + 1))), none]) rfl ?_
                    have hft2 : ft (sgn ln tx) ln n (bhd (sgn ln tx) i) (d + 1) (isRep (sgn ln tx i)) = ft (sgn ln tx) ln (n + 1) i d due := by
                      rw [ft_step hlt h41 (by simpa using c_57) (by simpa using c_74)]
                      refine congrArg (fun q => ft (sgn ln tx) ln n (bhd (sgn ln tx) i) q (isRep (sgn ln tx i))) ?_
                      first | (rw [if_pos c_89]; done) | (rw [if_neg c_89]; rfl)
                    have htk := tok (s := sgn ln tx) (i := i) (by simpa using c_57) (by simpa using c_74)
                    have hbl := bhd_le (s := sgn ln tx) (i := i) sz hlt (Or.inr (by omega))
                    exact ih_9 (d + 1) (isRep (sgn ln tx i)) (bhd (sgn ln tx) i) (c + 1) n (by omega) (by omega) (by omega) (by omega) (by omega) (hft2.trans hft)
                · refine y_iload_n hC dX2_fault_77 (i := 3) rfl rfl ?_
                  refine y_iconst (v := nI 1) hC dX2_fault_78 (by decide) ?_
                  refine y_iadd_n hC dX2_fault_79 ?_
                  refine y_top (y := ftI (ft (sgn ln tx) ln 60 0 0 true)) (by rw [← hft, ft, if_pos hlt, if_neg h41, if_neg (by simpa using c_57), if_pos (by simpa using c_74)]; rfl) ?_
                  refine y_iret (hC := hC) (hd := dX2_fault_80) (hq := ?_)
                  exact ⟨rfl, rfl⟩
              · refine y_iload_n hC dX2_fault_60 (i := 3) rfl rfl ?_
                refine y_top (y := ftI (ft (sgn ln tx) ln 60 0 0 true)) (by rw [← hft, ft, if_pos hlt, if_neg h41, if_pos (by simpa using c_57)]; rfl) ?_
                refine y_iret (hC := hC) (hd := dX2_fault_61) (hq := ?_)
                exact ⟨rfl, rfl⟩
            · refine y_iload_n hC dX2_fault_42 (i := 2) rfl rfl ?_
              refine y_if_ne_b (tgt := 52) hC dX2_fault_43 (by decide) (fun c_43 => ?_) (fun c_43 => ?_)
              · have h41 : ¬ (sgn ln tx i = 41 ∧ 0 < d ∧ due = false) := by first | (exact fun q => by omega) | (exact fun q => by simp [q.2.2] at c_43)
                refine y_iload hC dX2_fault_52 rfl ?_
                have hs5 : (sgn ln tx i) < 65536 := hs1
                refine y_callS hC mX2_isBeginning kX2_51 dX2_fault_54 (As := [.int (nI (sgn ln tx (i)))]) (rest := []) (c_X2_isBeginning l E g (sgn ln tx (i)) hs1) rfl rfl rfl (Nat.le_of_ble_eq_true rfl) ⟨Nat.le_of_ble_eq_true rfl, Nat.le_of_ble_eq_true rfl⟩ (pk_i ?_)
                rintro r_54 g_54 ⟨hr_54, hq_54⟩
                obtain rfl := hq_54.symm
                rw [hr_54]
                clear hr_54 r_54
                refine y_if_ne_b (tgt := 62) hC dX2_fault_57 (by decide) (fun c_57 => ?_) (fun c_57 => ?_)
                · refine y_iload hC dX2_fault_62 rfl ?_
                  refine y_aload_n hC dX2_fault_64 (i := 0) rfl rfl ?_
                  refine y_iload_n hC dX2_fault_65 (i := 3) rfl rfl ?_
                  refine y_iconst (v := nI 1) hC dX2_fault_66 (by decide) ?_
                  refine y_iadd_n hC dX2_fault_67 ?_
                  refine y_callV hC mX2_signAt kX2_43 dX2_fault_68 (b := 93) (As := [.int (nI (i + 1))]) (rest := [.int (nI (sgn ln tx (i)))]) (c_X2_signAt l E g ln tx f tk it st ti h (i + 1) (by omega)) (by omega) h.a93 rfl rfl rfl (Nat.le_of_ble_eq_true rfl) ⟨Nat.le_of_ble_eq_true rfl, Nat.le_of_ble_eq_true rfl⟩ (pk_i ?_)
                  rintro r_68 g_68 ⟨hr_68, hq_68⟩
                  obtain rfl := hq_68.symm
                  rw [hr_68]
                  clear hr_68 r_68
                  have hs_68 := sgn_lt h (i + 1)
                  refine y_callS hC mX2_isAllowedBehind kX2_54 dX2_fault_71 (As := [.int (nI (sgn ln tx (i))), .int (nI (sgn ln tx (i + 1)))]) (rest := []) (c_X2_isAllowedBehind l E g (sgn ln tx (i)) (sgn ln tx (i + 1)) hs1 (sgn_lt h _)) rfl rfl rfl (Nat.le_of_ble_eq_true rfl) ⟨Nat.le_of_ble_eq_true rfl, Nat.le_of_ble_eq_true rfl⟩ (pk_i ?_)
                  rintro r_71 g_71 ⟨hr_71, hq_71⟩
                  obtain rfl := hq_71.symm
                  rw [hr_71]
                  clear hr_71 r_71
                  refine y_if_ne_b (tgt := 81) hC dX2_fault_74 (by decide) (fun c_74 => ?_) (fun c_74 => ?_)
                  · refine y_iload hC dX2_fault_81 rfl ?_
                    refine y_callS hC mX2_isRepeat kX2_40 dX2_fault_83 (As := [.int (nI (sgn ln tx (i)))]) (rest := []) (c_X2_isRepeat l E g (sgn ln tx (i)) hs1) rfl rfl rfl (Nat.le_of_ble_eq_true rfl) ⟨Nat.le_of_ble_eq_true rfl, Nat.le_of_ble_eq_true rfl⟩ (pk_i ?_)
                    rintro r_83 g_83 ⟨hr_83, hq_83⟩
                    obtain rfl := hq_83.symm
                    rw [hr_83]
                    clear hr_83 r_83
                    refine y_istore_n hC dX2_fault_86 (i := 2) rfl (Nat.le_of_ble_eq_true rfl) rfl (lo' := [some (rf E (93)), some (.int (nI (d))), some (.int (bI (isRep (sgn ln tx i) = true))), some (.int (nI (i))), some (.int (nI (c))), some (.int (nI (sgn ln tx (i))))]) rfl ?_
                    refine y_iload_n hC dX2_fault_87 (i := 1) rfl rfl ?_
                    refine y_iload_n hC dX2_fault_88 (i := 2) rfl rfl ?_
                    refine y_if_eq_b (tgt := 96) hC dX2_fault_89 (by decide) (fun c_89 => ?_) (fun c_89 => ?_)
                    · refine y_iconst (v := nI 0) hC dX2_fault_96 (by decide) ?_
                      refine y_iadd_n hC dX2_fault_97 ?_
                      refine y_istore_n hC dX2_fault_98 (i := 1) rfl (Nat.le_of_ble_eq_true rfl) rfl (lo' := [some (rf E (93)), some (.int (nI (d + 0))), some (.int (bI (isRep (sgn ln tx i) = true))), some (.int (nI (i))), some (.int (nI (c))), some (.int (nI (sgn ln tx (i))))]) rfl ?_
                      refine y_aload_n hC dX2_fault_99 (i := 0) rfl rfl ?_
                      refine y_iload_n hC dX2_fault_100 (i := 3) rfl rfl ?_
                      refine y_callV hC mX2_behind kX2_58 dX2_fault_101 (b := 93) (As := [.int (nI (i))]) (rest := []) (c_X2_behind l E g ln tx f tk it st ti h (i) (by omega)) (by omega) h.a93 rfl rfl rfl (Nat.le_of_ble_eq_true rfl) ⟨Nat.le_of_ble_eq_true rfl, Nat.le_of_ble_eq_true rfl⟩ (pk_i ?_)
                      rintro r_101 g_101 ⟨hr_101, hq_101⟩
                      obtain rfl := hq_101.symm
                      rw [hr_101]
                      clear hr_101 r_101
                      refine y_istore_n hC dX2_fault_104 (i := 3) rfl (Nat.le_of_ble_eq_true rfl) rfl (lo' := [some (rf E (93)), some (.int (nI (d + 0))), some (.int (bI (isRep (sgn ln tx i) = true))), some (.int (nI (bhd (sgn ln tx) i))), some (.int (nI (c))), some (.int (nI (sgn ln tx (i))))]) rfl ?_
                      refine y_iinc_n hC dX2_fault_105 (a := c) (k := 1) rfl (by decide) (Nat.le_of_ble_eq_true rfl) rfl (lo' := [some (rf E (93)), some (.int (nI (d + 0))), some (.int (bI (isRep (sgn ln tx i) = true))), some (.int (nI (bhd (sgn ln tx) i))), some (.int (nI (c + 1))), some (.int (nI (sgn ln tx (i))))]) rfl ?_
                      refine y_goto (tgt := 9) hC dX2_fault_108 (by decide) ?_
                      refine y_fg 5 (lo' := [some (rf E (93)), some (.int (nI (d + 0))), some (.int (bI (isRep (sgn ln tx i) = true))), some (.int (nI (bhd (sgn ln tx) i))), some (.int (nI (c + 1))), none]) rfl ?_
                      have hft2 : ft (sgn ln tx) ln n (bhd (sgn ln tx) i) (d + 0) (isRep (sgn ln tx i)) = ft (sgn ln tx) ln (n + 1) i d due := by
                        rw [ft_step hlt h41 (by simpa using c_57) (by simpa using c_74)]
                        refine congrArg (fun q => ft (sgn ln tx) ln n (bhd (sgn ln tx) i) q (isRep (sgn ln tx i))) ?_
                        first | (rw [if_pos c_89]; done) | (rw [if_neg c_89]; rfl)
                      have htk := tok (s := sgn ln tx) (i := i) (by simpa using c_57) (by simpa using c_74)
                      have hbl := bhd_le (s := sgn ln tx) (i := i) sz hlt (Or.inr (by omega))
                      exact ih_9 (d + 0) (isRep (sgn ln tx i)) (bhd (sgn ln tx) i) (c + 1) n (by omega) (by omega) (by omega) (by omega) (by omega) (hft2.trans hft)
                    · refine y_iconst (v := nI 1) hC dX2_fault_92 (by decide) ?_
                      refine y_goto (tgt := 97) hC dX2_fault_93 (by decide) ?_
                      refine y_iadd_n hC dX2_fault_97 ?_
                      refine y_istore_n hC dX2_fault_98 (i := 1) rfl (Nat.le_of_ble_eq_true rfl) rfl (lo' := [some (rf E (93)), some (.int (nI (d + 1))), some (.int (bI (isRep (sgn ln tx i) = true))), some (.int (nI (i))), some (.int (nI (c))), some (.int (nI (sgn ln tx (i))))]) rfl ?_
                      refine y_aload_n hC dX2_fault_99 (i := 0) rfl rfl ?_
                      refine y_iload_n hC dX2_fault_100 (i := 3) rfl rfl ?_
                      refine y_callV hC mX2_behind kX2_58 dX2_fault_101 (b := 93) (As := [.int (nI (i))]) (rest := []) (c_X2_behind l E g ln tx f tk it st ti h (i) (by omega)) (by omega) h.a93 rfl rfl rfl (Nat.le_of_ble_eq_true rfl) ⟨Nat.le_of_ble_eq_true rfl, Nat.le_of_ble_eq_true rfl⟩ (pk_i ?_)
                      rintro r_101 g_101 ⟨hr_101, hq_101⟩
                      obtain rfl := hq_101.symm
                      rw [hr_101]
                      clear hr_101 r_101
                      refine y_istore_n hC dX2_fault_104 (i := 3) rfl (Nat.le_of_ble_eq_true rfl) rfl (lo' := [some (rf E (93)), some (.int (nI (d + 1))), some (.int (bI (isRep (sgn ln tx i) = true))), some (.int (nI (bhd (sgn ln tx) i))), some (.int (nI (c))), some (.int (nI (sgn ln tx (i))))]) rfl ?_
                      refine y_iinc_n hC dX2_fault_105 (a := c) (k := 1) rfl (by decide) (Nat.le_of_ble_eq_true rfl) rfl (lo' := [some (rf E (93)), some (.int (nI (d + 1))), some (.int (bI (isRep (sgn ln tx i) = true))), some (.int (nI (bhd (sgn ln tx) i))), some (.int (nI (c + 1))), some (.int (nI (sgn ln tx (i))))]) rfl ?_
                      refine y_goto (tgt := 9) hC dX2_fault_108 (by decide) ?_
                      refine y_fg 5 (lo' := [some (rf E (93)), some (.int (nI (d + 1))), some (.int (bI (isRep (sgn ln tx i) = true))), some (.int (nI (bhd (sgn ln tx) i))), some (.int (nI (c + 1))), none]) rfl ?_
                      have hft2 : ft (sgn ln tx) ln n (bhd (sgn ln tx) i) (d + 1) (isRep (sgn ln tx i)) = ft (sgn ln tx) ln (n + 1) i d due := by
                        rw [ft_step hlt h41 (by simpa using c_57) (by simpa using c_74)]
                        refine congrArg (fun q => ft (sgn ln tx) ln n (bhd (sgn ln tx) i) q (isRep (sgn ln tx i))) ?_
                        first | (rw [if_pos c_89]; done) | (rw [if_neg c_89]; rfl)
                      have htk := tok (s := sgn ln tx) (i := i) (by simpa using c_57) (by simpa using c_74)
                      have hbl := bhd_le (s := sgn ln tx) (i := i) sz hlt (Or.inr (by omega))
                      exact ih_9 (d + 1) (isRep (sgn ln tx i)) (bhd (sgn ln tx) i) (c + 1) n (by omega) (by omega) (by omega) (by omega) (by omega) (hft2.trans hft)
                  · refine y_iload_n hC dX2_fault_77 (i := 3) rfl rfl ?_
                    refine y_iconst (v := nI 1) hC dX2_fault_78 (by decide) ?_
                    refine y_iadd_n hC dX2_fault_79 ?_
                    refine y_top (y := ftI (ft (sgn ln tx) ln 60 0 0 true)) (by rw [← hft, ft, if_pos hlt, if_neg h41, if_neg (by simpa using c_57), if_pos (by simpa using c_74)]; rfl) ?_
                    refine y_iret (hC := hC) (hd := dX2_fault_80) (hq := ?_)
                    exact ⟨rfl, rfl⟩
                · refine y_iload_n hC dX2_fault_60 (i := 3) rfl rfl ?_
                  refine y_top (y := ftI (ft (sgn ln tx) ln 60 0 0 true)) (by rw [← hft, ft, if_pos hlt, if_neg h41, if_pos (by simpa using c_57)]; rfl) ?_
                  refine y_iret (hC := hC) (hd := dX2_fault_61) (hq := ?_)
                  exact ⟨rfl, rfl⟩
              · refine y_iinc hC dX2_fault_46 (x := nI (d)) (v := nI (d - 1)) rfl (by rw [show Int32.ofInt (-1) = -nI 1 from by decide, ← Int32.sub_eq_add_neg]; exact pk_sub (by omega)) (Nat.le_of_ble_eq_true rfl) rfl (lo' := [some (rf E (93)), some (.int (nI (d - 1))), some (.int (bI (due = true))), some (.int (nI (i))), some (.int (nI (c))), some (.int (nI (sgn ln tx (i))))]) rfl ?_
                refine y_goto (tgt := 99) hC dX2_fault_49 (by decide) ?_
                refine y_aload_n hC dX2_fault_99 (i := 0) rfl rfl ?_
                refine y_iload_n hC dX2_fault_100 (i := 3) rfl rfl ?_
                refine y_callV hC mX2_behind kX2_58 dX2_fault_101 (b := 93) (As := [.int (nI (i))]) (rest := []) (c_X2_behind l E g ln tx f tk it st ti h (i) (by omega)) (by omega) h.a93 rfl rfl rfl (Nat.le_of_ble_eq_true rfl) ⟨Nat.le_of_ble_eq_true rfl, Nat.le_of_ble_eq_true rfl⟩ (pk_i ?_)
                rintro r_101 g_101 ⟨hr_101, hq_101⟩
                obtain rfl := hq_101.symm
                rw [hr_101]
                clear hr_101 r_101
                refine y_istore_n hC dX2_fault_104 (i := 3) rfl (Nat.le_of_ble_eq_true rfl) rfl (lo' := [some (rf E (93)), some (.int (nI (d - 1))), some (.int (bI (due = true))), some (.int (nI (bhd (sgn ln tx) i))), some (.int (nI (c))), some (.int (nI (sgn ln tx (i))))]) rfl ?_
                refine y_iinc_n hC dX2_fault_105 (a := c) (k := 1) rfl (by decide) (Nat.le_of_ble_eq_true rfl) rfl (lo' := [some (rf E (93)), some (.int (nI (d - 1))), some (.int (bI (due = true))), some (.int (nI (bhd (sgn ln tx) i))), some (.int (nI (c + 1))), some (.int (nI (sgn ln tx (i))))]) rfl ?_
                refine y_goto (tgt := 9) hC dX2_fault_108 (by decide) ?_
                refine y_fg 5 (lo' := [some (rf E (93)), some (.int (nI (d - 1))), some (.int (bI (due = true))), some (.int (nI (bhd (sgn ln tx) i))), some (.int (nI (c + 1))), none]) rfl ?_
                have hft2 : ft (sgn ln tx) ln n (bhd (sgn ln tx) i) (d - 1) false = ft (sgn ln tx) ln (n + 1) i d due := by
                  rw [ft, if_pos hlt, if_pos ⟨by omega, by omega, by simpa using c_43⟩]
                  unfold bhd
                  rw [if_pos (by omega)]
                have hbl := bhd_le (s := sgn ln tx) (i := i) sz hlt (Or.inl (by omega))
                have hdu : due = false := by simpa using c_43
                subst hdu
                exact ih_9 (d - 1) false (bhd (sgn ln tx) i) (c + 1) n (by omega) (by omega) (by omega) (by omega) (by omega) (hft2.trans hft)
  exact L_9 61 0 true 0 0 60 (by omega) (by omega) (by omega) (by omega) (by omega) rfl
end
section
/-! ===== the program of the class: what it names, counts, does ===== -/
theorem zmin {a b : Nat} (ha : a < 2147483648) (hb : b < 2147483648) : (if nI b < nI a then nI b else nI a) = nI (min a b) := by
  by_cases h : b < a
  · rw [if_pos ((nI_ltI hb ha).mpr h), Nat.min_eq_right (by omega)]
  · rw [if_neg (fun q => h ((nI_ltI hb ha).mp q)), Nat.min_eq_left (by omega)]
/-- the highest number, from its number and one more -/
def hiI (h : Nat) : Int32 := nI h - nI 1
theorem zhi {h d : Nat} (h1 : h ≤ 1000) (h2 : d ≤ 1000) : (if hiI h < nI d then nI d else hiI h) = hiI (max h (d + 1)) := by
  unfold hiI
  have e1 : (nI h - nI 1).toInt = (h : Int) - 1 := sI (by omega) (by decide)
  have e2 : (nI d).toInt = (d : Int) := tI (by omega)
  have e3 : nI (d + 1) - nI 1 = nI d := pk_sub (by omega)
  by_cases q : h < d + 1
  · rw [if_pos (Int32.lt_iff_toInt_lt.mpr (by omega)), Nat.max_eq_right (by omega), e3]
  · rw [if_neg (fun q2 => by have := Int32.lt_iff_toInt_lt.mp q2; omega), Nat.max_eq_left (by omega)]
theorem hiN_le {s : Nat → Nat} {ln : Nat} (hd : ∀ k, k < ln → isFor (s k) = true → 48 ≤ s (k + 1) ∧ s (k + 1) ≤ 57) : ∀ i, i ≤ ln → hiN s i ≤ 10
  | 0, _ => Nat.zero_le _
  | i + 1, h => by
    have := hiN_le hd i (by omega)
    rw [hiN]
    split
    · rename_i q
      have := hd i (by omega) q
      omega
    · exact this
theorem cT_end {s : Nat → Nat} {ln n i d tk it : Nat} {tf : Nat → Nat} (h : ¬ i < ln) : cT s ln n i d tf tk it = (tk, it) := by
  cases n with
  | zero => rfl
  | succ n => rw [cT, if_neg h]
theorem isRep_s {a : Nat} (h : isRep a = true) : 50 ≤ a ∧ a ≤ 57 := of_decide_eq_true h
theorem nmb_le {s : Nat → Nat} {i : Nat} (h : s i ≤ 57) : nmb s i ≤ 99 := by
  unfold nmb
  split <;> omega
theorem bhd_2 {s : Nat → Nat} {i : Nat} (h1 : s i ≠ 41) (h2 : s i ≠ 116) : bhd s i = i + 2 := by
  unfold bhd
  rw [if_neg h1, if_neg (fun q => h2 q.1)]
theorem bhd_1 {s : Nat → Nat} {i : Nat} (h1 : s i = 41) : bhd s i = i + 1 := if_pos h1
theorem zuv {d k x : Nat} {st : Nat → Int32} {sf : Nat → Nat} (h : ∀ j, j < d → st j = nI (sf j)) : ∀ j, (j < d ∨ j = k) → upd st k (nI x) j = nI (va_up sf k x j) := by
  intro j hj
  by_cases e : j = k
  · rw [e, pk_us, va_up_self]
  · rw [pk_un e, va_up_ne _ _ e]
    exact h j (by omega)
theorem Run_ge {s : Nat → Nat} {ln n i d B : Nat} {sf tf : Nat → Nat} {r fin : Row} (h : Run s ln n i d sf tf r B fin) (hi : ¬ i < ln) : fin = r := by
  cases n with
  | zero => exact h.2
  | succ n => exact absurd h.1 hi
theorem Run_lt {s : Nat → Nat} {ln n i d B : Nat} {sf tf : Nat → Nat} {r fin : Row} (h : Run s ln n i d sf tf r B fin) (hi : i < ln) : ∃ k, n = k + 1 ∧ Run s ln (k + 1) i d sf tf r B fin := by
  cases n with
  | zero => exact absurd h.1 (by omega)
  | succ n => exact ⟨n, rfl, h⟩
theorem dX2_highestRange_0 : decode cX2_highestRange 0 = .ok (.iconst (-1), 1) := by decide +kernel
theorem dX2_highestRange_1 : decode cX2_highestRange 1 = .ok (.istore_n 1, 1) := by decide +kernel
theorem dX2_highestRange_2 : decode cX2_highestRange 2 = .ok (.iconst 0, 1) := by decide +kernel
theorem dX2_highestRange_3 : decode cX2_highestRange 3 = .ok (.istore_n 2, 1) := by decide +kernel
theorem dX2_highestRange_4 : decode cX2_highestRange 4 = .ok (.iload_n 2, 1) := by decide +kernel
theorem dX2_highestRange_5 : decode cX2_highestRange 5 = .ok (.aload_n 0, 1) := by decide +kernel
theorem dX2_highestRange_6 : decode cX2_highestRange 6 = .ok (.getfield 22, 3) := by decide +kernel
theorem dX2_highestRange_9 : decode cX2_highestRange 9 = .ok (.if_icmp .ge 32, 3) := by decide +kernel
theorem dX2_highestRange_12 : decode cX2_highestRange 12 = .ok (.aload_n 0, 1) := by decide +kernel
theorem dX2_highestRange_13 : decode cX2_highestRange 13 = .ok (.iload_n 2, 1) := by decide +kernel
theorem dX2_highestRange_14 : decode cX2_highestRange 14 = .ok (.invokevirtual 43, 3) := by decide +kernel
theorem dX2_highestRange_17 : decode cX2_highestRange 17 = .ok (.invokestatic 36, 3) := by decide +kernel
theorem dX2_highestRange_20 : decode cX2_highestRange 20 = .ok (.ifCond .eq 15, 3) := by decide +kernel
theorem dX2_highestRange_23 : decode cX2_highestRange 23 = .ok (.iload_n 1, 1) := by decide +kernel
theorem dX2_highestRange_24 : decode cX2_highestRange 24 = .ok (.aload_n 0, 1) := by decide +kernel
theorem dX2_highestRange_25 : decode cX2_highestRange 25 = .ok (.iload_n 2, 1) := by decide +kernel
theorem dX2_highestRange_26 : decode cX2_highestRange 26 = .ok (.iconst 1, 1) := by decide +kernel
theorem dX2_highestRange_27 : decode cX2_highestRange 27 = .ok (.iadd, 1) := by decide +kernel
theorem dX2_highestRange_28 : decode cX2_highestRange 28 = .ok (.invokevirtual 47, 3) := by decide +kernel
theorem dX2_highestRange_31 : decode cX2_highestRange 31 = .ok (.invokestatic 61, 3) := by decide +kernel
theorem dX2_highestRange_34 : decode cX2_highestRange 34 = .ok (.istore_n 1, 1) := by decide +kernel
theorem dX2_highestRange_35 : decode cX2_highestRange 35 = .ok (.iinc 2 1, 3) := by decide +kernel
theorem dX2_highestRange_38 : decode cX2_highestRange 38 = .ok (.goto (-34), 3) := by decide +kernel
theorem dX2_highestRange_41 : decode cX2_highestRange 41 = .ok (.iload_n 1, 1) := by decide +kernel
theorem dX2_highestRange_42 : decode cX2_highestRange 42 = .ok (.ireturn, 1) := by decide +kernel
set_option maxHeartbeats 4000000 in
set_option maxRecDepth 100000 in
theorem c_X2_highestRange (l : Launch) (E : gE) (g : Mem) (ln : Nat) (tx : Nat → Nat) (f : Nat → Int32) (tk it : Int32) (st ti : Nat → Int32) (h : PX E g ln tx f tk it st ti) (hd : ∀ k, k < ln → isFor (sgn ln tx k) = true → 48 ≤ sgn ln tx (k + 1) ∧ sgn ln tx (k + 1) ≤ 57) : Mt l E yX2_highestRange cX2_highestRange 3 (some .int) 2 42 [rf E (93)] g (pI (fun z g' => z = hiI (hiN (sgn ln tx) ln) ∧ g' = g)) := by
  have hK := h.k
  have hln := h.l
  refine mt_go (own := RX2) (by decide) rfl (lo := [some (rf E (93)), none, none]) rfl (Nat.le_of_ble_eq_true rfl) (fun X hC => ?_)
  refine y_iconst (v := (-1)) hC dX2_highestRange_0 (by decide) ?_
  refine y_top (y := hiI (hiN (sgn ln tx) 0)) (by unfold hiN; decide) ?_
  refine y_istore_n hC dX2_highestRange_1 (i := 1) rfl (Nat.le_of_ble_eq_true rfl) rfl (lo' := [some (rf E (93)), some (.int (hiI (hiN (sgn ln tx) 0))), none]) rfl ?_
  refine y_iconst (v := nI 0) hC dX2_highestRange_2 (by decide) ?_
  refine y_istore_n hC dX2_highestRange_3 (i := 2) rfl (Nat.le_of_ble_eq_true rfl) rfl (lo' := [some (rf E (93)), some (.int (hiI (hiN (sgn ln tx) 0))), some (.int (nI (0)))]) rfl ?_
  have L_4 : ∀ (m : Nat) (i : Nat), (hm : ln - i < m) → (hi : i ≤ ln) → Y l E X (pI (fun z g' => z = hiI (hiN (sgn ln tx) ln) ∧ g' = g)) 4 [some (rf E (93)), some (.int (hiI (hiN (sgn ln tx) i))), some (.int (nI (i)))] [] g := by
    intro m
    induction m with
    | zero => intro i hm hi; exact absurd hm (Nat.not_lt_zero _)
    | succ m ih_4 =>
      intro i hm hi
      refine y_iload_n hC dX2_highestRange_4 (i := 2) rfl rfl ?_
      refine y_aload_n hC dX2_highestRange_5 (i := 0) rfl rfl ?_
      refine y_get hC fX2_22 dX2_highestRange_6 (k := 93) (by omega) h.a93 rfl ?_
      refine y_icmp_ge_n (tgt := 41) hC dX2_highestRange_9 (by decide) (by omega) (by omega) (fun c_9 => ?_) (fun c_9 => ?_)
      · refine y_iload_n hC dX2_highestRange_41 (i := 1) rfl rfl ?_
        refine y_iret (hC := hC) (hd := dX2_highestRange_42) (hq := ?_)
        exact ⟨by rw [show i = ln by omega], rfl⟩
      · refine y_aload_n hC dX2_highestRange_12 (i := 0) rfl rfl ?_
        refine y_iload_n hC dX2_highestRange_13 (i := 2) rfl rfl ?_
        refine y_callV hC mX2_signAt kX2_43 dX2_highestRange_14 (b := 93) (As := [.int (nI (i))]) (rest := []) (c_X2_signAt l E g ln tx f tk it st ti h (i) (by omega)) (by omega) h.a93 rfl rfl rfl (Nat.le_of_ble_eq_true rfl) ⟨Nat.le_of_ble_eq_true rfl, Nat.le_of_ble_eq_true rfl⟩ (pk_i ?_)
        rintro r_14 g_14 ⟨hr_14, hq_14⟩
        obtain rfl := hq_14.symm
        rw [hr_14]
        clear hr_14 r_14
        have hs_14 := sgn_lt h (i)
        refine y_callS hC mX2_isForRange kX2_36 dX2_highestRange_17 (As := [.int (nI (sgn ln tx (i)))]) (rest := []) (c_X2_isForRange l E g (sgn ln tx i) hs_14) rfl rfl rfl (Nat.le_of_ble_eq_true rfl) ⟨Nat.le_of_ble_eq_true rfl, Nat.le_of_ble_eq_true rfl⟩ (pk_i ?_)
        rintro r_17 g_17 ⟨hr_17, hq_17⟩
        obtain rfl := hq_17.symm
        rw [hr_17]
        clear hr_17 r_17
        refine y_if_eq_b (tgt := 35) hC dX2_highestRange_20 (by decide) (fun c_20 => ?_) (fun c_20 => ?_)
        · refine y_iinc_n hC dX2_highestRange_35 (a := i) (k := 1) rfl (by decide) (Nat.le_of_ble_eq_true rfl) rfl (lo' := [some (rf E (93)), some (.int (hiI (hiN (sgn ln tx) i))), some (.int (nI (i + 1)))]) rfl ?_
          refine y_goto (tgt := 4) hC dX2_highestRange_38 (by decide) ?_
          have hst : hiN (sgn ln tx) (i + 1) = hiN (sgn ln tx) i := by rw [hiN]; first | rw [if_pos c_20] | rw [if_neg c_20]
          rw [← hst]
          exact ih_4 (i + 1) (by omega) (by omega)
        · have hdd := hd i (by omega) c_20
          have hhl := hiN_le hd i hi
          refine y_iload_n hC dX2_highestRange_23 (i := 1) rfl rfl ?_
          refine y_aload_n hC dX2_highestRange_24 (i := 0) rfl rfl ?_
          refine y_iload_n hC dX2_highestRange_25 (i := 2) rfl rfl ?_
          refine y_iconst (v := nI 1) hC dX2_highestRange_26 (by decide) ?_
          refine y_iadd_n hC dX2_highestRange_27 ?_
          refine y_callV hC mX2_digitAt kX2_47 dX2_highestRange_28 (b := 93) (As := [.int (nI (i + 1))]) (rest := [.int (hiI (hiN (sgn ln tx) i))]) (c_X2_digitAt l E g ln tx f tk it st ti h (i + 1) (by omega)) (by omega) h.a93 rfl rfl rfl (Nat.le_of_ble_eq_true rfl) ⟨Nat.le_of_ble_eq_true rfl, Nat.le_of_ble_eq_true rfl⟩ (pk_i ?_)
          rintro r_28 g_28 ⟨hr_28, hq_28⟩
          obtain rfl := hq_28.symm
          rw [hr_28]
          clear hr_28 r_28
          rw [pk_sub (a := sgn ln tx (i + 1)) (b := 48) (by omega)]
          refine y_mmax hC rfl kX2_61 wmax_s wmath wmax_c dX2_highestRange_31 (by decide) (Nat.le_of_ble_eq_true rfl) ?_
          refine y_top (y := hiI (max (hiN (sgn ln tx) i) (sgn ln tx (i + 1) - 48 + 1))) (zhi (by omega) (by omega)) ?_
          refine y_istore_n hC dX2_highestRange_34 (i := 1) rfl (Nat.le_of_ble_eq_true rfl) rfl (lo' := [some (rf E (93)), some (.int (hiI (max (hiN (sgn ln tx) i) (sgn ln tx (i + 1) - 48 + 1)))), some (.int (nI (i)))]) rfl ?_
          refine y_iinc_n hC dX2_highestRange_35 (a := i) (k := 1) rfl (by decide) (Nat.le_of_ble_eq_true rfl) rfl (lo' := [some (rf E (93)), some (.int (hiI (max (hiN (sgn ln tx) i) (sgn ln tx (i + 1) - 48 + 1)))), some (.int (nI (i + 1)))]) rfl ?_
          refine y_goto (tgt := 4) hC dX2_highestRange_38 (by decide) ?_
          have hst : hiN (sgn ln tx) (i + 1) = max (hiN (sgn ln tx) i) (sgn ln tx (i + 1) - 48 + 1) := by rw [hiN]; first | rw [if_pos c_20] | rw [if_neg c_20]
          rw [← hst]
          exact ih_4 (i + 1) (by omega) (by omega)
  exact L_4 (ln + 1) 0 (by omega) (by omega)

theorem dX2_count_0 : decode cX2_count 0 = .ok (.aload_n 0, 1) := by decide +kernel
theorem dX2_count_1 : decode cX2_count 1 = .ok (.iconst 0, 1) := by decide +kernel
theorem dX2_count_2 : decode cX2_count 2 = .ok (.putfield 26, 3) := by decide +kernel
theorem dX2_count_5 : decode cX2_count 5 = .ok (.aload_n 0, 1) := by decide +kernel
theorem dX2_count_6 : decode cX2_count 6 = .ok (.iconst 0, 1) := by decide +kernel
theorem dX2_count_7 : decode cX2_count 7 = .ok (.putfield 29, 3) := by decide +kernel
theorem dX2_count_10 : decode cX2_count 10 = .ok (.iconst 0, 1) := by decide +kernel
theorem dX2_count_11 : decode cX2_count 11 = .ok (.istore_n 1, 1) := by decide +kernel
theorem dX2_count_12 : decode cX2_count 12 = .ok (.aload_n 0, 1) := by decide +kernel
theorem dX2_count_13 : decode cX2_count 13 = .ok (.getfield 19, 3) := by decide +kernel
theorem dX2_count_16 : decode cX2_count 16 = .ok (.iconst 0, 1) := by decide +kernel
theorem dX2_count_17 : decode cX2_count 17 = .ok (.iconst 1, 1) := by decide +kernel
theorem dX2_count_18 : decode cX2_count 18 = .ok (.iastore, 1) := by decide +kernel
theorem dX2_count_19 : decode cX2_count 19 = .ok (.iconst 0, 1) := by decide +kernel
theorem dX2_count_20 : decode cX2_count 20 = .ok (.istore_n 2, 1) := by decide +kernel
theorem dX2_count_21 : decode cX2_count 21 = .ok (.iconst 0, 1) := by decide +kernel
theorem dX2_count_22 : decode cX2_count 22 = .ok (.istore_n 3, 1) := by decide +kernel
theorem dX2_count_23 : decode cX2_count 23 = .ok (.iload_n 3, 1) := by decide +kernel
theorem dX2_count_24 : decode cX2_count 24 = .ok (.bipush 60, 2) := by decide +kernel
theorem dX2_count_26 : decode cX2_count 26 = .ok (.if_icmp .ge 148, 3) := by decide +kernel
theorem dX2_count_29 : decode cX2_count 29 = .ok (.iload_n 2, 1) := by decide +kernel
theorem dX2_count_30 : decode cX2_count 30 = .ok (.aload_n 0, 1) := by decide +kernel
theorem dX2_count_31 : decode cX2_count 31 = .ok (.getfield 22, 3) := by decide +kernel
theorem dX2_count_34 : decode cX2_count 34 = .ok (.if_icmp .ge 140, 3) := by decide +kernel
theorem dX2_count_37 : decode cX2_count 37 = .ok (.aload_n 0, 1) := by decide +kernel
theorem dX2_count_38 : decode cX2_count 38 = .ok (.iload_n 2, 1) := by decide +kernel
theorem dX2_count_39 : decode cX2_count 39 = .ok (.invokevirtual 43, 3) := by decide +kernel
theorem dX2_count_42 : decode cX2_count 42 = .ok (.istore 4, 2) := by decide +kernel
theorem dX2_count_44 : decode cX2_count 44 = .ok (.iload 4, 2) := by decide +kernel
theorem dX2_count_46 : decode cX2_count 46 = .ok (.bipush 41, 2) := by decide +kernel
theorem dX2_count_48 : decode cX2_count 48 = .ok (.if_icmp .ne 9, 3) := by decide +kernel
theorem dX2_count_51 : decode cX2_count 51 = .ok (.iinc 1 (-1), 3) := by decide +kernel
theorem dX2_count_54 : decode cX2_count 54 = .ok (.goto 108, 3) := by decide +kernel
theorem dX2_count_57 : decode cX2_count 57 = .ok (.iload 4, 2) := by decide +kernel
theorem dX2_count_59 : decode cX2_count 59 = .ok (.invokestatic 40, 3) := by decide +kernel
theorem dX2_count_62 : decode cX2_count 62 = .ok (.ifCond .eq 35, 3) := by decide +kernel
theorem dX2_count_65 : decode cX2_count 65 = .ok (.aload_n 0, 1) := by decide +kernel
theorem dX2_count_66 : decode cX2_count 66 = .ok (.getfield 19, 3) := by decide +kernel
theorem dX2_count_69 : decode cX2_count 69 = .ok (.iload_n 1, 1) := by decide +kernel
theorem dX2_count_70 : decode cX2_count 70 = .ok (.iconst 1, 1) := by decide +kernel
theorem dX2_count_71 : decode cX2_count 71 = .ok (.iadd, 1) := by decide +kernel
theorem dX2_count_72 : decode cX2_count 72 = .ok (.aload_n 0, 1) := by decide +kernel
theorem dX2_count_73 : decode cX2_count 73 = .ok (.getfield 19, 3) := by decide +kernel
theorem dX2_count_76 : decode cX2_count 76 = .ok (.iload_n 1, 1) := by decide +kernel
theorem dX2_count_77 : decode cX2_count 77 = .ok (.iaload, 1) := by decide +kernel
theorem dX2_count_78 : decode cX2_count 78 = .ok (.aload_n 0, 1) := by decide +kernel
theorem dX2_count_79 : decode cX2_count 79 = .ok (.iload_n 2, 1) := by decide +kernel
theorem dX2_count_80 : decode cX2_count 80 = .ok (.invokevirtual 47, 3) := by decide +kernel
theorem dX2_count_83 : decode cX2_count 83 = .ok (.imul, 1) := by decide +kernel
theorem dX2_count_84 : decode cX2_count 84 = .ok (.sipush 5001, 3) := by decide +kernel
theorem dX2_count_87 : decode cX2_count 87 = .ok (.invokestatic 67, 3) := by decide +kernel
theorem dX2_count_90 : decode cX2_count 90 = .ok (.iastore, 1) := by decide +kernel
theorem dX2_count_91 : decode cX2_count 91 = .ok (.iinc 1 1, 3) := by decide +kernel
theorem dX2_count_94 : decode cX2_count 94 = .ok (.goto 68, 3) := by decide +kernel
theorem dX2_count_97 : decode cX2_count 97 = .ok (.iload 4, 2) := by decide +kernel
theorem dX2_count_99 : decode cX2_count 99 = .ok (.bipush 116, 2) := by decide +kernel
theorem dX2_count_101 : decode cX2_count 101 = .ok (.if_icmp .ne 13, 3) := by decide +kernel
theorem dX2_count_104 : decode cX2_count 104 = .ok (.aload_n 0, 1) := by decide +kernel
theorem dX2_count_105 : decode cX2_count 105 = .ok (.iload_n 2, 1) := by decide +kernel
theorem dX2_count_106 : decode cX2_count 106 = .ok (.iconst 1, 1) := by decide +kernel
theorem dX2_count_107 : decode cX2_count 107 = .ok (.iadd, 1) := by decide +kernel
theorem dX2_count_108 : decode cX2_count 108 = .ok (.invokevirtual 70, 3) := by decide +kernel
theorem dX2_count_111 : decode cX2_count 111 = .ok (.goto 4, 3) := by decide +kernel
theorem dX2_count_114 : decode cX2_count 114 = .ok (.iconst 0, 1) := by decide +kernel
theorem dX2_count_115 : decode cX2_count 115 = .ok (.istore 5, 2) := by decide +kernel
theorem dX2_count_117 : decode cX2_count 117 = .ok (.aload_n 0, 1) := by decide +kernel
theorem dX2_count_118 : decode cX2_count 118 = .ok (.aload_n 0, 1) := by decide +kernel
theorem dX2_count_119 : decode cX2_count 119 = .ok (.getfield 26, 3) := by decide +kernel
theorem dX2_count_122 : decode cX2_count 122 = .ok (.aload_n 0, 1) := by decide +kernel
theorem dX2_count_123 : decode cX2_count 123 = .ok (.getfield 19, 3) := by decide +kernel
theorem dX2_count_126 : decode cX2_count 126 = .ok (.iload_n 1, 1) := by decide +kernel
theorem dX2_count_127 : decode cX2_count 127 = .ok (.iaload, 1) := by decide +kernel
theorem dX2_count_128 : decode cX2_count 128 = .ok (.iload 5, 2) := by decide +kernel
theorem dX2_count_130 : decode cX2_count 130 = .ok (.imul, 1) := by decide +kernel
theorem dX2_count_131 : decode cX2_count 131 = .ok (.iadd, 1) := by decide +kernel
theorem dX2_count_132 : decode cX2_count 132 = .ok (.sipush 5001, 3) := by decide +kernel
theorem dX2_count_135 : decode cX2_count 135 = .ok (.invokestatic 67, 3) := by decide +kernel
theorem dX2_count_138 : decode cX2_count 138 = .ok (.putfield 26, 3) := by decide +kernel
theorem dX2_count_141 : decode cX2_count 141 = .ok (.aload_n 0, 1) := by decide +kernel
theorem dX2_count_142 : decode cX2_count 142 = .ok (.aload_n 0, 1) := by decide +kernel
theorem dX2_count_143 : decode cX2_count 143 = .ok (.getfield 29, 3) := by decide +kernel
theorem dX2_count_146 : decode cX2_count 146 = .ok (.aload_n 0, 1) := by decide +kernel
theorem dX2_count_147 : decode cX2_count 147 = .ok (.getfield 19, 3) := by decide +kernel
theorem dX2_count_150 : decode cX2_count 150 = .ok (.iload_n 1, 1) := by decide +kernel
theorem dX2_count_151 : decode cX2_count 151 = .ok (.iaload, 1) := by decide +kernel
theorem dX2_count_152 : decode cX2_count 152 = .ok (.iadd, 1) := by decide +kernel
theorem dX2_count_153 : decode cX2_count 153 = .ok (.sipush 5001, 3) := by decide +kernel
theorem dX2_count_156 : decode cX2_count 156 = .ok (.invokestatic 67, 3) := by decide +kernel
theorem dX2_count_159 : decode cX2_count 159 = .ok (.putfield 29, 3) := by decide +kernel
theorem dX2_count_162 : decode cX2_count 162 = .ok (.aload_n 0, 1) := by decide +kernel
theorem dX2_count_163 : decode cX2_count 163 = .ok (.iload_n 2, 1) := by decide +kernel
theorem dX2_count_164 : decode cX2_count 164 = .ok (.invokevirtual 58, 3) := by decide +kernel
theorem dX2_count_167 : decode cX2_count 167 = .ok (.istore_n 2, 1) := by decide +kernel
theorem dX2_count_168 : decode cX2_count 168 = .ok (.iinc 3 1, 3) := by decide +kernel
theorem dX2_count_171 : decode cX2_count 171 = .ok (.goto (-148), 3) := by decide +kernel
theorem dX2_count_174 : decode cX2_count 174 = .ok (.return_, 1) := by decide +kernel
set_option maxHeartbeats 4000000 in
set_option maxRecDepth 100000 in
theorem c_X2_count (l : Launch) (E : gE) (g : Mem) (ln : Nat) (tx : Nat → Nat) (f : Nat → Int32) (tk it : Int32) (st ti : Nat → Int32) (h : PX E g ln tx f tk it st ti) (hf0 : ft (sgn ln tx) ln 60 0 0 true = none) : Mt l E yX2_count cX2_count 6 none 3 64 [rf E (93)] g (pV (fun g' => ∃ ti', PF E g g' ln tx f (nI (cT (sgn ln tx) ln 60 0 0 (fun _ => 1) 0 0).1) (nI (cT (sgn ln tx) ln 60 0 0 (fun _ => 1) 0 0).2) st ti')) := by
  have hK := h.k
  have hln := h.l
  refine mt_go (own := RX2) (by decide) rfl (lo := [some (rf E (93)), none, none, none, none, none]) rfl (Nat.le_of_ble_eq_true rfl) (fun X hC => ?_)
  have hP0 : PF E g g ln tx f tk it st ti := ⟨h, fun _ _ => rfl⟩
  refine y_aload_n hC dX2_count_0 (i := 0) rfl rfl ?_
  refine y_iconst (v := nI 0) hC dX2_count_1 (by decide) ?_
  refine y_put hC fpX2_26 dX2_count_2 (k := 93) (by omega) hP0.1.a93 (Nat.le_of_ble_eq_true rfl) (rfl) (rfl) (fs' := [rf E (94), rf E (95), rf E (96), .int (nI (ln)), .int (nI (0)), .int (it)]) rfl ?_
  have hP_2 : PF E g (va_up g (93) (oB 2 [rf E (94), rf E (95), rf E (96), .int (nI (ln)), .int (nI (0)), .int (it)])) ln tx f (nI (0)) ((it)) st ti := hP0.u93 _ _
  generalize (va_up g (93) (oB 2 [rf E (94), rf E (95), rf E (96), .int (nI (ln)), .int (nI (0)), .int (it)])) = g_2 at hP_2 ⊢
  refine y_aload_n hC dX2_count_5 (i := 0) rfl rfl ?_
  refine y_iconst (v := nI 0) hC dX2_count_6 (by decide) ?_
  refine y_put hC fpX2_29 dX2_count_7 (k := 93) (by omega) hP_2.1.a93 (Nat.le_of_ble_eq_true rfl) (rfl) (rfl) (fs' := [rf E (94), rf E (95), rf E (96), .int (nI (ln)), .int (nI (0)), .int (nI (0))]) rfl ?_
  have hP_7 : PF E g (va_up g_2 (93) (oB 2 [rf E (94), rf E (95), rf E (96), .int (nI (ln)), .int (nI (0)), .int (nI (0))])) ln tx f (nI (0)) (nI (0)) st ti := hP_2.u93 _ _
  generalize (va_up g_2 (93) (oB 2 [rf E (94), rf E (95), rf E (96), .int (nI (ln)), .int (nI (0)), .int (nI (0))])) = g_7 at hP_7 ⊢
  refine y_iconst (v := nI 0) hC dX2_count_10 (by decide) ?_
  refine y_istore_n hC dX2_count_11 (i := 1) rfl (Nat.le_of_ble_eq_true rfl) rfl (lo' := [some (rf E (93)), some (.int (nI (0))), none, none, none, none]) rfl ?_
  refine y_aload_n hC dX2_count_12 (i := 0) rfl rfl ?_
  refine y_get hC fX2_19 dX2_count_13 (k := 93) (by omega) hP_7.1.a93 rfl ?_
  refine y_iconst (v := nI 0) hC dX2_count_16 (by decide) ?_
  refine y_iconst (v := nI 1) hC dX2_count_17 (by decide) ?_
  refine y_iast hC dX2_count_18 (k := 96) (j := 0) (by omega) hP_7.1.a96 (rfl) (by omega) (by decide) ?_
  have hP_18 : PF E g (va_up g_7 (96) (aI E 0 60 (upd ti (0) (nI (1))))) ln tx f (nI (0)) (nI (0)) st (upd ti (0) (nI (1))) := hP_7.u96 _
  generalize (va_up g_7 (96) (aI E 0 60 (upd ti (0) (nI (1))))) = g_18 at hP_18 ⊢
  refine y_iconst (v := nI 0) hC dX2_count_19 (by decide) ?_
  refine y_istore_n hC dX2_count_20 (i := 2) rfl (Nat.le_of_ble_eq_true rfl) rfl (lo' := [some (rf E (93)), some (.int (nI (0))), some (.int (nI (0))), none, none, none]) rfl ?_
  refine y_iconst (v := nI 0) hC dX2_count_21 (by decide) ?_
  refine y_istore_n hC dX2_count_22 (i := 3) rfl (Nat.le_of_ble_eq_true rfl) rfl (lo' := [some (rf E (93)), some (.int (nI (0))), some (.int (nI (0))), some (.int (nI (0))), none, none]) rfl ?_
  have L_23 : ∀ (m : Nat) (d i c n tk1 it1 : Nat) (due : Bool) (tf : Nat → Nat) (g1 : Mem) (ti1 : Nat → Int32), (hm : 60 - c < m) → (hci : c ≤ i) → (hil : i ≤ ln) → (hd : 2 * d ≤ i) → (hn : ln - i ≤ n) → (hP : PF E g g1 ln tx f (nI tk1) (nI it1) st ti1) → (hk : tk1 ≤ 5001 ∧ it1 ≤ 5001) → (hT : ∀ j, j ≤ d → ti1 j = nI (tf j) ∧ tf j ≤ 5001) → (hft : ft (sgn ln tx) ln n i d due = none) → (hct : cT (sgn ln tx) ln n i d tf tk1 it1 = cT (sgn ln tx) ln 60 0 0 (fun _ => 1) 0 0) → Y l E X (pV (fun g' => ∃ ti', PF E g g' ln tx f (nI (cT (sgn ln tx) ln 60 0 0 (fun _ => 1) 0 0).1) (nI (cT (sgn ln tx) ln 60 0 0 (fun _ => 1) 0 0).2) st ti')) 23 [some (rf E (93)), some (.int (nI (d))), some (.int (nI (i))), some (.int (nI (c))), none, none] [] g1 := by
    intro m
    induction m with
    | zero => intro d i c n tk1 it1 due tf g1 ti1 hm hci hil hd hn hP hk hT hft hct; exact absurd hm (Nat.not_lt_zero _)
    | succ m ih_23 =>
      intro d i c n tk1 it1 due tf g1 ti1 hm hci hil hd hn hP hk hT hft hct
      refine y_iload_n hC dX2_count_23 (i := 3) rfl rfl ?_
      refine y_bipush (v := nI 60) hC dX2_count_24 (by decide) ?_
      refine y_icmp_ge_n (tgt := 174) hC dX2_count_26 (by decide) (by omega) (by omega) (fun c_26 => ?_) (fun c_26 => ?_)
      · refine y_vret (hC := hC) (hd := dX2_count_174) (hq := ?_)
        have hR : cT (sgn ln tx) ln 60 0 0 (fun _ => 1) 0 0 = (tk1, it1) := by rw [← hct]; exact cT_end (by omega)
        exact ⟨ti1, by rw [hR]; exact hP⟩
      · refine y_iload_n hC dX2_count_29 (i := 2) rfl rfl ?_
        refine y_aload_n hC dX2_count_30 (i := 0) rfl rfl ?_
        refine y_get hC fX2_22 dX2_count_31 (k := 93) (by omega) hP.1.a93 rfl ?_
        refine y_icmp_ge_n (tgt := 174) hC dX2_count_34 (by decide) (by omega) (by omega) (fun c_34 => ?_) (fun c_34 => ?_)
        · refine y_vret (hC := hC) (hd := dX2_count_174) (hq := ?_)
          have hR : cT (sgn ln tx) ln 60 0 0 (fun _ => 1) 0 0 = (tk1, it1) := by rw [← hct]; exact cT_end (by omega)
          exact ⟨ti1, by rw [hR]; exact hP⟩
        · have hlt : i < ln := by omega
          refine y_aload_n hC dX2_count_37 (i := 0) rfl rfl ?_
          refine y_iload_n hC dX2_count_38 (i := 2) rfl rfl ?_
          refine y_callV hC mX2_signAt kX2_43 dX2_count_39 (b := 93) (As := [.int (nI (i))]) (rest := []) (c_X2_signAt l E g1 ln tx f (nI (tk1)) (nI (it1)) st ti1 hP.1 (i) (by omega)) (by omega) hP.1.a93 rfl rfl rfl (Nat.le_of_ble_eq_true rfl) ⟨Nat.le_of_ble_eq_true rfl, Nat.le_of_ble_eq_true rfl⟩ (pk_i ?_)
          rintro r_39 g_39 ⟨hr_39, hq_39⟩
          obtain rfl := hq_39.symm
          rw [hr_39]
          clear hr_39 r_39
          have hs1 := sgn_lt h i
          obtain ⟨n, rfl⟩ : ∃ m, n = m + 1 := ⟨n - 1, by omega⟩
          refine y_istore hC dX2_count_42 (Nat.le_of_ble_eq_true rfl) rfl (lo' := [some (rf E (93)), some (.int (nI (d))), some (.int (nI (i))), some (.int (nI (c))), some (.int (nI (sgn ln tx (i)))), none]) rfl ?_
          refine y_iload hC dX2_count_44 rfl ?_
          refine y_bipush (v := nI 41) hC dX2_count_46 (by decide) ?_
          refine y_icmp_ne_n (tgt := 57) hC dX2_count_48 (by decide) (by omega) (by omega) (fun c_48 => ?_) (fun c_48 => ?_)
          · obtain ⟨a1, -, -, -⟩ | ⟨b1, b2, b3⟩ := ft_inv hlt hft
            · exact absurd a1 c_48
            have htk := tok b1 b2
            have hbl := bhd_le (s := sgn ln tx) (i := i) sz hlt (Or.inr (by omega))
            refine y_iload hC dX2_count_57 rfl ?_
            refine y_callS hC mX2_isRepeat kX2_40 dX2_count_59 (As := [.int (nI (sgn ln tx (i)))]) (rest := []) (c_X2_isRepeat l E g1 (sgn ln tx (i)) hs1) rfl rfl rfl (Nat.le_of_ble_eq_true rfl) ⟨Nat.le_of_ble_eq_true rfl, Nat.le_of_ble_eq_true rfl⟩ (pk_i ?_)
            rintro r_59 g_59 ⟨hr_59, hq_59⟩
            obtain rfl := hq_59.symm
            rw [hr_59]
            clear hr_59 r_59
            refine y_if_eq_b (tgt := 97) hC dX2_count_62 (by decide) (fun c_62 => ?_) (fun c_62 => ?_)
            · have hnr : ¬ (50 ≤ sgn ln tx i ∧ sgn ln tx i ≤ 57) := fun q => c_62 (decide_eq_true q)
              refine y_iload hC dX2_count_97 rfl ?_
              refine y_bipush (v := nI 116) hC dX2_count_99 (by decide) ?_
              refine y_icmp_ne_n (tgt := 114) hC dX2_count_101 (by decide) (by omega) (by omega) (fun c_101 => ?_) (fun c_101 => ?_)
              · refine y_iconst (v := nI 0) hC dX2_count_114 (by decide) ?_
                refine y_istore hC dX2_count_115 (Nat.le_of_ble_eq_true rfl) rfl (lo' := [some (rf E (93)), some (.int (nI (d))), some (.int (nI (i))), some (.int (nI (c))), some (.int (nI (sgn ln tx (i)))), some (.int (nI (0)))]) rfl ?_
                refine y_aload_n hC dX2_count_117 (i := 0) rfl rfl ?_
                refine y_aload_n hC dX2_count_118 (i := 0) rfl rfl ?_
                refine y_get hC fX2_26 dX2_count_119 (k := 93) (by omega) hP.1.a93 rfl ?_
                refine y_aload_n hC dX2_count_122 (i := 0) rfl rfl ?_
                refine y_get hC fX2_19 dX2_count_123 (k := 93) (by omega) hP.1.a93 rfl ?_
                refine y_iload_n hC dX2_count_126 (i := 1) rfl rfl ?_
                refine y_iald hC dX2_count_127 (k := 96) (j := d) (by omega) hP.1.a96 (rfl) (by omega) (by decide) ?_
                refine y_top (y := nI (tf (d))) (hT d (Nat.le_refl _)).1 ?_
                have hTl := (hT d (Nat.le_refl _)).2
                refine y_iload hC dX2_count_128 rfl ?_
                refine y_imul_n hC dX2_count_130 ?_
                refine y_iadd_n hC dX2_count_131 ?_
                refine y_sipush (v := nI 5001) hC dX2_count_132 (by decide) ?_
                refine y_mmin hC rfl kX2_67 wmin_s wmath wmin_c dX2_count_135 (by decide) (Nat.le_of_ble_eq_true rfl) ?_
                have hmu : tf d * (0) ≤ 5001 * 99 := Nat.mul_le_mul hTl (by omega)
                refine y_top (y := nI (min (tk1 + tf d * (0)) 5001)) (zmin (by omega) (by omega)) ?_
                refine y_put hC fpX2_26 dX2_count_138 (k := 93) (by omega) hP.1.a93 (Nat.le_of_ble_eq_true rfl) (rfl) (rfl) (fs' := [rf E (94), rf E (95), rf E (96), .int (nI (ln)), .int (nI (min (tk1 + tf d * (0)) 5001)), .int (nI (it1))]) rfl ?_
                have hP_138 : PF E g (va_up g1 (93) (oB 2 [rf E (94), rf E (95), rf E (96), .int (nI (ln)), .int (nI (min (tk1 + tf d * (0)) 5001)), .int (nI (it1))])) ln tx f (nI (min (tk1 + tf d * (0)) 5001)) (nI (it1)) st ti1 := hP.u93 _ _
                generalize (va_up g1 (93) (oB 2 [rf E (94), rf E (95), rf E (96), .int (nI (ln)), .int (nI (min (tk1 + tf d * (0)) 5001)), .int (nI (it1))])) = g_138 at hP_138 ⊢
                refine y_aload_n hC dX2_count_141 (i := 0) rfl rfl ?_
                refine y_aload_n hC dX2_count_142 (i := 0) rfl rfl ?_
                refine y_get hC fX2_29 dX2_count_143 (k := 93) (by omega) hP_138.1.a93 rfl ?_
                refine y_aload_n hC dX2_count_146 (i := 0) rfl rfl ?_
                refine y_get hC fX2_19 dX2_count_147 (k := 93) (by omega) hP_138.1.a93 rfl ?_
                refine y_iload_n hC dX2_count_150 (i := 1) rfl rfl ?_
                refine y_iald hC dX2_count_151 (k := 96) (j := d) (by omega) hP_138.1.a96 (rfl) (by omega) (by decide) ?_
                refine y_top (y := nI (tf (d))) (hT d (Nat.le_refl _)).1 ?_
                have hTl := (hT d (Nat.le_refl _)).2
                refine y_iadd_n hC dX2_count_152 ?_
                refine y_sipush (v := nI 5001) hC dX2_count_153 (by decide) ?_
                refine y_mmin hC rfl kX2_67 wmin_s wmath wmin_c dX2_count_156 (by decide) (Nat.le_of_ble_eq_true rfl) ?_
                refine y_top (y := nI (min (it1 + tf d) 5001)) (zmin (by omega) (by omega)) ?_
                refine y_put hC fpX2_29 dX2_count_159 (k := 93) (by omega) hP_138.1.a93 (Nat.le_of_ble_eq_true rfl) (rfl) (rfl) (fs' := [rf E (94), rf E (95), rf E (96), .int (nI (ln)), .int (nI (min (tk1 + tf d * (0)) 5001)), .int (nI (min (it1 + tf d) 5001))]) rfl ?_
                have hP_159 : PF E g (va_up g_138 (93) (oB 2 [rf E (94), rf E (95), rf E (96), .int (nI (ln)), .int (nI (min (tk1 + tf d * (0)) 5001)), .int (nI (min (it1 + tf d) 5001))])) ln tx f (nI (min (tk1 + tf d * (0)) 5001)) (nI (min (it1 + tf d) 5001)) st ti1 := hP_138.u93 _ _
                generalize (va_up g_138 (93) (oB 2 [rf E (94), rf E (95), rf E (96), .int (nI (ln)), .int (nI (min (tk1 + tf d * (0)) 5001)), .int (nI (min (it1 + tf d) 5001))])) = g_159 at hP_159 ⊢
                refine y_aload_n hC dX2_count_162 (i := 0) rfl rfl ?_
                refine y_iload_n hC dX2_count_163 (i := 2) rfl rfl ?_
                refine y_callV hC mX2_behind kX2_58 dX2_count_164 (b := 93) (As := [.int (nI (i))]) (rest := []) (c_X2_behind l E g_159 ln tx f (nI (min (tk1 + tf d * (0)) 5001)) (nI (min (it1 + tf d) 5001)) st ti1 hP_159.1 (i) (by omega)) (by omega) hP_159.1.a93 rfl rfl rfl (Nat.le_of_ble_eq_true rfl) ⟨Nat.le_of_ble_eq_true rfl, Nat.le_of_ble_eq_true rfl⟩ (pk_i ?_)
                rintro r_164 g_164 ⟨hr_164, hq_164⟩
                obtain rfl := hq_164.symm
                rw [hr_164]
                clear hr_164 r_164
                refine y_istore_n hC dX2_count_167 (i := 2) rfl (Nat.le_of_ble_eq_true rfl) rfl (lo' := [some (rf E (93)), some (.int (nI (d))), some (.int (nI (bhd (sgn ln tx) i))), some (.int (nI (c))), some (.int (nI (sgn ln tx (i)))), some (.int (nI (0)))]) rfl ?_
                refine y_iinc_n hC dX2_count_168 (a := c) (k := 1) rfl (by decide) (Nat.le_of_ble_eq_true rfl) rfl (lo' := [some (rf E (93)), some (.int (nI (d))), some (.int (nI (bhd (sgn ln tx) i))), some (.int (nI (c + 1))), some (.int (nI (sgn ln tx (i)))), some (.int (nI (0)))]) rfl ?_
                refine y_goto (tgt := 23) hC dX2_count_171 (by decide) ?_
                refine y_fg 4 (lo' := [some (rf E (93)), some (.int (nI (d))), some (.int (nI (bhd (sgn ln tx) i))), some (.int (nI (c + 1))), none, some (.int (nI (0)))]) rfl ?_
                refine y_fg 5 (lo' := [some (rf E (93)), some (.int (nI (d))), some (.int (nI (bhd (sgn ln tx) i))), some (.int (nI (c + 1))), none, none]) rfl ?_
                have e5 : (if isRep (sgn ln tx i) then d + 1 else d) = d := if_neg c_62
                rw [e5] at b3
                exact ih_23 d (bhd (sgn ln tx) i) (c + 1) n _ _ (isRep (sgn ln tx i)) tf g_159 ti1 (by omega) (by omega) (by omega) (by omega) (by omega) hP_159 ⟨by omega, by omega⟩ hT b3 (by rw [← hct, cT, if_pos hlt, if_neg c_48, if_neg c_62, if_neg c_101])
              · refine y_aload_n hC dX2_count_104 (i := 0) rfl rfl ?_
                refine y_iload_n hC dX2_count_105 (i := 2) rfl rfl ?_
                refine y_iconst (v := nI 1) hC dX2_count_106 (by decide) ?_
                refine y_iadd_n hC dX2_count_107 ?_
                refine y_callV hC mX2_numberAt kX2_70 dX2_count_108 (b := 93) (As := [.int (nI (i + 1))]) (rest := []) (c_X2_numberAt l E g1 ln tx f (nI (tk1)) (nI (it1)) st ti1 hP.1 (i + 1) (by omega) (by omega) (by omega)) (by omega) hP.1.a93 rfl rfl rfl (Nat.le_of_ble_eq_true rfl) ⟨Nat.le_of_ble_eq_true rfl, Nat.le_of_ble_eq_true rfl⟩ (pk_i ?_)
                rintro r_108 g_108 ⟨hr_108, hq_108⟩
                obtain rfl := hq_108.symm
                rw [hr_108]
                clear hr_108 r_108
                have hnm := nmb_le (s := sgn ln tx) (i := i + 1) (by omega)
                refine y_goto (tgt := 115) hC dX2_count_111 (by decide) ?_
                refine y_istore hC dX2_count_115 (Nat.le_of_ble_eq_true rfl) rfl (lo' := [some (rf E (93)), some (.int (nI (d))), some (.int (nI (i))), some (.int (nI (c))), some (.int (nI (sgn ln tx (i)))), some (.int (nI (nmb (sgn ln tx) (i + 1))))]) rfl ?_
                refine y_aload_n hC dX2_count_117 (i := 0) rfl rfl ?_
                refine y_aload_n hC dX2_count_118 (i := 0) rfl rfl ?_
                refine y_get hC fX2_26 dX2_count_119 (k := 93) (by omega) hP.1.a93 rfl ?_
                refine y_aload_n hC dX2_count_122 (i := 0) rfl rfl ?_
                refine y_get hC fX2_19 dX2_count_123 (k := 93) (by omega) hP.1.a93 rfl ?_
                refine y_iload_n hC dX2_count_126 (i := 1) rfl rfl ?_
                refine y_iald hC dX2_count_127 (k := 96) (j := d) (by omega) hP.1.a96 (rfl) (by omega) (by decide) ?_
                refine y_top (y := nI (tf (d))) (hT d (Nat.le_refl _)).1 ?_
                have hTl := (hT d (Nat.le_refl _)).2
                refine y_iload hC dX2_count_128 rfl ?_
                refine y_imul_n hC dX2_count_130 ?_
                refine y_iadd_n hC dX2_count_131 ?_
                refine y_sipush (v := nI 5001) hC dX2_count_132 (by decide) ?_
                refine y_mmin hC rfl kX2_67 wmin_s wmath wmin_c dX2_count_135 (by decide) (Nat.le_of_ble_eq_true rfl) ?_
                have hmu : tf d * (nmb (sgn ln tx) (i + 1)) ≤ 5001 * 99 := Nat.mul_le_mul hTl (by omega)
                refine y_top (y := nI (min (tk1 + tf d * (nmb (sgn ln tx) (i + 1))) 5001)) (zmin (by omega) (by omega)) ?_
                refine y_put hC fpX2_26 dX2_count_138 (k := 93) (by omega) hP.1.a93 (Nat.le_of_ble_eq_true rfl) (rfl) (rfl) (fs' := [rf E (94), rf E (95), rf E (96), .int (nI (ln)), .int (nI (min (tk1 + tf d * (nmb (sgn ln tx) (i + 1))) 5001)), .int (nI (it1))]) rfl ?_
                have hP_138 : PF E g (va_up g1 (93) (oB 2 [rf E (94), rf E (95), rf E (96), .int (nI (ln)), .int (nI (min (tk1 + tf d * (nmb (sgn ln tx) (i + 1))) 5001)), .int (nI (it1))])) ln tx f (nI (min (tk1 + tf d * (nmb (sgn ln tx) (i + 1))) 5001)) (nI (it1)) st ti1 := hP.u93 _ _
                generalize (va_up g1 (93) (oB 2 [rf E (94), rf E (95), rf E (96), .int (nI (ln)), .int (nI (min (tk1 + tf d * (nmb (sgn ln tx) (i + 1))) 5001)), .int (nI (it1))])) = g_138 at hP_138 ⊢
                refine y_aload_n hC dX2_count_141 (i := 0) rfl rfl ?_
                refine y_aload_n hC dX2_count_142 (i := 0) rfl rfl ?_
                refine y_get hC fX2_29 dX2_count_143 (k := 93) (by omega) hP_138.1.a93 rfl ?_
                refine y_aload_n hC dX2_count_146 (i := 0) rfl rfl ?_
                refine y_get hC fX2_19 dX2_count_147 (k := 93) (by omega) hP_138.1.a93 rfl ?_
                refine y_iload_n hC dX2_count_150 (i := 1) rfl rfl ?_
                refine y_iald hC dX2_count_151 (k := 96) (j := d) (by omega) hP_138.1.a96 (rfl) (by omega) (by decide) ?_
                refine y_top (y := nI (tf (d))) (hT d (Nat.le_refl _)).1 ?_
                have hTl := (hT d (Nat.le_refl _)).2
                refine y_iadd_n hC dX2_count_152 ?_
                refine y_sipush (v := nI 5001) hC dX2_count_153 (by decide) ?_
                refine y_mmin hC rfl kX2_67 wmin_s wmath wmin_c dX2_count_156 (by decide) (Nat.le_of_ble_eq_true rfl) ?_
                refine y_top (y := nI (min (it1 + tf d) 5001)) (zmin (by omega) (by omega)) ?_
                refine y_put hC fpX2_29 dX2_count_159 (k := 93) (by omega) hP_138.1.a93 (Nat.le_of_ble_eq_true rfl) (rfl) (rfl) (fs' := [rf E (94), rf E (95), rf E (96), .int (nI (ln)), .int (nI (min (tk1 + tf d * (nmb (sgn ln tx) (i + 1))) 5001)), .int (nI (min (it1 + tf d) 5001))]) rfl ?_
                have hP_159 : PF E g (va_up g_138 (93) (oB 2 [rf E (94), rf E (95), rf E (96), .int (nI (ln)), .int (nI (min (tk1 + tf d * (nmb (sgn ln tx) (i + 1))) 5001)), .int (nI (min (it1 + tf d) 5001))])) ln tx f (nI (min (tk1 + tf d * (nmb (sgn ln tx) (i + 1))) 5001)) (nI (min (it1 + tf d) 5001)) st ti1 := hP_138.u93 _ _
                generalize (va_up g_138 (93) (oB 2 [rf E (94), rf E (95), rf E (96), .int (nI (ln)), .int (nI (min (tk1 + tf d * (nmb (sgn ln tx) (i + 1))) 5001)), .int (nI (min (it1 + tf d) 5001))])) = g_159 at hP_159 ⊢
                refine y_aload_n hC dX2_count_162 (i := 0) rfl rfl ?_
                refine y_iload_n hC dX2_count_163 (i := 2) rfl rfl ?_
                refine y_callV hC mX2_behind kX2_58 dX2_count_164 (b := 93) (As := [.int (nI (i))]) (rest := []) (c_X2_behind l E g_159 ln tx f (nI (min (tk1 + tf d * (nmb (sgn ln tx) (i + 1))) 5001)) (nI (min (it1 + tf d) 5001)) st ti1 hP_159.1 (i) (by omega)) (by omega) hP_159.1.a93 rfl rfl rfl (Nat.le_of_ble_eq_true rfl) ⟨Nat.le_of_ble_eq_true rfl, Nat.le_of_ble_eq_true rfl⟩ (pk_i ?_)
                rintro r_164 g_164 ⟨hr_164, hq_164⟩
                obtain rfl := hq_164.symm
                rw [hr_164]
                clear hr_164 r_164
                refine y_istore_n hC dX2_count_167 (i := 2) rfl (Nat.le_of_ble_eq_true rfl) rfl (lo' := [some (rf E (93)), some (.int (nI (d))), some (.int (nI (bhd (sgn ln tx) i))), some (.int (nI (c))), some (.int (nI (sgn ln tx (i)))), some (.int (nI (nmb (sgn ln tx) (i + 1))))]) rfl ?_
                refine y_iinc_n hC dX2_count_168 (a := c) (k := 1) rfl (by decide) (Nat.le_of_ble_eq_true rfl) rfl (lo' := [some (rf E (93)), some (.int (nI (d))), some (.int (nI (bhd (sgn ln tx) i))), some (.int (nI (c + 1))), some (.int (nI (sgn ln tx (i)))), some (.int (nI (nmb (sgn ln tx) (i + 1))))]) rfl ?_
                refine y_goto (tgt := 23) hC dX2_count_171 (by decide) ?_
                refine y_fg 4 (lo' := [some (rf E (93)), some (.int (nI (d))), some (.int (nI (bhd (sgn ln tx) i))), some (.int (nI (c + 1))), none, some (.int (nI (nmb (sgn ln tx) (i + 1))))]) rfl ?_
                refine y_fg 5 (lo' := [some (rf E (93)), some (.int (nI (d))), some (.int (nI (bhd (sgn ln tx) i))), some (.int (nI (c + 1))), none, none]) rfl ?_
                have e5 : (if isRep (sgn ln tx i) then d + 1 else d) = d := if_neg c_62
                rw [e5] at b3
                exact ih_23 d (bhd (sgn ln tx) i) (c + 1) n _ _ (isRep (sgn ln tx i)) tf g_159 ti1 (by omega) (by omega) (by omega) (by omega) (by omega) hP_159 ⟨by omega, by omega⟩ hT b3 (by rw [← hct, cT, if_pos hlt, if_neg c_48, if_neg c_62, if_pos c_101])
            · have hrr := isRep_s c_62
              refine y_aload_n hC dX2_count_65 (i := 0) rfl rfl ?_
              refine y_get hC fX2_19 dX2_count_66 (k := 93) (by omega) hP.1.a93 rfl ?_
              refine y_iload_n hC dX2_count_69 (i := 1) rfl rfl ?_
              refine y_iconst (v := nI 1) hC dX2_count_70 (by decide) ?_
              refine y_iadd_n hC dX2_count_71 ?_
              refine y_aload_n hC dX2_count_72 (i := 0) rfl rfl ?_
              refine y_get hC fX2_19 dX2_count_73 (k := 93) (by omega) hP.1.a93 rfl ?_
              refine y_iload_n hC dX2_count_76 (i := 1) rfl rfl ?_
              refine y_iald hC dX2_count_77 (k := 96) (j := d) (by omega) hP.1.a96 (rfl) (by omega) (by decide) ?_
              refine y_top (y := nI (tf (d))) (hT d (Nat.le_refl _)).1 ?_
              have hTl := (hT d (Nat.le_refl _)).2
              refine y_aload_n hC dX2_count_78 (i := 0) rfl rfl ?_
              refine y_iload_n hC dX2_count_79 (i := 2) rfl rfl ?_
              refine y_callV hC mX2_digitAt kX2_47 dX2_count_80 (b := 93) (As := [.int (nI (i))]) (rest := [.int (nI (tf (d))), .int (nI (d + 1)), rf E (96)]) (c_X2_digitAt l E g1 ln tx f (nI (tk1)) (nI (it1)) st ti1 hP.1 (i) (by omega)) (by omega) hP.1.a93 rfl rfl rfl (Nat.le_of_ble_eq_true rfl) ⟨Nat.le_of_ble_eq_true rfl, Nat.le_of_ble_eq_true rfl⟩ (pk_i ?_)
              rintro r_80 g_80 ⟨hr_80, hq_80⟩
              obtain rfl := hq_80.symm
              rw [hr_80]
              clear hr_80 r_80
              rw [pk_sub (a := sgn ln tx (i)) (b := 48) (by omega)]
              refine y_imul_n hC dX2_count_83 ?_
              refine y_sipush (v := nI 5001) hC dX2_count_84 (by decide) ?_
              refine y_mmin hC rfl kX2_67 wmin_s wmath wmin_c dX2_count_87 (by decide) (Nat.le_of_ble_eq_true rfl) ?_
              have hmu : tf d * (sgn ln tx (i) - 48) ≤ 5001 * 9 := Nat.mul_le_mul hTl (by omega)
              refine y_top (y := nI (min (tf d * (sgn ln tx i - 48)) 5001)) (zmin (by omega) (by omega)) ?_
              refine y_iast hC dX2_count_90 (k := 96) (j := d + 1) (by omega) hP.1.a96 (rfl) (by omega) (by decide) ?_
              have hP_90 : PF E g (va_up g1 (96) (aI E 0 60 (upd ti1 (d + 1) (nI (min (tf d * (sgn ln tx i - 48)) 5001))))) ln tx f (nI (tk1)) (nI (it1)) st (upd ti1 (d + 1) (nI (min (tf d * (sgn ln tx i - 48)) 5001))) := hP.u96 _
              generalize (va_up g1 (96) (aI E 0 60 (upd ti1 (d + 1) (nI (min (tf d * (sgn ln tx i - 48)) 5001))))) = g_90 at hP_90 ⊢
              refine y_iinc_n hC dX2_count_91 (a := d) (k := 1) rfl (by decide) (Nat.le_of_ble_eq_true rfl) rfl (lo' := [some (rf E (93)), some (.int (nI (d + 1))), some (.int (nI (i))), some (.int (nI (c))), some (.int (nI (sgn ln tx (i)))), none]) rfl ?_
              refine y_goto (tgt := 162) hC dX2_count_94 (by decide) ?_
              refine y_aload_n hC dX2_count_162 (i := 0) rfl rfl ?_
              refine y_iload_n hC dX2_count_163 (i := 2) rfl rfl ?_
              refine y_callV hC mX2_behind kX2_58 dX2_count_164 (b := 93) (As := [.int (nI (i))]) (rest := []) (c_X2_behind l E g_90 ln tx f (nI (tk1)) (nI (it1)) st (upd ti1 (d + 1) (nI (min (tf d * (sgn ln tx i - 48)) 5001))) hP_90.1 (i) (by omega)) (by omega) hP_90.1.a93 rfl rfl rfl (Nat.le_of_ble_eq_true rfl) ⟨Nat.le_of_ble_eq_true rfl, Nat.le_of_ble_eq_true rfl⟩ (pk_i ?_)
              rintro r_164 g_164 ⟨hr_164, hq_164⟩
              obtain rfl := hq_164.symm
              rw [hr_164]
              clear hr_164 r_164
              refine y_istore_n hC dX2_count_167 (i := 2) rfl (Nat.le_of_ble_eq_true rfl) rfl (lo' := [some (rf E (93)), some (.int (nI (d + 1))), some (.int (nI (bhd (sgn ln tx) i))), some (.int (nI (c))), some (.int (nI (sgn ln tx (i)))), none]) rfl ?_
              refine y_iinc_n hC dX2_count_168 (a := c) (k := 1) rfl (by decide) (Nat.le_of_ble_eq_true rfl) rfl (lo' := [some (rf E (93)), some (.int (nI (d + 1))), some (.int (nI (bhd (sgn ln tx) i))), some (.int (nI (c + 1))), some (.int (nI (sgn ln tx (i)))), none]) rfl ?_
              refine y_goto (tgt := 23) hC dX2_count_171 (by decide) ?_
              refine y_fg 4 (lo' := [some (rf E (93)), some (.int (nI (d + 1))), some (.int (nI (bhd (sgn ln tx) i))), some (.int (nI (c + 1))), none, none]) rfl ?_
              have e5 : (if isRep (sgn ln tx i) then d + 1 else d) = d + 1 := if_pos c_62
              rw [e5] at b3
              exact ih_23 (d + 1) (bhd (sgn ln tx) i) (c + 1) n tk1 it1 (isRep (sgn ln tx i)) (va_up tf (d + 1) (min (tf d * (sgn ln tx i - 48)) 5001)) g_90 (upd ti1 (d + 1) (nI (min (tf d * (sgn ln tx i - 48)) 5001))) (by omega) (by omega) (by omega) (by omega) (by omega) hP_90 hk (fun j hj => by
                  by_cases e : j = d + 1
                  · subst e; exact ⟨by rw [pk_us, va_up_self], by rw [va_up_self]; omega⟩
                  · rw [pk_un e, va_up_ne _ _ e]; exact hT j (by omega)) b3 (by rw [← hct, cT, if_pos hlt, if_neg c_48, if_pos c_62])
          · obtain ⟨a1, a2, a3, a4⟩ | ⟨b1, -, -⟩ := ft_inv hlt hft
            rotate_left
            · exact absurd (by rw [c_48]; decide) b1
            have hbl := bhd_le (s := sgn ln tx) (i := i) sz hlt (Or.inl c_48)
            have hb1 := bhd_1 (s := sgn ln tx) c_48
            refine y_iinc hC dX2_count_51 (x := nI (d)) (v := nI (d - 1)) rfl (by rw [show Int32.ofInt (-1) = -nI 1 from by decide, ← Int32.sub_eq_add_neg]; exact pk_sub (by omega)) (Nat.le_of_ble_eq_true rfl) rfl (lo' := [some (rf E (93)), some (.int (nI (d - 1))), some (.int (nI (i))), some (.int (nI (c))), some (.int (nI (sgn ln tx (i)))), none]) rfl ?_
            refine y_goto (tgt := 162) hC dX2_count_54 (by decide) ?_
            refine y_aload_n hC dX2_count_162 (i := 0) rfl rfl ?_
            refine y_iload_n hC dX2_count_163 (i := 2) rfl rfl ?_
            refine y_callV hC mX2_behind kX2_58 dX2_count_164 (b := 93) (As := [.int (nI (i))]) (rest := []) (c_X2_behind l E g1 ln tx f (nI (tk1)) (nI (it1)) st ti1 hP.1 (i) (by omega)) (by omega) hP.1.a93 rfl rfl rfl (Nat.le_of_ble_eq_true rfl) ⟨Nat.le_of_ble_eq_true rfl, Nat.le_of_ble_eq_true rfl⟩ (pk_i ?_)
            rintro r_164 g_164 ⟨hr_164, hq_164⟩
            obtain rfl := hq_164.symm
            rw [hr_164]
            clear hr_164 r_164
            refine y_istore_n hC dX2_count_167 (i := 2) rfl (Nat.le_of_ble_eq_true rfl) rfl (lo' := [some (rf E (93)), some (.int (nI (d - 1))), some (.int (nI (bhd (sgn ln tx) i))), some (.int (nI (c))), some (.int (nI (sgn ln tx (i)))), none]) rfl ?_
            refine y_iinc_n hC dX2_count_168 (a := c) (k := 1) rfl (by decide) (Nat.le_of_ble_eq_true rfl) rfl (lo' := [some (rf E (93)), some (.int (nI (d - 1))), some (.int (nI (bhd (sgn ln tx) i))), some (.int (nI (c + 1))), some (.int (nI (sgn ln tx (i)))), none]) rfl ?_
            refine y_goto (tgt := 23) hC dX2_count_171 (by decide) ?_
            refine y_fg 4 (lo' := [some (rf E (93)), some (.int (nI (d - 1))), some (.int (nI (bhd (sgn ln tx) i))), some (.int (nI (c + 1))), none, none]) rfl ?_
            exact ih_23 (d - 1) (bhd (sgn ln tx) i) (c + 1) n tk1 it1 false tf g1 ti1 (by omega) (by omega) (by omega) (by omega) (by omega) hP hk (fun j hj => hT j (by omega)) (by rw [bhd_1 c_48]; exact a4) (by rw [← hct, cT, if_pos hlt, if_pos c_48])
  exact L_23 61 0 0 0 60 0 0 true (fun _ => 1) g_18 (upd ti (0) (nI (1))) (by omega) (by omega) (by omega) (by omega) (by omega) hP_18 ⟨by omega, by omega⟩ (fun j hj => by rw [show j = 0 by omega]; exact ⟨pk_us, by decide⟩) hf0 rfl

theorem dX2_carryOutItem_0 : decode cX2_carryOutItem 0 = .ok (.aload_n 0, 1) := by decide +kernel
theorem dX2_carryOutItem_1 : decode cX2_carryOutItem 1 = .ok (.iload_n 1, 1) := by decide +kernel
theorem dX2_carryOutItem_2 : decode cX2_carryOutItem 2 = .ok (.invokevirtual 43, 3) := by decide +kernel
theorem dX2_carryOutItem_5 : decode cX2_carryOutItem 5 = .ok (.lookupswitch 56 #[(112, 42), (116, 27)], 27) := by decide +kernel
theorem dX2_carryOutItem_32 : decode cX2_carryOutItem 32 = .ok (.aload_n 2, 1) := by decide +kernel
theorem dX2_carryOutItem_33 : decode cX2_carryOutItem 33 = .ok (.aload_n 0, 1) := by decide +kernel
theorem dX2_carryOutItem_34 : decode cX2_carryOutItem 34 = .ok (.iload_n 1, 1) := by decide +kernel
theorem dX2_carryOutItem_35 : decode cX2_carryOutItem 35 = .ok (.iconst 1, 1) := by decide +kernel
theorem dX2_carryOutItem_36 : decode cX2_carryOutItem 36 = .ok (.iadd, 1) := by decide +kernel
theorem dX2_carryOutItem_37 : decode cX2_carryOutItem 37 = .ok (.invokevirtual 70, 3) := by decide +kernel
theorem dX2_carryOutItem_40 : decode cX2_carryOutItem 40 = .ok (.invokevirtual 78, 3) := by decide +kernel
theorem dX2_carryOutItem_43 : decode cX2_carryOutItem 43 = .ok (.pop, 1) := by decide +kernel
theorem dX2_carryOutItem_44 : decode cX2_carryOutItem 44 = .ok (.goto 28, 3) := by decide +kernel
theorem dX2_carryOutItem_47 : decode cX2_carryOutItem 47 = .ok (.aload_n 2, 1) := by decide +kernel
theorem dX2_carryOutItem_48 : decode cX2_carryOutItem 48 = .ok (.aload_n 0, 1) := by decide +kernel
theorem dX2_carryOutItem_49 : decode cX2_carryOutItem 49 = .ok (.iload_n 1, 1) := by decide +kernel
theorem dX2_carryOutItem_50 : decode cX2_carryOutItem 50 = .ok (.iconst 1, 1) := by decide +kernel
theorem dX2_carryOutItem_51 : decode cX2_carryOutItem 51 = .ok (.iadd, 1) := by decide +kernel
theorem dX2_carryOutItem_52 : decode cX2_carryOutItem 52 = .ok (.invokevirtual 47, 3) := by decide +kernel
theorem dX2_carryOutItem_55 : decode cX2_carryOutItem 55 = .ok (.invokevirtual 83, 3) := by decide +kernel
theorem dX2_carryOutItem_58 : decode cX2_carryOutItem 58 = .ok (.goto 14, 3) := by decide +kernel
theorem dX2_carryOutItem_61 : decode cX2_carryOutItem 61 = .ok (.aload_n 2, 1) := by decide +kernel
theorem dX2_carryOutItem_62 : decode cX2_carryOutItem 62 = .ok (.aload_n 0, 1) := by decide +kernel
theorem dX2_carryOutItem_63 : decode cX2_carryOutItem 63 = .ok (.iload_n 1, 1) := by decide +kernel
theorem dX2_carryOutItem_64 : decode cX2_carryOutItem 64 = .ok (.iconst 1, 1) := by decide +kernel
theorem dX2_carryOutItem_65 : decode cX2_carryOutItem 65 = .ok (.iadd, 1) := by decide +kernel
theorem dX2_carryOutItem_66 : decode cX2_carryOutItem 66 = .ok (.invokevirtual 47, 3) := by decide +kernel
theorem dX2_carryOutItem_69 : decode cX2_carryOutItem 69 = .ok (.invokevirtual 87, 3) := by decide +kernel
theorem dX2_carryOutItem_72 : decode cX2_carryOutItem 72 = .ok (.return_, 1) := by decide +kernel
set_option maxHeartbeats 4000000 in
set_option maxRecDepth 100000 in
theorem c_X2_carryOutItem (l : Launch) (E : gE) (g : Mem) (ln : Nat) (tx : Nat → Nat) (f : Nat → Int32) (tk it : Int32) (st ti : Nat → Int32) (h : PX E g ln tx f tk it st ti) (r : Row) (B : Nat) (hB : B < 90000000) (hs : StA E g 1 r) (hv : Vr r B) (i : Nat) (hi : i < 1000) (hit : itOk (sgn ln tx) r i) : Mt l E yX2_carryOutItem cX2_carryOutItem 3 none 3 64 [rf E (93), .int (nI (i)), rf E (1)] g (pV (fun g' => StA E g' 1 (itR (sgn ln tx) r i) ∧ Fr 1 g g')) := by
  have hK := h.k
  have hln := h.l
  refine mt_go (own := RX2) (by decide) rfl (lo := [some (rf E (93)), some (.int (nI (i))), some (rf E (1))]) rfl (Nat.le_of_ble_eq_true rfl) (fun X hC => ?_)
  refine y_aload_n hC dX2_carryOutItem_0 (i := 0) rfl rfl ?_
  refine y_iload_n hC dX2_carryOutItem_1 (i := 1) rfl rfl ?_
  refine y_callV hC mX2_signAt kX2_43 dX2_carryOutItem_2 (b := 93) (As := [.int (nI (i))]) (rest := []) (c_X2_signAt l E g ln tx f tk it st ti h (i) (by omega)) (by omega) h.a93 rfl rfl rfl (Nat.le_of_ble_eq_true rfl) ⟨Nat.le_of_ble_eq_true rfl, Nat.le_of_ble_eq_true rfl⟩ (pk_i ?_)
  rintro r_2 g_2 ⟨hr_2, hq_2⟩
  obtain rfl := hq_2.symm
  rw [hr_2]
  clear hr_2 r_2
  have hs_2 := sgn_lt h (i)
  rcases hit with ⟨e1, e2, e3⟩ | ⟨e1 | e1, e2, e3, e4⟩
  · refine y_look (off := 27) (tgt := 32) hC dX2_carryOutItem_5 (by decide) (by rw [e1]; decide) (by decide) ?_
    refine y_aload_n hC dX2_carryOutItem_32 (i := 2) rfl rfl ?_
    refine y_aload_n hC dX2_carryOutItem_33 (i := 0) rfl rfl ?_
    refine y_iload_n hC dX2_carryOutItem_34 (i := 1) rfl rfl ?_
    refine y_iconst (v := nI 1) hC dX2_carryOutItem_35 (by decide) ?_
    refine y_iadd_n hC dX2_carryOutItem_36 ?_
    refine y_callV hC mX2_numberAt kX2_70 dX2_carryOutItem_37 (b := 93) (As := [.int (nI (i + 1))]) (rest := [rf E (1)]) (c_X2_numberAt l E g ln tx f tk it st ti h (i + 1) (by omega) (by omega) (by omega)) (by omega) h.a93 rfl rfl rfl (Nat.le_of_ble_eq_true rfl) ⟨Nat.le_of_ble_eq_true rfl, Nat.le_of_ble_eq_true rfl⟩ (pk_i ?_)
    rintro r_37 g_37 ⟨hr_37, hq_37⟩
    obtain rfl := hq_37.symm
    rw [hr_37]
    clear hr_37 r_37
    have hnm := nmb_le (s := sgn ln tx) (i := i + 1) (by omega)
    refine y_callV hC mX4_advance kX2_78 dX2_carryOutItem_40 (b := 1) (As := [.int (nI (nmb (sgn ln tx) (i + 1)))]) (rest := []) (c_X4_advance l E g 1 r B (by omega) hs hv (nmb (sgn ln tx) (i + 1)) (by omega)) hs.of_lt.1 hs.of_lt.2.choose_spec rfl rfl rfl (Nat.le_of_ble_eq_true rfl) ⟨Nat.le_of_ble_eq_true rfl, Nat.le_of_ble_eq_true rfl⟩ (pk_i ?_)
    rintro rz g_40 ⟨-, hst, hfr⟩
    refine y_pop hC dX2_carryOutItem_43 rfl ?_
    refine y_goto (tgt := 72) hC dX2_carryOutItem_44 (by decide) ?_
    refine y_vret (hC := hC) (hd := dX2_carryOutItem_72) (hq := ?_)
    refine ⟨?_, hfr⟩
    unfold itR
    first
      | (rw [if_pos e1]; exact hst)
      | (rw [if_neg (by omega), if_pos e1]; exact hst)
      | (rw [if_neg (by omega), if_neg (by omega)]; exact hst)
  · refine y_look (off := 42) (tgt := 47) hC dX2_carryOutItem_5 (by decide) (by rw [e1]; decide) (by decide) ?_
    refine y_aload_n hC dX2_carryOutItem_47 (i := 2) rfl rfl ?_
    refine y_aload_n hC dX2_carryOutItem_48 (i := 0) rfl rfl ?_
    refine y_iload_n hC dX2_carryOutItem_49 (i := 1) rfl rfl ?_
    refine y_iconst (v := nI 1) hC dX2_carryOutItem_50 (by decide) ?_
    refine y_iadd_n hC dX2_carryOutItem_51 ?_
    refine y_callV hC mX2_digitAt kX2_47 dX2_carryOutItem_52 (b := 93) (As := [.int (nI (i + 1))]) (rest := [rf E (1)]) (c_X2_digitAt l E g ln tx f tk it st ti h (i + 1) (by omega)) (by omega) h.a93 rfl rfl rfl (Nat.le_of_ble_eq_true rfl) ⟨Nat.le_of_ble_eq_true rfl, Nat.le_of_ble_eq_true rfl⟩ (pk_i ?_)
    rintro r_52 g_52 ⟨hr_52, hq_52⟩
    obtain rfl := hq_52.symm
    rw [hr_52]
    clear hr_52 r_52
    rw [pk_sub (a := sgn ln tx (i + 1)) (b := 48) (by omega)]
    refine y_callV hC mX4_runOrPause kX2_83 dX2_carryOutItem_55 (b := 1) (As := [.int (nI (sgn ln tx (i + 1) - 48))]) (rest := []) (c_X4_runOrPause l E g 1 r B (by omega) hs hv (sgn ln tx (i + 1) - 48) e4) hs.of_lt.1 hs.of_lt.2.choose_spec rfl rfl rfl (Nat.le_of_ble_eq_true rfl) ⟨Nat.le_of_ble_eq_true rfl, Nat.le_of_ble_eq_true rfl⟩ (pk_v ?_)
    rintro g_55 ⟨hst, hfr⟩
    refine y_goto (tgt := 72) hC dX2_carryOutItem_58 (by decide) ?_
    refine y_vret (hC := hC) (hd := dX2_carryOutItem_72) (hq := ?_)
    refine ⟨?_, hfr⟩
    unfold itR
    first
      | (rw [if_pos e1]; exact hst)
      | (rw [if_neg (by omega), if_pos e1]; exact hst)
      | (rw [if_neg (by omega), if_neg (by omega)]; exact hst)
  · refine y_look (off := 56) (tgt := 61) hC dX2_carryOutItem_5 (by decide) (by rw [e1]; decide) (by decide) ?_
    refine y_aload_n hC dX2_carryOutItem_61 (i := 2) rfl rfl ?_
    refine y_aload_n hC dX2_carryOutItem_62 (i := 0) rfl rfl ?_
    refine y_iload_n hC dX2_carryOutItem_63 (i := 1) rfl rfl ?_
    refine y_iconst (v := nI 1) hC dX2_carryOutItem_64 (by decide) ?_
    refine y_iadd_n hC dX2_carryOutItem_65 ?_
    refine y_callV hC mX2_digitAt kX2_47 dX2_carryOutItem_66 (b := 93) (As := [.int (nI (i + 1))]) (rest := [rf E (1)]) (c_X2_digitAt l E g ln tx f tk it st ti h (i + 1) (by omega)) (by omega) h.a93 rfl rfl rfl (Nat.le_of_ble_eq_true rfl) ⟨Nat.le_of_ble_eq_true rfl, Nat.le_of_ble_eq_true rfl⟩ (pk_i ?_)
    rintro r_66 g_66 ⟨hr_66, hq_66⟩
    obtain rfl := hq_66.symm
    rw [hr_66]
    clear hr_66 r_66
    rw [pk_sub (a := sgn ln tx (i + 1)) (b := 48) (by omega)]
    refine y_callV hC mX4_stepAtOnce kX2_87 dX2_carryOutItem_69 (b := 1) (As := [.int (nI (sgn ln tx (i + 1) - 48))]) (rest := []) (c_X4_stepAtOnce l E g 1 r B (by omega) hs hv (sgn ln tx (i + 1) - 48) e4) hs.of_lt.1 hs.of_lt.2.choose_spec rfl rfl rfl (Nat.le_of_ble_eq_true rfl) ⟨Nat.le_of_ble_eq_true rfl, Nat.le_of_ble_eq_true rfl⟩ (pk_v ?_)
    rintro g_69 ⟨hst, hfr⟩
    refine y_vret (hC := hC) (hd := dX2_carryOutItem_72) (hq := ?_)
    refine ⟨?_, hfr⟩
    unfold itR
    first
      | (rw [if_pos e1]; exact hst)
      | (rw [if_neg (by omega), if_pos e1]; exact hst)
      | (rw [if_neg (by omega), if_neg (by omega)]; exact hst)

theorem dX2_carryOut_0 : decode cX2_carryOut 0 = .ok (.iconst 0, 1) := by decide +kernel
theorem dX2_carryOut_1 : decode cX2_carryOut 1 = .ok (.istore_n 2, 1) := by decide +kernel
theorem dX2_carryOut_2 : decode cX2_carryOut 2 = .ok (.iconst 0, 1) := by decide +kernel
theorem dX2_carryOut_3 : decode cX2_carryOut 3 = .ok (.istore_n 3, 1) := by decide +kernel
theorem dX2_carryOut_4 : decode cX2_carryOut 4 = .ok (.iconst 0, 1) := by decide +kernel
theorem dX2_carryOut_5 : decode cX2_carryOut 5 = .ok (.istore 4, 2) := by decide +kernel
theorem dX2_carryOut_7 : decode cX2_carryOut 7 = .ok (.iload 4, 2) := by decide +kernel
theorem dX2_carryOut_9 : decode cX2_carryOut 9 = .ok (.ldc 73, 2) := by decide +kernel
theorem dX2_carryOut_11 : decode cX2_carryOut 11 = .ok (.if_icmp .ge 123, 3) := by decide +kernel
theorem dX2_carryOut_14 : decode cX2_carryOut 14 = .ok (.iload_n 3, 1) := by decide +kernel
theorem dX2_carryOut_15 : decode cX2_carryOut 15 = .ok (.aload_n 0, 1) := by decide +kernel
theorem dX2_carryOut_16 : decode cX2_carryOut 16 = .ok (.getfield 22, 3) := by decide +kernel
theorem dX2_carryOut_19 : decode cX2_carryOut 19 = .ok (.if_icmp .ge 115, 3) := by decide +kernel
theorem dX2_carryOut_22 : decode cX2_carryOut 22 = .ok (.aload_n 0, 1) := by decide +kernel
theorem dX2_carryOut_23 : decode cX2_carryOut 23 = .ok (.iload_n 3, 1) := by decide +kernel
theorem dX2_carryOut_24 : decode cX2_carryOut 24 = .ok (.invokevirtual 43, 3) := by decide +kernel
theorem dX2_carryOut_27 : decode cX2_carryOut 27 = .ok (.istore 5, 2) := by decide +kernel
theorem dX2_carryOut_29 : decode cX2_carryOut 29 = .ok (.aload_n 0, 1) := by decide +kernel
theorem dX2_carryOut_30 : decode cX2_carryOut 30 = .ok (.iload_n 3, 1) := by decide +kernel
theorem dX2_carryOut_31 : decode cX2_carryOut 31 = .ok (.invokevirtual 58, 3) := by decide +kernel
theorem dX2_carryOut_34 : decode cX2_carryOut 34 = .ok (.istore 6, 2) := by decide +kernel
theorem dX2_carryOut_36 : decode cX2_carryOut 36 = .ok (.iload 5, 2) := by decide +kernel
theorem dX2_carryOut_38 : decode cX2_carryOut 38 = .ok (.invokestatic 40, 3) := by decide +kernel
theorem dX2_carryOut_41 : decode cX2_carryOut 41 = .ok (.ifCond .eq 28, 3) := by decide +kernel
theorem dX2_carryOut_44 : decode cX2_carryOut 44 = .ok (.aload_n 0, 1) := by decide +kernel
theorem dX2_carryOut_45 : decode cX2_carryOut 45 = .ok (.getfield 15, 3) := by decide +kernel
theorem dX2_carryOut_48 : decode cX2_carryOut 48 = .ok (.iload_n 2, 1) := by decide +kernel
theorem dX2_carryOut_49 : decode cX2_carryOut 49 = .ok (.iload 6, 2) := by decide +kernel
theorem dX2_carryOut_51 : decode cX2_carryOut 51 = .ok (.iastore, 1) := by decide +kernel
theorem dX2_carryOut_52 : decode cX2_carryOut 52 = .ok (.aload_n 0, 1) := by decide +kernel
theorem dX2_carryOut_53 : decode cX2_carryOut 53 = .ok (.getfield 19, 3) := by decide +kernel
theorem dX2_carryOut_56 : decode cX2_carryOut 56 = .ok (.iload_n 2, 1) := by decide +kernel
theorem dX2_carryOut_57 : decode cX2_carryOut 57 = .ok (.aload_n 0, 1) := by decide +kernel
theorem dX2_carryOut_58 : decode cX2_carryOut 58 = .ok (.iload_n 3, 1) := by decide +kernel
theorem dX2_carryOut_59 : decode cX2_carryOut 59 = .ok (.invokevirtual 47, 3) := by decide +kernel
theorem dX2_carryOut_62 : decode cX2_carryOut 62 = .ok (.iastore, 1) := by decide +kernel
theorem dX2_carryOut_63 : decode cX2_carryOut 63 = .ok (.iinc 2 1, 3) := by decide +kernel
theorem dX2_carryOut_66 : decode cX2_carryOut 66 = .ok (.goto 59, 3) := by decide +kernel
theorem dX2_carryOut_69 : decode cX2_carryOut 69 = .ok (.iload 5, 2) := by decide +kernel
theorem dX2_carryOut_71 : decode cX2_carryOut 71 = .ok (.bipush 41, 2) := by decide +kernel
theorem dX2_carryOut_73 : decode cX2_carryOut 73 = .ok (.if_icmp .eq 12, 3) := by decide +kernel
theorem dX2_carryOut_76 : decode cX2_carryOut 76 = .ok (.aload_n 0, 1) := by decide +kernel
theorem dX2_carryOut_77 : decode cX2_carryOut 77 = .ok (.iload_n 3, 1) := by decide +kernel
theorem dX2_carryOut_78 : decode cX2_carryOut 78 = .ok (.aload_n 1, 1) := by decide +kernel
theorem dX2_carryOut_79 : decode cX2_carryOut 79 = .ok (.invokevirtual 74, 3) := by decide +kernel
theorem dX2_carryOut_82 : decode cX2_carryOut 82 = .ok (.goto 43, 3) := by decide +kernel
theorem dX2_carryOut_85 : decode cX2_carryOut 85 = .ok (.aload_n 0, 1) := by decide +kernel
theorem dX2_carryOut_86 : decode cX2_carryOut 86 = .ok (.getfield 19, 3) := by decide +kernel
theorem dX2_carryOut_89 : decode cX2_carryOut 89 = .ok (.iload_n 2, 1) := by decide +kernel
theorem dX2_carryOut_90 : decode cX2_carryOut 90 = .ok (.iconst 1, 1) := by decide +kernel
theorem dX2_carryOut_91 : decode cX2_carryOut 91 = .ok (.isub, 1) := by decide +kernel
theorem dX2_carryOut_92 : decode cX2_carryOut 92 = .ok (.iaload, 1) := by decide +kernel
theorem dX2_carryOut_93 : decode cX2_carryOut 93 = .ok (.iconst 1, 1) := by decide +kernel
theorem dX2_carryOut_94 : decode cX2_carryOut 94 = .ok (.if_icmp .le 28, 3) := by decide +kernel
theorem dX2_carryOut_97 : decode cX2_carryOut 97 = .ok (.aload_n 0, 1) := by decide +kernel
theorem dX2_carryOut_98 : decode cX2_carryOut 98 = .ok (.getfield 19, 3) := by decide +kernel
theorem dX2_carryOut_101 : decode cX2_carryOut 101 = .ok (.iload_n 2, 1) := by decide +kernel
theorem dX2_carryOut_102 : decode cX2_carryOut 102 = .ok (.iconst 1, 1) := by decide +kernel
theorem dX2_carryOut_103 : decode cX2_carryOut 103 = .ok (.isub, 1) := by decide +kernel
theorem dX2_carryOut_104 : decode cX2_carryOut 104 = .ok (.dup2, 1) := by decide +kernel
theorem dX2_carryOut_105 : decode cX2_carryOut 105 = .ok (.iaload, 1) := by decide +kernel
theorem dX2_carryOut_106 : decode cX2_carryOut 106 = .ok (.iconst 1, 1) := by decide +kernel
theorem dX2_carryOut_107 : decode cX2_carryOut 107 = .ok (.isub, 1) := by decide +kernel
theorem dX2_carryOut_108 : decode cX2_carryOut 108 = .ok (.iastore, 1) := by decide +kernel
theorem dX2_carryOut_109 : decode cX2_carryOut 109 = .ok (.aload_n 0, 1) := by decide +kernel
theorem dX2_carryOut_110 : decode cX2_carryOut 110 = .ok (.getfield 15, 3) := by decide +kernel
theorem dX2_carryOut_113 : decode cX2_carryOut 113 = .ok (.iload_n 2, 1) := by decide +kernel
theorem dX2_carryOut_114 : decode cX2_carryOut 114 = .ok (.iconst 1, 1) := by decide +kernel
theorem dX2_carryOut_115 : decode cX2_carryOut 115 = .ok (.isub, 1) := by decide +kernel
theorem dX2_carryOut_116 : decode cX2_carryOut 116 = .ok (.iaload, 1) := by decide +kernel
theorem dX2_carryOut_117 : decode cX2_carryOut 117 = .ok (.istore 6, 2) := by decide +kernel
theorem dX2_carryOut_119 : decode cX2_carryOut 119 = .ok (.goto 6, 3) := by decide +kernel
theorem dX2_carryOut_122 : decode cX2_carryOut 122 = .ok (.iinc 2 (-1), 3) := by decide +kernel
theorem dX2_carryOut_125 : decode cX2_carryOut 125 = .ok (.iload 6, 2) := by decide +kernel
theorem dX2_carryOut_127 : decode cX2_carryOut 127 = .ok (.istore_n 3, 1) := by decide +kernel
theorem dX2_carryOut_128 : decode cX2_carryOut 128 = .ok (.iinc 4 1, 3) := by decide +kernel
theorem dX2_carryOut_131 : decode cX2_carryOut 131 = .ok (.goto (-124), 3) := by decide +kernel
theorem dX2_carryOut_134 : decode cX2_carryOut 134 = .ok (.return_, 1) := by decide +kernel
set_option maxHeartbeats 4000000 in
set_option maxRecDepth 100000 in
theorem c_X2_carryOut (l : Launch) (E : gE) (g : Mem) (ln : Nat) (tx : Nat → Nat) (f : Nat → Int32) (tk it : Int32) (st ti : Nat → Int32) (h : PX E g ln tx f tk it st ti) (r fin : Row) (B n : Nat) (sf0 tf0 : Nat → Nat) (hs : StA E g 1 r) (hn : n ≤ 999999) (hrun : Run (sgn ln tx) ln n 0 0 sf0 tf0 r B fin) : Mt l E yX2_carryOut cX2_carryOut 7 none 4 86 [rf E (93), rf E (1)] g (pV (fun g' => (∃ st' ti', PX E g' ln tx f tk it st' ti') ∧ StA E g' 1 fin ∧ ∀ k, k < 1 ∨ 16 ≤ k → k ≠ 95 → k ≠ 96 → g' k = g k)) := by
  have hK := h.k
  have hln := h.l
  refine mt_go (own := RX2) (by decide) rfl (lo := [some (rf E (93)), some (rf E (1)), none, none, none, none, none]) rfl (Nat.le_of_ble_eq_true rfl) (fun X hC => ?_)
  refine y_iconst (v := nI 0) hC dX2_carryOut_0 (by decide) ?_
  refine y_istore_n hC dX2_carryOut_1 (i := 2) rfl (Nat.le_of_ble_eq_true rfl) rfl (lo' := [some (rf E (93)), some (rf E (1)), some (.int (nI (0))), none, none, none, none]) rfl ?_
  refine y_iconst (v := nI 0) hC dX2_carryOut_2 (by decide) ?_
  refine y_istore_n hC dX2_carryOut_3 (i := 3) rfl (Nat.le_of_ble_eq_true rfl) rfl (lo' := [some (rf E (93)), some (rf E (1)), some (.int (nI (0))), some (.int (nI (0))), none, none, none]) rfl ?_
  refine y_iconst (v := nI 0) hC dX2_carryOut_4 (by decide) ?_
  refine y_istore hC dX2_carryOut_5 (Nat.le_of_ble_eq_true rfl) rfl (lo' := [some (rf E (93)), some (rf E (1)), some (.int (nI (0))), some (.int (nI (0))), some (.int (nI (0))), none, none]) rfl ?_
  have L_7 : ∀ (m : Nat) (n B1 d i c : Nat) (sf tf : Nat → Nat) (r1 : Row) (g1 : Mem) (st1 ti1 : Nat → Int32), (hm : n < m) → (hc : c + n ≤ 999999) → (hP : PX E g1 ln tx f tk it st1 ti1) → (hs1 : StA E g1 1 r1) → (hF : ∀ k, k < 1 ∨ 16 ≤ k → k ≠ 95 → k ≠ 96 → g1 k = g k) → (hS : ∀ j, j < d → st1 j = nI (sf j)) → (hT : ∀ j, j < d → ti1 j = nI (tf j)) → (hr : Run (sgn ln tx) ln n i d sf tf r1 B1 fin) → (hi : i ≤ 60) → (hd : d ≤ 30) → Y l E X (pV (fun g' => (∃ st' ti', PX E g' ln tx f tk it st' ti') ∧ StA E g' 1 fin ∧ ∀ k, k < 1 ∨ 16 ≤ k → k ≠ 95 → k ≠ 96 → g' k = g k)) 7 [some (rf E (93)), some (rf E (1)), some (.int (nI (d))), some (.int (nI (i))), some (.int (nI (c))), none, none] [] g1 := by
    intro m
    induction m with
    | zero => intro n B1 d i c sf tf r1 g1 st1 ti1 hm hc hP hs1 hF hS hT hr hi hd; exact absurd hm (Nat.not_lt_zero _)
    | succ m ih_7 =>
      intro n B1 d i c sf tf r1 g1 st1 ti1 hm hc hP hs1 hF hS hT hr hi hd
      refine y_iload hC dX2_carryOut_7 rfl ?_
      refine y_ldc hC cnX2_73 dX2_carryOut_9 ?_
      refine y_top (show (1000000 : Int32) = nI 1000000 from by decide) ?_
      refine y_icmp_ge_n (tgt := 134) hC dX2_carryOut_11 (by decide) (by omega) (by omega) (fun c_11 => ?_) (fun c_11 => ?_)
      · refine y_vret (hC := hC) (hd := dX2_carryOut_134) (hq := ?_)
        first
          | (exact absurd hc (by omega))
          | (have hfi := Run_ge hr (by omega)
             subst hfi
             exact ⟨⟨st1, ti1, hP⟩, hs1, hF⟩)
      · refine y_iload_n hC dX2_carryOut_14 (i := 3) rfl rfl ?_
        refine y_aload_n hC dX2_carryOut_15 (i := 0) rfl rfl ?_
        refine y_get hC fX2_22 dX2_carryOut_16 (k := 93) (by omega) hP.a93 rfl ?_
        refine y_icmp_ge_n (tgt := 134) hC dX2_carryOut_19 (by decide) (by omega) (by omega) (fun c_19 => ?_) (fun c_19 => ?_)
        · refine y_vret (hC := hC) (hd := dX2_carryOut_134) (hq := ?_)
          first
            | (exact absurd hc (by omega))
            | (have hfi := Run_ge hr (by omega)
               subst hfi
               exact ⟨⟨st1, ti1, hP⟩, hs1, hF⟩)
        · have hlt : i < ln := by omega
          obtain ⟨k, hk, hr2⟩ := Run_lt hr hlt
          clear hr
          subst hk
          obtain ⟨-, hv, hB, hcs⟩ := hr2
          have hs0 := sgn_lt h i
          have hbu : bhd (sgn ln tx) i ≤ 60 := by
            have := bhd_le (s := sgn ln tx) (i := i) sz hlt (by unfold itOk at hcs; omega)
            omega
          refine y_aload_n hC dX2_carryOut_22 (i := 0) rfl rfl ?_
          refine y_iload_n hC dX2_carryOut_23 (i := 3) rfl rfl ?_
          refine y_callV hC mX2_signAt kX2_43 dX2_carryOut_24 (b := 93) (As := [.int (nI (i))]) (rest := []) (c_X2_signAt l E g1 ln tx f ((tk)) ((it)) st1 ti1 hP (i) (by omega)) (by omega) hP.a93 rfl rfl rfl (Nat.le_of_ble_eq_true rfl) ⟨Nat.le_of_ble_eq_true rfl, Nat.le_of_ble_eq_true rfl⟩ (pk_i ?_)
          rintro r_24 g_24 ⟨hr_24, hq_24⟩
          obtain rfl := hq_24.symm
          rw [hr_24]
          clear hr_24 r_24
          refine y_istore hC dX2_carryOut_27 (Nat.le_of_ble_eq_true rfl) rfl (lo' := [some (rf E (93)), some (rf E (1)), some (.int (nI (d))), some (.int (nI (i))), some (.int (nI (c))), some (.int (nI (sgn ln tx (i)))), none]) rfl ?_
          refine y_aload_n hC dX2_carryOut_29 (i := 0) rfl rfl ?_
          refine y_iload_n hC dX2_carryOut_30 (i := 3) rfl rfl ?_
          refine y_callV hC mX2_behind kX2_58 dX2_carryOut_31 (b := 93) (As := [.int (nI (i))]) (rest := []) (c_X2_behind l E g1 ln tx f ((tk)) ((it)) st1 ti1 hP (i) (by omega)) (by omega) hP.a93 rfl rfl rfl (Nat.le_of_ble_eq_true rfl) ⟨Nat.le_of_ble_eq_true rfl, Nat.le_of_ble_eq_true rfl⟩ (pk_i ?_)
          rintro r_31 g_31 ⟨hr_31, hq_31⟩
          obtain rfl := hq_31.symm
          rw [hr_31]
          clear hr_31 r_31
          refine y_istore hC dX2_carryOut_34 (Nat.le_of_ble_eq_true rfl) rfl (lo' := [some (rf E (93)), some (rf E (1)), some (.int (nI (d))), some (.int (nI (i))), some (.int (nI (c))), some (.int (nI (sgn ln tx (i)))), some (.int (nI (bhd (sgn ln tx) i)))]) rfl ?_
          refine y_iload hC dX2_carryOut_36 rfl ?_
          refine y_callS hC mX2_isRepeat kX2_40 dX2_carryOut_38 (As := [.int (nI (sgn ln tx (i)))]) (rest := []) (c_X2_isRepeat l E g1 (sgn ln tx (i)) hs0) rfl rfl rfl (Nat.le_of_ble_eq_true rfl) ⟨Nat.le_of_ble_eq_true rfl, Nat.le_of_ble_eq_true rfl⟩ (pk_i ?_)
          rintro r_38 g_38 ⟨hr_38, hq_38⟩
          obtain rfl := hq_38.symm
          rw [hr_38]
          clear hr_38 r_38
          refine y_if_eq_b (tgt := 69) hC dX2_carryOut_41 (by decide) (fun c_41 => ?_) (fun c_41 => ?_)
          · have hnr : ¬ (50 ≤ sgn ln tx i ∧ sgn ln tx i ≤ 57) := fun q => c_41 (decide_eq_true q)
            refine y_iload hC dX2_carryOut_69 rfl ?_
            refine y_bipush (v := nI 41) hC dX2_carryOut_71 (by decide) ?_
            refine y_icmp_eq_n (tgt := 85) hC dX2_carryOut_73 (by decide) (by omega) (by omega) (fun c_73 => ?_) (fun c_73 => ?_)
            · rcases hcs with ⟨e1, e2, -⟩ | ⟨e1, e2, e3, e4, e5, e6, e7⟩ | ⟨e1, -⟩
              · exfalso; omega
              rotate_left
              · exfalso; unfold itOk at e1; omega
              refine y_aload_n hC dX2_carryOut_85 (i := 0) rfl rfl ?_
              refine y_get hC fX2_19 dX2_carryOut_86 (k := 93) (by omega) hP.a93 rfl ?_
              refine y_iload_n hC dX2_carryOut_89 (i := 2) rfl rfl ?_
              refine y_iconst (v := nI 1) hC dX2_carryOut_90 (by decide) ?_
              refine y_isub_n hC dX2_carryOut_91 (by omega) ?_
              refine y_iald hC dX2_carryOut_92 (k := 96) (j := d - (1)) (by omega) hP.a96 (rfl) (by omega) (by decide) ?_
              refine y_top (y := nI (tf (d - 1))) (hT (d - 1) (by omega)) ?_
              refine y_iconst (v := nI 1) hC dX2_carryOut_93 (by decide) ?_
              refine y_icmp_le_n (tgt := 122) hC dX2_carryOut_94 (by decide) (by omega) (by omega) (fun c_94 => ?_) (fun c_94 => ?_)
              · obtain ⟨e8, -⟩ | ⟨-, e8⟩ := e7
                · exfalso; omega
                refine y_iinc hC dX2_carryOut_122 (x := nI (d)) (v := nI (d - 1)) rfl (by rw [show Int32.ofInt (-1) = -nI 1 from by decide, ← Int32.sub_eq_add_neg]; exact pk_sub (by omega)) (Nat.le_of_ble_eq_true rfl) rfl (lo' := [some (rf E (93)), some (rf E (1)), some (.int (nI (d - 1))), some (.int (nI (i))), some (.int (nI (c))), some (.int (nI (sgn ln tx (i)))), some (.int (nI (bhd (sgn ln tx) i)))]) rfl ?_
                refine y_iload hC dX2_carryOut_125 rfl ?_
                refine y_istore_n hC dX2_carryOut_127 (i := 3) rfl (Nat.le_of_ble_eq_true rfl) rfl (lo' := [some (rf E (93)), some (rf E (1)), some (.int (nI (d - 1))), some (.int (nI (bhd (sgn ln tx) i))), some (.int (nI (c))), some (.int (nI (sgn ln tx (i)))), some (.int (nI (bhd (sgn ln tx) i)))]) rfl ?_
                refine y_iinc_n hC dX2_carryOut_128 (a := c) (k := 1) rfl (by decide) (Nat.le_of_ble_eq_true rfl) rfl (lo' := [some (rf E (93)), some (rf E (1)), some (.int (nI (d - 1))), some (.int (nI (bhd (sgn ln tx) i))), some (.int (nI (c + 1))), some (.int (nI (sgn ln tx (i)))), some (.int (nI (bhd (sgn ln tx) i)))]) rfl ?_
                refine y_goto (tgt := 7) hC dX2_carryOut_131 (by decide) ?_
                refine y_fg 5 (lo' := [some (rf E (93)), some (rf E (1)), some (.int (nI (d - 1))), some (.int (nI (bhd (sgn ln tx) i))), some (.int (nI (c + 1))), none, some (.int (nI (bhd (sgn ln tx) i)))]) rfl ?_
                refine y_fg 6 (lo' := [some (rf E (93)), some (rf E (1)), some (.int (nI (d - 1))), some (.int (nI (bhd (sgn ln tx) i))), some (.int (nI (c + 1))), none, none]) rfl ?_
                exact ih_7 k B1 (d - 1) (bhd (sgn ln tx) i) (c + 1) sf tf r1 g1 st1 ti1 (by omega) (by omega) hP hs1 hF (fun j hj => hS j (by omega)) (fun j hj => hT j (by omega)) e8 (by omega) (by omega)
              · obtain ⟨e9, e8⟩ | ⟨e8, -⟩ := e7
                rotate_left
                · exfalso; omega
                refine y_aload_n hC dX2_carryOut_97 (i := 0) rfl rfl ?_
                refine y_get hC fX2_19 dX2_carryOut_98 (k := 93) (by omega) hP.a93 rfl ?_
                refine y_iload_n hC dX2_carryOut_101 (i := 2) rfl rfl ?_
                refine y_iconst (v := nI 1) hC dX2_carryOut_102 (by decide) ?_
                refine y_isub_n hC dX2_carryOut_103 (by omega) ?_
                refine y_dup2 hC dX2_carryOut_104 rfl rfl ?_
                refine y_iald hC dX2_carryOut_105 (k := 96) (j := d - (1)) (by omega) hP.a96 (rfl) (by omega) (by decide) ?_
                refine y_top (y := nI (tf (d - 1))) (hT (d - 1) (by omega)) ?_
                refine y_iconst (v := nI 1) hC dX2_carryOut_106 (by decide) ?_
                refine y_isub_n hC dX2_carryOut_107 (by omega) ?_
                refine y_iast hC dX2_carryOut_108 (k := 96) (j := d - (1)) (by omega) hP.a96 (rfl) (by omega) (by decide) ?_
                have hP_108 : PX E (va_up g1 (96) (aI E 0 60 (upd ti1 (d - (1)) (nI ((tf (d - 1)) - (1)))))) ln tx f ((tk)) ((it)) st1 (upd ti1 (d - (1)) (nI ((tf (d - 1)) - (1)))) := hP.u96 _
                have hF_108 : ∀ k, k < 1 ∨ 16 ≤ k → k ≠ 95 → k ≠ 96 → (va_up g1 (96) (aI E 0 60 (upd ti1 (d - (1)) (nI ((tf (d - 1)) - (1)))))) k = g k := fun k h1 h2 h3 => (va_up_ne _ _ (by omega)).trans (hF k h1 h2 h3)
                have hs_108 : StA E (va_up g1 (96) (aI E 0 60 (upd ti1 (d - (1)) (nI ((tf (d - 1)) - (1)))))) 1 r1 := hs1.ne16 (by omega)
                generalize (va_up g1 (96) (aI E 0 60 (upd ti1 (d - (1)) (nI ((tf (d - 1)) - (1)))))) = g_108 at hP_108 hF_108 hs_108 ⊢
                refine y_aload_n hC dX2_carryOut_109 (i := 0) rfl rfl ?_
                refine y_get hC fX2_15 dX2_carryOut_110 (k := 93) (by omega) hP_108.a93 rfl ?_
                refine y_iload_n hC dX2_carryOut_113 (i := 2) rfl rfl ?_
                refine y_iconst (v := nI 1) hC dX2_carryOut_114 (by decide) ?_
                refine y_isub_n hC dX2_carryOut_115 (by omega) ?_
                refine y_iald hC dX2_carryOut_116 (k := 95) (j := d - (1)) (by omega) hP_108.a95 (rfl) (by omega) (by decide) ?_
                refine y_top (y := nI (sf (d - 1))) (hS (d - 1) (by omega)) ?_
                refine y_istore hC dX2_carryOut_117 (Nat.le_of_ble_eq_true rfl) rfl (lo' := [some (rf E (93)), some (rf E (1)), some (.int (nI (d))), some (.int (nI (i))), some (.int (nI (c))), some (.int (nI (sgn ln tx (i)))), some (.int (nI (sf (d - 1))))]) rfl ?_
                refine y_goto (tgt := 125) hC dX2_carryOut_119 (by decide) ?_
                refine y_iload hC dX2_carryOut_125 rfl ?_
                refine y_istore_n hC dX2_carryOut_127 (i := 3) rfl (Nat.le_of_ble_eq_true rfl) rfl (lo' := [some (rf E (93)), some (rf E (1)), some (.int (nI (d))), some (.int (nI (sf (d - 1)))), some (.int (nI (c))), some (.int (nI (sgn ln tx (i)))), some (.int (nI (sf (d - 1))))]) rfl ?_
                refine y_iinc_n hC dX2_carryOut_128 (a := c) (k := 1) rfl (by decide) (Nat.le_of_ble_eq_true rfl) rfl (lo' := [some (rf E (93)), some (rf E (1)), some (.int (nI (d))), some (.int (nI (sf (d - 1)))), some (.int (nI (c + 1))), some (.int (nI (sgn ln tx (i)))), some (.int (nI (sf (d - 1))))]) rfl ?_
                refine y_goto (tgt := 7) hC dX2_carryOut_131 (by decide) ?_
                refine y_fg 5 (lo' := [some (rf E (93)), some (rf E (1)), some (.int (nI (d))), some (.int (nI (sf (d - 1)))), some (.int (nI (c + 1))), none, some (.int (nI (sf (d - 1))))]) rfl ?_
                refine y_fg 6 (lo' := [some (rf E (93)), some (rf E (1)), some (.int (nI (d))), some (.int (nI (sf (d - 1)))), some (.int (nI (c + 1))), none, none]) rfl ?_
                exact ih_7 k B1 d (sf (d - 1)) (c + 1) sf _ r1 g_108 st1 (upd ti1 (d - (1)) (nI ((tf (d - 1)) - (1)))) (by omega) (by omega) hP_108 hs_108 hF_108 hS (fun j hj => zuv hT j (by omega)) e8 (by omega) (by omega)
            · rcases hcs with ⟨e1, e2, -⟩ | ⟨e1, -⟩ | ⟨e1, e2⟩
              · exfalso; omega
              · exfalso; omega
              refine y_aload_n hC dX2_carryOut_76 (i := 0) rfl rfl ?_
              refine y_iload_n hC dX2_carryOut_77 (i := 3) rfl rfl ?_
              refine y_aload_n hC dX2_carryOut_78 (i := 1) rfl rfl ?_
              refine y_callV hC mX2_carryOutItem kX2_74 dX2_carryOut_79 (b := 93) (As := [.int (nI (i)), rf E (1)]) (rest := []) (c_X2_carryOutItem l E g1 ln tx f ((tk)) ((it)) st1 ti1 hP r1 B1 hB hs1 hv (i) (by omega) e1) (by omega) hP.a93 rfl rfl rfl (Nat.le_of_ble_eq_true rfl) ⟨Nat.le_of_ble_eq_true rfl, Nat.le_of_ble_eq_true rfl⟩ (pk_v ?_)
              rintro g_79 ⟨hst, hfr⟩
              have hP_79 := hP.keep (fun k h1 h2 => hfr k (by omega))
              have hF_79 : ∀ k, k < 1 ∨ 16 ≤ k → k ≠ 95 → k ≠ 96 → g_79 k = g k := fun k h1 h2 h3 => (hfr k h1).trans (hF k h1 h2 h3)
              refine y_goto (tgt := 125) hC dX2_carryOut_82 (by decide) ?_
              refine y_iload hC dX2_carryOut_125 rfl ?_
              refine y_istore_n hC dX2_carryOut_127 (i := 3) rfl (Nat.le_of_ble_eq_true rfl) rfl (lo' := [some (rf E (93)), some (rf E (1)), some (.int (nI (d))), some (.int (nI (bhd (sgn ln tx) i))), some (.int (nI (c))), some (.int (nI (sgn ln tx (i)))), some (.int (nI (bhd (sgn ln tx) i)))]) rfl ?_
              refine y_iinc_n hC dX2_carryOut_128 (a := c) (k := 1) rfl (by decide) (Nat.le_of_ble_eq_true rfl) rfl (lo' := [some (rf E (93)), some (rf E (1)), some (.int (nI (d))), some (.int (nI (bhd (sgn ln tx) i))), some (.int (nI (c + 1))), some (.int (nI (sgn ln tx (i)))), some (.int (nI (bhd (sgn ln tx) i)))]) rfl ?_
              refine y_goto (tgt := 7) hC dX2_carryOut_131 (by decide) ?_
              refine y_fg 5 (lo' := [some (rf E (93)), some (rf E (1)), some (.int (nI (d))), some (.int (nI (bhd (sgn ln tx) i))), some (.int (nI (c + 1))), none, some (.int (nI (bhd (sgn ln tx) i)))]) rfl ?_
              refine y_fg 6 (lo' := [some (rf E (93)), some (rf E (1)), some (.int (nI (d))), some (.int (nI (bhd (sgn ln tx) i))), some (.int (nI (c + 1))), none, none]) rfl ?_
              exact ih_7 k (B1 + itB (sgn ln tx) i) d (bhd (sgn ln tx) i) (c + 1) sf tf (itR (sgn ln tx) r1 i) g_79 st1 ti1 (by omega) (by omega) hP_79 hst hF_79 hS hT e2 (by omega) (by omega)
          · have hrr := isRep_s c_41
            rcases hcs with ⟨e1, e2, e3, e4, e5⟩ | ⟨e1, -⟩ | ⟨e1, -⟩
            rotate_left
            · exfalso; omega
            · exfalso; unfold itOk at e1; omega
            refine y_aload_n hC dX2_carryOut_44 (i := 0) rfl rfl ?_
            refine y_get hC fX2_15 dX2_carryOut_45 (k := 93) (by omega) hP.a93 rfl ?_
            refine y_iload_n hC dX2_carryOut_48 (i := 2) rfl rfl ?_
            refine y_iload hC dX2_carryOut_49 rfl ?_
            refine y_iast hC dX2_carryOut_51 (k := 95) (j := d) (by omega) hP.a95 (rfl) (by omega) (by decide) ?_
            have hP_51 : PX E (va_up g1 (95) (aI E 0 60 (upd st1 (d) (nI (bhd (sgn ln tx) i))))) ln tx f ((tk)) ((it)) (upd st1 (d) (nI (bhd (sgn ln tx) i))) ti1 := hP.u95 _
            have hF_51 : ∀ k, k < 1 ∨ 16 ≤ k → k ≠ 95 → k ≠ 96 → (va_up g1 (95) (aI E 0 60 (upd st1 (d) (nI (bhd (sgn ln tx) i))))) k = g k := fun k h1 h2 h3 => (va_up_ne _ _ (by omega)).trans (hF k h1 h2 h3)
            have hs_51 : StA E (va_up g1 (95) (aI E 0 60 (upd st1 (d) (nI (bhd (sgn ln tx) i))))) 1 r1 := hs1.ne16 (by omega)
            generalize (va_up g1 (95) (aI E 0 60 (upd st1 (d) (nI (bhd (sgn ln tx) i))))) = g_51 at hP_51 hF_51 hs_51 ⊢
            refine y_aload_n hC dX2_carryOut_52 (i := 0) rfl rfl ?_
            refine y_get hC fX2_19 dX2_carryOut_53 (k := 93) (by omega) hP_51.a93 rfl ?_
            refine y_iload_n hC dX2_carryOut_56 (i := 2) rfl rfl ?_
            refine y_aload_n hC dX2_carryOut_57 (i := 0) rfl rfl ?_
            refine y_iload_n hC dX2_carryOut_58 (i := 3) rfl rfl ?_
            refine y_callV hC mX2_digitAt kX2_47 dX2_carryOut_59 (b := 93) (As := [.int (nI (i))]) (rest := [.int (nI (d)), rf E (96)]) (c_X2_digitAt l E g_51 ln tx f ((tk)) ((it)) (upd st1 (d) (nI (bhd (sgn ln tx) i))) ti1 hP_51 (i) (by omega)) (by omega) hP_51.a93 rfl rfl rfl (Nat.le_of_ble_eq_true rfl) ⟨Nat.le_of_ble_eq_true rfl, Nat.le_of_ble_eq_true rfl⟩ (pk_i ?_)
            rintro r_59 g_59 ⟨hr_59, hq_59⟩
            obtain rfl := hq_59.symm
            rw [hr_59]
            clear hr_59 r_59
            rw [pk_sub (a := sgn ln tx (i)) (b := 48) (by omega)]
            refine y_iast hC dX2_carryOut_62 (k := 96) (j := d) (by omega) hP_51.a96 (rfl) (by omega) (by decide) ?_
            have hP_62 : PX E (va_up g_51 (96) (aI E 0 60 (upd ti1 (d) (nI (sgn ln tx (i) - 48))))) ln tx f ((tk)) ((it)) (upd st1 (d) (nI (bhd (sgn ln tx) i))) (upd ti1 (d) (nI (sgn ln tx (i) - 48))) := hP_51.u96 _
            have hF_62 : ∀ k, k < 1 ∨ 16 ≤ k → k ≠ 95 → k ≠ 96 → (va_up g_51 (96) (aI E 0 60 (upd ti1 (d) (nI (sgn ln tx (i) - 48))))) k = g k := fun k h1 h2 h3 => (va_up_ne _ _ (by omega)).trans (hF_51 k h1 h2 h3)
            have hs_62 : StA E (va_up g_51 (96) (aI E 0 60 (upd ti1 (d) (nI (sgn ln tx (i) - 48))))) 1 r1 := hs_51.ne16 (by omega)
            generalize (va_up g_51 (96) (aI E 0 60 (upd ti1 (d) (nI (sgn ln tx (i) - 48))))) = g_62 at hP_62 hF_62 hs_62 ⊢
            refine y_iinc_n hC dX2_carryOut_63 (a := d) (k := 1) rfl (by decide) (Nat.le_of_ble_eq_true rfl) rfl (lo' := [some (rf E (93)), some (rf E (1)), some (.int (nI (d + 1))), some (.int (nI (i))), some (.int (nI (c))), some (.int (nI (sgn ln tx (i)))), some (.int (nI (bhd (sgn ln tx) i)))]) rfl ?_
            refine y_goto (tgt := 125) hC dX2_carryOut_66 (by decide) ?_
            refine y_iload hC dX2_carryOut_125 rfl ?_
            refine y_istore_n hC dX2_carryOut_127 (i := 3) rfl (Nat.le_of_ble_eq_true rfl) rfl (lo' := [some (rf E (93)), some (rf E (1)), some (.int (nI (d + 1))), some (.int (nI (bhd (sgn ln tx) i))), some (.int (nI (c))), some (.int (nI (sgn ln tx (i)))), some (.int (nI (bhd (sgn ln tx) i)))]) rfl ?_
            refine y_iinc_n hC dX2_carryOut_128 (a := c) (k := 1) rfl (by decide) (Nat.le_of_ble_eq_true rfl) rfl (lo' := [some (rf E (93)), some (rf E (1)), some (.int (nI (d + 1))), some (.int (nI (bhd (sgn ln tx) i))), some (.int (nI (c + 1))), some (.int (nI (sgn ln tx (i)))), some (.int (nI (bhd (sgn ln tx) i)))]) rfl ?_
            refine y_goto (tgt := 7) hC dX2_carryOut_131 (by decide) ?_
            refine y_fg 5 (lo' := [some (rf E (93)), some (rf E (1)), some (.int (nI (d + 1))), some (.int (nI (bhd (sgn ln tx) i))), some (.int (nI (c + 1))), none, some (.int (nI (bhd (sgn ln tx) i)))]) rfl ?_
            refine y_fg 6 (lo' := [some (rf E (93)), some (rf E (1)), some (.int (nI (d + 1))), some (.int (nI (bhd (sgn ln tx) i))), some (.int (nI (c + 1))), none, none]) rfl ?_
            exact ih_7 k B1 (d + 1) (bhd (sgn ln tx) i) (c + 1) _ _ r1 g_62 (upd st1 (d) (nI (bhd (sgn ln tx) i))) (upd ti1 (d) (nI (sgn ln tx (i) - 48))) (by omega) (by omega) hP_62 hs_62 hF_62 (fun j hj => zuv hS j (by omega)) (fun j hj => zuv hT j (by omega)) e5 (by omega) (by omega)
  exact L_7 (n + 1) n B 0 0 0 sf0 tf0 r g st ti (by omega) (by omega) h hs (fun _ _ _ _ => rfl) (fun _ hj => absurd hj (Nat.not_lt_zero _)) (fun _ hj => absurd hj (Nat.not_lt_zero _)) hrun (by omega) (by omega)
end
section
/-! ===== rows stay as the document allows them ===== -/
def putR (r : Row) (a c : Nat) (sh : Nat → Int32) : Row := fun k => if a ≤ k ∧ k ≤ c then sh k else r k
def spdR (r : Row) (i : Nat) (s w : Int32) : Row := fun k => if k = 35 + 7 * i then s else if k = 36 + 7 * i then w else if k = 38 + 7 * i then nI 0 else if k = 39 + 7 * i then nI 0 else r k
theorem zN {x : Int32} {m : Nat} (h : 0 ≤ x.toInt ∧ x.toInt ≤ (m : Int)) : ∃ p : Nat, p ≤ m ∧ x = nI p := by
  have h2 := (zrng x).2
  exact ⟨x.toInt.toNat, by omega, zI_of (by omega) (by omega)⟩
theorem zNl {x : Int32} {m : Nat} (h : 0 ≤ x.toInt ∧ x.toInt < (m : Int)) : ∃ p : Nat, p < m ∧ x = nI p := by
  have h2 := (zrng x).2
  exact ⟨x.toInt.toNat, by omega, zI_of (by omega) (by omega)⟩
theorem zNg {x : Int32} {a m : Nat} (h : (a : Int) ≤ x.toInt ∧ x.toInt ≤ (m : Int)) : ∃ p : Nat, a ≤ p ∧ p ≤ m ∧ x = nI p := by
  have h2 := (zrng x).2
  exact ⟨x.toInt.toNat, by omega, by omega, zI_of (by omega) (by omega)⟩
section VR
variable {r r2 : Row} {B : Nat}
theorem rg_of {i j : Nat} (h : r2 (33 + 7 * i + j) = r (33 + 7 * i + j)) : rg r2 i j = rg r i j := by unfold rg; rw [h]
theorem gl_of {i j : Nat} (h : r2 (76 + 4 * i + j) = r (76 + 4 * i + j)) : gl r2 i j = gl r i j := by unfold gl; rw [h]
theorem px_of {p : Nat} (h : r2 (92 + p) = r (92 + p)) : px r2 p = px r p := by unfold px; rw [h]
/-- what is not above 32 says nothing here -/
theorem vr_co (hv : Vr r B) (h : ∀ k, 32 ≤ k → k < 158 → r2 k = r k) : Vr r2 B := by
  have h6 := hv.1.2
  have h4 := hv.2.1.2
  have er : rc r2 = rc r := rc_of (h 32 (by decide) (by decide))
  have eg : gc r2 = gc r := gc_of (h 75 (by decide) (by decide))
  have e1 : ∀ i j, i < rc r → j < 7 → rg r2 i j = rg r i j := fun i j hi hj => rg_of (h _ (by omega) (by omega))
  have e2 : ∀ i j, i < gc r → j < 4 → gl r2 i j = gl r i j := fun i j hi hj => gl_of (h _ (by omega) (by omega))
  refine ⟨by rw [er, h 32 (by decide) (by decide)]; exact hv.1, by rw [eg, h 75 (by decide) (by decide)]; exact hv.2.1, fun i hi => ?_, fun i j hij hj => ?_, fun i hi => ?_, fun i j hij hj => ?_, fun p hp => ?_, by rw [h 156 (by decide) (by decide)]; exact hv.2.2.2.2.2.2.2.1, by rw [h 157 (by decide) (by decide)]; exact hv.2.2.2.2.2.2.2.2⟩
  · rw [er] at hi
    have q := hv.rg hi
    rw [e1 i 0 hi (by decide), e1 i 1 hi (by decide), e1 i 2 hi (by decide), e1 i 3 hi (by decide), e1 i 4 hi (by decide), e1 i 5 hi (by decide), e1 i 6 hi (by decide)]
    exact ⟨fun j hj => by rw [e1 i j hi hj, h _ (by omega) (by omega)]; exact q.1 j hj, q.2⟩
  · rw [er] at hj
    rw [e1 i 1 (by omega) (by decide), e1 j 0 hj (by decide), e1 j 1 hj (by decide), e1 i 0 (by omega) (by decide)]
    exact hv.2.2.2.1 i j hij hj
  · rw [eg] at hi
    have q := hv.gl hi
    rw [e2 i 0 hi (by decide), e2 i 2 hi (by decide), e2 i 3 hi (by decide), h _ (by omega) (by omega), h (76 + 4 * i + 2) (by omega) (by omega), h (76 + 4 * i + 3) (by omega) (by omega)]
    exact q
  · rw [eg] at hj
    rw [e2 i 0 (by omega) (by decide), e2 j 0 hj (by decide)]
    exact hv.2.2.2.2.2.1 i j hij hj
  · rw [px_of (h _ (by omega) (by omega)), h _ (by omega) (by omega)]
    exact hv.2.2.2.2.2.2.1 p hp
/-- the pixels alone are others -/
theorem vr_pix (hv : Vr r B) (h : ∀ k, k < 92 ∨ 156 ≤ k → r2 k = r k) (hp : ∀ p, p < 64 → r2 (92 + p) = nI (px r2 p) ∧ px r2 p < 32) : Vr r2 B := by
  have h6 := hv.1.2
  have h4 := hv.2.1.2
  have er : rc r2 = rc r := rc_of (h 32 (by decide))
  have eg : gc r2 = gc r := gc_of (h 75 (by decide))
  have e1 : ∀ i j, i < rc r → j < 7 → rg r2 i j = rg r i j := fun i j hi hj => rg_of (h _ (by omega))
  have e2 : ∀ i j, i < gc r → j < 4 → gl r2 i j = gl r i j := fun i j hi hj => gl_of (h _ (by omega))
  refine ⟨by rw [er, h 32 (by decide)]; exact hv.1, by rw [eg, h 75 (by decide)]; exact hv.2.1, fun i hi => ?_, fun i j hij hj => ?_, fun i hi => ?_, fun i j hij hj => ?_, hp, by rw [h 156 (by decide)]; exact hv.2.2.2.2.2.2.2.1, by rw [h 157 (by decide)]; exact hv.2.2.2.2.2.2.2.2⟩
  · rw [er] at hi
    have q := hv.rg hi
    rw [e1 i 0 hi (by decide), e1 i 1 hi (by decide), e1 i 2 hi (by decide), e1 i 3 hi (by decide), e1 i 4 hi (by decide), e1 i 5 hi (by decide), e1 i 6 hi (by decide)]
    exact ⟨fun j hj => by rw [e1 i j hi hj, h _ (by omega)]; exact q.1 j hj, q.2⟩
  · rw [er] at hj
    rw [e1 i 1 (by omega) (by decide), e1 j 0 hj (by decide), e1 j 1 hj (by decide), e1 i 0 (by omega) (by decide)]
    exact hv.2.2.2.1 i j hij hj
  · rw [eg] at hi
    have q := hv.gl hi
    rw [e2 i 0 hi (by decide), e2 i 2 hi (by decide), e2 i 3 hi (by decide), h _ (by omega), h (76 + 4 * i + 2) (by omega), h (76 + 4 * i + 3) (by omega)]
    exact q
  · rw [eg] at hj
    rw [e2 i 0 (by omega) (by decide), e2 j 0 hj (by decide)]
    exact hv.2.2.2.2.2.1 i j hij hj
/-- the ranges' words alone are others, and the steps -/
theorem vr_rgs {B2 : Nat} (hv : Vr r B) (hB : B ≤ B2) (h : ∀ k, k < 33 ∨ (75 ≤ k ∧ k ≠ 157) → r2 k = r k)
    (hw : ∀ i, i < rc r → (∀ j, j < 7 → r2 (33 + 7 * i + j) = nI (rg r2 i j)) ∧ rg r2 i 0 = rg r i 0 ∧ rg r2 i 1 = rg r i 1 ∧ 0 < rg r2 i 2 ∧ rg r2 i 2 ≤ 30 ∧ rg r2 i 3 ≤ 2 ∧ rg r2 i 4 ≤ 1 ∧ rg r2 i 5 < rg r2 i 2 ∧ rg r2 i 6 ≤ B2) (h7 : r2 157 = nI (nn (r2 157)) ∧ nn (r2 157) ≤ 7 * B2) : Vr r2 B2 := by
  have h6 := hv.1.2
  have h4 := hv.2.1.2
  have er : rc r2 = rc r := rc_of (h 32 (by decide))
  have eg : gc r2 = gc r := gc_of (h 75 (by decide))
  have e2 : ∀ i j, i < gc r → j < 4 → gl r2 i j = gl r i j := fun i j hi hj => gl_of (h _ (by omega))
  refine ⟨by rw [er, h 32 (by decide)]; exact hv.1, by rw [eg, h 75 (by decide)]; exact hv.2.1, fun i hi => ?_, fun i j hij hj => ?_, fun i hi => ?_, fun i j hij hj => ?_, fun p hp => ?_, ?_, h7⟩
  · rw [er] at hi
    have q := hv.rg hi
    obtain ⟨q1, q2, q3, q4, q5, q6, q7, q8, q9⟩ := hw i hi
    exact ⟨q1, by rw [q2, q3]; exact q.2.1, by rw [q3]; exact q.2.2.1, q4, q5, q6, q7, q8, q9⟩
  · rw [er] at hj
    have p1 := hw i (by omega)
    have p2 := hw j hj
    rw [p1.2.1, p1.2.2.1, p2.2.1, p2.2.2.1]
    exact hv.2.2.2.1 i j hij hj
  · rw [eg] at hi
    have q := hv.gl hi
    rw [e2 i 0 hi (by decide), e2 i 2 hi (by decide), e2 i 3 hi (by decide), h _ (by omega), h (76 + 4 * i + 2) (by omega), h (76 + 4 * i + 3) (by omega)]
    exact q
  · rw [eg] at hj
    rw [e2 i 0 (by omega) (by decide), e2 j 0 hj (by decide)]
    exact hv.2.2.2.2.2.1 i j hij hj
  · rw [px_of (h _ (by omega)), h _ (by omega)]
    exact hv.2.2.2.2.2.2.1 p hp
  · rw [h 156 (by decide)]
    have := hv.2.2.2.2.2.2.2.1
    exact ⟨this.1, by omega⟩
/-- one range's words alone are others -/
theorem vr_rg1 {B2 a : Nat} (hv : Vr r B) (hB : B ≤ B2) (h : ∀ k, k < 33 + 7 * a ∨ (40 + 7 * a ≤ k ∧ k ≠ 157) → r2 k = r k)
    (hw : a < rc r → (∀ j, j < 7 → r2 (33 + 7 * a + j) = nI (rg r2 a j)) ∧ rg r2 a 0 = rg r a 0 ∧ rg r2 a 1 = rg r a 1 ∧ 0 < rg r2 a 2 ∧ rg r2 a 2 ≤ 30 ∧ rg r2 a 3 ≤ 2 ∧ rg r2 a 4 ≤ 1 ∧ rg r2 a 5 < rg r2 a 2 ∧ rg r2 a 6 ≤ B2) (ha : a < rc r) (h7 : r2 157 = nI (nn (r2 157)) ∧ nn (r2 157) ≤ 7 * B2) : Vr r2 B2 := by
  have h6 := hv.1.2
  refine vr_rgs hv hB (fun k hk => h k (by omega)) (fun i hi => ?_) h7
  by_cases e : i = a
  · subst e
    exact hw hi
  · have q := hv.rg hi
    have e1 : ∀ j, j < 7 → r2 (33 + 7 * i + j) = r (33 + 7 * i + j) := fun j hj => h _ (by omega)
    have e2 : ∀ j, j < 7 → rg r2 i j = rg r i j := fun j hj => rg_of (e1 j hj)
    rw [e2 0 (by decide), e2 1 (by decide), e2 2 (by decide), e2 3 (by decide), e2 4 (by decide), e2 5 (by decide), e2 6 (by decide)]
    exact ⟨fun j hj => by rw [e1 j hj, e2 j hj]; exact q.1 j hj, rfl, rfl, q.2.2.2.1, q.2.2.2.2.1, q.2.2.2.2.2.1, q.2.2.2.2.2.2.1, q.2.2.2.2.2.2.2.1, by have := q.2.2.2.2.2.2.2.2; omega⟩
end VR
/-- a row whose words of range a are these numbers -/
theorem rgW {r2 : Row} {a : Nat} {n0 n1 n2 n3 n4 n5 n6 : Nat} (h : ∀ j, j < 7 → r2 (33 + 7 * a + j) = v7 (nI n0) (nI n1) (nI n2) (nI n3) (nI n4) (nI n5) (nI n6) j) (hb : n0 < 2147483648 ∧ n1 < 2147483648 ∧ n2 < 2147483648 ∧ n3 < 2147483648 ∧ n4 < 2147483648 ∧ n5 < 2147483648 ∧ n6 < 2147483648) :
    (rg r2 a 0 = n0 ∧ rg r2 a 1 = n1 ∧ rg r2 a 2 = n2 ∧ rg r2 a 3 = n3 ∧ rg r2 a 4 = n4 ∧ rg r2 a 5 = n5 ∧ rg r2 a 6 = n6) ∧ ∀ j, j < 7 → r2 (33 + 7 * a + j) = nI (rg r2 a j) := by
  have e0 : rg r2 a 0 = n0 := by unfold rg; rw [h 0 (by decide)]; exact nn_I hb.1
  have e1 : rg r2 a 1 = n1 := by unfold rg; rw [h 1 (by decide)]; exact nn_I hb.2.1
  have e2 : rg r2 a 2 = n2 := by unfold rg; rw [h 2 (by decide)]; exact nn_I hb.2.2.1
  have e3 : rg r2 a 3 = n3 := by unfold rg; rw [h 3 (by decide)]; exact nn_I hb.2.2.2.1
  have e4 : rg r2 a 4 = n4 := by unfold rg; rw [h 4 (by decide)]; exact nn_I hb.2.2.2.2.1
  have e5 : rg r2 a 5 = n5 := by unfold rg; rw [h 5 (by decide)]; exact nn_I hb.2.2.2.2.2.1
  have e6 : rg r2 a 6 = n6 := by unfold rg; rw [h 6 (by decide)]; exact nn_I hb.2.2.2.2.2.2
  refine ⟨⟨e0, e1, e2, e3, e4, e5, e6⟩, fun j hj => ?_⟩
  rw [h j hj]
  exact v7_j (f := fun j => nI (rg r2 a j)) (by rw [e0]) (by rw [e1]) (by rw [e2]) (by rw [e3]) (by rw [e4]) (by rw [e5]) (by rw [e6]) j hj
theorem dv_le {ti t sp : Nat} (h : ti < sp) : (ti + t) / sp ≤ t := by
  have h1 : t ≤ sp * t := Nat.le_mul_of_pos_left t (by omega)
  have h2 : sp * (t + 1) = sp * t + sp := Nat.mul_succ sp t
  have := Nat.div_lt_of_lt_mul (show ti + t < sp * (t + 1) by omega)
  omega
theorem vr_spd {r : Row} {B i : Nat} {s w : Nat} (hv : Vr r B) (hB : B < 90000000) (hi : i < rc r) (hs : 1 ≤ s ∧ s ≤ 30) (hw : w ≤ 2) : Vr (spdR r i (nI s) (nI w)) B := by
  have h6 := hv.1.2
  obtain ⟨q1, q2, q3, q4, q5, q6, q7, q8, q9⟩ := hv.rg hi
  have hf : ∀ k, k < 33 + 7 * i ∨ 40 + 7 * i ≤ k → spdR r i (nI s) (nI w) k = r k := fun k hk => by
    unfold spdR
    rw [if_neg (by omega), if_neg (by omega), if_neg (by omega), if_neg (by omega)]
  have hW := rgW (r2 := spdR r i (nI s) (nI w)) (a := i) (n0 := rg r i 0) (n1 := rg r i 1) (n2 := s) (n3 := w) (n4 := rg r i 4) (n5 := 0) (n6 := 0) (by
    have hr : ∀ k, k ≠ 35 + 7 * i → k ≠ 36 + 7 * i → k ≠ 38 + 7 * i → k ≠ 39 + 7 * i → spdR r i (nI s) (nI w) k = r k := fun k h1 h2 h3 h4 => by unfold spdR; rw [if_neg h1, if_neg h2, if_neg h3, if_neg h4]
    intro j hj
    refine (v7_j (f := fun j => spdR r i (nI s) (nI w) (33 + 7 * i + j)) ?_ ?_ ?_ ?_ ?_ ?_ ?_ j hj).symm
    · exact ((hr _ (by omega) (by omega) (by omega) (by omega)).trans (q1 0 (by decide))).symm
    · exact ((hr _ (by omega) (by omega) (by omega) (by omega)).trans (q1 1 (by decide))).symm
    · exact (if_pos (by omega)).symm
    · exact ((if_neg (by omega)).trans (if_pos (by omega))).symm
    · exact ((hr _ (by omega) (by omega) (by omega) (by omega)).trans (q1 4 (by decide))).symm
    · exact ((if_neg (by omega)).trans ((if_neg (by omega)).trans (if_pos (by omega)))).symm
    · exact ((if_neg (by omega)).trans ((if_neg (by omega)).trans ((if_neg (by omega)).trans (if_pos (by omega))))).symm) (by omega)
  obtain ⟨⟨w0, w1, w2, w3, w4, w5, w6⟩, hw2⟩ := hW
  refine vr_rg1 hv (a := i) (Nat.le_refl _) (fun k hk => hf k (by omega)) (fun _ => ⟨hw2, w0, w1, by omega, by omega, by omega, by omega, by omega, by omega⟩) hi ?_
  rw [hf 157 (by omega)]
  exact hv.2.2.2.2.2.2.2.2
theorem vr_runz {r : Row} {B i z : Nat} (hv : Vr r B) (hB : B < 90000000) (hi : i < rc r) (hz : z ≤ 1) : Vr (upd r (37 + 7 * i) (nI z)) B := by
  have h6 := hv.1.2
  obtain ⟨q1, q2, q3, q4, q5, q6, q7, q8, q9⟩ := hv.rg hi
  have hf : ∀ k, k ≠ 37 + 7 * i → upd r (37 + 7 * i) (nI z) k = r k := fun k hk => pk_un hk
  obtain ⟨⟨w0, w1, w2, w3, w4, w5, w6⟩, hw2⟩ := rgW (r2 := upd r (37 + 7 * i) (nI z)) (a := i) (n0 := rg r i 0) (n1 := rg r i 1) (n2 := rg r i 2) (n3 := rg r i 3) (n4 := z) (n5 := rg r i 5) (n6 := rg r i 6) (by
    intro j hj
    refine (v7_j (f := fun j => upd r (37 + 7 * i) (nI z) (33 + 7 * i + j)) ?_ ?_ ?_ ?_ ?_ ?_ ?_ j hj).symm
    · exact ((hf _ (by omega)).trans (q1 0 (by decide))).symm
    · exact ((hf _ (by omega)).trans (q1 1 (by decide))).symm
    · exact ((hf _ (by omega)).trans (q1 2 (by decide))).symm
    · exact ((hf _ (by omega)).trans (q1 3 (by decide))).symm
    · show nI z = upd r (37 + 7 * i) (nI z) (33 + 7 * i + 4)
      rw [show 33 + 7 * i + 4 = 37 + 7 * i by omega, pk_us]
    · exact ((hf _ (by omega)).trans (q1 5 (by decide))).symm
    · exact ((hf _ (by omega)).trans (q1 6 (by decide))).symm) (by omega)
  refine vr_rg1 hv (a := i) (Nat.le_refl _) (fun k hk => hf k (by omega)) (fun _ => ⟨hw2, w0, w1, by omega, by omega, by omega, by omega, by omega, by omega⟩) hi ?_
  rw [hf 157 (by omega)]
  exact hv.2.2.2.2.2.2.2.2
theorem flpR_upd (r : Row) (i : Nat) : flpR r i = upd r (37 + 7 * i) (nI (1 - rg r i 4)) := rfl
theorem vr_flp {r : Row} {B i : Nat} (hv : Vr r B) (hB : B < 90000000) (hi : i < rc r) : Vr (flpR r i) B := by
  rw [flpR_upd]
  exact vr_runz hv hB hi (by omega)
theorem vr_stp {r : Row} {B i : Nat} (hv : Vr r B) (hB : B < 90000000) (hi : i < rc r) : Vr (stpR r i) (B + 1) := by
  have h6 := hv.1.2
  have h157 := hv.2.2.2.2.2.2.2.2
  obtain ⟨q1, q2, q3, q4, q5, q6, q7, q8, q9⟩ := hv.rg hi
  have hf : ∀ k, k ≠ 39 + 7 * i → k ≠ 157 → stpR r i k = r k := fun k hk h2 => by unfold stpR; rw [if_neg hk, if_neg h2]
  obtain ⟨⟨w0, w1, w2, w3, w4, w5, w6⟩, hw2⟩ := rgW (r2 := stpR r i) (a := i) (n0 := rg r i 0) (n1 := rg r i 1) (n2 := rg r i 2) (n3 := rg r i 3) (n4 := rg r i 4) (n5 := rg r i 5) (n6 := rg r i 6 + 1) (by
    intro j hj
    refine (v7_j (f := fun j => stpR r i (33 + 7 * i + j)) ?_ ?_ ?_ ?_ ?_ ?_ ?_ j hj).symm
    · exact ((hf _ (by omega) (by omega)).trans (q1 0 (by decide))).symm
    · exact ((hf _ (by omega) (by omega)).trans (q1 1 (by decide))).symm
    · exact ((hf _ (by omega) (by omega)).trans (q1 2 (by decide))).symm
    · exact ((hf _ (by omega) (by omega)).trans (q1 3 (by decide))).symm
    · exact ((hf _ (by omega) (by omega)).trans (q1 4 (by decide))).symm
    · exact ((hf _ (by omega) (by omega)).trans (q1 5 (by decide))).symm
    · exact (if_pos (by omega)).symm) (by omega)
  have e7 : stpR r i 157 = nI (nn (r 157) + 1) := by unfold stpR; rw [if_neg (by omega), if_pos rfl]
  refine vr_rg1 hv (a := i) (by omega) (fun k hk => hf k (by omega) (by omega)) (fun _ => ⟨hw2, w0, w1, by omega, by omega, by omega, by omega, by omega, by omega⟩) hi ?_
  rw [e7, nn_I (by omega)]
  exact ⟨rfl, by omega⟩
theorem vr_tk {r : Row} {B t : Nat} (hv : Vr r B) (hB : B < 90000000) (ht : t ≤ 5000) : Vr (tkR r t) (B + t) := by
  have hrc := hv.1.2
  have hgc := hv.2.1.2
  have h156 := hv.2.2.2.2.2.2.2.1
  have h157 := hv.2.2.2.2.2.2.2.2
  have hm : made r t ≤ 6 * t := by
    have h1 : made r t ≤ rc r * t := sm_le (fun i hi => by
      obtain ⟨q1, q2, q3, q4, q5, q6, q7, q8, q9⟩ := hv.rg hi
      have := dv_le (t := t) q8
      split <;> omega)
    have h2 := Nat.mul_le_mul_right t hv.1.2
    omega
  refine ⟨by rw [tkR_rc, tkR_lo (by decide)]; exact hv.1, by rw [tkR_gc hrc, tkR_75 hrc]; exact hv.2.1, fun i hi => ?_, fun i j hij hj => ?_, fun i hi => ?_, fun i j hij hj => ?_, fun p hp => ?_, ?_, ?_⟩
  · rw [tkR_rc] at hi
    obtain ⟨q1, q2, q3, q4, q5, q6, q7, q8, q9⟩ := hv.rg hi
    have hd := dv_le (t := t) q8
    have hml := Nat.mod_lt (rg r i 5 + t) (show 0 < rg r i 2 by omega)
    have h5 : (if rg r i 4 = 1 then (rg r i 5 + t) % rg r i 2 else rg r i 5) < rg r i 2 := by split <;> omega
    have h6 : mdN (rg r i 2) (rg r i 4) (rg r i 5) (rg r i 6) t ≤ B + t := by unfold mdN; split <;> omega
    obtain ⟨⟨w0, w1, w2, w3, w4, w5, w6⟩, hw2⟩ := rgW (r2 := tkR r t) (a := i) (n0 := rg r i 0) (n1 := rg r i 1) (n2 := rg r i 2) (n3 := rg r i 3) (n4 := rg r i 4) (n5 := if rg r i 4 = 1 then (rg r i 5 + t) % rg r i 2 else rg r i 5) (n6 := mdN (rg r i 2) (rg r i 4) (rg r i 5) (rg r i 6) t) (by
      intro j hj
      rw [tkR_V hi hj]
      refine v7_j (f := v7 (nI (rg r i 0)) (nI (rg r i 1)) (nI (rg r i 2)) (nI (rg r i 3)) (nI (rg r i 4)) (nI (if rg r i 4 = 1 then (rg r i 5 + t) % rg r i 2 else rg r i 5)) (nI (mdN (rg r i 2) (rg r i 4) (rg r i 5) (rg r i 6) t))) (q1 0 (by decide)) (q1 1 (by decide)) (q1 2 (by decide)) (q1 3 (by decide)) (q1 4 (by decide)) rfl rfl j hj) (by omega)
    exact ⟨hw2, by omega, by omega, by omega, by omega, by omega, by omega, by omega, by omega⟩
  · rw [tkR_rc] at hj
    have e : ∀ k, k < rc r → rg (tkR r t) k 0 = rg r k 0 ∧ rg (tkR r t) k 1 = rg r k 1 := fun k hk => ⟨rg_of ((tkR_V hk (by decide)).trans rfl), rg_of ((tkR_V hk (by decide)).trans rfl)⟩
    rw [(e i (by omega)).1, (e i (by omega)).2, (e j hj).1, (e j hj).2]
    exact hv.2.2.2.1 i j hij hj
  · rw [tkR_gc hrc] at hi
    obtain ⟨⟨q1, q2, q3⟩, q4, q5, q6, q7⟩ := hv.gl hi
    have hml := Nat.mod_lt (gl r i 3 + t) (show 0 < 2 * gl r i 2 by omega)
    have e0 : tkR r t (76 + 4 * i + 0) = r (76 + 4 * i + 0) := (tkR_U hrc hi (by decide)).trans rfl
    have e2 : tkR r t (76 + 4 * i + 2) = r (76 + 4 * i + 2) := (tkR_U hrc hi (by decide)).trans rfl
    have e3 : tkR r t (76 + 4 * i + 3) = nI ((gl r i 3 + t) % (2 * gl r i 2)) := (tkR_U hrc hi (by decide)).trans rfl
    have f3 : gl (tkR r t) i 3 = (gl r i 3 + t) % (2 * gl r i 2) := by
      show nn (tkR r t (76 + 4 * i + 3)) = _
      rw [e3]
      exact nn_I (by omega)
    refine ⟨⟨?_, ?_, ?_⟩, ?_, ?_, ?_, ?_⟩
    · rw [gl_of e0]
      exact e0.trans q1
    · rw [gl_of e2]
      exact e2.trans q2
    · rw [f3]
      exact e3
    · rw [gl_of e0]
      exact q4
    · rw [gl_of e2]
      exact q5
    · rw [gl_of e2]
      exact q6
    · rw [f3, gl_of e2]
      exact hml
  · rw [tkR_gc hrc] at hj
    have e : ∀ k, k < gc r → gl (tkR r t) k 0 = gl r k 0 := fun k hk => gl_of ((tkR_U hrc hk (by decide)).trans rfl)
    rw [e i (by omega), e j hj]
    exact hv.2.2.2.2.2.1 i j hij hj
  · rw [px_of (tkR_px hrc hgc hp), tkR_px hrc hgc hp]
    exact hv.2.2.2.2.2.2.1 p hp
  · rw [tkR_156 hrc hgc, nn_I (by omega)]
    exact ⟨rfl, by omega⟩
  · rw [tkR_157 hrc hgc, nn_I (by omega)]
    exact ⟨rfl, by omega⟩
theorem vr_beg {r : Row} {B : Nat} (hv : Vr r B) (hB : B < 90000000) : Vr (begR r) B := by
  have hrc := hv.1.2
  have hgc := hv.2.1.2
  have hf : ∀ k, ¬ (33 ≤ k ∧ k < 33 + 7 * rc r ∧ 5 ≤ (k - 33) % 7) → ¬ (76 ≤ k ∧ k < 76 + 4 * gc r ∧ (k - 76) % 4 = 3) → begR r k = r k := fun k h1 h2 => by unfold begR; rw [if_neg h1, if_neg h2]
  have er : rc (begR r) = rc r := rc_of (hf _ (by omega) (by omega))
  have eg : gc (begR r) = gc r := gc_of (hf _ (by omega) (by omega))
  have z : ∀ k, (33 ≤ k ∧ k < 33 + 7 * rc r ∧ 5 ≤ (k - 33) % 7) → begR r k = nI 0 := fun k h => if_pos h
  have zg : ∀ k, ¬ (33 ≤ k ∧ k < 33 + 7 * rc r ∧ 5 ≤ (k - 33) % 7) → (76 ≤ k ∧ k < 76 + 4 * gc r ∧ (k - 76) % 4 = 3) → begR r k = nI 0 := fun k h1 h => (if_neg h1).trans (if_pos h)
  refine ⟨by rw [er, hf _ (by omega) (by omega)]; exact hv.1, by rw [eg, hf _ (by omega) (by omega)]; exact hv.2.1, fun i hi => ?_, fun i j hij hj => ?_, fun i hi => ?_, fun i j hij hj => ?_, fun p hp => ?_, ?_, ?_⟩
  · rw [er] at hi
    obtain ⟨q1, q2, q3, q4, q5, q6, q7, q8, q9⟩ := hv.rg hi
    obtain ⟨⟨w0, w1, w2, w3, w4, w5, w6⟩, hw2⟩ := rgW (r2 := begR r) (a := i) (n0 := rg r i 0) (n1 := rg r i 1) (n2 := rg r i 2) (n3 := rg r i 3) (n4 := rg r i 4) (n5 := 0) (n6 := 0) (by
      intro j hj
      refine (v7_j (f := fun j => begR r (33 + 7 * i + j)) ?_ ?_ ?_ ?_ ?_ ?_ ?_ j hj).symm
      · exact ((hf _ (by omega) (by omega)).trans (q1 0 (by decide))).symm
      · exact ((hf _ (by omega) (by omega)).trans (q1 1 (by decide))).symm
      · exact ((hf _ (by omega) (by omega)).trans (q1 2 (by decide))).symm
      · exact ((hf _ (by omega) (by omega)).trans (q1 3 (by decide))).symm
      · exact ((hf _ (by omega) (by omega)).trans (q1 4 (by decide))).symm
      · exact (z _ (by omega)).symm
      · exact (z _ (by omega)).symm) (by omega)
    exact ⟨hw2, by omega, by omega, by omega, by omega, by omega, by omega, by omega, by omega⟩
  · rw [er] at hj
    have e : ∀ k, k < rc r → rg (begR r) k 0 = rg r k 0 ∧ rg (begR r) k 1 = rg r k 1 := fun k hk => ⟨rg_of (hf _ (by omega) (by omega)), rg_of (hf _ (by omega) (by omega))⟩
    rw [(e i (by omega)).1, (e i (by omega)).2, (e j hj).1, (e j hj).2]
    exact hv.2.2.2.1 i j hij hj
  · rw [eg] at hi
    obtain ⟨⟨q1, q2, q3⟩, q4, q5, q6, q7⟩ := hv.gl hi
    have e0 : begR r (76 + 4 * i + 0) = r (76 + 4 * i + 0) := hf _ (by omega) (by omega)
    have e2 : begR r (76 + 4 * i + 2) = r (76 + 4 * i + 2) := hf _ (by omega) (by omega)
    have e3 : begR r (76 + 4 * i + 3) = nI 0 := zg _ (by omega) (by omega)
    have f3 : gl (begR r) i 3 = 0 := by
      show nn (begR r (76 + 4 * i + 3)) = _
      rw [e3]
      exact nn_I (by omega)
    refine ⟨⟨?_, ?_, ?_⟩, ?_, ?_, ?_, ?_⟩
    · rw [gl_of e0]
      exact e0.trans q1
    · rw [gl_of e2]
      exact e2.trans q2
    · rw [f3]
      exact e3
    · rw [gl_of e0]
      exact q4
    · rw [gl_of e2]
      exact q5
    · rw [gl_of e2]
      exact q6
    · rw [f3, gl_of e2]
      omega
  · rw [eg] at hj
    have e : ∀ k, k < gc r → gl (begR r) k 0 = gl r k 0 := fun k hk => gl_of (hf _ (by omega) (by omega))
    rw [e i (by omega), e j hj]
    exact hv.2.2.2.2.2.1 i j hij hj
  · rw [px_of (hf _ (by omega) (by omega)), hf _ (by omega) (by omega)]
    exact hv.2.2.2.2.2.2.1 p hp
  · rw [hf _ (by omega) (by omega)]
    exact hv.2.2.2.2.2.2.2.1
  · rw [hf _ (by omega) (by omega)]
    exact hv.2.2.2.2.2.2.2.2
end
section
/-! ===== the class itself: its own helpers, and what changes it ===== -/
section SRm
variable {r r2 : Row} {B : Nat} {co pi co2 pi2 : Nat → Int32} {V U : Nat → Nat → Int32}
theorem sr_c (hv : Vr r B) (e2 : ∀ k, k < 64 → pi k = r (92 + k)) (e3 : ∀ i, i < rc r → ∀ j, j < 7 → V i j = r (33 + 7 * i + j)) (e4 : ∀ i, i < gc r → ∀ j, j < 4 → U i j = r (76 + 4 * i + j)) (h1 : ∀ k, k < 32 → co2 k = r2 k) (h2 : ∀ k, 32 ≤ k → r2 k = r k) : SR co2 pi V U (v4 (nI (rc r)) (nI (gc r)) (nI (nn (r 156))) (nI (nn (r 157)))) r2 :=
  ⟨h1, fun k hk => by rw [h2 _ (by omega)]; exact e2 k hk, ⟨by rw [h2 _ (by decide)]; exact hv.1.1.symm, by rw [h2 _ (by decide)]; exact hv.2.1.1.symm, by rw [h2 _ (by decide)]; exact hv.2.2.2.2.2.2.2.1.1.symm, by rw [h2 _ (by decide)]; exact hv.2.2.2.2.2.2.2.2.1.symm⟩,
    fun i hi j hj => by rw [rc_of (h2 32 (by decide))] at hi; rw [h2 _ (by omega)]; exact e3 i hi j hj, fun i hi j hj => by rw [gc_of (h2 75 (by decide))] at hi; rw [h2 _ (by omega)]; exact e4 i hi j hj⟩
theorem sr_p (hv : Vr r B) (e1 : ∀ k, k < 32 → co k = r k) (e3 : ∀ i, i < rc r → ∀ j, j < 7 → V i j = r (33 + 7 * i + j)) (e4 : ∀ i, i < gc r → ∀ j, j < 4 → U i j = r (76 + 4 * i + j)) (h1 : ∀ k, k < 64 → pi2 k = r2 (92 + k)) (h2 : ∀ k, k < 92 ∨ 156 ≤ k → r2 k = r k) : SR co pi2 V U (v4 (nI (rc r)) (nI (gc r)) (nI (nn (r 156))) (nI (nn (r 157)))) r2 :=
  ⟨fun k hk => by rw [h2 _ (by omega)]; exact e1 k hk, h1, ⟨by rw [h2 _ (by decide)]; exact hv.1.1.symm, by rw [h2 _ (by decide)]; exact hv.2.1.1.symm, by rw [h2 _ (by decide)]; exact hv.2.2.2.2.2.2.2.1.1.symm, by rw [h2 _ (by decide)]; exact hv.2.2.2.2.2.2.2.2.1.symm⟩,
    fun i hi j hj => by have h6 := hv.1.2; rw [rc_of (h2 32 (by decide))] at hi; rw [h2 _ (by omega)]; exact e3 i hi j hj, fun i hi j hj => by have h4 := hv.2.1.2; rw [gc_of (h2 75 (by decide))] at hi; rw [h2 _ (by omega)]; exact e4 i hi j hj⟩
theorem sr_v {a : Nat} {v : Nat → Int32} (hv : Vr r B) (e1 : ∀ k, k < 32 → co k = r k) (e2 : ∀ k, k < 64 → pi k = r (92 + k)) (e3 : ∀ i, i < rc r → ∀ j, j < 7 → V i j = r (33 + 7 * i + j)) (e4 : ∀ i, i < gc r → ∀ j, j < 4 → U i j = r (76 + 4 * i + j)) (ha : a < rc r) (h1 : ∀ j, j < 7 → v j = r2 (33 + 7 * a + j)) (h2 : ∀ k, k < 33 + 7 * a ∨ 40 + 7 * a ≤ k → r2 k = r k) : SR co pi (va_up V a v) U (v4 (nI (rc r)) (nI (gc r)) (nI (nn (r 156))) (nI (nn (r 157)))) r2 := by
  have h6 := hv.1.2
  refine ⟨fun k hk => by rw [h2 _ (by omega)]; exact e1 k hk, fun k hk => by rw [h2 _ (by omega)]; exact e2 k hk, ⟨by rw [h2 _ (by omega)]; exact hv.1.1.symm, by rw [h2 _ (by omega)]; exact hv.2.1.1.symm, by rw [h2 _ (by omega)]; exact hv.2.2.2.2.2.2.2.1.1.symm, by rw [h2 _ (by omega)]; exact hv.2.2.2.2.2.2.2.2.1.symm⟩, fun i hi j hj => ?_, fun i hi j hj => ?_⟩
  · rw [rc_of (h2 32 (by omega))] at hi
    by_cases e : i = a
    · subst e
      rw [va_up_self]
      exact h1 j hj
    · rw [va_up_ne _ _ e, h2 _ (by omega)]
      exact e3 i hi j hj
  · rw [gc_of (h2 75 (by omega))] at hi
    rw [h2 _ (by omega)]
    exact e4 i hi j hj
end SRm
theorem StA.f1 {E : gE} {g : Mem} {b : Nat} {r : Row} (h : StA E g b r) : g b = oB 4 [rf E (b + 1), rf E (b + 2), rf E (b + 3), rf E (b + 4), .int (r 32), .int (r 75), .int (r 156), .int (r 157)] := by
  obtain ⟨co, pi, π, ρ, V, U, n, h1, -, -, ⟨q1, q2, q3, q4⟩, -⟩ := h
  rw [← q1, ← q2, ← q3, ← q4]
  exact h1.2.2.1
/-- how many colours of these places are others -/
def oth (sh : Nat → Int32) (r : Row) (a c : Nat) : Nat := cn (c + 1 - a) (fun i => decide (¬ sh (a + i) = r (a + i)))
theorem putR_lo {r : Row} {a c k : Nat} {sh : Nat → Int32} (hc : c < 32) (hk : 32 ≤ k) : putR r a c sh k = r k := if_neg (by omega)
theorem z01n {z : Int32} (h : z = 0 ∨ z = 1) : narrow .boolean (.int z) = .int z := by rcases h with rfl | rfl <;> rfl
theorem z01f {z : Int32} (h : z = 0 ∨ z = 1) : fits .boolean (.int z) = true := by rcases h with rfl | rfl <;> rfl
theorem HA.s18 {E : gE} {g : Mem} {c kp : Nat} {hr : Nat → Row} {sn : Row} (h : HA E g c kp hr sn) : ∃ r, StA E g 18 r := h.2.2.2.2.2.1
theorem HA.sn1 {E : gE} {g : Mem} {c kp : Nat} {hr : Nat → Row} {sn : Row} (h : HA E g c kp hr sn) (e : kp = 1) : StA E g 18 sn := h.2.2.2.2.2.2 e
theorem CQ.upkeep {E : gE} {g g2 : Mem} {S : AS} {sh mk wa : Nat → Int32} (h : CQ E g S sh mk wa) (hs : StA E g2 18 S.r) (hf : Fr 18 g g2) : CQ E (va_up g2 16 (oB 1 [rf E 17, rf E 18, .int (nI S.c), .int (nI 1)])) (.mk S.r S.c 1 S.hr S.r S.ln S.tx) sh mk wa := by
  obtain ⟨h0, h1, h2, h3, h4, h5, h6, h7⟩ := h
  obtain ⟨k0, k1, k2, k3, ⟨π, hπ, h17, hz, hh⟩, hsn0, hsn⟩ := h3
  have e : ∀ k, k < 16 ∨ k = 17 ∨ 33 ≤ k → va_up g2 16 (oB 1 [rf E 17, rf E 18, .int (nI S.c), .int (nI 1)]) k = g k := fun k hk => (va_up_ne _ _ (by omega)).trans (hf k (by omega))
  refine ⟨h0, (e _ (by decide)).trans h1, h2.keep (fun k _ _ => e k (by omega)), ⟨k0, k1, Nat.le_refl 1, va_up_self _ _ _, ⟨π, hπ, (e _ (by decide)).trans h17, fun i hi => ?_, fun i hi => ?_⟩, ⟨S.r, hs.ne16 (by decide)⟩, fun _ => hs.ne16 (by decide)⟩, h4.keep (fun k _ _ => e k (by omega)), (e _ (by decide)).trans h5, (e _ (by decide)).trans h6, (e _ (by decide)).trans h7⟩
  · obtain ⟨r, hr⟩ := hz i hi
    exact ⟨r, hr.keep (fun k _ _ => e k (by omega))⟩
  · exact (hh i hi).keep (fun k _ _ => e k (by omega))
theorem CQ.upund {E : gE} {g g2 : Mem} {S : AS} {sh mk wa : Nat → Int32} (h : CQ E g S sh mk wa) (hh : HA E g2 (S.c - 1) S.kp S.hr S.sn ∧ StA E g2 1 (S.hr (S.c - 1)) ∧ ∀ k, k < 1 ∨ 93 ≤ k → g2 k = g k) : CQ E g2 (.mk (S.hr (S.c - 1)) (S.c - 1) S.kp S.hr S.sn S.ln S.tx) sh mk wa := by
  obtain ⟨h0, h1, h2, h3, h4, h5, h6, h7⟩ := h
  obtain ⟨k1, k2, hf⟩ := hh
  exact ⟨h0, (hf _ (by decide)).trans h1, k2, k1, h4.keep (fun k _ _ => hf k (by omega)), (hf _ (by decide)).trans h5, (hf _ (by decide)).trans h6, (hf _ (by decide)).trans h7⟩
/-! what the calls answer, and what they leave -/
def qSetColour (S : AS) (x y : Int32) : Int32 × AS := if 0 ≤ x.toInt ∧ x.toInt ≤ 31 then (if 0 ≤ y.toInt ∧ y.toInt ≤ 262143 then (if S.r (nn x) = y then (-5, S) else (S.r (nn x), S.rec.row (upd S.r (nn x) y))) else (-2, S)) else (-1, S)
def blS (p q : Nat) (u v : Int32) : Nat → Int32 := fun k => cMix u v (nI (k - p)) (nI (q - p))
def qBlend (S : AS) (x y u v : Int32) : Int32 × AS := if 0 ≤ x.toInt ∧ x.toInt ≤ 31 then (if ((0 ≤ y.toInt ∧ y.toInt ≤ 31) ∧ nn x < nn y) ∧ (0 ≤ u.toInt ∧ u.toInt ≤ 262143) ∧ 0 ≤ v.toInt ∧ v.toInt ≤ 262143 then (if oth (blS (nn x) (nn y) u v) S.r (nn x) (nn y) = 0 then (-5, S) else (nI (oth (blS (nn x) (nn y) u v) S.r (nn x) (nn y)), S.rec.row (putR S.r (nn x) (nn y) (blS (nn x) (nn y) u v)))) else (-2, S)) else (-1, S)
def shS (r : Row) : Nat → Int32 := fun k => shd r k 0
def qFreeze (S : AS) : Int32 × AS := (nI (oth (shS S.r) S.r 0 31), S.rec.row (begR (putR S.r 0 31 (shS S.r))))
def qAddRange (S : AS) (x y s w : Int32) : Int32 × AS := if 0 ≤ x.toInt ∧ x.toInt ≤ 31 then (if ((0 ≤ y.toInt ∧ y.toInt ≤ 31) ∧ nn x < nn y) ∧ (1 ≤ s.toInt ∧ s.toInt ≤ 30) ∧ 0 ≤ w.toInt ∧ w.toInt ≤ 2 then (if ovl S.r (nn x) (nn y) = true then (-4, S) else (if rc S.r < 6 then (nI (rc S.r), S.rec.row (addR S.r x y s w)) else (-3, S))) else (-2, S)) else (-1, S)
def qRemoveRange (S : AS) (x : Int32) : Int32 × AS := if 0 ≤ x.toInt ∧ x.toInt < (rc S.r : Int) then (nI (rc S.r - 1), S.rec.row (remR S.r (nn x))) else (-1, S)
def qSetSpeed (S : AS) (x s w : Int32) : Int32 × AS := if 0 ≤ x.toInt ∧ x.toInt < (rc S.r : Int) then (if (1 ≤ s.toInt ∧ s.toInt ≤ 30) ∧ 0 ≤ w.toInt ∧ w.toInt ≤ 2 then (nI (rg S.r (nn x) 2), S.rec.row (spdR S.r (nn x) s w)) else (-2, S)) else (-1, S)
def rnC (r : Row) : Nat := cn (rc r) (fun i => decide (rg r i 4 = 1))
def qRun (S : AS) (x : Int32) (z : Nat) : Int32 × AS := if 0 ≤ x.toInt ∧ x.toInt < (rc S.r : Int) then (if rg S.r (nn x) 4 = z then (-5, S) else (nI (rnC (upd S.r (37 + 7 * nn x) (nI z))), S.rec.row (upd S.r (37 + 7 * nn x) (nI z)))) else (-1, S)
def qAddGlow (S : AS) (x y s : Int32) : Int32 × AS := if 0 ≤ x.toInt ∧ x.toInt ≤ 31 then (if (0 ≤ y.toInt ∧ y.toInt ≤ 262143) ∧ 1 ≤ s.toInt ∧ s.toInt ≤ 30 then (if (gAt S.r (nn x)).isSome = true then (-4, S) else (if gc S.r < 4 then (nI (gc S.r), S.rec.row (addG S.r x y s)) else (-3, S))) else (-2, S)) else (-1, S)
def qRemoveGlow (S : AS) (x : Int32) : Int32 × AS := if 0 ≤ x.toInt ∧ x.toInt < (gc S.r : Int) then (nI (gc S.r - 1), S.rec.row (remG S.r (nn x))) else (-1, S)
def qPass (S : AS) (x : Int32) : Int32 × AS := if 1 ≤ x.toInt ∧ x.toInt ≤ 1000 then (nI (made S.r (nn x)), S.rec.row (tkR S.r (nn x))) else (-2, S)
def qType (S : AS) (c : Nat) : Int32 × AS := if S.ln < 60 then (nI (S.ln + 1), .mk S.r S.c S.kp S.hr S.sn (S.ln + 1) (va_up S.tx S.ln c)) else (-3, S)
def qClearText (S : AS) : Int32 × AS := (nI S.ln, .mk S.r S.c S.kp S.hr S.sn 0 S.tx)
def qPaint (S : AS) (x y z : Int32) : Int32 × AS := if (0 ≤ x.toInt ∧ x.toInt ≤ 7) ∧ 0 ≤ y.toInt ∧ y.toInt ≤ 7 then (if 0 ≤ z.toInt ∧ z.toInt ≤ 31 then (if px S.r (8 * nn x + nn y) = nn z then (-5, S) else (nI (px S.r (8 * nn x + nn y)), S.rec.row (upd S.r (92 + (8 * nn x + nn y)) z))) else (-2, S)) else (-1, S)
def qUndo (S : AS) : Int32 × AS := if S.c = 0 then (-5, S) else (nI (S.c - 1), .mk (S.hr (S.c - 1)) (S.c - 1) S.kp S.hr S.sn S.ln S.tx)
def qKeep (S : AS) : Int32 × AS := (nI (rc S.r), .mk S.r S.c 1 S.hr S.r S.ln S.tx)
def qRestore (S : AS) : Int32 × AS := if S.kp = 0 then (-5, S) else (nI (rc S.sn), S.rec.row S.sn)
theorem dX5_isRange_0 : decode cX5_isRange 0 = .ok (.iload_n 1, 1) := by decide +kernel
theorem dX5_isRange_1 : decode cX5_isRange 1 = .ok (.ifCond .lt 18, 3) := by decide +kernel
theorem dX5_isRange_4 : decode cX5_isRange 4 = .ok (.iload_n 1, 1) := by decide +kernel
theorem dX5_isRange_5 : decode cX5_isRange 5 = .ok (.aload_n 0, 1) := by decide +kernel
theorem dX5_isRange_6 : decode cX5_isRange 6 = .ok (.getfield 12, 3) := by decide +kernel
theorem dX5_isRange_9 : decode cX5_isRange 9 = .ok (.getfield 83, 3) := by decide +kernel
theorem dX5_isRange_12 : decode cX5_isRange 12 = .ok (.if_icmp .ge 7, 3) := by decide +kernel
theorem dX5_isRange_15 : decode cX5_isRange 15 = .ok (.iconst 1, 1) := by decide +kernel
theorem dX5_isRange_16 : decode cX5_isRange 16 = .ok (.goto 4, 3) := by decide +kernel
theorem dX5_isRange_19 : decode cX5_isRange 19 = .ok (.iconst 0, 1) := by decide +kernel
theorem dX5_isRange_20 : decode cX5_isRange 20 = .ok (.ireturn, 1) := by decide +kernel
set_option maxHeartbeats 4000000 in
set_option maxRecDepth 100000 in
theorem c_X5_isRange (l : Launch) (E : gE) (g : Mem) (S : AS) (B : Nat) (hB : B < 90000000) (ho : OK S B) (sh mk wa : Nat → Int32) (h : CQ E g S sh mk wa) (x : Int32) : Mt l E yX5_isRange cX5_isRange 2 (some .boolean) 0 0 [rf E (0), .int (x)] g (pI (fun z g' => z = bI (0 ≤ x.toInt ∧ x.toInt < (rc S.r : Int)) ∧ g' = g)) := by
  have hK := h.k
  have hv := ho.v
  have hrc : rc S.r ≤ 6 := hv.1.2
  have hgc : gc S.r ≤ 4 := hv.2.1.2
  have hc4 := ho.c4
  have t1 : (nI (rc S.r)).toInt = (rc S.r : Int) := tI (by omega)
  refine mt_go (own := RX5) (by decide) rfl (lo := [some (rf E (0)), some (.int (x))]) rfl (Nat.le_of_ble_eq_true rfl) (fun X hC => ?_)
  refine y_iload_n hC dX5_isRange_0 (i := 1) rfl rfl ?_
  refine y_if_lt (tgt := 19) hC dX5_isRange_1 (by decide) (fun c_1 => ?_) (fun c_1 => ?_)
  · refine y_iconst (v := nI 0) hC dX5_isRange_19 (by decide) ?_
    refine y_zret (hrt := rfl) (hn := rfl) (hC := hC) (hd := dX5_isRange_20) (hq := ?_)
    refine ⟨?_, rfl⟩
    try simp only [Int32.lt_iff_toInt_lt, Int32.toInt_zero] at c_1
    try simp only [Int32.le_iff_toInt_le, t1] at c_12
    first | exact (bI_t (by omega)).symm | exact (bI_f (by omega)).symm
  · refine y_iload_n hC dX5_isRange_4 (i := 1) rfl rfl ?_
    refine y_aload_n hC dX5_isRange_5 (i := 0) rfl rfl ?_
    refine y_get hC fX5_12 dX5_isRange_6 (k := 0) (by omega) h.a0 rfl ?_
    refine y_get hC fX5_83 dX5_isRange_9 (k := 1) (by omega) h.sta.f1 rfl ?_
    refine y_top (y := nI (rc S.r)) hv.1.1 ?_
    refine y_icmp_ge (tgt := 19) hC dX5_isRange_12 (by decide) (fun c_12 => ?_) (fun c_12 => ?_)
    · refine y_iconst (v := nI 0) hC dX5_isRange_19 (by decide) ?_
      refine y_zret (hrt := rfl) (hn := rfl) (hC := hC) (hd := dX5_isRange_20) (hq := ?_)
      refine ⟨?_, rfl⟩
      try simp only [Int32.lt_iff_toInt_lt, Int32.toInt_zero] at c_1
      try simp only [Int32.le_iff_toInt_le, t1] at c_12
      first | exact (bI_t (by omega)).symm | exact (bI_f (by omega)).symm
    · refine y_iconst (v := nI 1) hC dX5_isRange_15 (by decide) ?_
      refine y_goto (tgt := 20) hC dX5_isRange_16 (by decide) ?_
      refine y_zret (hrt := rfl) (hn := rfl) (hC := hC) (hd := dX5_isRange_20) (hq := ?_)
      refine ⟨?_, rfl⟩
      try simp only [Int32.lt_iff_toInt_lt, Int32.toInt_zero] at c_1
      try simp only [Int32.le_iff_toInt_le, t1] at c_12
      first | exact (bI_t (by omega)).symm | exact (bI_f (by omega)).symm

theorem dX5_isGlow_0 : decode cX5_isGlow 0 = .ok (.iload_n 1, 1) := by decide +kernel
theorem dX5_isGlow_1 : decode cX5_isGlow 1 = .ok (.ifCond .lt 18, 3) := by decide +kernel
theorem dX5_isGlow_4 : decode cX5_isGlow 4 = .ok (.iload_n 1, 1) := by decide +kernel
theorem dX5_isGlow_5 : decode cX5_isGlow 5 = .ok (.aload_n 0, 1) := by decide +kernel
theorem dX5_isGlow_6 : decode cX5_isGlow 6 = .ok (.getfield 12, 3) := by decide +kernel
theorem dX5_isGlow_9 : decode cX5_isGlow 9 = .ok (.getfield 121, 3) := by decide +kernel
theorem dX5_isGlow_12 : decode cX5_isGlow 12 = .ok (.if_icmp .ge 7, 3) := by decide +kernel
theorem dX5_isGlow_15 : decode cX5_isGlow 15 = .ok (.iconst 1, 1) := by decide +kernel
theorem dX5_isGlow_16 : decode cX5_isGlow 16 = .ok (.goto 4, 3) := by decide +kernel
theorem dX5_isGlow_19 : decode cX5_isGlow 19 = .ok (.iconst 0, 1) := by decide +kernel
theorem dX5_isGlow_20 : decode cX5_isGlow 20 = .ok (.ireturn, 1) := by decide +kernel
set_option maxHeartbeats 4000000 in
set_option maxRecDepth 100000 in
theorem c_X5_isGlow (l : Launch) (E : gE) (g : Mem) (S : AS) (B : Nat) (hB : B < 90000000) (ho : OK S B) (sh mk wa : Nat → Int32) (h : CQ E g S sh mk wa) (x : Int32) : Mt l E yX5_isGlow cX5_isGlow 2 (some .boolean) 0 0 [rf E (0), .int (x)] g (pI (fun z g' => z = bI (0 ≤ x.toInt ∧ x.toInt < (gc S.r : Int)) ∧ g' = g)) := by
  have hK := h.k
  have hv := ho.v
  have hrc : rc S.r ≤ 6 := hv.1.2
  have hgc : gc S.r ≤ 4 := hv.2.1.2
  have hc4 := ho.c4
  have t1 : (nI (gc S.r)).toInt = (gc S.r : Int) := tI (by omega)
  refine mt_go (own := RX5) (by decide) rfl (lo := [some (rf E (0)), some (.int (x))]) rfl (Nat.le_of_ble_eq_true rfl) (fun X hC => ?_)
  refine y_iload_n hC dX5_isGlow_0 (i := 1) rfl rfl ?_
  refine y_if_lt (tgt := 19) hC dX5_isGlow_1 (by decide) (fun c_1 => ?_) (fun c_1 => ?_)
  · refine y_iconst (v := nI 0) hC dX5_isGlow_19 (by decide) ?_
    refine y_zret (hrt := rfl) (hn := rfl) (hC := hC) (hd := dX5_isGlow_20) (hq := ?_)
    refine ⟨?_, rfl⟩
    try simp only [Int32.lt_iff_toInt_lt, Int32.toInt_zero] at c_1
    try simp only [Int32.le_iff_toInt_le, t1] at c_12
    first | exact (bI_t (by omega)).symm | exact (bI_f (by omega)).symm
  · refine y_iload_n hC dX5_isGlow_4 (i := 1) rfl rfl ?_
    refine y_aload_n hC dX5_isGlow_5 (i := 0) rfl rfl ?_
    refine y_get hC fX5_12 dX5_isGlow_6 (k := 0) (by omega) h.a0 rfl ?_
    refine y_get hC fX5_121 dX5_isGlow_9 (k := 1) (by omega) h.sta.f1 rfl ?_
    refine y_top (y := nI (gc S.r)) hv.2.1.1 ?_
    refine y_icmp_ge (tgt := 19) hC dX5_isGlow_12 (by decide) (fun c_12 => ?_) (fun c_12 => ?_)
    · refine y_iconst (v := nI 0) hC dX5_isGlow_19 (by decide) ?_
      refine y_zret (hrt := rfl) (hn := rfl) (hC := hC) (hd := dX5_isGlow_20) (hq := ?_)
      refine ⟨?_, rfl⟩
      try simp only [Int32.lt_iff_toInt_lt, Int32.toInt_zero] at c_1
      try simp only [Int32.le_iff_toInt_le, t1] at c_12
      first | exact (bI_t (by omega)).symm | exact (bI_f (by omega)).symm
    · refine y_iconst (v := nI 1) hC dX5_isGlow_15 (by decide) ?_
      refine y_goto (tgt := 20) hC dX5_isGlow_16 (by decide) ?_
      refine y_zret (hrt := rfl) (hn := rfl) (hC := hC) (hd := dX5_isGlow_20) (hq := ?_)
      refine ⟨?_, rfl⟩
      try simp only [Int32.lt_iff_toInt_lt, Int32.toInt_zero] at c_1
      try simp only [Int32.le_iff_toInt_le, t1] at c_12
      first | exact (bI_t (by omega)).symm | exact (bI_f (by omega)).symm

theorem dX5_findShades_0 : decode cX5_findShades 0 = .ok (.iconst 0, 1) := by decide +kernel
theorem dX5_findShades_1 : decode cX5_findShades 1 = .ok (.istore_n 1, 1) := by decide +kernel
theorem dX5_findShades_2 : decode cX5_findShades 2 = .ok (.iload_n 1, 1) := by decide +kernel
theorem dX5_findShades_3 : decode cX5_findShades 3 = .ok (.bipush 32, 2) := by decide +kernel
theorem dX5_findShades_5 : decode cX5_findShades 5 = .ok (.if_icmp .ge 24, 3) := by decide +kernel
theorem dX5_findShades_8 : decode cX5_findShades 8 = .ok (.aload_n 0, 1) := by decide +kernel
theorem dX5_findShades_9 : decode cX5_findShades 9 = .ok (.getfield 30, 3) := by decide +kernel
theorem dX5_findShades_12 : decode cX5_findShades 12 = .ok (.iload_n 1, 1) := by decide +kernel
theorem dX5_findShades_13 : decode cX5_findShades 13 = .ok (.aload_n 0, 1) := by decide +kernel
theorem dX5_findShades_14 : decode cX5_findShades 14 = .ok (.getfield 12, 3) := by decide +kernel
theorem dX5_findShades_17 : decode cX5_findShades 17 = .ok (.iload_n 1, 1) := by decide +kernel
theorem dX5_findShades_18 : decode cX5_findShades 18 = .ok (.iconst 0, 1) := by decide +kernel
theorem dX5_findShades_19 : decode cX5_findShades 19 = .ok (.invokevirtual 186, 3) := by decide +kernel
theorem dX5_findShades_22 : decode cX5_findShades 22 = .ok (.iastore, 1) := by decide +kernel
theorem dX5_findShades_23 : decode cX5_findShades 23 = .ok (.iinc 1 1, 3) := by decide +kernel
theorem dX5_findShades_26 : decode cX5_findShades 26 = .ok (.goto (-24), 3) := by decide +kernel
theorem dX5_findShades_29 : decode cX5_findShades 29 = .ok (.return_, 1) := by decide +kernel
set_option maxHeartbeats 4000000 in
set_option maxRecDepth 100000 in
theorem c_X5_findShades (l : Launch) (E : gE) (g : Mem) (S : AS) (B : Nat) (hB : B < 90000000) (ho : OK S B) (sh mk wa : Nat → Int32) (h : CQ E g S sh mk wa) : Mt l E yX5_findShades cX5_findShades 2 none 4 96 [rf E (0)] g (pV (fun g' => ∃ sh2, (∀ k, k < 32 → sh2 k = shd S.r k 0) ∧ CQ E g' S sh2 mk wa)) := by
  have hK := h.k
  have hv := ho.v
  have hrc : rc S.r ≤ 6 := hv.1.2
  have hgc : gc S.r ≤ 4 := hv.2.1.2
  have hc4 := ho.c4
  refine mt_go (own := RX5) (by decide) rfl (lo := [some (rf E (0)), none]) rfl (Nat.le_of_ble_eq_true rfl) (fun X hC => ?_)
  refine y_iconst (v := nI 0) hC dX5_findShades_0 (by decide) ?_
  refine y_istore_n hC dX5_findShades_1 (i := 1) rfl (Nat.le_of_ble_eq_true rfl) rfl (lo' := [some (rf E (0)), some (.int (nI (0)))]) rfl ?_
  have L_2 : ∀ (m : Nat) (i : Nat) (g1 : Mem) (sh1 : Nat → Int32), (hm : 32 - i < m) → (hi : i ≤ 32) → (hq : CQ E g1 S sh1 mk wa) → (hk : ∀ k, k < i → sh1 k = shd S.r k 0) → Y l E X (pV (fun g' => ∃ sh2, (∀ k, k < 32 → sh2 k = shd S.r k 0) ∧ CQ E g' S sh2 mk wa)) 2 [some (rf E (0)), some (.int (nI (i)))] [] g1 := by
    intro m
    induction m with
    | zero => intro i g1 sh1 hm hi hq hk; exact absurd hm (Nat.not_lt_zero _)
    | succ m ih_2 =>
      intro i g1 sh1 hm hi hq hk
      refine y_iload_n hC dX5_findShades_2 (i := 1) rfl rfl ?_
      refine y_bipush (v := nI 32) hC dX5_findShades_3 (by decide) ?_
      refine y_icmp_ge_n (tgt := 29) hC dX5_findShades_5 (by decide) (by omega) (by omega) (fun c_5 => ?_) (fun c_5 => ?_)
      · refine y_vret (hC := hC) (hd := dX5_findShades_29) (hq := ?_)
        exact ⟨sh1, fun k hk2 => hk k (by omega), hq⟩
      · have hk0 := hk
        refine y_aload_n hC dX5_findShades_8 (i := 0) rfl rfl ?_
        refine y_get hC fX5_30 dX5_findShades_9 (k := 0) (by omega) hq.a0 rfl ?_
        refine y_iload_n hC dX5_findShades_12 (i := 1) rfl rfl ?_
        refine y_aload_n hC dX5_findShades_13 (i := 0) rfl rfl ?_
        refine y_get hC fX5_12 dX5_findShades_14 (k := 0) (by omega) hq.a0 rfl ?_
        refine y_iload_n hC dX5_findShades_17 (i := 1) rfl rfl ?_
        refine y_iconst (v := nI 0) hC dX5_findShades_18 (by decide) ?_
        refine y_callV hC mX4_shade kX5_186 dX5_findShades_19 (b := 1) (As := [.int (nI (i)), .int (nI (0))]) (rest := [.int (nI (i)), rf E (97)]) (c_X4_shade l E g1 1 S.r B (by omega) hq.sta hv i 0 (by omega) (by omega)) (by omega) hq.sta.f1 rfl rfl rfl (Nat.le_of_ble_eq_true rfl) ⟨Nat.le_of_ble_eq_true rfl, Nat.le_of_ble_eq_true rfl⟩ (pk_i ?_)
        rintro r_19 g_19 ⟨hr_19, hq_19⟩
        obtain rfl := hq_19.symm
        rw [hr_19]
        clear hr_19 r_19
        refine y_iast hC dX5_findShades_22 (k := 97) (j := i) (by omega) hq.a97 (rfl) (by omega) (by decide) ?_
        have hq_22 : CQ E (va_up g1 (97) (aI E 0 32 (upd sh1 (i) ((shd S.r i 0))))) S (upd sh1 (i) ((shd S.r i 0))) mk wa := hq.up97 _
        generalize (va_up g1 (97) (aI E 0 32 (upd sh1 (i) ((shd S.r i 0))))) = g_22 at hq_22 ⊢
        refine y_iinc_n hC dX5_findShades_23 (a := i) (k := 1) rfl (by decide) (Nat.le_of_ble_eq_true rfl) rfl (lo' := [some (rf E (0)), some (.int (nI (i + 1)))]) rfl ?_
        refine y_goto (tgt := 2) hC dX5_findShades_26 (by decide) ?_
        exact ih_2 (i + 1) g_22 (upd sh1 (i) ((shd S.r i 0))) (by omega) (by omega) hq_22 (fun k hk => by
            by_cases e : k = i
            · rw [e, pk_us]
            · rw [pk_un e]; exact hk0 k (by omega))
  exact L_2 33 0 g sh (by omega) (by omega) h (fun k hk => absurd hk (Nat.not_lt_zero k))

theorem dX5_otherShades_0 : decode cX5_otherShades 0 = .ok (.iconst 0, 1) := by decide +kernel
theorem dX5_otherShades_1 : decode cX5_otherShades 1 = .ok (.istore_n 3, 1) := by decide +kernel
theorem dX5_otherShades_2 : decode cX5_otherShades 2 = .ok (.iload_n 1, 1) := by decide +kernel
theorem dX5_otherShades_3 : decode cX5_otherShades 3 = .ok (.istore 4, 2) := by decide +kernel
theorem dX5_otherShades_5 : decode cX5_otherShades 5 = .ok (.iload 4, 2) := by decide +kernel
theorem dX5_otherShades_7 : decode cX5_otherShades 7 = .ok (.iload_n 2, 1) := by decide +kernel
theorem dX5_otherShades_8 : decode cX5_otherShades 8 = .ok (.if_icmp .gt 32, 3) := by decide +kernel
theorem dX5_otherShades_11 : decode cX5_otherShades 11 = .ok (.aload_n 0, 1) := by decide +kernel
theorem dX5_otherShades_12 : decode cX5_otherShades 12 = .ok (.getfield 30, 3) := by decide +kernel
theorem dX5_otherShades_15 : decode cX5_otherShades 15 = .ok (.iload 4, 2) := by decide +kernel
theorem dX5_otherShades_17 : decode cX5_otherShades 17 = .ok (.iaload, 1) := by decide +kernel
theorem dX5_otherShades_18 : decode cX5_otherShades 18 = .ok (.aload_n 0, 1) := by decide +kernel
theorem dX5_otherShades_19 : decode cX5_otherShades 19 = .ok (.getfield 12, 3) := by decide +kernel
theorem dX5_otherShades_22 : decode cX5_otherShades 22 = .ok (.getfield 48, 3) := by decide +kernel
theorem dX5_otherShades_25 : decode cX5_otherShades 25 = .ok (.iload 4, 2) := by decide +kernel
theorem dX5_otherShades_27 : decode cX5_otherShades 27 = .ok (.iaload, 1) := by decide +kernel
theorem dX5_otherShades_28 : decode cX5_otherShades 28 = .ok (.if_icmp .eq 6, 3) := by decide +kernel
theorem dX5_otherShades_31 : decode cX5_otherShades 31 = .ok (.iinc 3 1, 3) := by decide +kernel
theorem dX5_otherShades_34 : decode cX5_otherShades 34 = .ok (.iinc 4 1, 3) := by decide +kernel
theorem dX5_otherShades_37 : decode cX5_otherShades 37 = .ok (.goto (-32), 3) := by decide +kernel
theorem dX5_otherShades_40 : decode cX5_otherShades 40 = .ok (.iload_n 3, 1) := by decide +kernel
theorem dX5_otherShades_41 : decode cX5_otherShades 41 = .ok (.ireturn, 1) := by decide +kernel
set_option maxHeartbeats 4000000 in
set_option maxRecDepth 100000 in
theorem c_X5_otherShades (l : Launch) (E : gE) (g : Mem) (S : AS) (B : Nat) (hB : B < 90000000) (ho : OK S B) (sh mk wa : Nat → Int32) (h : CQ E g S sh mk wa) (a c : Nat) (hac : a ≤ c) (hc : c < 32) : Mt l E yX5_otherShades cX5_otherShades 5 (some .int) 0 0 [rf E (0), .int (nI (a)), .int (nI (c))] g (pI (fun z g' => z = nI (oth sh S.r a c) ∧ g' = g)) := by
  have hK := h.k
  have hv := ho.v
  have hrc : rc S.r ≤ 6 := hv.1.2
  have hgc : gc S.r ≤ 4 := hv.2.1.2
  have hc4 := ho.c4
  refine mt_go (own := RX5) (by decide) rfl (lo := [some (rf E (0)), some (.int (nI (a))), some (.int (nI (c))), none, none]) rfl (Nat.le_of_ble_eq_true rfl) (fun X hC => ?_)
  obtain ⟨co, pi, π, ρ, V, U, hX, e1, e2, e3, e4⟩ := zStF (r := S.r) (B := B) h.sta hv
  refine y_iconst (v := nI 0) hC dX5_otherShades_0 (by decide) ?_
  refine y_istore_n hC dX5_otherShades_1 (i := 3) rfl (Nat.le_of_ble_eq_true rfl) rfl (lo' := [some (rf E (0)), some (.int (nI (a))), some (.int (nI (c))), some (.int (nI (0))), none]) rfl ?_
  refine y_iload_n hC dX5_otherShades_2 (i := 1) rfl rfl ?_
  refine y_istore hC dX5_otherShades_3 (Nat.le_of_ble_eq_true rfl) rfl (lo' := [some (rf E (0)), some (.int (nI (a))), some (.int (nI (c))), some (.int (nI (0))), some (.int (nI (a)))]) rfl ?_
  have L_5 : ∀ (m : Nat) (i k : Nat), (hm : c + 1 - (a + i) < m) → (hi : a + i ≤ c + 1) → (hk : k = cn i (fun i => decide (¬ sh (a + i) = S.r (a + i)))) → Y l E X (pI (fun z g' => z = nI (oth sh S.r a c) ∧ g' = g)) 5 [some (rf E (0)), some (.int (nI (a))), some (.int (nI (c))), some (.int (nI (k))), some (.int (nI (a + i)))] [] g := by
    intro m
    induction m with
    | zero => intro i k hm hi hk; exact absurd hm (Nat.not_lt_zero _)
    | succ m ih_5 =>
      intro i k hm hi hk
      refine y_iload hC dX5_otherShades_5 rfl ?_
      refine y_iload_n hC dX5_otherShades_7 (i := 2) rfl rfl ?_
      refine y_icmp_gt_n (tgt := 40) hC dX5_otherShades_8 (by decide) (by omega) (by omega) (fun c_8 => ?_) (fun c_8 => ?_)
      · refine y_iload_n hC dX5_otherShades_40 (i := 3) rfl rfl ?_
        refine y_iret (hC := hC) (hd := dX5_otherShades_41) (hq := ?_)
        exact ⟨congrArg nI (by rw [hk]; unfold oth; rw [show i = c + 1 - a by omega]), rfl⟩
      · have hcl := cn_le i (fun i => decide (¬ sh (a + i) = S.r (a + i)))
        refine y_aload_n hC dX5_otherShades_11 (i := 0) rfl rfl ?_
        refine y_get hC fX5_30 dX5_otherShades_12 (k := 0) (by omega) h.a0 rfl ?_
        refine y_iload hC dX5_otherShades_15 rfl ?_
        refine y_iald hC dX5_otherShades_17 (k := 97) (j := a + i) (by omega) h.a97 (rfl) (by omega) (by decide) ?_
        refine y_aload_n hC dX5_otherShades_18 (i := 0) rfl rfl ?_
        refine y_get hC fX5_12 dX5_otherShades_19 (k := 0) (by omega) h.a0 rfl ?_
        refine y_get hC fX5_48 dX5_otherShades_22 (k := 1) (hX.k (k := 0) (by decide)) hX.s0 rfl ?_
        refine y_iload hC dX5_otherShades_25 rfl ?_
        refine y_iald hC dX5_otherShades_27 (k := 1 + 1) (j := a + i) (hX.k (k := 1) (by decide)) hX.s1 (rfl) (by omega) (by decide) ?_
        refine y_top (y := (S.r (a + i))) (e1 (a + i) (by omega)) ?_
        refine y_icmp_eq (tgt := 34) hC dX5_otherShades_28 (by decide) (fun c_28 => ?_) (fun c_28 => ?_)
        · refine y_iinc_n hC dX5_otherShades_34 (a := a + i) (k := 1) rfl (by decide) (Nat.le_of_ble_eq_true rfl) rfl (lo' := [some (rf E (0)), some (.int (nI (a))), some (.int (nI (c))), some (.int (nI (k))), some (.int (nI (a + i + 1)))]) rfl ?_
          refine y_goto (tgt := 5) hC dX5_otherShades_37 (by decide) ?_
          exact ih_5 (i + 1) _ (by omega) (by omega) (by rw [cn_s, ← hk]; simp only [decide_eq_true_eq]; first | rw [if_pos c_28] | rw [if_neg (fun q => q c_28), Nat.add_zero])
        · refine y_iinc_n hC dX5_otherShades_31 (a := k) (k := 1) rfl (by decide) (Nat.le_of_ble_eq_true rfl) rfl (lo' := [some (rf E (0)), some (.int (nI (a))), some (.int (nI (c))), some (.int (nI (k + 1))), some (.int (nI (a + i)))]) rfl ?_
          refine y_iinc_n hC dX5_otherShades_34 (a := a + i) (k := 1) rfl (by decide) (Nat.le_of_ble_eq_true rfl) rfl (lo' := [some (rf E (0)), some (.int (nI (a))), some (.int (nI (c))), some (.int (nI (k + 1))), some (.int (nI (a + i + 1)))]) rfl ?_
          refine y_goto (tgt := 5) hC dX5_otherShades_37 (by decide) ?_
          exact ih_5 (i + 1) _ (by omega) (by omega) (by rw [cn_s, ← hk]; simp only [decide_eq_true_eq]; first | rw [if_pos c_28] | rw [if_neg (fun q => q c_28), Nat.add_zero])
  exact L_5 (c + 2) 0 0 (by omega) (by omega) rfl

theorem dX5_setShades_0 : decode cX5_setShades 0 = .ok (.iload_n 1, 1) := by decide +kernel
theorem dX5_setShades_1 : decode cX5_setShades 1 = .ok (.istore_n 3, 1) := by decide +kernel
theorem dX5_setShades_2 : decode cX5_setShades 2 = .ok (.iload_n 3, 1) := by decide +kernel
theorem dX5_setShades_3 : decode cX5_setShades 3 = .ok (.iload_n 2, 1) := by decide +kernel
theorem dX5_setShades_4 : decode cX5_setShades 4 = .ok (.if_icmp .gt 24, 3) := by decide +kernel
theorem dX5_setShades_7 : decode cX5_setShades 7 = .ok (.aload_n 0, 1) := by decide +kernel
theorem dX5_setShades_8 : decode cX5_setShades 8 = .ok (.getfield 12, 3) := by decide +kernel
theorem dX5_setShades_11 : decode cX5_setShades 11 = .ok (.getfield 48, 3) := by decide +kernel
theorem dX5_setShades_14 : decode cX5_setShades 14 = .ok (.iload_n 3, 1) := by decide +kernel
theorem dX5_setShades_15 : decode cX5_setShades 15 = .ok (.aload_n 0, 1) := by decide +kernel
theorem dX5_setShades_16 : decode cX5_setShades 16 = .ok (.getfield 30, 3) := by decide +kernel
theorem dX5_setShades_19 : decode cX5_setShades 19 = .ok (.iload_n 3, 1) := by decide +kernel
theorem dX5_setShades_20 : decode cX5_setShades 20 = .ok (.iaload, 1) := by decide +kernel
theorem dX5_setShades_21 : decode cX5_setShades 21 = .ok (.iastore, 1) := by decide +kernel
theorem dX5_setShades_22 : decode cX5_setShades 22 = .ok (.iinc 3 1, 3) := by decide +kernel
theorem dX5_setShades_25 : decode cX5_setShades 25 = .ok (.goto (-23), 3) := by decide +kernel
theorem dX5_setShades_28 : decode cX5_setShades 28 = .ok (.return_, 1) := by decide +kernel
set_option maxHeartbeats 4000000 in
set_option maxRecDepth 100000 in
theorem c_X5_setShades (l : Launch) (E : gE) (g : Mem) (S : AS) (B : Nat) (hB : B < 90000000) (ho : OK S B) (sh mk wa : Nat → Int32) (h : CQ E g S sh mk wa) (a c : Nat) (hac : a ≤ c) (hc : c < 32) : Mt l E yX5_setShades cX5_setShades 4 none 0 0 [rf E (0), .int (nI (a)), .int (nI (c))] g (pV (fun g' => CQ E g' (S.row (putR S.r a c sh)) sh mk wa)) := by
  have hK := h.k
  have hv := ho.v
  have hrc : rc S.r ≤ 6 := hv.1.2
  have hgc : gc S.r ≤ 4 := hv.2.1.2
  have hc4 := ho.c4
  refine mt_go (own := RX5) (by decide) rfl (lo := [some (rf E (0)), some (.int (nI (a))), some (.int (nI (c))), none]) rfl (Nat.le_of_ble_eq_true rfl) (fun X hC => ?_)
  obtain ⟨co, pi, π, ρ, V, U, hX, e1, e2, e3, e4⟩ := zStF (r := S.r) (B := B) h.sta hv
  refine y_iload_n hC dX5_setShades_0 (i := 1) rfl rfl ?_
  refine y_istore_n hC dX5_setShades_1 (i := 3) rfl (Nat.le_of_ble_eq_true rfl) rfl (lo' := [some (rf E (0)), some (.int (nI (a))), some (.int (nI (c))), some (.int (nI (a)))]) rfl ?_
  have L_2 : ∀ (m : Nat) (i : Nat) (g1 : Mem) (co1 : Nat → Int32), (hm : c + 1 - (a + i) < m) → (hi : a + i ≤ c + 1) → (hX1 : SF E g g1 1 co1 pi π ρ V U (v4 (nI (rc S.r)) (nI (gc S.r)) (nI (nn (S.r 156))) (nI (nn (S.r 157))))) → (hk : ∀ k, k < 32 → co1 k = if a ≤ k ∧ k < a + i then sh k else S.r k) → Y l E X (pV (fun g' => CQ E g' (S.row (putR S.r a c sh)) sh mk wa)) 2 [some (rf E (0)), some (.int (nI (a))), some (.int (nI (c))), some (.int (nI (a + i)))] [] g1 := by
    intro m
    induction m with
    | zero => intro i g1 co1 hm hi hX1 hk; exact absurd hm (Nat.not_lt_zero _)
    | succ m ih_2 =>
      intro i g1 co1 hm hi hX1 hk
      refine y_iload_n hC dX5_setShades_2 (i := 3) rfl rfl ?_
      refine y_iload_n hC dX5_setShades_3 (i := 2) rfl rfl ?_
      refine y_icmp_gt_n (tgt := 28) hC dX5_setShades_4 (by decide) (by omega) (by omega) (fun c_4 => ?_) (fun c_4 => ?_)
      · refine y_vret (hC := hC) (hd := dX5_setShades_28) (hq := ?_)
        have hr := hX1.st (sr_c (r2 := putR S.r a c sh) hv e2 e3 e4 (fun k hk2 => by
          rw [hk k hk2]
          unfold putR
          by_cases q : a ≤ k ∧ k < a + i
          · rw [if_pos q, if_pos (by omega)]
          · rw [if_neg q, if_neg (by omega)]) (fun k hk2 => putR_lo hc hk2))
        exact h.upst hr.1 hr.2
      · have hk0 := hk
        refine y_aload_n hC dX5_setShades_7 (i := 0) rfl rfl ?_
        refine y_get hC fX5_12 dX5_setShades_8 (k := 0) (by omega) ((hX1.fr 0 (by omega)).trans h.a0) rfl ?_
        refine y_get hC fX5_48 dX5_setShades_11 (k := 1) (hX1.k (k := 0) (by decide)) hX1.s0 rfl ?_
        refine y_iload_n hC dX5_setShades_14 (i := 3) rfl rfl ?_
        refine y_aload_n hC dX5_setShades_15 (i := 0) rfl rfl ?_
        refine y_get hC fX5_30 dX5_setShades_16 (k := 0) (by omega) ((hX1.fr 0 (by omega)).trans h.a0) rfl ?_
        refine y_iload_n hC dX5_setShades_19 (i := 3) rfl rfl ?_
        refine y_iald hC dX5_setShades_20 (k := 97) (j := a + i) (by omega) ((hX1.fr 97 (by omega)).trans h.a97) (rfl) (by omega) (by decide) ?_
        refine y_iast hC dX5_setShades_21 (k := 1 + 1) (j := a + i) (hX1.k (k := 1) (by decide)) hX1.s1 (rfl) (by omega) (by decide) ?_
        have hX_21 : SF E g (va_up g1 (1 + 1) (aI E 0 32 (upd co1 (a + i) ((sh (a + i)))))) 1 (upd co1 (a + i) ((sh (a + i)))) pi π ρ V U (v4 (nI (rc S.r)) (nI (gc S.r)) (nI (nn (S.r 156))) (nI (nn (S.r 157)))) := hX1.upco _
        generalize (va_up g1 (1 + 1) (aI E 0 32 (upd co1 (a + i) ((sh (a + i)))))) = g_21 at hX_21 ⊢
        refine y_iinc_n hC dX5_setShades_22 (a := a + i) (k := 1) rfl (by decide) (Nat.le_of_ble_eq_true rfl) rfl (lo' := [some (rf E (0)), some (.int (nI (a))), some (.int (nI (c))), some (.int (nI (a + i + 1)))]) rfl ?_
        refine y_goto (tgt := 2) hC dX5_setShades_25 (by decide) ?_
        exact ih_2 (i + 1) g_21 _ (by omega) (by omega) hX_21 (fun k hk2 => by
            by_cases e : k = a + i
            · rw [e, pk_us, if_pos (by omega)]
            · rw [pk_un e, hk0 k hk2]
              by_cases q : a ≤ k ∧ k < a + i
              · rw [if_pos q, if_pos (by omega)]
              · rw [if_neg q, if_neg (by omega)])
  exact L_2 (c + 2) 0 g co (by omega) (by omega) hX (fun k hk => by rw [if_neg (by omega)]; exact e1 k hk)

theorem dX5_setColour_0 : decode cX5_setColour 0 = .ok (.iload_n 1, 1) := by decide +kernel
theorem dX5_setColour_1 : decode cX5_setColour 1 = .ok (.invokestatic 41, 3) := by decide +kernel
theorem dX5_setColour_4 : decode cX5_setColour 4 = .ok (.ifCond .ne 5, 3) := by decide +kernel
theorem dX5_setColour_7 : decode cX5_setColour 7 = .ok (.iconst (-1), 1) := by decide +kernel
theorem dX5_setColour_8 : decode cX5_setColour 8 = .ok (.ireturn, 1) := by decide +kernel
theorem dX5_setColour_9 : decode cX5_setColour 9 = .ok (.iload_n 2, 1) := by decide +kernel
theorem dX5_setColour_10 : decode cX5_setColour 10 = .ok (.invokestatic 45, 3) := by decide +kernel
theorem dX5_setColour_13 : decode cX5_setColour 13 = .ok (.ifCond .ne 6, 3) := by decide +kernel
theorem dX5_setColour_16 : decode cX5_setColour 16 = .ok (.bipush (-2), 2) := by decide +kernel
theorem dX5_setColour_18 : decode cX5_setColour 18 = .ok (.ireturn, 1) := by decide +kernel
theorem dX5_setColour_19 : decode cX5_setColour 19 = .ok (.aload_n 0, 1) := by decide +kernel
theorem dX5_setColour_20 : decode cX5_setColour 20 = .ok (.getfield 12, 3) := by decide +kernel
theorem dX5_setColour_23 : decode cX5_setColour 23 = .ok (.getfield 48, 3) := by decide +kernel
theorem dX5_setColour_26 : decode cX5_setColour 26 = .ok (.iload_n 1, 1) := by decide +kernel
theorem dX5_setColour_27 : decode cX5_setColour 27 = .ok (.iaload, 1) := by decide +kernel
theorem dX5_setColour_28 : decode cX5_setColour 28 = .ok (.istore_n 3, 1) := by decide +kernel
theorem dX5_setColour_29 : decode cX5_setColour 29 = .ok (.iload_n 3, 1) := by decide +kernel
theorem dX5_setColour_30 : decode cX5_setColour 30 = .ok (.iload_n 2, 1) := by decide +kernel
theorem dX5_setColour_31 : decode cX5_setColour 31 = .ok (.if_icmp .ne 6, 3) := by decide +kernel
theorem dX5_setColour_34 : decode cX5_setColour 34 = .ok (.bipush (-5), 2) := by decide +kernel
theorem dX5_setColour_36 : decode cX5_setColour 36 = .ok (.ireturn, 1) := by decide +kernel
theorem dX5_setColour_37 : decode cX5_setColour 37 = .ok (.aload_n 0, 1) := by decide +kernel
theorem dX5_setColour_38 : decode cX5_setColour 38 = .ok (.getfield 19, 3) := by decide +kernel
theorem dX5_setColour_41 : decode cX5_setColour 41 = .ok (.aload_n 0, 1) := by decide +kernel
theorem dX5_setColour_42 : decode cX5_setColour 42 = .ok (.getfield 12, 3) := by decide +kernel
theorem dX5_setColour_45 : decode cX5_setColour 45 = .ok (.invokevirtual 51, 3) := by decide +kernel
theorem dX5_setColour_48 : decode cX5_setColour 48 = .ok (.aload_n 0, 1) := by decide +kernel
theorem dX5_setColour_49 : decode cX5_setColour 49 = .ok (.getfield 12, 3) := by decide +kernel
theorem dX5_setColour_52 : decode cX5_setColour 52 = .ok (.getfield 48, 3) := by decide +kernel
theorem dX5_setColour_55 : decode cX5_setColour 55 = .ok (.iload_n 1, 1) := by decide +kernel
theorem dX5_setColour_56 : decode cX5_setColour 56 = .ok (.iload_n 2, 1) := by decide +kernel
theorem dX5_setColour_57 : decode cX5_setColour 57 = .ok (.iastore, 1) := by decide +kernel
theorem dX5_setColour_58 : decode cX5_setColour 58 = .ok (.iload_n 3, 1) := by decide +kernel
theorem dX5_setColour_59 : decode cX5_setColour 59 = .ok (.ireturn, 1) := by decide +kernel
set_option maxHeartbeats 4000000 in
set_option maxRecDepth 100000 in
theorem c_X5_setColour (l : Launch) (E : gE) (g : Mem) (S : AS) (B : Nat) (hB : B < 90000000) (ho : OK S B) (sh mk wa : Nat → Int32) (h : CQ E g S sh mk wa) (xa xb : Int32) : Mt l E yX5_setColour cX5_setColour 4 (some .int) 3 69 [rf E (0), .int (xa), .int (xb)] g (pI (fun z g' => z = (qSetColour S xa xb).1 ∧ CP E g' (qSetColour S xa xb).2)) := by
  have hK := h.k
  have hv := ho.v
  have hrc : rc S.r ≤ 6 := hv.1.2
  have hgc : gc S.r ≤ 4 := hv.2.1.2
  have hc4 := ho.c4
  refine mt_go (own := RX5) (by decide) rfl (lo := [some (rf E (0)), some (.int (xa)), some (.int (xb)), none]) rfl (Nat.le_of_ble_eq_true rfl) (fun X hC => ?_)
  obtain ⟨co, pi, π, ρ, V, U, hX, e1, e2, e3, e4⟩ := zStF (r := S.r) (B := B) h.sta hv
  refine y_iload_n hC dX5_setColour_0 (i := 1) rfl rfl ?_
  refine y_callS hC mX5_isPlace kX5_41 dX5_setColour_1 (As := [.int (xa)]) (rest := []) (c_X5_isPlace l E g ((xa))) rfl rfl rfl (Nat.le_of_ble_eq_true rfl) ⟨Nat.le_of_ble_eq_true rfl, Nat.le_of_ble_eq_true rfl⟩ (pk_i ?_)
  rintro r_1 g_1 ⟨hr_1, hq_1⟩
  obtain rfl := hq_1.symm
  rw [hr_1]
  clear hr_1 r_1
  refine y_if_ne_b (tgt := 9) hC dX5_setColour_4 (by decide) (fun c_4 => ?_) (fun c_4 => ?_)
  · obtain ⟨p, hp, hpx⟩ := zN (m := 31) c_4
    subst hpx
    refine y_iload_n hC dX5_setColour_9 (i := 2) rfl rfl ?_
    refine y_callS hC mX5_isColour kX5_45 dX5_setColour_10 (As := [.int (xb)]) (rest := []) (c_X5_isColour l E g ((xb))) rfl rfl rfl (Nat.le_of_ble_eq_true rfl) ⟨Nat.le_of_ble_eq_true rfl, Nat.le_of_ble_eq_true rfl⟩ (pk_i ?_)
    rintro r_10 g_10 ⟨hr_10, hq_10⟩
    obtain rfl := hq_10.symm
    rw [hr_10]
    clear hr_10 r_10
    refine y_if_ne_b (tgt := 19) hC dX5_setColour_13 (by decide) (fun c_13 => ?_) (fun c_13 => ?_)
    · refine y_aload_n hC dX5_setColour_19 (i := 0) rfl rfl ?_
      refine y_get hC fX5_12 dX5_setColour_20 (k := 0) (by omega) h.a0 rfl ?_
      refine y_get hC fX5_48 dX5_setColour_23 (k := 1) (hX.k (k := 0) (by decide)) hX.s0 rfl ?_
      refine y_iload_n hC dX5_setColour_26 (i := 1) rfl rfl ?_
      refine y_iald hC dX5_setColour_27 (k := 1 + 1) (j := p) (hX.k (k := 1) (by decide)) hX.s1 (rfl) (by omega) (by decide) ?_
      refine y_top (y := (S.r (p))) (e1 p (by omega)) ?_
      refine y_istore_n hC dX5_setColour_28 (i := 3) rfl (Nat.le_of_ble_eq_true rfl) rfl (lo' := [some (rf E (0)), some (.int (nI (p))), some (.int (xb)), some (.int (S.r (p)))]) rfl ?_
      refine y_iload_n hC dX5_setColour_29 (i := 3) rfl rfl ?_
      refine y_iload_n hC dX5_setColour_30 (i := 2) rfl rfl ?_
      refine y_icmp_ne (tgt := 37) hC dX5_setColour_31 (by decide) (fun c_31 => ?_) (fun c_31 => ?_)
      · refine y_aload_n hC dX5_setColour_37 (i := 0) rfl rfl ?_
        refine y_get hC fX5_19 dX5_setColour_38 (k := 0) (by omega) h.a0 rfl ?_
        refine y_aload_n hC dX5_setColour_41 (i := 0) rfl rfl ?_
        refine y_get hC fX5_12 dX5_setColour_42 (k := 0) (by omega) h.a0 rfl ?_
        refine y_callV hC mX1_record kX5_51 dX5_setColour_45 (b := 16) (As := [rf E (1)]) (rest := []) (c_X1_record l E g S.c S.kp S.hr S.sn S.r B h.ha h.sta hv) (by omega) h.a16 rfl rfl rfl (Nat.le_of_ble_eq_true rfl) ⟨Nat.le_of_ble_eq_true rfl, Nat.le_of_ble_eq_true rfl⟩ (pk_v ?_)
        rintro g_45 hrec_45
        have hq_45 := h.uprec hrec_45
        obtain ⟨co_45, pi_45, π_45, ρ_45, V_45, U_45, hX_45, e1_45, e2_45, e3_45, e4_45⟩ := zStF (r := S.r) (B := B) hq_45.sta hv
        refine y_aload_n hC dX5_setColour_48 (i := 0) rfl rfl ?_
        refine y_get hC fX5_12 dX5_setColour_49 (k := 0) (by omega) hq_45.a0 rfl ?_
        refine y_get hC fX5_48 dX5_setColour_52 (k := 1) (hX_45.k (k := 0) (by decide)) hX_45.s0 rfl ?_
        refine y_iload_n hC dX5_setColour_55 (i := 1) rfl rfl ?_
        refine y_iload_n hC dX5_setColour_56 (i := 2) rfl rfl ?_
        refine y_iast hC dX5_setColour_57 (k := 1 + 1) (j := p) (hX_45.k (k := 1) (by decide)) hX_45.s1 (rfl) (by omega) (by decide) ?_
        have hX_57 : SF E g_45 (va_up g_45 (1 + 1) (aI E 0 32 (upd co_45 (p) ((xb))))) 1 (upd co_45 (p) ((xb))) pi_45 π_45 ρ_45 V_45 U_45 (v4 (nI (rc S.r)) (nI (gc S.r)) (nI (nn (S.r 156))) (nI (nn (S.r 157)))) := hX_45.upco _
        generalize (va_up g_45 (1 + 1) (aI E 0 32 (upd co_45 (p) ((xb))))) = g_57 at hX_57 ⊢
        have hr := hX_57.st (sr_c (r2 := upd S.r p xb) hv e2_45 e3_45 e4_45 (fun k hk => by
          by_cases e : k = p
          · rw [e, pk_us, pk_us]
          · rw [pk_un e, pk_un e]; exact e1_45 k hk) (fun k hk => pk_un (by omega)))
        refine y_iload_n hC dX5_setColour_58 (i := 3) rfl rfl ?_
        refine y_iret (hC := hC) (hd := dX5_setColour_59) (hq := ?_)
        have hqq : qSetColour S (nI p) xb = (S.r p, S.rec.row (upd S.r p xb)) := by simp only [qSetColour, nn_I (show p < 2147483648 by omega), if_pos c_4, if_pos c_13, if_neg c_31]
        rw [hqq]
        exact ⟨rfl, (hq_45.upst hr.1 hr.2).cp⟩
      · refine y_bipush (v := (-5)) hC dX5_setColour_34 (by decide) ?_
        refine y_iret (hC := hC) (hd := dX5_setColour_36) (hq := ?_)
        have hqq : qSetColour S (nI p) xb = (-5, S) := by simp only [qSetColour, nn_I (show p < 2147483648 by omega), if_pos c_4, if_pos c_13, if_pos c_31]
        rw [hqq]
        exact ⟨rfl, h.cp⟩
    · refine y_bipush (v := (-2)) hC dX5_setColour_16 (by decide) ?_
      refine y_iret (hC := hC) (hd := dX5_setColour_18) (hq := ?_)
      have hqq : qSetColour S (nI p) xb = (-2, S) := by simp only [qSetColour, nn_I (show p < 2147483648 by omega), if_pos c_4, if_neg c_13]
      rw [hqq]
      exact ⟨rfl, h.cp⟩
  · refine y_iconst (v := (-1)) hC dX5_setColour_7 (by decide) ?_
    refine y_iret (hC := hC) (hd := dX5_setColour_8) (hq := ?_)
    have hqq : qSetColour S xa xb = (-1, S) := by simp only [qSetColour, if_neg c_4]
    rw [hqq]
    exact ⟨rfl, h.cp⟩

theorem dX5_addRange_0 : decode cX5_addRange 0 = .ok (.iload_n 1, 1) := by decide +kernel
theorem dX5_addRange_1 : decode cX5_addRange 1 = .ok (.invokestatic 41, 3) := by decide +kernel
theorem dX5_addRange_4 : decode cX5_addRange 4 = .ok (.ifCond .ne 5, 3) := by decide +kernel
theorem dX5_addRange_7 : decode cX5_addRange 7 = .ok (.iconst (-1), 1) := by decide +kernel
theorem dX5_addRange_8 : decode cX5_addRange 8 = .ok (.ireturn, 1) := by decide +kernel
theorem dX5_addRange_9 : decode cX5_addRange 9 = .ok (.iload_n 2, 1) := by decide +kernel
theorem dX5_addRange_10 : decode cX5_addRange 10 = .ok (.invokestatic 41, 3) := by decide +kernel
theorem dX5_addRange_13 : decode cX5_addRange 13 = .ok (.ifCond .eq 23, 3) := by decide +kernel
theorem dX5_addRange_16 : decode cX5_addRange 16 = .ok (.iload_n 2, 1) := by decide +kernel
theorem dX5_addRange_17 : decode cX5_addRange 17 = .ok (.iload_n 1, 1) := by decide +kernel
theorem dX5_addRange_18 : decode cX5_addRange 18 = .ok (.if_icmp .le 18, 3) := by decide +kernel
theorem dX5_addRange_21 : decode cX5_addRange 21 = .ok (.iload_n 3, 1) := by decide +kernel
theorem dX5_addRange_22 : decode cX5_addRange 22 = .ok (.invokestatic 73, 3) := by decide +kernel
theorem dX5_addRange_25 : decode cX5_addRange 25 = .ok (.ifCond .eq 11, 3) := by decide +kernel
theorem dX5_addRange_28 : decode cX5_addRange 28 = .ok (.iload 4, 2) := by decide +kernel
theorem dX5_addRange_30 : decode cX5_addRange 30 = .ok (.invokestatic 76, 3) := by decide +kernel
theorem dX5_addRange_33 : decode cX5_addRange 33 = .ok (.ifCond .ne 6, 3) := by decide +kernel
theorem dX5_addRange_36 : decode cX5_addRange 36 = .ok (.bipush (-2), 2) := by decide +kernel
theorem dX5_addRange_38 : decode cX5_addRange 38 = .ok (.ireturn, 1) := by decide +kernel
theorem dX5_addRange_39 : decode cX5_addRange 39 = .ok (.aload_n 0, 1) := by decide +kernel
theorem dX5_addRange_40 : decode cX5_addRange 40 = .ok (.getfield 12, 3) := by decide +kernel
theorem dX5_addRange_43 : decode cX5_addRange 43 = .ok (.iload_n 1, 1) := by decide +kernel
theorem dX5_addRange_44 : decode cX5_addRange 44 = .ok (.iload_n 2, 1) := by decide +kernel
theorem dX5_addRange_45 : decode cX5_addRange 45 = .ok (.invokevirtual 79, 3) := by decide +kernel
theorem dX5_addRange_48 : decode cX5_addRange 48 = .ok (.ifCond .eq 6, 3) := by decide +kernel
theorem dX5_addRange_51 : decode cX5_addRange 51 = .ok (.bipush (-4), 2) := by decide +kernel
theorem dX5_addRange_53 : decode cX5_addRange 53 = .ok (.ireturn, 1) := by decide +kernel
theorem dX5_addRange_54 : decode cX5_addRange 54 = .ok (.aload_n 0, 1) := by decide +kernel
theorem dX5_addRange_55 : decode cX5_addRange 55 = .ok (.getfield 12, 3) := by decide +kernel
theorem dX5_addRange_58 : decode cX5_addRange 58 = .ok (.getfield 83, 3) := by decide +kernel
theorem dX5_addRange_61 : decode cX5_addRange 61 = .ok (.bipush 6, 2) := by decide +kernel
theorem dX5_addRange_63 : decode cX5_addRange 63 = .ok (.if_icmp .lt 6, 3) := by decide +kernel
theorem dX5_addRange_66 : decode cX5_addRange 66 = .ok (.bipush (-3), 2) := by decide +kernel
theorem dX5_addRange_68 : decode cX5_addRange 68 = .ok (.ireturn, 1) := by decide +kernel
theorem dX5_addRange_69 : decode cX5_addRange 69 = .ok (.aload_n 0, 1) := by decide +kernel
theorem dX5_addRange_70 : decode cX5_addRange 70 = .ok (.getfield 19, 3) := by decide +kernel
theorem dX5_addRange_73 : decode cX5_addRange 73 = .ok (.aload_n 0, 1) := by decide +kernel
theorem dX5_addRange_74 : decode cX5_addRange 74 = .ok (.getfield 12, 3) := by decide +kernel
theorem dX5_addRange_77 : decode cX5_addRange 77 = .ok (.invokevirtual 51, 3) := by decide +kernel
theorem dX5_addRange_80 : decode cX5_addRange 80 = .ok (.aload_n 0, 1) := by decide +kernel
theorem dX5_addRange_81 : decode cX5_addRange 81 = .ok (.getfield 12, 3) := by decide +kernel
theorem dX5_addRange_84 : decode cX5_addRange 84 = .ok (.iload_n 1, 1) := by decide +kernel
theorem dX5_addRange_85 : decode cX5_addRange 85 = .ok (.iload_n 2, 1) := by decide +kernel
theorem dX5_addRange_86 : decode cX5_addRange 86 = .ok (.iload_n 3, 1) := by decide +kernel
theorem dX5_addRange_87 : decode cX5_addRange 87 = .ok (.iload 4, 2) := by decide +kernel
theorem dX5_addRange_89 : decode cX5_addRange 89 = .ok (.invokevirtual 87, 3) := by decide +kernel
theorem dX5_addRange_92 : decode cX5_addRange 92 = .ok (.ireturn, 1) := by decide +kernel
set_option maxHeartbeats 4000000 in
set_option maxRecDepth 100000 in
theorem c_X5_addRange (l : Launch) (E : gE) (g : Mem) (S : AS) (B : Nat) (hB : B < 90000000) (ho : OK S B) (sh mk wa : Nat → Int32) (h : CQ E g S sh mk wa) (xa xb xs xw : Int32) : Mt l E yX5_addRange cX5_addRange 5 (some .int) 4 90 [rf E (0), .int (xa), .int (xb), .int (xs), .int (xw)] g (pI (fun z g' => z = (qAddRange S xa xb xs xw).1 ∧ CP E g' (qAddRange S xa xb xs xw).2)) := by
  have hK := h.k
  have hv := ho.v
  have hrc : rc S.r ≤ 6 := hv.1.2
  have hgc : gc S.r ≤ 4 := hv.2.1.2
  have hc4 := ho.c4
  refine mt_go (own := RX5) (by decide) rfl (lo := [some (rf E (0)), some (.int (xa)), some (.int (xb)), some (.int (xs)), some (.int (xw))]) rfl (Nat.le_of_ble_eq_true rfl) (fun X hC => ?_)
  obtain ⟨co, pi, π, ρ, V, U, hX, e1, e2, e3, e4⟩ := zStF (r := S.r) (B := B) h.sta hv
  refine y_iload_n hC dX5_addRange_0 (i := 1) rfl rfl ?_
  refine y_callS hC mX5_isPlace kX5_41 dX5_addRange_1 (As := [.int (xa)]) (rest := []) (c_X5_isPlace l E g ((xa))) rfl rfl rfl (Nat.le_of_ble_eq_true rfl) ⟨Nat.le_of_ble_eq_true rfl, Nat.le_of_ble_eq_true rfl⟩ (pk_i ?_)
  rintro r_1 g_1 ⟨hr_1, hq_1⟩
  obtain rfl := hq_1.symm
  rw [hr_1]
  clear hr_1 r_1
  refine y_if_ne_b (tgt := 9) hC dX5_addRange_4 (by decide) (fun c_4 => ?_) (fun c_4 => ?_)
  · obtain ⟨p, hp, hpx⟩ := zN (m := 31) c_4
    subst hpx
    refine y_iload_n hC dX5_addRange_9 (i := 2) rfl rfl ?_
    refine y_callS hC mX5_isPlace kX5_41 dX5_addRange_10 (As := [.int (xb)]) (rest := []) (c_X5_isPlace l E g ((xb))) rfl rfl rfl (Nat.le_of_ble_eq_true rfl) ⟨Nat.le_of_ble_eq_true rfl, Nat.le_of_ble_eq_true rfl⟩ (pk_i ?_)
    rintro r_10 g_10 ⟨hr_10, hq_10⟩
    obtain rfl := hq_10.symm
    rw [hr_10]
    clear hr_10 r_10
    refine y_if_eq_b (tgt := 36) hC dX5_addRange_13 (by decide) (fun c_13 => ?_) (fun c_13 => ?_)
    · refine y_bipush (v := (-2)) hC dX5_addRange_36 (by decide) ?_
      refine y_iret (hC := hC) (hd := dX5_addRange_38) (hq := ?_)
      have hqq : qAddRange S (nI p) xb xs xw = (-2, S) := by simp only [qAddRange, nn_I (show p < 2147483648 by omega), if_pos c_4]; exact if_neg (fun q => c_13 q.1.1)
      rw [hqq]
      exact ⟨rfl, h.cp⟩
    · obtain ⟨q, hq, hqx⟩ := zN (m := 31) c_13
      subst hqx
      refine y_iload_n hC dX5_addRange_16 (i := 2) rfl rfl ?_
      refine y_iload_n hC dX5_addRange_17 (i := 1) rfl rfl ?_
      refine y_icmp_le_n (tgt := 36) hC dX5_addRange_18 (by decide) (by omega) (by omega) (fun c_18 => ?_) (fun c_18 => ?_)
      · refine y_bipush (v := (-2)) hC dX5_addRange_36 (by decide) ?_
        refine y_iret (hC := hC) (hd := dX5_addRange_38) (hq := ?_)
        have hqq : qAddRange S (nI p) (nI q) xs xw = (-2, S) := by simp only [qAddRange, nn_I (show p < 2147483648 by omega), nn_I (show q < 2147483648 by omega), if_pos c_4]; exact if_neg (fun q => absurd q.1.2 (by omega))
        rw [hqq]
        exact ⟨rfl, h.cp⟩
      · refine y_iload_n hC dX5_addRange_21 (i := 3) rfl rfl ?_
        refine y_callS hC mX5_isLength kX5_73 dX5_addRange_22 (As := [.int (xs)]) (rest := []) (c_X5_isLength l E g ((xs))) rfl rfl rfl (Nat.le_of_ble_eq_true rfl) ⟨Nat.le_of_ble_eq_true rfl, Nat.le_of_ble_eq_true rfl⟩ (pk_i ?_)
        rintro r_22 g_22 ⟨hr_22, hq_22⟩
        obtain rfl := hq_22.symm
        rw [hr_22]
        clear hr_22 r_22
        refine y_if_eq_b (tgt := 36) hC dX5_addRange_25 (by decide) (fun c_25 => ?_) (fun c_25 => ?_)
        · refine y_bipush (v := (-2)) hC dX5_addRange_36 (by decide) ?_
          refine y_iret (hC := hC) (hd := dX5_addRange_38) (hq := ?_)
          have hqq : qAddRange S (nI p) (nI q) xs xw = (-2, S) := by simp only [qAddRange, nn_I (show p < 2147483648 by omega), nn_I (show q < 2147483648 by omega), if_pos c_4]; exact if_neg (fun q => c_25 q.2.1)
          rw [hqq]
          exact ⟨rfl, h.cp⟩
        · refine y_iload hC dX5_addRange_28 rfl ?_
          refine y_callS hC mX5_isWay kX5_76 dX5_addRange_30 (As := [.int (xw)]) (rest := []) (c_X5_isWay l E g ((xw))) rfl rfl rfl (Nat.le_of_ble_eq_true rfl) ⟨Nat.le_of_ble_eq_true rfl, Nat.le_of_ble_eq_true rfl⟩ (pk_i ?_)
          rintro r_30 g_30 ⟨hr_30, hq_30⟩
          obtain rfl := hq_30.symm
          rw [hr_30]
          clear hr_30 r_30
          refine y_if_ne_b (tgt := 39) hC dX5_addRange_33 (by decide) (fun c_33 => ?_) (fun c_33 => ?_)
          · refine y_aload_n hC dX5_addRange_39 (i := 0) rfl rfl ?_
            refine y_get hC fX5_12 dX5_addRange_40 (k := 0) (by omega) h.a0 rfl ?_
            refine y_iload_n hC dX5_addRange_43 (i := 1) rfl rfl ?_
            refine y_iload_n hC dX5_addRange_44 (i := 2) rfl rfl ?_
            refine y_callV hC mX4_hasRangeBetween kX5_79 dX5_addRange_45 (b := 1) (As := [.int (nI (p)), .int (nI (q))]) (rest := []) (c_X4_hasRangeBetween l E g 1 S.r B (by omega) h.sta hv p q (by omega) (by omega)) (hX.k (k := 0) (by decide)) hX.s0 rfl rfl rfl (Nat.le_of_ble_eq_true rfl) ⟨Nat.le_of_ble_eq_true rfl, Nat.le_of_ble_eq_true rfl⟩ (pk_i ?_)
            rintro r_45 g_45 ⟨hr_45, hq_45⟩
            obtain rfl := hq_45.symm
            rw [hr_45]
            clear hr_45 r_45
            refine y_if_eq_b (tgt := 54) hC dX5_addRange_48 (by decide) (fun c_48 => ?_) (fun c_48 => ?_)
            · refine y_aload_n hC dX5_addRange_54 (i := 0) rfl rfl ?_
              refine y_get hC fX5_12 dX5_addRange_55 (k := 0) (by omega) h.a0 rfl ?_
              refine y_get hC fX5_83 dX5_addRange_58 (k := 1) (hX.k (k := 0) (by decide)) hX.s0 rfl ?_
              refine y_bipush (v := nI 6) hC dX5_addRange_61 (by decide) ?_
              refine y_icmp_lt_n (tgt := 69) hC dX5_addRange_63 (by decide) (by omega) (by omega) (fun c_63 => ?_) (fun c_63 => ?_)
              · refine y_aload_n hC dX5_addRange_69 (i := 0) rfl rfl ?_
                refine y_get hC fX5_19 dX5_addRange_70 (k := 0) (by omega) h.a0 rfl ?_
                refine y_aload_n hC dX5_addRange_73 (i := 0) rfl rfl ?_
                refine y_get hC fX5_12 dX5_addRange_74 (k := 0) (by omega) h.a0 rfl ?_
                refine y_callV hC mX1_record kX5_51 dX5_addRange_77 (b := 16) (As := [rf E (1)]) (rest := []) (c_X1_record l E g S.c S.kp S.hr S.sn S.r B h.ha h.sta hv) (by omega) h.a16 rfl rfl rfl (Nat.le_of_ble_eq_true rfl) ⟨Nat.le_of_ble_eq_true rfl, Nat.le_of_ble_eq_true rfl⟩ (pk_v ?_)
                rintro g_77 hrec_77
                have hq_77 := h.uprec hrec_77
                obtain ⟨co_77, pi_77, π_77, ρ_77, V_77, U_77, hX_77, e1_77, e2_77, e3_77, e4_77⟩ := zStF (r := S.r) (B := B) hq_77.sta hv
                refine y_aload_n hC dX5_addRange_80 (i := 0) rfl rfl ?_
                refine y_get hC fX5_12 dX5_addRange_81 (k := 0) (by omega) hq_77.a0 rfl ?_
                refine y_iload_n hC dX5_addRange_84 (i := 1) rfl rfl ?_
                refine y_iload_n hC dX5_addRange_85 (i := 2) rfl rfl ?_
                refine y_iload_n hC dX5_addRange_86 (i := 3) rfl rfl ?_
                refine y_iload hC dX5_addRange_87 rfl ?_
                refine y_callV hC mX4_appendRange kX5_87 dX5_addRange_89 (b := 1) (As := [.int (nI (p)), .int (nI (q)), .int (xs), .int (xw)]) (rest := []) (c_X4_appendRange l E g_77 1 S.r B (by omega) hq_77.sta hv (nI p) (nI q) xs xw c_63) (hX_77.k (k := 0) (by decide)) hX_77.s0 rfl rfl rfl (Nat.le_of_ble_eq_true rfl) ⟨Nat.le_of_ble_eq_true rfl, Nat.le_of_ble_eq_true rfl⟩ (pk_i ?_)
                rintro rz g_89 ⟨hz, hst, hfr⟩
                rw [hz]
                refine y_iret (hC := hC) (hd := dX5_addRange_92) (hq := ?_)
                have hqq : qAddRange S (nI p) (nI q) xs xw = (nI (rc S.r), S.rec.row (addR S.r (nI p) (nI q) xs xw)) := by simp only [qAddRange, nn_I (show p < 2147483648 by omega), nn_I (show q < 2147483648 by omega), if_pos c_4, if_pos (show ((0 ≤ (nI q).toInt ∧ (nI q).toInt ≤ 31) ∧ p < q) ∧ (1 ≤ xs.toInt ∧ xs.toInt ≤ 30) ∧ 0 ≤ xw.toInt ∧ xw.toInt ≤ 2 from ⟨⟨c_13, by omega⟩, c_25, c_33⟩), if_neg c_48, if_pos c_63]
                rw [hqq]
                exact ⟨rfl, (hq_77.upst hst hfr).cp⟩
              · refine y_bipush (v := (-3)) hC dX5_addRange_66 (by decide) ?_
                refine y_iret (hC := hC) (hd := dX5_addRange_68) (hq := ?_)
                have hqq : qAddRange S (nI p) (nI q) xs xw = (-3, S) := by simp only [qAddRange, nn_I (show p < 2147483648 by omega), nn_I (show q < 2147483648 by omega), if_pos c_4, if_pos (show ((0 ≤ (nI q).toInt ∧ (nI q).toInt ≤ 31) ∧ p < q) ∧ (1 ≤ xs.toInt ∧ xs.toInt ≤ 30) ∧ 0 ≤ xw.toInt ∧ xw.toInt ≤ 2 from ⟨⟨c_13, by omega⟩, c_25, c_33⟩), if_neg c_48, if_neg c_63]
                rw [hqq]
                exact ⟨rfl, h.cp⟩
            · refine y_bipush (v := (-4)) hC dX5_addRange_51 (by decide) ?_
              refine y_iret (hC := hC) (hd := dX5_addRange_53) (hq := ?_)
              have hqq : qAddRange S (nI p) (nI q) xs xw = (-4, S) := by simp only [qAddRange, nn_I (show p < 2147483648 by omega), nn_I (show q < 2147483648 by omega), if_pos c_4, if_pos (show ((0 ≤ (nI q).toInt ∧ (nI q).toInt ≤ 31) ∧ p < q) ∧ (1 ≤ xs.toInt ∧ xs.toInt ≤ 30) ∧ 0 ≤ xw.toInt ∧ xw.toInt ≤ 2 from ⟨⟨c_13, by omega⟩, c_25, c_33⟩), if_pos c_48]
              rw [hqq]
              exact ⟨rfl, h.cp⟩
          · refine y_bipush (v := (-2)) hC dX5_addRange_36 (by decide) ?_
            refine y_iret (hC := hC) (hd := dX5_addRange_38) (hq := ?_)
            have hqq : qAddRange S (nI p) (nI q) xs xw = (-2, S) := by simp only [qAddRange, nn_I (show p < 2147483648 by omega), nn_I (show q < 2147483648 by omega), if_pos c_4]; exact if_neg (fun q => c_33 q.2.2)
            rw [hqq]
            exact ⟨rfl, h.cp⟩
  · refine y_iconst (v := (-1)) hC dX5_addRange_7 (by decide) ?_
    refine y_iret (hC := hC) (hd := dX5_addRange_8) (hq := ?_)
    have hqq : qAddRange S xa xb xs xw = (-1, S) := by simp only [qAddRange, if_neg c_4]
    rw [hqq]
    exact ⟨rfl, h.cp⟩

theorem dX5_removeRange_0 : decode cX5_removeRange 0 = .ok (.aload_n 0, 1) := by decide +kernel
theorem dX5_removeRange_1 : decode cX5_removeRange 1 = .ok (.iload_n 1, 1) := by decide +kernel
theorem dX5_removeRange_2 : decode cX5_removeRange 2 = .ok (.invokevirtual 90, 3) := by decide +kernel
theorem dX5_removeRange_5 : decode cX5_removeRange 5 = .ok (.ifCond .ne 5, 3) := by decide +kernel
theorem dX5_removeRange_8 : decode cX5_removeRange 8 = .ok (.iconst (-1), 1) := by decide +kernel
theorem dX5_removeRange_9 : decode cX5_removeRange 9 = .ok (.ireturn, 1) := by decide +kernel
theorem dX5_removeRange_10 : decode cX5_removeRange 10 = .ok (.aload_n 0, 1) := by decide +kernel
theorem dX5_removeRange_11 : decode cX5_removeRange 11 = .ok (.getfield 19, 3) := by decide +kernel
theorem dX5_removeRange_14 : decode cX5_removeRange 14 = .ok (.aload_n 0, 1) := by decide +kernel
theorem dX5_removeRange_15 : decode cX5_removeRange 15 = .ok (.getfield 12, 3) := by decide +kernel
theorem dX5_removeRange_18 : decode cX5_removeRange 18 = .ok (.invokevirtual 51, 3) := by decide +kernel
theorem dX5_removeRange_21 : decode cX5_removeRange 21 = .ok (.aload_n 0, 1) := by decide +kernel
theorem dX5_removeRange_22 : decode cX5_removeRange 22 = .ok (.getfield 12, 3) := by decide +kernel
theorem dX5_removeRange_25 : decode cX5_removeRange 25 = .ok (.iload_n 1, 1) := by decide +kernel
theorem dX5_removeRange_26 : decode cX5_removeRange 26 = .ok (.invokevirtual 93, 3) := by decide +kernel
theorem dX5_removeRange_29 : decode cX5_removeRange 29 = .ok (.aload_n 0, 1) := by decide +kernel
theorem dX5_removeRange_30 : decode cX5_removeRange 30 = .ok (.getfield 12, 3) := by decide +kernel
theorem dX5_removeRange_33 : decode cX5_removeRange 33 = .ok (.getfield 83, 3) := by decide +kernel
theorem dX5_removeRange_36 : decode cX5_removeRange 36 = .ok (.ireturn, 1) := by decide +kernel
set_option maxHeartbeats 4000000 in
set_option maxRecDepth 100000 in
theorem c_X5_removeRange (l : Launch) (E : gE) (g : Mem) (S : AS) (B : Nat) (hB : B < 90000000) (ho : OK S B) (sh mk wa : Nat → Int32) (h : CQ E g S sh mk wa) (xa : Int32) : Mt l E yX5_removeRange cX5_removeRange 2 (some .int) 3 69 [rf E (0), .int (xa)] g (pI (fun z g' => z = (qRemoveRange S xa).1 ∧ CP E g' (qRemoveRange S xa).2)) := by
  have hK := h.k
  have hv := ho.v
  have hrc : rc S.r ≤ 6 := hv.1.2
  have hgc : gc S.r ≤ 4 := hv.2.1.2
  have hc4 := ho.c4
  refine mt_go (own := RX5) (by decide) rfl (lo := [some (rf E (0)), some (.int (xa))]) rfl (Nat.le_of_ble_eq_true rfl) (fun X hC => ?_)
  obtain ⟨co, pi, π, ρ, V, U, hX, e1, e2, e3, e4⟩ := zStF (r := S.r) (B := B) h.sta hv
  refine y_aload_n hC dX5_removeRange_0 (i := 0) rfl rfl ?_
  refine y_iload_n hC dX5_removeRange_1 (i := 1) rfl rfl ?_
  refine y_callV hC mX5_isRange kX5_90 dX5_removeRange_2 (b := 0) (As := [.int (xa)]) (rest := []) (c_X5_isRange l E g S B hB ho sh mk wa h ((xa))) (by omega) h.a0 rfl rfl rfl (Nat.le_of_ble_eq_true rfl) ⟨Nat.le_of_ble_eq_true rfl, Nat.le_of_ble_eq_true rfl⟩ (pk_i ?_)
  rintro r_2 g_2 ⟨hr_2, hq_2⟩
  obtain rfl := hq_2.symm
  rw [hr_2]
  clear hr_2 r_2
  refine y_if_ne_b (tgt := 10) hC dX5_removeRange_5 (by decide) (fun c_5 => ?_) (fun c_5 => ?_)
  · obtain ⟨a, ha, hax⟩ := zNl (m := rc S.r) c_5
    subst hax
    refine y_aload_n hC dX5_removeRange_10 (i := 0) rfl rfl ?_
    refine y_get hC fX5_19 dX5_removeRange_11 (k := 0) (by omega) h.a0 rfl ?_
    refine y_aload_n hC dX5_removeRange_14 (i := 0) rfl rfl ?_
    refine y_get hC fX5_12 dX5_removeRange_15 (k := 0) (by omega) h.a0 rfl ?_
    refine y_callV hC mX1_record kX5_51 dX5_removeRange_18 (b := 16) (As := [rf E (1)]) (rest := []) (c_X1_record l E g S.c S.kp S.hr S.sn S.r B h.ha h.sta hv) (by omega) h.a16 rfl rfl rfl (Nat.le_of_ble_eq_true rfl) ⟨Nat.le_of_ble_eq_true rfl, Nat.le_of_ble_eq_true rfl⟩ (pk_v ?_)
    rintro g_18 hrec_18
    have hq_18 := h.uprec hrec_18
    obtain ⟨co_18, pi_18, π_18, ρ_18, V_18, U_18, hX_18, e1_18, e2_18, e3_18, e4_18⟩ := zStF (r := S.r) (B := B) hq_18.sta hv
    refine y_aload_n hC dX5_removeRange_21 (i := 0) rfl rfl ?_
    refine y_get hC fX5_12 dX5_removeRange_22 (k := 0) (by omega) hq_18.a0 rfl ?_
    refine y_iload_n hC dX5_removeRange_25 (i := 1) rfl rfl ?_
    refine y_callV hC mX4_dropRange kX5_93 dX5_removeRange_26 (b := 1) (As := [.int (nI (a))]) (rest := []) (c_X4_dropRange l E g_18 1 S.r B (by omega) hq_18.sta hv a (by omega)) (hX_18.k (k := 0) (by decide)) hX_18.s0 rfl rfl rfl (Nat.le_of_ble_eq_true rfl) ⟨Nat.le_of_ble_eq_true rfl, Nat.le_of_ble_eq_true rfl⟩ (pk_v ?_)
    rintro g_26 ⟨hst, hfr⟩
    have hq_n := hq_18.upst hst hfr
    refine y_aload_n hC dX5_removeRange_29 (i := 0) rfl rfl ?_
    refine y_get hC fX5_12 dX5_removeRange_30 (k := 0) (by omega) hq_n.a0 rfl ?_
    refine y_get hC fX5_83 dX5_removeRange_33 (k := 1) (by omega) hst.f1 rfl ?_
    refine y_top (y := nI (rc S.r - 1)) (if_pos rfl) ?_
    refine y_iret (hC := hC) (hd := dX5_removeRange_36) (hq := ?_)
    have hqq : qRemoveRange S (nI a) = (nI (rc S.r - 1), S.rec.row (remR S.r a)) := by simp only [qRemoveRange, nn_I (show a < 2147483648 by omega), if_pos c_5]
    rw [hqq]
    exact ⟨rfl, hq_n.cp⟩
  · refine y_iconst (v := (-1)) hC dX5_removeRange_8 (by decide) ?_
    refine y_iret (hC := hC) (hd := dX5_removeRange_9) (hq := ?_)
    have hqq : qRemoveRange S xa = (-1, S) := by simp only [qRemoveRange, if_neg c_5]
    rw [hqq]
    exact ⟨rfl, h.cp⟩

theorem dX5_removeGlow_0 : decode cX5_removeGlow 0 = .ok (.aload_n 0, 1) := by decide +kernel
theorem dX5_removeGlow_1 : decode cX5_removeGlow 1 = .ok (.iload_n 1, 1) := by decide +kernel
theorem dX5_removeGlow_2 : decode cX5_removeGlow 2 = .ok (.invokevirtual 128, 3) := by decide +kernel
theorem dX5_removeGlow_5 : decode cX5_removeGlow 5 = .ok (.ifCond .ne 5, 3) := by decide +kernel
theorem dX5_removeGlow_8 : decode cX5_removeGlow 8 = .ok (.iconst (-1), 1) := by decide +kernel
theorem dX5_removeGlow_9 : decode cX5_removeGlow 9 = .ok (.ireturn, 1) := by decide +kernel
theorem dX5_removeGlow_10 : decode cX5_removeGlow 10 = .ok (.aload_n 0, 1) := by decide +kernel
theorem dX5_removeGlow_11 : decode cX5_removeGlow 11 = .ok (.getfield 19, 3) := by decide +kernel
theorem dX5_removeGlow_14 : decode cX5_removeGlow 14 = .ok (.aload_n 0, 1) := by decide +kernel
theorem dX5_removeGlow_15 : decode cX5_removeGlow 15 = .ok (.getfield 12, 3) := by decide +kernel
theorem dX5_removeGlow_18 : decode cX5_removeGlow 18 = .ok (.invokevirtual 51, 3) := by decide +kernel
theorem dX5_removeGlow_21 : decode cX5_removeGlow 21 = .ok (.aload_n 0, 1) := by decide +kernel
theorem dX5_removeGlow_22 : decode cX5_removeGlow 22 = .ok (.getfield 12, 3) := by decide +kernel
theorem dX5_removeGlow_25 : decode cX5_removeGlow 25 = .ok (.iload_n 1, 1) := by decide +kernel
theorem dX5_removeGlow_26 : decode cX5_removeGlow 26 = .ok (.invokevirtual 131, 3) := by decide +kernel
theorem dX5_removeGlow_29 : decode cX5_removeGlow 29 = .ok (.aload_n 0, 1) := by decide +kernel
theorem dX5_removeGlow_30 : decode cX5_removeGlow 30 = .ok (.getfield 12, 3) := by decide +kernel
theorem dX5_removeGlow_33 : decode cX5_removeGlow 33 = .ok (.getfield 121, 3) := by decide +kernel
theorem dX5_removeGlow_36 : decode cX5_removeGlow 36 = .ok (.ireturn, 1) := by decide +kernel
set_option maxHeartbeats 4000000 in
set_option maxRecDepth 100000 in
theorem c_X5_removeGlow (l : Launch) (E : gE) (g : Mem) (S : AS) (B : Nat) (hB : B < 90000000) (ho : OK S B) (sh mk wa : Nat → Int32) (h : CQ E g S sh mk wa) (xa : Int32) : Mt l E yX5_removeGlow cX5_removeGlow 2 (some .int) 3 69 [rf E (0), .int (xa)] g (pI (fun z g' => z = (qRemoveGlow S xa).1 ∧ CP E g' (qRemoveGlow S xa).2)) := by
  have hK := h.k
  have hv := ho.v
  have hrc : rc S.r ≤ 6 := hv.1.2
  have hgc : gc S.r ≤ 4 := hv.2.1.2
  have hc4 := ho.c4
  refine mt_go (own := RX5) (by decide) rfl (lo := [some (rf E (0)), some (.int (xa))]) rfl (Nat.le_of_ble_eq_true rfl) (fun X hC => ?_)
  obtain ⟨co, pi, π, ρ, V, U, hX, e1, e2, e3, e4⟩ := zStF (r := S.r) (B := B) h.sta hv
  refine y_aload_n hC dX5_removeGlow_0 (i := 0) rfl rfl ?_
  refine y_iload_n hC dX5_removeGlow_1 (i := 1) rfl rfl ?_
  refine y_callV hC mX5_isGlow kX5_128 dX5_removeGlow_2 (b := 0) (As := [.int (xa)]) (rest := []) (c_X5_isGlow l E g S B hB ho sh mk wa h ((xa))) (by omega) h.a0 rfl rfl rfl (Nat.le_of_ble_eq_true rfl) ⟨Nat.le_of_ble_eq_true rfl, Nat.le_of_ble_eq_true rfl⟩ (pk_i ?_)
  rintro r_2 g_2 ⟨hr_2, hq_2⟩
  obtain rfl := hq_2.symm
  rw [hr_2]
  clear hr_2 r_2
  refine y_if_ne_b (tgt := 10) hC dX5_removeGlow_5 (by decide) (fun c_5 => ?_) (fun c_5 => ?_)
  · obtain ⟨a, ha, hax⟩ := zNl (m := gc S.r) c_5
    subst hax
    refine y_aload_n hC dX5_removeGlow_10 (i := 0) rfl rfl ?_
    refine y_get hC fX5_19 dX5_removeGlow_11 (k := 0) (by omega) h.a0 rfl ?_
    refine y_aload_n hC dX5_removeGlow_14 (i := 0) rfl rfl ?_
    refine y_get hC fX5_12 dX5_removeGlow_15 (k := 0) (by omega) h.a0 rfl ?_
    refine y_callV hC mX1_record kX5_51 dX5_removeGlow_18 (b := 16) (As := [rf E (1)]) (rest := []) (c_X1_record l E g S.c S.kp S.hr S.sn S.r B h.ha h.sta hv) (by omega) h.a16 rfl rfl rfl (Nat.le_of_ble_eq_true rfl) ⟨Nat.le_of_ble_eq_true rfl, Nat.le_of_ble_eq_true rfl⟩ (pk_v ?_)
    rintro g_18 hrec_18
    have hq_18 := h.uprec hrec_18
    obtain ⟨co_18, pi_18, π_18, ρ_18, V_18, U_18, hX_18, e1_18, e2_18, e3_18, e4_18⟩ := zStF (r := S.r) (B := B) hq_18.sta hv
    refine y_aload_n hC dX5_removeGlow_21 (i := 0) rfl rfl ?_
    refine y_get hC fX5_12 dX5_removeGlow_22 (k := 0) (by omega) hq_18.a0 rfl ?_
    refine y_iload_n hC dX5_removeGlow_25 (i := 1) rfl rfl ?_
    refine y_callV hC mX4_dropGlow kX5_131 dX5_removeGlow_26 (b := 1) (As := [.int (nI (a))]) (rest := []) (c_X4_dropGlow l E g_18 1 S.r B (by omega) hq_18.sta hv a (by omega)) (hX_18.k (k := 0) (by decide)) hX_18.s0 rfl rfl rfl (Nat.le_of_ble_eq_true rfl) ⟨Nat.le_of_ble_eq_true rfl, Nat.le_of_ble_eq_true rfl⟩ (pk_v ?_)
    rintro g_26 ⟨hst, hfr⟩
    have hq_n := hq_18.upst hst hfr
    refine y_aload_n hC dX5_removeGlow_29 (i := 0) rfl rfl ?_
    refine y_get hC fX5_12 dX5_removeGlow_30 (k := 0) (by omega) hq_n.a0 rfl ?_
    refine y_get hC fX5_121 dX5_removeGlow_33 (k := 1) (by omega) hst.f1 rfl ?_
    refine y_top (y := nI (gc S.r - 1)) (if_pos rfl) ?_
    refine y_iret (hC := hC) (hd := dX5_removeGlow_36) (hq := ?_)
    have hqq : qRemoveGlow S (nI a) = (nI (gc S.r - 1), S.rec.row (remG S.r a)) := by simp only [qRemoveGlow, nn_I (show a < 2147483648 by omega), if_pos c_5]
    rw [hqq]
    exact ⟨rfl, hq_n.cp⟩
  · refine y_iconst (v := (-1)) hC dX5_removeGlow_8 (by decide) ?_
    refine y_iret (hC := hC) (hd := dX5_removeGlow_9) (hq := ?_)
    have hqq : qRemoveGlow S xa = (-1, S) := by simp only [qRemoveGlow, if_neg c_5]
    rw [hqq]
    exact ⟨rfl, h.cp⟩

theorem spd_o {r : Row} {a k : Nat} {s w : Int32} (hk : k < 33 + 7 * a ∨ 40 + 7 * a ≤ k) : spdR r a s w k = r k := by
  unfold spdR
  rw [if_neg (by omega), if_neg (by omega), if_neg (by omega), if_neg (by omega)]
theorem spd_v {r : Row} {a : Nat} {s w : Int32} (q1 : ∀ j, j < 7 → r (33 + 7 * a + j) = nI (rg r a j)) : ∀ j, j < 7 → v7 (nI (rg r a 0)) (nI (rg r a 1)) s w (nI (rg r a 4)) (nI 0) (nI 0) j = spdR r a s w (33 + 7 * a + j) := by
  have hr : ∀ k, k ≠ 35 + 7 * a → k ≠ 36 + 7 * a → k ≠ 38 + 7 * a → k ≠ 39 + 7 * a → spdR r a s w k = r k := fun k h1 h2 h3 h4 => by unfold spdR; rw [if_neg h1, if_neg h2, if_neg h3, if_neg h4]
  refine v7_j (f := fun j => spdR r a s w (33 + 7 * a + j)) ?_ ?_ ?_ ?_ ?_ ?_ ?_
  · exact ((hr _ (by omega) (by omega) (by omega) (by omega)).trans (q1 0 (by decide))).symm
  · exact ((hr _ (by omega) (by omega) (by omega) (by omega)).trans (q1 1 (by decide))).symm
  · exact (if_pos (by omega)).symm
  · exact ((if_neg (by omega)).trans (if_pos (by omega))).symm
  · exact ((hr _ (by omega) (by omega) (by omega) (by omega)).trans (q1 4 (by decide))).symm
  · exact ((if_neg (by omega)).trans ((if_neg (by omega)).trans (if_pos (by omega)))).symm
  · exact ((if_neg (by omega)).trans ((if_neg (by omega)).trans ((if_neg (by omega)).trans (if_pos (by omega))))).symm
theorem run_v {r : Row} {a z : Nat} (q1 : ∀ j, j < 7 → r (33 + 7 * a + j) = nI (rg r a j)) : ∀ j, j < 7 → v7 (nI (rg r a 0)) (nI (rg r a 1)) (nI (rg r a 2)) (nI (rg r a 3)) (nI z) (nI (rg r a 5)) (nI (rg r a 6)) j = upd r (37 + 7 * a) (nI z) (33 + 7 * a + j) := by
  refine v7_j (f := fun j => upd r (37 + 7 * a) (nI z) (33 + 7 * a + j)) ?_ ?_ ?_ ?_ ?_ ?_ ?_
  · exact ((pk_un (by omega)).trans (q1 0 (by decide))).symm
  · exact ((pk_un (by omega)).trans (q1 1 (by decide))).symm
  · exact ((pk_un (by omega)).trans (q1 2 (by decide))).symm
  · exact ((pk_un (by omega)).trans (q1 3 (by decide))).symm
  · show nI z = upd r (37 + 7 * a) (nI z) (33 + 7 * a + 4)
    rw [show 33 + 7 * a + 4 = 37 + 7 * a by omega, pk_us]
  · exact ((pk_un (by omega)).trans (q1 5 (by decide))).symm
  · exact ((pk_un (by omega)).trans (q1 6 (by decide))).symm
theorem dX5_setSpeed_0 : decode cX5_setSpeed 0 = .ok (.aload_n 0, 1) := by decide +kernel
theorem dX5_setSpeed_1 : decode cX5_setSpeed 1 = .ok (.iload_n 1, 1) := by decide +kernel
theorem dX5_setSpeed_2 : decode cX5_setSpeed 2 = .ok (.invokevirtual 90, 3) := by decide +kernel
theorem dX5_setSpeed_5 : decode cX5_setSpeed 5 = .ok (.ifCond .ne 5, 3) := by decide +kernel
theorem dX5_setSpeed_8 : decode cX5_setSpeed 8 = .ok (.iconst (-1), 1) := by decide +kernel
theorem dX5_setSpeed_9 : decode cX5_setSpeed 9 = .ok (.ireturn, 1) := by decide +kernel
theorem dX5_setSpeed_10 : decode cX5_setSpeed 10 = .ok (.iload_n 2, 1) := by decide +kernel
theorem dX5_setSpeed_11 : decode cX5_setSpeed 11 = .ok (.invokestatic 73, 3) := by decide +kernel
theorem dX5_setSpeed_14 : decode cX5_setSpeed 14 = .ok (.ifCond .eq 10, 3) := by decide +kernel
theorem dX5_setSpeed_17 : decode cX5_setSpeed 17 = .ok (.iload_n 3, 1) := by decide +kernel
theorem dX5_setSpeed_18 : decode cX5_setSpeed 18 = .ok (.invokestatic 76, 3) := by decide +kernel
theorem dX5_setSpeed_21 : decode cX5_setSpeed 21 = .ok (.ifCond .ne 6, 3) := by decide +kernel
theorem dX5_setSpeed_24 : decode cX5_setSpeed 24 = .ok (.bipush (-2), 2) := by decide +kernel
theorem dX5_setSpeed_26 : decode cX5_setSpeed 26 = .ok (.ireturn, 1) := by decide +kernel
theorem dX5_setSpeed_27 : decode cX5_setSpeed 27 = .ok (.aload_n 0, 1) := by decide +kernel
theorem dX5_setSpeed_28 : decode cX5_setSpeed 28 = .ok (.getfield 19, 3) := by decide +kernel
theorem dX5_setSpeed_31 : decode cX5_setSpeed 31 = .ok (.aload_n 0, 1) := by decide +kernel
theorem dX5_setSpeed_32 : decode cX5_setSpeed 32 = .ok (.getfield 12, 3) := by decide +kernel
theorem dX5_setSpeed_35 : decode cX5_setSpeed 35 = .ok (.invokevirtual 51, 3) := by decide +kernel
theorem dX5_setSpeed_38 : decode cX5_setSpeed 38 = .ok (.aload_n 0, 1) := by decide +kernel
theorem dX5_setSpeed_39 : decode cX5_setSpeed 39 = .ok (.getfield 12, 3) := by decide +kernel
theorem dX5_setSpeed_42 : decode cX5_setSpeed 42 = .ok (.getfield 97, 3) := by decide +kernel
theorem dX5_setSpeed_45 : decode cX5_setSpeed 45 = .ok (.iload_n 1, 1) := by decide +kernel
theorem dX5_setSpeed_46 : decode cX5_setSpeed 46 = .ok (.aaload, 1) := by decide +kernel
theorem dX5_setSpeed_47 : decode cX5_setSpeed 47 = .ok (.getfield 101, 3) := by decide +kernel
theorem dX5_setSpeed_50 : decode cX5_setSpeed 50 = .ok (.istore 4, 2) := by decide +kernel
theorem dX5_setSpeed_52 : decode cX5_setSpeed 52 = .ok (.aload_n 0, 1) := by decide +kernel
theorem dX5_setSpeed_53 : decode cX5_setSpeed 53 = .ok (.getfield 12, 3) := by decide +kernel
theorem dX5_setSpeed_56 : decode cX5_setSpeed 56 = .ok (.getfield 97, 3) := by decide +kernel
theorem dX5_setSpeed_59 : decode cX5_setSpeed 59 = .ok (.iload_n 1, 1) := by decide +kernel
theorem dX5_setSpeed_60 : decode cX5_setSpeed 60 = .ok (.aaload, 1) := by decide +kernel
theorem dX5_setSpeed_61 : decode cX5_setSpeed 61 = .ok (.iload_n 2, 1) := by decide +kernel
theorem dX5_setSpeed_62 : decode cX5_setSpeed 62 = .ok (.iload_n 3, 1) := by decide +kernel
theorem dX5_setSpeed_63 : decode cX5_setSpeed 63 = .ok (.invokevirtual 106, 3) := by decide +kernel
theorem dX5_setSpeed_66 : decode cX5_setSpeed 66 = .ok (.iload 4, 2) := by decide +kernel
theorem dX5_setSpeed_68 : decode cX5_setSpeed 68 = .ok (.ireturn, 1) := by decide +kernel
set_option maxHeartbeats 4000000 in
set_option maxRecDepth 100000 in
theorem c_X5_setSpeed (l : Launch) (E : gE) (g : Mem) (S : AS) (B : Nat) (hB : B < 90000000) (ho : OK S B) (sh mk wa : Nat → Int32) (h : CQ E g S sh mk wa) (xa xs xw : Int32) : Mt l E yX5_setSpeed cX5_setSpeed 5 (some .int) 3 69 [rf E (0), .int (xa), .int (xs), .int (xw)] g (pI (fun z g' => z = (qSetSpeed S xa xs xw).1 ∧ CP E g' (qSetSpeed S xa xs xw).2)) := by
  have hK := h.k
  have hv := ho.v
  have hrc : rc S.r ≤ 6 := hv.1.2
  have hgc : gc S.r ≤ 4 := hv.2.1.2
  have hc4 := ho.c4
  refine mt_go (own := RX5) (by decide) rfl (lo := [some (rf E (0)), some (.int (xa)), some (.int (xs)), some (.int (xw)), none]) rfl (Nat.le_of_ble_eq_true rfl) (fun X hC => ?_)
  obtain ⟨co, pi, π, ρ, V, U, hX, e1, e2, e3, e4⟩ := zStF (r := S.r) (B := B) h.sta hv
  refine y_aload_n hC dX5_setSpeed_0 (i := 0) rfl rfl ?_
  refine y_iload_n hC dX5_setSpeed_1 (i := 1) rfl rfl ?_
  refine y_callV hC mX5_isRange kX5_90 dX5_setSpeed_2 (b := 0) (As := [.int (xa)]) (rest := []) (c_X5_isRange l E g S B hB ho sh mk wa h ((xa))) (by omega) h.a0 rfl rfl rfl (Nat.le_of_ble_eq_true rfl) ⟨Nat.le_of_ble_eq_true rfl, Nat.le_of_ble_eq_true rfl⟩ (pk_i ?_)
  rintro r_2 g_2 ⟨hr_2, hq_2⟩
  obtain rfl := hq_2.symm
  rw [hr_2]
  clear hr_2 r_2
  refine y_if_ne_b (tgt := 10) hC dX5_setSpeed_5 (by decide) (fun c_5 => ?_) (fun c_5 => ?_)
  · obtain ⟨a, ha, hax⟩ := zNl (m := rc S.r) c_5
    subst hax
    refine y_iload_n hC dX5_setSpeed_10 (i := 2) rfl rfl ?_
    refine y_callS hC mX5_isLength kX5_73 dX5_setSpeed_11 (As := [.int (xs)]) (rest := []) (c_X5_isLength l E g ((xs))) rfl rfl rfl (Nat.le_of_ble_eq_true rfl) ⟨Nat.le_of_ble_eq_true rfl, Nat.le_of_ble_eq_true rfl⟩ (pk_i ?_)
    rintro r_11 g_11 ⟨hr_11, hq_11⟩
    obtain rfl := hq_11.symm
    rw [hr_11]
    clear hr_11 r_11
    refine y_if_eq_b (tgt := 24) hC dX5_setSpeed_14 (by decide) (fun c_14 => ?_) (fun c_14 => ?_)
    · refine y_bipush (v := (-2)) hC dX5_setSpeed_24 (by decide) ?_
      refine y_iret (hC := hC) (hd := dX5_setSpeed_26) (hq := ?_)
      have hqq : qSetSpeed S (nI a) xs xw = (-2, S) := by simp only [qSetSpeed, nn_I (show a < 2147483648 by omega), if_pos c_5]; exact if_neg (fun q => c_14 q.1)
      rw [hqq]
      exact ⟨rfl, h.cp⟩
    · refine y_iload_n hC dX5_setSpeed_17 (i := 3) rfl rfl ?_
      refine y_callS hC mX5_isWay kX5_76 dX5_setSpeed_18 (As := [.int (xw)]) (rest := []) (c_X5_isWay l E g ((xw))) rfl rfl rfl (Nat.le_of_ble_eq_true rfl) ⟨Nat.le_of_ble_eq_true rfl, Nat.le_of_ble_eq_true rfl⟩ (pk_i ?_)
      rintro r_18 g_18 ⟨hr_18, hq_18⟩
      obtain rfl := hq_18.symm
      rw [hr_18]
      clear hr_18 r_18
      refine y_if_ne_b (tgt := 27) hC dX5_setSpeed_21 (by decide) (fun c_21 => ?_) (fun c_21 => ?_)
      · refine y_aload_n hC dX5_setSpeed_27 (i := 0) rfl rfl ?_
        refine y_get hC fX5_19 dX5_setSpeed_28 (k := 0) (by omega) h.a0 rfl ?_
        refine y_aload_n hC dX5_setSpeed_31 (i := 0) rfl rfl ?_
        refine y_get hC fX5_12 dX5_setSpeed_32 (k := 0) (by omega) h.a0 rfl ?_
        refine y_callV hC mX1_record kX5_51 dX5_setSpeed_35 (b := 16) (As := [rf E (1)]) (rest := []) (c_X1_record l E g S.c S.kp S.hr S.sn S.r B h.ha h.sta hv) (by omega) h.a16 rfl rfl rfl (Nat.le_of_ble_eq_true rfl) ⟨Nat.le_of_ble_eq_true rfl, Nat.le_of_ble_eq_true rfl⟩ (pk_v ?_)
        rintro g_35 hrec_35
        have hq_35 := h.uprec hrec_35
        obtain ⟨co_35, pi_35, π_35, ρ_35, V_35, U_35, hX_35, e1_35, e2_35, e3_35, e4_35⟩ := zStF (r := S.r) (B := B) hq_35.sta hv
        refine y_aload_n hC dX5_setSpeed_38 (i := 0) rfl rfl ?_
        refine y_get hC fX5_12 dX5_setSpeed_39 (k := 0) (by omega) hq_35.a0 rfl ?_
        refine y_get hC fX5_97 dX5_setSpeed_42 (k := 1) (hX_35.k (k := 0) (by decide)) hX_35.s0 rfl ?_
        refine y_iload_n hC dX5_setSpeed_45 (i := 1) rfl rfl ?_
        refine y_aald hC (Or.inl ⟨rfl, rfl, rfl⟩ : yT 3 3 RX3) dX5_setSpeed_46 (k := 1 + 3) (j := a) (hX_35.k (k := 3) (by decide)) hX_35.s3 (rfl) (by omega) (by decide) ?_
        refine y_get hC fX5_101 dX5_setSpeed_47 (k := 1 + 5 + π_35 (a)) (hX_35.kV (i := a) (by omega)) (hX_35.rV hv (i := a) (by omega) (e3_35 (a) (by omega))) rfl ?_
        refine y_istore hC dX5_setSpeed_50 (Nat.le_of_ble_eq_true rfl) rfl (lo' := [some (rf E (0)), some (.int (nI (a))), some (.int (xs)), some (.int (xw)), some (.int (nI (rg S.r (a) 2)))]) rfl ?_
        refine y_aload_n hC dX5_setSpeed_52 (i := 0) rfl rfl ?_
        refine y_get hC fX5_12 dX5_setSpeed_53 (k := 0) (by omega) hq_35.a0 rfl ?_
        refine y_get hC fX5_97 dX5_setSpeed_56 (k := 1) (hX_35.k (k := 0) (by decide)) hX_35.s0 rfl ?_
        refine y_iload_n hC dX5_setSpeed_59 (i := 1) rfl rfl ?_
        refine y_aald hC (Or.inl ⟨rfl, rfl, rfl⟩ : yT 3 3 RX3) dX5_setSpeed_60 (k := 1 + 3) (j := a) (hX_35.k (k := 3) (by decide)) hX_35.s3 (rfl) (by omega) (by decide) ?_
        refine y_iload_n hC dX5_setSpeed_61 (i := 2) rfl rfl ?_
        refine y_iload_n hC dX5_setSpeed_62 (i := 3) rfl rfl ?_
        refine y_callV hC mX3_changeSpeed kX5_106 dX5_setSpeed_63 (b := 1 + 5 + π_35 (a)) (As := [.int (xs), .int (xw)]) (rest := []) (c_X3_changeSpeed l E g_35 (1 + 5 + π_35 (a)) (hX_35.kV (i := a) (by omega)) _ _ _ _ _ _ _ (hX_35.rV hv (i := a) (by omega) (e3_35 (a) (by omega))) xs xw) (hX_35.kV (i := a) (by omega)) (hX_35.rV hv (i := a) (by omega) (e3_35 (a) (by omega))) rfl rfl rfl (Nat.le_of_ble_eq_true rfl) ⟨Nat.le_of_ble_eq_true rfl, Nat.le_of_ble_eq_true rfl⟩ (pk_v ?_)
        rintro g_63 hq_63
        have hX_63 : SF E g_35 g_63 1 co_35 pi_35 π_35 ρ_35 (va_up V_35 (a) (v7 (nI (rg S.r (a) 0)) (nI (rg S.r (a) 1)) (xs) (xw) (nI (rg S.r (a) 4)) (nI (0)) (nI (0)))) U_35 (v4 (nI (rc S.r)) (nI (gc S.r)) (nI (nn (S.r 156))) (nI (nn (S.r 157)))) := by rw [hq_63]; exact hX_35.upV (i := a) (by omega) (v7 (nI (rg S.r (a) 0)) (nI (rg S.r (a) 1)) (xs) (xw) (nI (rg S.r (a) 4)) (nI (0)) (nI (0)))
        obtain ⟨q1, q2, q3, q4, q5, q6, q7, q8, q9⟩ := hv.rg (i := a) (by omega)
        have hr := hX_63.st (sr_v (r2 := spdR S.r a xs xw) (a := a) hv e1_35 e2_35 e3_35 e4_35 (by omega) (spd_v q1) (fun k hk => spd_o hk))
        refine y_iload hC dX5_setSpeed_66 rfl ?_
        refine y_iret (hC := hC) (hd := dX5_setSpeed_68) (hq := ?_)
        have hqq : qSetSpeed S (nI a) xs xw = (nI (rg S.r a 2), S.rec.row (spdR S.r a xs xw)) := by simp only [qSetSpeed, nn_I (show a < 2147483648 by omega), if_pos c_5, if_pos (And.intro c_14 c_21)]
        rw [hqq]
        exact ⟨rfl, (hq_35.upst hr.1 hr.2).cp⟩
      · refine y_bipush (v := (-2)) hC dX5_setSpeed_24 (by decide) ?_
        refine y_iret (hC := hC) (hd := dX5_setSpeed_26) (hq := ?_)
        have hqq : qSetSpeed S (nI a) xs xw = (-2, S) := by simp only [qSetSpeed, nn_I (show a < 2147483648 by omega), if_pos c_5]; exact if_neg (fun q => c_21 q.2)
        rw [hqq]
        exact ⟨rfl, h.cp⟩
  · refine y_iconst (v := (-1)) hC dX5_setSpeed_8 (by decide) ?_
    refine y_iret (hC := hC) (hd := dX5_setSpeed_9) (hq := ?_)
    have hqq : qSetSpeed S xa xs xw = (-1, S) := by simp only [qSetSpeed, if_neg c_5]
    rw [hqq]
    exact ⟨rfl, h.cp⟩

theorem dX5_run_0 : decode cX5_run 0 = .ok (.aload_n 0, 1) := by decide +kernel
theorem dX5_run_1 : decode cX5_run 1 = .ok (.iload_n 1, 1) := by decide +kernel
theorem dX5_run_2 : decode cX5_run 2 = .ok (.invokevirtual 90, 3) := by decide +kernel
theorem dX5_run_5 : decode cX5_run 5 = .ok (.ifCond .ne 5, 3) := by decide +kernel
theorem dX5_run_8 : decode cX5_run 8 = .ok (.iconst (-1), 1) := by decide +kernel
theorem dX5_run_9 : decode cX5_run 9 = .ok (.ireturn, 1) := by decide +kernel
theorem dX5_run_10 : decode cX5_run 10 = .ok (.aload_n 0, 1) := by decide +kernel
theorem dX5_run_11 : decode cX5_run 11 = .ok (.getfield 12, 3) := by decide +kernel
theorem dX5_run_14 : decode cX5_run 14 = .ok (.getfield 97, 3) := by decide +kernel
theorem dX5_run_17 : decode cX5_run 17 = .ok (.iload_n 1, 1) := by decide +kernel
theorem dX5_run_18 : decode cX5_run 18 = .ok (.aaload, 1) := by decide +kernel
theorem dX5_run_19 : decode cX5_run 19 = .ok (.getfield 109, 3) := by decide +kernel
theorem dX5_run_22 : decode cX5_run 22 = .ok (.iload_n 2, 1) := by decide +kernel
theorem dX5_run_23 : decode cX5_run 23 = .ok (.if_icmp .ne 6, 3) := by decide +kernel
theorem dX5_run_26 : decode cX5_run 26 = .ok (.bipush (-5), 2) := by decide +kernel
theorem dX5_run_28 : decode cX5_run 28 = .ok (.ireturn, 1) := by decide +kernel
theorem dX5_run_29 : decode cX5_run 29 = .ok (.aload_n 0, 1) := by decide +kernel
theorem dX5_run_30 : decode cX5_run 30 = .ok (.getfield 19, 3) := by decide +kernel
theorem dX5_run_33 : decode cX5_run 33 = .ok (.aload_n 0, 1) := by decide +kernel
theorem dX5_run_34 : decode cX5_run 34 = .ok (.getfield 12, 3) := by decide +kernel
theorem dX5_run_37 : decode cX5_run 37 = .ok (.invokevirtual 51, 3) := by decide +kernel
theorem dX5_run_40 : decode cX5_run 40 = .ok (.aload_n 0, 1) := by decide +kernel
theorem dX5_run_41 : decode cX5_run 41 = .ok (.getfield 12, 3) := by decide +kernel
theorem dX5_run_44 : decode cX5_run 44 = .ok (.getfield 97, 3) := by decide +kernel
theorem dX5_run_47 : decode cX5_run 47 = .ok (.iload_n 1, 1) := by decide +kernel
theorem dX5_run_48 : decode cX5_run 48 = .ok (.aaload, 1) := by decide +kernel
theorem dX5_run_49 : decode cX5_run 49 = .ok (.iload_n 2, 1) := by decide +kernel
theorem dX5_run_50 : decode cX5_run 50 = .ok (.putfield 109, 3) := by decide +kernel
theorem dX5_run_53 : decode cX5_run 53 = .ok (.aload_n 0, 1) := by decide +kernel
theorem dX5_run_54 : decode cX5_run 54 = .ok (.getfield 12, 3) := by decide +kernel
theorem dX5_run_57 : decode cX5_run 57 = .ok (.invokevirtual 113, 3) := by decide +kernel
theorem dX5_run_60 : decode cX5_run 60 = .ok (.ireturn, 1) := by decide +kernel
set_option maxHeartbeats 4000000 in
set_option maxRecDepth 100000 in
theorem c_X5_run (l : Launch) (E : gE) (g : Mem) (S : AS) (B : Nat) (hB : B < 90000000) (ho : OK S B) (sh mk wa : Nat → Int32) (h : CQ E g S sh mk wa) (xa : Int32) (zb : Nat) (hz : zb ≤ 1) : Mt l E yX5_run cX5_run 3 (some .int) 3 69 [rf E (0), .int (xa), .int (nI (zb))] g (pI (fun z g' => z = (qRun S xa zb).1 ∧ CP E g' (qRun S xa zb).2)) := by
  have hK := h.k
  have hv := ho.v
  have hrc : rc S.r ≤ 6 := hv.1.2
  have hgc : gc S.r ≤ 4 := hv.2.1.2
  have hc4 := ho.c4
  refine mt_go (own := RX5) (by decide) rfl (lo := [some (rf E (0)), some (.int (xa)), some (.int (nI (zb)))]) rfl (Nat.le_of_ble_eq_true rfl) (fun X hC => ?_)
  obtain ⟨co, pi, π, ρ, V, U, hX, e1, e2, e3, e4⟩ := zStF (r := S.r) (B := B) h.sta hv
  refine y_aload_n hC dX5_run_0 (i := 0) rfl rfl ?_
  refine y_iload_n hC dX5_run_1 (i := 1) rfl rfl ?_
  refine y_callV hC mX5_isRange kX5_90 dX5_run_2 (b := 0) (As := [.int (xa)]) (rest := []) (c_X5_isRange l E g S B hB ho sh mk wa h ((xa))) (by omega) h.a0 rfl rfl rfl (Nat.le_of_ble_eq_true rfl) ⟨Nat.le_of_ble_eq_true rfl, Nat.le_of_ble_eq_true rfl⟩ (pk_i ?_)
  rintro r_2 g_2 ⟨hr_2, hq_2⟩
  obtain rfl := hq_2.symm
  rw [hr_2]
  clear hr_2 r_2
  refine y_if_ne_b (tgt := 10) hC dX5_run_5 (by decide) (fun c_5 => ?_) (fun c_5 => ?_)
  · obtain ⟨a, ha, hax⟩ := zNl (m := rc S.r) c_5
    subst hax
    have hrl := (hv.rg (i := a) (by omega)).2.2.2.2.2.2.1
    refine y_aload_n hC dX5_run_10 (i := 0) rfl rfl ?_
    refine y_get hC fX5_12 dX5_run_11 (k := 0) (by omega) h.a0 rfl ?_
    refine y_get hC fX5_97 dX5_run_14 (k := 1) (hX.k (k := 0) (by decide)) hX.s0 rfl ?_
    refine y_iload_n hC dX5_run_17 (i := 1) rfl rfl ?_
    refine y_aald hC (Or.inl ⟨rfl, rfl, rfl⟩ : yT 3 3 RX3) dX5_run_18 (k := 1 + 3) (j := a) (hX.k (k := 3) (by decide)) hX.s3 (rfl) (by omega) (by decide) ?_
    refine y_get hC fX5_109 dX5_run_19 (k := 1 + 5 + π (a)) (hX.kV (i := a) (by omega)) (hX.rV hv (i := a) (by omega) (e3 (a) (by omega))) rfl ?_
    refine y_iload_n hC dX5_run_22 (i := 2) rfl rfl ?_
    refine y_icmp_ne_n (tgt := 29) hC dX5_run_23 (by decide) (by omega) (by omega) (fun c_23 => ?_) (fun c_23 => ?_)
    · refine y_aload_n hC dX5_run_29 (i := 0) rfl rfl ?_
      refine y_get hC fX5_19 dX5_run_30 (k := 0) (by omega) h.a0 rfl ?_
      refine y_aload_n hC dX5_run_33 (i := 0) rfl rfl ?_
      refine y_get hC fX5_12 dX5_run_34 (k := 0) (by omega) h.a0 rfl ?_
      refine y_callV hC mX1_record kX5_51 dX5_run_37 (b := 16) (As := [rf E (1)]) (rest := []) (c_X1_record l E g S.c S.kp S.hr S.sn S.r B h.ha h.sta hv) (by omega) h.a16 rfl rfl rfl (Nat.le_of_ble_eq_true rfl) ⟨Nat.le_of_ble_eq_true rfl, Nat.le_of_ble_eq_true rfl⟩ (pk_v ?_)
      rintro g_37 hrec_37
      have hq_37 := h.uprec hrec_37
      obtain ⟨co_37, pi_37, π_37, ρ_37, V_37, U_37, hX_37, e1_37, e2_37, e3_37, e4_37⟩ := zStF (r := S.r) (B := B) hq_37.sta hv
      refine y_aload_n hC dX5_run_40 (i := 0) rfl rfl ?_
      refine y_get hC fX5_12 dX5_run_41 (k := 0) (by omega) hq_37.a0 rfl ?_
      refine y_get hC fX5_97 dX5_run_44 (k := 1) (hX_37.k (k := 0) (by decide)) hX_37.s0 rfl ?_
      refine y_iload_n hC dX5_run_47 (i := 1) rfl rfl ?_
      refine y_aald hC (Or.inl ⟨rfl, rfl, rfl⟩ : yT 3 3 RX3) dX5_run_48 (k := 1 + 3) (j := a) (hX_37.k (k := 3) (by decide)) hX_37.s3 (rfl) (by omega) (by decide) ?_
      refine y_iload_n hC dX5_run_49 (i := 2) rfl rfl ?_
      refine y_put hC fpX5_109 dX5_run_50 (k := 1 + 5 + π_37 (a)) (hX_37.kV (i := a) (by omega)) (hX_37.rV hv (i := a) (by omega) (e3_37 (a) (by omega))) (Nat.le_of_ble_eq_true rfl) (z01n (zb01 hz)) (z01f (zb01 hz)) (fs' := [.int (nI (rg S.r (a) 0)), .int (nI (rg S.r (a) 1)), .int (nI (rg S.r (a) 2)), .int (nI (rg S.r (a) 3)), .int (nI (zb)), .int (nI (rg S.r (a) 5)), .int (nI (rg S.r (a) 6))]) rfl ?_
      have hX_50 : SF E g_37 (va_up g_37 (1 + 5 + π_37 (a)) (oB 3 [.int (nI (rg S.r (a) 0)), .int (nI (rg S.r (a) 1)), .int (nI (rg S.r (a) 2)), .int (nI (rg S.r (a) 3)), .int (nI (zb)), .int (nI (rg S.r (a) 5)), .int (nI (rg S.r (a) 6))])) 1 co_37 pi_37 π_37 ρ_37 (va_up V_37 (a) (v7 (nI (rg S.r (a) 0)) (nI (rg S.r (a) 1)) (nI (rg S.r (a) 2)) (nI (rg S.r (a) 3)) (nI (zb)) (nI (rg S.r (a) 5)) (nI (rg S.r (a) 6)))) U_37 (v4 (nI (rc S.r)) (nI (gc S.r)) (nI (nn (S.r 156))) (nI (nn (S.r 157)))) := hX_37.upV (i := a) (by omega) (v7 (nI (rg S.r (a) 0)) (nI (rg S.r (a) 1)) (nI (rg S.r (a) 2)) (nI (rg S.r (a) 3)) (nI (zb)) (nI (rg S.r (a) 5)) (nI (rg S.r (a) 6)))
      generalize (va_up g_37 (1 + 5 + π_37 (a)) (oB 3 [.int (nI (rg S.r (a) 0)), .int (nI (rg S.r (a) 1)), .int (nI (rg S.r (a) 2)), .int (nI (rg S.r (a) 3)), .int (nI (zb)), .int (nI (rg S.r (a) 5)), .int (nI (rg S.r (a) 6))])) = g_50 at hX_50 ⊢
      obtain ⟨q1, q2, q3, q4, q5, q6, q7, q8, q9⟩ := hv.rg (i := a) (by omega)
      have hr := hX_50.st (sr_v (r2 := upd S.r (37 + 7 * a) (nI zb)) (a := a) hv e1_37 e2_37 e3_37 e4_37 (by omega) (run_v q1) (fun k hk => pk_un (by omega)))
      have hvn := vr_runz (z := zb) hv hB (show a < rc S.r by omega) hz
      have hq_n := hq_37.upst hr.1 hr.2
      refine y_aload_n hC dX5_run_53 (i := 0) rfl rfl ?_
      refine y_get hC fX5_12 dX5_run_54 (k := 0) (by omega) hq_n.a0 rfl ?_
      refine y_callV hC mX4_runningRanges kX5_113 dX5_run_57 (b := 1) (As := []) (rest := []) (c_X4_runningRanges l E g_50 1 (upd S.r (37 + 7 * a) (nI zb)) B (by omega) hq_n.sta hvn) (hX_50.k (k := 0) (by decide)) hX_50.s0 rfl rfl rfl (Nat.le_of_ble_eq_true rfl) ⟨Nat.le_of_ble_eq_true rfl, Nat.le_of_ble_eq_true rfl⟩ (pk_i ?_)
      rintro r_57 g_57 ⟨hr_57, hq_57⟩
      obtain rfl := hq_57.symm
      rw [hr_57]
      clear hr_57 r_57
      refine y_iret (hC := hC) (hd := dX5_run_60) (hq := ?_)
      have hqq : qRun S (nI a) zb = (nI (rnC (upd S.r (37 + 7 * a) (nI zb))), S.rec.row (upd S.r (37 + 7 * a) (nI zb))) := by simp only [qRun, nn_I (show a < 2147483648 by omega), if_pos c_5, if_neg c_23]
      rw [hqq]
      exact ⟨rfl, hq_n.cp⟩
    · refine y_bipush (v := (-5)) hC dX5_run_26 (by decide) ?_
      refine y_iret (hC := hC) (hd := dX5_run_28) (hq := ?_)
      have hqq : qRun S (nI a) zb = (-5, S) := by simp only [qRun, nn_I (show a < 2147483648 by omega), if_pos c_5, if_pos c_23]
      rw [hqq]
      exact ⟨rfl, h.cp⟩
  · refine y_iconst (v := (-1)) hC dX5_run_8 (by decide) ?_
    refine y_iret (hC := hC) (hd := dX5_run_9) (hq := ?_)
    have hqq : qRun S xa zb = (-1, S) := by simp only [qRun, if_neg c_5]
    rw [hqq]
    exact ⟨rfl, h.cp⟩

theorem dX5_addGlow_0 : decode cX5_addGlow 0 = .ok (.iload_n 1, 1) := by decide +kernel
theorem dX5_addGlow_1 : decode cX5_addGlow 1 = .ok (.invokestatic 41, 3) := by decide +kernel
theorem dX5_addGlow_4 : decode cX5_addGlow 4 = .ok (.ifCond .ne 5, 3) := by decide +kernel
theorem dX5_addGlow_7 : decode cX5_addGlow 7 = .ok (.iconst (-1), 1) := by decide +kernel
theorem dX5_addGlow_8 : decode cX5_addGlow 8 = .ok (.ireturn, 1) := by decide +kernel
theorem dX5_addGlow_9 : decode cX5_addGlow 9 = .ok (.iload_n 2, 1) := by decide +kernel
theorem dX5_addGlow_10 : decode cX5_addGlow 10 = .ok (.invokestatic 45, 3) := by decide +kernel
theorem dX5_addGlow_13 : decode cX5_addGlow 13 = .ok (.ifCond .eq 10, 3) := by decide +kernel
theorem dX5_addGlow_16 : decode cX5_addGlow 16 = .ok (.iload_n 3, 1) := by decide +kernel
theorem dX5_addGlow_17 : decode cX5_addGlow 17 = .ok (.invokestatic 73, 3) := by decide +kernel
theorem dX5_addGlow_20 : decode cX5_addGlow 20 = .ok (.ifCond .ne 6, 3) := by decide +kernel
theorem dX5_addGlow_23 : decode cX5_addGlow 23 = .ok (.bipush (-2), 2) := by decide +kernel
theorem dX5_addGlow_25 : decode cX5_addGlow 25 = .ok (.ireturn, 1) := by decide +kernel
theorem dX5_addGlow_26 : decode cX5_addGlow 26 = .ok (.aload_n 0, 1) := by decide +kernel
theorem dX5_addGlow_27 : decode cX5_addGlow 27 = .ok (.getfield 12, 3) := by decide +kernel
theorem dX5_addGlow_30 : decode cX5_addGlow 30 = .ok (.iload_n 1, 1) := by decide +kernel
theorem dX5_addGlow_31 : decode cX5_addGlow 31 = .ok (.invokevirtual 117, 3) := by decide +kernel
theorem dX5_addGlow_34 : decode cX5_addGlow 34 = .ok (.ifnull 6, 3) := by decide +kernel
theorem dX5_addGlow_37 : decode cX5_addGlow 37 = .ok (.bipush (-4), 2) := by decide +kernel
theorem dX5_addGlow_39 : decode cX5_addGlow 39 = .ok (.ireturn, 1) := by decide +kernel
theorem dX5_addGlow_40 : decode cX5_addGlow 40 = .ok (.aload_n 0, 1) := by decide +kernel
theorem dX5_addGlow_41 : decode cX5_addGlow 41 = .ok (.getfield 12, 3) := by decide +kernel
theorem dX5_addGlow_44 : decode cX5_addGlow 44 = .ok (.getfield 121, 3) := by decide +kernel
theorem dX5_addGlow_47 : decode cX5_addGlow 47 = .ok (.iconst 4, 1) := by decide +kernel
theorem dX5_addGlow_48 : decode cX5_addGlow 48 = .ok (.if_icmp .lt 6, 3) := by decide +kernel
theorem dX5_addGlow_51 : decode cX5_addGlow 51 = .ok (.bipush (-3), 2) := by decide +kernel
theorem dX5_addGlow_53 : decode cX5_addGlow 53 = .ok (.ireturn, 1) := by decide +kernel
theorem dX5_addGlow_54 : decode cX5_addGlow 54 = .ok (.aload_n 0, 1) := by decide +kernel
theorem dX5_addGlow_55 : decode cX5_addGlow 55 = .ok (.getfield 19, 3) := by decide +kernel
theorem dX5_addGlow_58 : decode cX5_addGlow 58 = .ok (.aload_n 0, 1) := by decide +kernel
theorem dX5_addGlow_59 : decode cX5_addGlow 59 = .ok (.getfield 12, 3) := by decide +kernel
theorem dX5_addGlow_62 : decode cX5_addGlow 62 = .ok (.invokevirtual 51, 3) := by decide +kernel
theorem dX5_addGlow_65 : decode cX5_addGlow 65 = .ok (.aload_n 0, 1) := by decide +kernel
theorem dX5_addGlow_66 : decode cX5_addGlow 66 = .ok (.getfield 12, 3) := by decide +kernel
theorem dX5_addGlow_69 : decode cX5_addGlow 69 = .ok (.iload_n 1, 1) := by decide +kernel
theorem dX5_addGlow_70 : decode cX5_addGlow 70 = .ok (.iload_n 2, 1) := by decide +kernel
theorem dX5_addGlow_71 : decode cX5_addGlow 71 = .ok (.iload_n 3, 1) := by decide +kernel
theorem dX5_addGlow_72 : decode cX5_addGlow 72 = .ok (.invokevirtual 124, 3) := by decide +kernel
theorem dX5_addGlow_75 : decode cX5_addGlow 75 = .ok (.ireturn, 1) := by decide +kernel
set_option maxHeartbeats 4000000 in
set_option maxRecDepth 100000 in
theorem c_X5_addGlow (l : Launch) (E : gE) (g : Mem) (S : AS) (B : Nat) (hB : B < 90000000) (ho : OK S B) (sh mk wa : Nat → Int32) (h : CQ E g S sh mk wa) (xa xb xs : Int32) : Mt l E yX5_addGlow cX5_addGlow 4 (some .int) 3 69 [rf E (0), .int (xa), .int (xb), .int (xs)] g (pI (fun z g' => z = (qAddGlow S xa xb xs).1 ∧ CP E g' (qAddGlow S xa xb xs).2)) := by
  have hK := h.k
  have hv := ho.v
  have hrc : rc S.r ≤ 6 := hv.1.2
  have hgc : gc S.r ≤ 4 := hv.2.1.2
  have hc4 := ho.c4
  refine mt_go (own := RX5) (by decide) rfl (lo := [some (rf E (0)), some (.int (xa)), some (.int (xb)), some (.int (xs))]) rfl (Nat.le_of_ble_eq_true rfl) (fun X hC => ?_)
  obtain ⟨co, pi, π, ρ, V, U, hX, e1, e2, e3, e4⟩ := zStF (r := S.r) (B := B) h.sta hv
  refine y_iload_n hC dX5_addGlow_0 (i := 1) rfl rfl ?_
  refine y_callS hC mX5_isPlace kX5_41 dX5_addGlow_1 (As := [.int (xa)]) (rest := []) (c_X5_isPlace l E g ((xa))) rfl rfl rfl (Nat.le_of_ble_eq_true rfl) ⟨Nat.le_of_ble_eq_true rfl, Nat.le_of_ble_eq_true rfl⟩ (pk_i ?_)
  rintro r_1 g_1 ⟨hr_1, hq_1⟩
  obtain rfl := hq_1.symm
  rw [hr_1]
  clear hr_1 r_1
  refine y_if_ne_b (tgt := 9) hC dX5_addGlow_4 (by decide) (fun c_4 => ?_) (fun c_4 => ?_)
  · obtain ⟨p, hp, hpx⟩ := zN (m := 31) c_4
    subst hpx
    refine y_iload_n hC dX5_addGlow_9 (i := 2) rfl rfl ?_
    refine y_callS hC mX5_isColour kX5_45 dX5_addGlow_10 (As := [.int (xb)]) (rest := []) (c_X5_isColour l E g ((xb))) rfl rfl rfl (Nat.le_of_ble_eq_true rfl) ⟨Nat.le_of_ble_eq_true rfl, Nat.le_of_ble_eq_true rfl⟩ (pk_i ?_)
    rintro r_10 g_10 ⟨hr_10, hq_10⟩
    obtain rfl := hq_10.symm
    rw [hr_10]
    clear hr_10 r_10
    refine y_if_eq_b (tgt := 23) hC dX5_addGlow_13 (by decide) (fun c_13 => ?_) (fun c_13 => ?_)
    · refine y_bipush (v := (-2)) hC dX5_addGlow_23 (by decide) ?_
      refine y_iret (hC := hC) (hd := dX5_addGlow_25) (hq := ?_)
      have hqq : qAddGlow S (nI p) xb xs = (-2, S) := by simp only [qAddGlow, nn_I (show p < 2147483648 by omega), if_pos c_4]; exact if_neg (fun q => c_13 q.1)
      rw [hqq]
      exact ⟨rfl, h.cp⟩
    · refine y_iload_n hC dX5_addGlow_16 (i := 3) rfl rfl ?_
      refine y_callS hC mX5_isLength kX5_73 dX5_addGlow_17 (As := [.int (xs)]) (rest := []) (c_X5_isLength l E g ((xs))) rfl rfl rfl (Nat.le_of_ble_eq_true rfl) ⟨Nat.le_of_ble_eq_true rfl, Nat.le_of_ble_eq_true rfl⟩ (pk_i ?_)
      rintro r_17 g_17 ⟨hr_17, hq_17⟩
      obtain rfl := hq_17.symm
      rw [hr_17]
      clear hr_17 r_17
      refine y_if_ne_b (tgt := 26) hC dX5_addGlow_20 (by decide) (fun c_20 => ?_) (fun c_20 => ?_)
      · refine y_aload_n hC dX5_addGlow_26 (i := 0) rfl rfl ?_
        refine y_get hC fX5_12 dX5_addGlow_27 (k := 0) (by omega) h.a0 rfl ?_
        refine y_iload_n hC dX5_addGlow_30 (i := 1) rfl rfl ?_
        refine y_callV hC mX4_glowAt kX5_117 dX5_addGlow_31 (b := 1) (As := [.int (nI (p))]) (rest := []) (c_X4_glowAt l E g 1 S.r B (by omega) h.sta hv p (by omega)) (hX.k (k := 0) (by decide)) hX.s0 rfl rfl rfl (Nat.le_of_ble_eq_true rfl) ⟨Nat.le_of_ble_eq_true rfl, Nat.le_of_ble_eq_true rfl⟩ (pk_r ?_)
        rintro go g_g ⟨hq0, hgo⟩
        obtain rfl := hq0.symm
        refine y_ifnull (tgt := 40) hC dX5_addGlow_34 (by decide) (fun c_34 => ?_) (fun k_34 c_34 => ?_)
        · have hgs : ¬ (gAt S.r p).isSome = true := by
            obtain ⟨-, hg1⟩ | ⟨gi, ga, -, -, -, hz, -⟩ := hgo
            · rw [hg1]; decide
            · rw [hz] at c_34; cases c_34
          refine y_aload_n hC dX5_addGlow_40 (i := 0) rfl rfl ?_
          refine y_get hC fX5_12 dX5_addGlow_41 (k := 0) (by omega) h.a0 rfl ?_
          refine y_get hC fX5_121 dX5_addGlow_44 (k := 1) (hX.k (k := 0) (by decide)) hX.s0 rfl ?_
          refine y_iconst (v := nI 4) hC dX5_addGlow_47 (by decide) ?_
          refine y_icmp_lt_n (tgt := 54) hC dX5_addGlow_48 (by decide) (by omega) (by omega) (fun c_48 => ?_) (fun c_48 => ?_)
          · refine y_aload_n hC dX5_addGlow_54 (i := 0) rfl rfl ?_
            refine y_get hC fX5_19 dX5_addGlow_55 (k := 0) (by omega) h.a0 rfl ?_
            refine y_aload_n hC dX5_addGlow_58 (i := 0) rfl rfl ?_
            refine y_get hC fX5_12 dX5_addGlow_59 (k := 0) (by omega) h.a0 rfl ?_
            refine y_callV hC mX1_record kX5_51 dX5_addGlow_62 (b := 16) (As := [rf E (1)]) (rest := []) (c_X1_record l E g S.c S.kp S.hr S.sn S.r B h.ha h.sta hv) (by omega) h.a16 rfl rfl rfl (Nat.le_of_ble_eq_true rfl) ⟨Nat.le_of_ble_eq_true rfl, Nat.le_of_ble_eq_true rfl⟩ (pk_v ?_)
            rintro g_62 hrec_62
            have hq_62 := h.uprec hrec_62
            obtain ⟨co_62, pi_62, π_62, ρ_62, V_62, U_62, hX_62, e1_62, e2_62, e3_62, e4_62⟩ := zStF (r := S.r) (B := B) hq_62.sta hv
            refine y_aload_n hC dX5_addGlow_65 (i := 0) rfl rfl ?_
            refine y_get hC fX5_12 dX5_addGlow_66 (k := 0) (by omega) hq_62.a0 rfl ?_
            refine y_iload_n hC dX5_addGlow_69 (i := 1) rfl rfl ?_
            refine y_iload_n hC dX5_addGlow_70 (i := 2) rfl rfl ?_
            refine y_iload_n hC dX5_addGlow_71 (i := 3) rfl rfl ?_
            refine y_callV hC mX4_appendGlow kX5_124 dX5_addGlow_72 (b := 1) (As := [.int (nI (p)), .int (xb), .int (xs)]) (rest := []) (c_X4_appendGlow l E g_62 1 S.r B (by omega) hq_62.sta hv (nI p) xb xs c_48) (hX_62.k (k := 0) (by decide)) hX_62.s0 rfl rfl rfl (Nat.le_of_ble_eq_true rfl) ⟨Nat.le_of_ble_eq_true rfl, Nat.le_of_ble_eq_true rfl⟩ (pk_i ?_)
            rintro rz g_72 ⟨hz, hst, hfr⟩
            rw [hz]
            refine y_iret (hC := hC) (hd := dX5_addGlow_75) (hq := ?_)
            have hqq : qAddGlow S (nI p) xb xs = (nI (gc S.r), S.rec.row (addG S.r (nI p) xb xs)) := by simp only [qAddGlow, nn_I (show p < 2147483648 by omega), if_pos c_4, if_pos (And.intro c_13 c_20), if_neg hgs, if_pos c_48]
            rw [hqq]
            exact ⟨rfl, (hq_62.upst hst hfr).cp⟩
          · refine y_bipush (v := (-3)) hC dX5_addGlow_51 (by decide) ?_
            refine y_iret (hC := hC) (hd := dX5_addGlow_53) (hq := ?_)
            have hqq : qAddGlow S (nI p) xb xs = (-3, S) := by simp only [qAddGlow, nn_I (show p < 2147483648 by omega), if_pos c_4, if_pos (And.intro c_13 c_20), if_neg hgs, if_neg c_48]
            rw [hqq]
            exact ⟨rfl, h.cp⟩
        · have hgs : (gAt S.r p).isSome = true := by
            obtain ⟨hz, -⟩ | ⟨gi, ga, hg1, -⟩ := hgo
            · rw [hz] at c_34; cases c_34
            · rw [hg1]; rfl
          refine y_bipush (v := (-4)) hC dX5_addGlow_37 (by decide) ?_
          refine y_iret (hC := hC) (hd := dX5_addGlow_39) (hq := ?_)
          have hqq : qAddGlow S (nI p) xb xs = (-4, S) := by simp only [qAddGlow, nn_I (show p < 2147483648 by omega), if_pos c_4, if_pos (And.intro c_13 c_20), if_pos hgs]
          rw [hqq]
          exact ⟨rfl, h.cp⟩
      · refine y_bipush (v := (-2)) hC dX5_addGlow_23 (by decide) ?_
        refine y_iret (hC := hC) (hd := dX5_addGlow_25) (hq := ?_)
        have hqq : qAddGlow S (nI p) xb xs = (-2, S) := by simp only [qAddGlow, nn_I (show p < 2147483648 by omega), if_pos c_4]; exact if_neg (fun q => c_20 q.2)
        rw [hqq]
        exact ⟨rfl, h.cp⟩
  · refine y_iconst (v := (-1)) hC dX5_addGlow_7 (by decide) ?_
    refine y_iret (hC := hC) (hd := dX5_addGlow_8) (hq := ?_)
    have hqq : qAddGlow S xa xb xs = (-1, S) := by simp only [qAddGlow, if_neg c_4]
    rw [hqq]
    exact ⟨rfl, h.cp⟩

theorem dX5_pass_0 : decode cX5_pass 0 = .ok (.iload_n 1, 1) := by decide +kernel
theorem dX5_pass_1 : decode cX5_pass 1 = .ok (.iconst 1, 1) := by decide +kernel
theorem dX5_pass_2 : decode cX5_pass 2 = .ok (.if_icmp .lt 10, 3) := by decide +kernel
theorem dX5_pass_5 : decode cX5_pass 5 = .ok (.iload_n 1, 1) := by decide +kernel
theorem dX5_pass_6 : decode cX5_pass 6 = .ok (.sipush 1000, 3) := by decide +kernel
theorem dX5_pass_9 : decode cX5_pass 9 = .ok (.if_icmp .le 6, 3) := by decide +kernel
theorem dX5_pass_12 : decode cX5_pass 12 = .ok (.bipush (-2), 2) := by decide +kernel
theorem dX5_pass_14 : decode cX5_pass 14 = .ok (.ireturn, 1) := by decide +kernel
theorem dX5_pass_15 : decode cX5_pass 15 = .ok (.aload_n 0, 1) := by decide +kernel
theorem dX5_pass_16 : decode cX5_pass 16 = .ok (.getfield 19, 3) := by decide +kernel
theorem dX5_pass_19 : decode cX5_pass 19 = .ok (.aload_n 0, 1) := by decide +kernel
theorem dX5_pass_20 : decode cX5_pass 20 = .ok (.getfield 12, 3) := by decide +kernel
theorem dX5_pass_23 : decode cX5_pass 23 = .ok (.invokevirtual 51, 3) := by decide +kernel
theorem dX5_pass_26 : decode cX5_pass 26 = .ok (.aload_n 0, 1) := by decide +kernel
theorem dX5_pass_27 : decode cX5_pass 27 = .ok (.getfield 12, 3) := by decide +kernel
theorem dX5_pass_30 : decode cX5_pass 30 = .ok (.iload_n 1, 1) := by decide +kernel
theorem dX5_pass_31 : decode cX5_pass 31 = .ok (.invokevirtual 134, 3) := by decide +kernel
theorem dX5_pass_34 : decode cX5_pass 34 = .ok (.ireturn, 1) := by decide +kernel
set_option maxHeartbeats 4000000 in
set_option maxRecDepth 100000 in
theorem c_X5_pass (l : Launch) (E : gE) (g : Mem) (S : AS) (B : Nat) (hB : B < 90000000) (ho : OK S B) (sh mk wa : Nat → Int32) (h : CQ E g S sh mk wa) (xa : Int32) : Mt l E yX5_pass cX5_pass 2 (some .int) 3 69 [rf E (0), .int (xa)] g (pI (fun z g' => z = (qPass S xa).1 ∧ CP E g' (qPass S xa).2)) := by
  have hK := h.k
  have hv := ho.v
  have hrc : rc S.r ≤ 6 := hv.1.2
  have hgc : gc S.r ≤ 4 := hv.2.1.2
  have hc4 := ho.c4
  refine mt_go (own := RX5) (by decide) rfl (lo := [some (rf E (0)), some (.int (xa))]) rfl (Nat.le_of_ble_eq_true rfl) (fun X hC => ?_)
  obtain ⟨co, pi, π, ρ, V, U, hX, e1, e2, e3, e4⟩ := zStF (r := S.r) (B := B) h.sta hv
  refine y_iload_n hC dX5_pass_0 (i := 1) rfl rfl ?_
  refine y_iconst (v := nI 1) hC dX5_pass_1 (by decide) ?_
  refine y_icmp_lt (tgt := 12) hC dX5_pass_2 (by decide) (fun c_2 => ?_) (fun c_2 => ?_)
  · refine y_bipush (v := (-2)) hC dX5_pass_12 (by decide) ?_
    refine y_iret (hC := hC) (hd := dX5_pass_14) (hq := ?_)
    have hqq : qPass S xa = (-2, S) := by simp only [qPass]; exact if_neg (fun q => absurd c_2 (Int32.not_lt.mpr (Int32.le_iff_toInt_le.mpr q.1)))
    rw [hqq]
    exact ⟨rfl, h.cp⟩
  · refine y_iload_n hC dX5_pass_5 (i := 1) rfl rfl ?_
    refine y_sipush (v := nI 1000) hC dX5_pass_6 (by decide) ?_
    refine y_icmp_le (tgt := 15) hC dX5_pass_9 (by decide) (fun c_9 => ?_) (fun c_9 => ?_)
    · have hcc : 1 ≤ xa.toInt ∧ xa.toInt ≤ 1000 := by
        have t1 : (nI 1).toInt = 1 := by decide
        have t2 : (nI 1000).toInt = 1000 := by decide
        rw [Int32.lt_iff_toInt_lt, t1] at c_2
        rw [Int32.le_iff_toInt_le, t2] at c_9
        omega
      obtain ⟨t, ht1, ht, htx⟩ := zNg (a := 1) (m := 1000) hcc
      subst htx
      refine y_aload_n hC dX5_pass_15 (i := 0) rfl rfl ?_
      refine y_get hC fX5_19 dX5_pass_16 (k := 0) (by omega) h.a0 rfl ?_
      refine y_aload_n hC dX5_pass_19 (i := 0) rfl rfl ?_
      refine y_get hC fX5_12 dX5_pass_20 (k := 0) (by omega) h.a0 rfl ?_
      refine y_callV hC mX1_record kX5_51 dX5_pass_23 (b := 16) (As := [rf E (1)]) (rest := []) (c_X1_record l E g S.c S.kp S.hr S.sn S.r B h.ha h.sta hv) (by omega) h.a16 rfl rfl rfl (Nat.le_of_ble_eq_true rfl) ⟨Nat.le_of_ble_eq_true rfl, Nat.le_of_ble_eq_true rfl⟩ (pk_v ?_)
      rintro g_23 hrec_23
      have hq_23 := h.uprec hrec_23
      obtain ⟨co_23, pi_23, π_23, ρ_23, V_23, U_23, hX_23, e1_23, e2_23, e3_23, e4_23⟩ := zStF (r := S.r) (B := B) hq_23.sta hv
      refine y_aload_n hC dX5_pass_26 (i := 0) rfl rfl ?_
      refine y_get hC fX5_12 dX5_pass_27 (k := 0) (by omega) hq_23.a0 rfl ?_
      refine y_iload_n hC dX5_pass_30 (i := 1) rfl rfl ?_
      refine y_callV hC mX4_advance kX5_134 dX5_pass_31 (b := 1) (As := [.int (nI (t))]) (rest := []) (c_X4_advance l E g_23 1 S.r B (by omega) hq_23.sta hv t (by omega)) (hX_23.k (k := 0) (by decide)) hX_23.s0 rfl rfl rfl (Nat.le_of_ble_eq_true rfl) ⟨Nat.le_of_ble_eq_true rfl, Nat.le_of_ble_eq_true rfl⟩ (pk_i ?_)
      rintro rz g_31 ⟨hz, hst, hfr⟩
      rw [hz]
      refine y_iret (hC := hC) (hd := dX5_pass_34) (hq := ?_)
      have hqq : qPass S (nI t) = (nI (made S.r t), S.rec.row (tkR S.r t)) := by simp only [qPass, nn_I (show t < 2147483648 by omega), if_pos hcc]
      rw [hqq]
      exact ⟨rfl, (hq_23.upst hst hfr).cp⟩
    · refine y_bipush (v := (-2)) hC dX5_pass_12 (by decide) ?_
      refine y_iret (hC := hC) (hd := dX5_pass_14) (hq := ?_)
      have hqq : qPass S xa = (-2, S) := by simp only [qPass]; exact if_neg (fun q => c_9 (Int32.le_iff_toInt_le.mpr q.2))
      rw [hqq]
      exact ⟨rfl, h.cp⟩

theorem dX5_type_0 : decode cX5_type 0 = .ok (.aload_n 0, 1) := by decide +kernel
theorem dX5_type_1 : decode cX5_type 1 = .ok (.getfield 26, 3) := by decide +kernel
theorem dX5_type_4 : decode cX5_type 4 = .ok (.getfield 156, 3) := by decide +kernel
theorem dX5_type_7 : decode cX5_type 7 = .ok (.bipush 60, 2) := by decide +kernel
theorem dX5_type_9 : decode cX5_type 9 = .ok (.if_icmp .lt 6, 3) := by decide +kernel
theorem dX5_type_12 : decode cX5_type 12 = .ok (.bipush (-3), 2) := by decide +kernel
theorem dX5_type_14 : decode cX5_type 14 = .ok (.ireturn, 1) := by decide +kernel
theorem dX5_type_15 : decode cX5_type 15 = .ok (.aload_n 0, 1) := by decide +kernel
theorem dX5_type_16 : decode cX5_type 16 = .ok (.getfield 26, 3) := by decide +kernel
theorem dX5_type_19 : decode cX5_type 19 = .ok (.iload_n 1, 1) := by decide +kernel
theorem dX5_type_20 : decode cX5_type 20 = .ok (.invokevirtual 159, 3) := by decide +kernel
theorem dX5_type_23 : decode cX5_type 23 = .ok (.aload_n 0, 1) := by decide +kernel
theorem dX5_type_24 : decode cX5_type 24 = .ok (.getfield 26, 3) := by decide +kernel
theorem dX5_type_27 : decode cX5_type 27 = .ok (.getfield 156, 3) := by decide +kernel
theorem dX5_type_30 : decode cX5_type 30 = .ok (.ireturn, 1) := by decide +kernel
set_option maxHeartbeats 4000000 in
set_option maxRecDepth 100000 in
theorem c_X5_type (l : Launch) (E : gE) (g : Mem) (S : AS) (B : Nat) (hB : B < 90000000) (ho : OK S B) (sh mk wa : Nat → Int32) (h : CQ E g S sh mk wa) (c : Nat) (hc : c < 65536) : Mt l E yX5_type cX5_type 2 (some .int) 1 21 [rf E (0), .int (nI (c))] g (pI (fun z g' => z = (qType S c).1 ∧ CP E g' (qType S c).2)) := by
  have hK := h.k
  have hv := ho.v
  have hrc : rc S.r ≤ 6 := hv.1.2
  have hgc : gc S.r ≤ 4 := hv.2.1.2
  have hc4 := ho.c4
  refine mt_go (own := RX5) (by decide) rfl (lo := [some (rf E (0)), some (.int (nI (c)))]) rfl (Nat.le_of_ble_eq_true rfl) (fun X hC => ?_)
  obtain ⟨co, pi, π, ρ, V, U, hX, e1, e2, e3, e4⟩ := zStF (r := S.r) (B := B) h.sta hv
  obtain ⟨fx, tk, it, stq, tiq, hP⟩ := h.pa
  have hl60 := hP.l
  refine y_aload_n hC dX5_type_0 (i := 0) rfl rfl ?_
  refine y_get hC fX5_26 dX5_type_1 (k := 0) (by omega) h.a0 rfl ?_
  refine y_get hC fX5_156 dX5_type_4 (k := 93) (by omega) hP.a93 rfl ?_
  refine y_bipush (v := nI 60) hC dX5_type_7 (by decide) ?_
  refine y_icmp_lt_n (tgt := 15) hC dX5_type_9 (by decide) (by omega) (by omega) (fun c_9 => ?_) (fun c_9 => ?_)
  · refine y_aload_n hC dX5_type_15 (i := 0) rfl rfl ?_
    refine y_get hC fX5_26 dX5_type_16 (k := 0) (by omega) h.a0 rfl ?_
    refine y_iload_n hC dX5_type_19 (i := 1) rfl rfl ?_
    refine y_callV hC mX2_append kX5_159 dX5_type_20 (b := 93) (As := [.int (nI (c))]) (rest := []) (c_X2_append l E g S.ln S.tx fx tk it stq tiq hP c hc c_9) (by omega) hP.a93 rfl rfl rfl (Nat.le_of_ble_eq_true rfl) ⟨Nat.le_of_ble_eq_true rfl, Nat.le_of_ble_eq_true rfl⟩ (pk_v ?_)
    rintro g_20 ⟨hpa, hfp⟩
    have hq_n := h.uppa hpa hfp
    obtain ⟨fx2, tk2, it2, stq2, tiq2, hP2⟩ := hpa
    refine y_aload_n hC dX5_type_23 (i := 0) rfl rfl ?_
    refine y_get hC fX5_26 dX5_type_24 (k := 0) (by omega) hq_n.a0 rfl ?_
    refine y_get hC fX5_156 dX5_type_27 (k := 93) (by omega) hP2.a93 rfl ?_
    refine y_iret (hC := hC) (hd := dX5_type_30) (hq := ?_)
    have hqq : qType S c = (nI (S.ln + 1), .mk S.r S.c S.kp S.hr S.sn (S.ln + 1) (va_up S.tx S.ln c)) := by simp only [qType, if_pos c_9]
    rw [hqq]
    exact ⟨rfl, hq_n.cp⟩
  · refine y_bipush (v := (-3)) hC dX5_type_12 (by decide) ?_
    refine y_iret (hC := hC) (hd := dX5_type_14) (hq := ?_)
    have hqq : qType S c = (-3, S) := by simp only [qType, if_neg c_9]
    rw [hqq]
    exact ⟨rfl, h.cp⟩

theorem dX5_clearText_0 : decode cX5_clearText 0 = .ok (.aload_n 0, 1) := by decide +kernel
theorem dX5_clearText_1 : decode cX5_clearText 1 = .ok (.getfield 26, 3) := by decide +kernel
theorem dX5_clearText_4 : decode cX5_clearText 4 = .ok (.getfield 156, 3) := by decide +kernel
theorem dX5_clearText_7 : decode cX5_clearText 7 = .ok (.istore_n 1, 1) := by decide +kernel
theorem dX5_clearText_8 : decode cX5_clearText 8 = .ok (.aload_n 0, 1) := by decide +kernel
theorem dX5_clearText_9 : decode cX5_clearText 9 = .ok (.getfield 26, 3) := by decide +kernel
theorem dX5_clearText_12 : decode cX5_clearText 12 = .ok (.iconst 0, 1) := by decide +kernel
theorem dX5_clearText_13 : decode cX5_clearText 13 = .ok (.putfield 156, 3) := by decide +kernel
theorem dX5_clearText_16 : decode cX5_clearText 16 = .ok (.iload_n 1, 1) := by decide +kernel
theorem dX5_clearText_17 : decode cX5_clearText 17 = .ok (.ireturn, 1) := by decide +kernel
set_option maxHeartbeats 4000000 in
set_option maxRecDepth 100000 in
theorem c_X5_clearText (l : Launch) (E : gE) (g : Mem) (S : AS) (B : Nat) (hB : B < 90000000) (ho : OK S B) (sh mk wa : Nat → Int32) (h : CQ E g S sh mk wa) : Mt l E yX5_clearText cX5_clearText 2 (some .int) 0 0 [rf E (0)] g (pI (fun z g' => z = (qClearText S ).1 ∧ CP E g' (qClearText S ).2)) := by
  have hK := h.k
  have hv := ho.v
  have hrc : rc S.r ≤ 6 := hv.1.2
  have hgc : gc S.r ≤ 4 := hv.2.1.2
  have hc4 := ho.c4
  refine mt_go (own := RX5) (by decide) rfl (lo := [some (rf E (0)), none]) rfl (Nat.le_of_ble_eq_true rfl) (fun X hC => ?_)
  obtain ⟨co, pi, π, ρ, V, U, hX, e1, e2, e3, e4⟩ := zStF (r := S.r) (B := B) h.sta hv
  obtain ⟨fx, tk, it, stq, tiq, hP⟩ := h.pa
  refine y_aload_n hC dX5_clearText_0 (i := 0) rfl rfl ?_
  refine y_get hC fX5_26 dX5_clearText_1 (k := 0) (by omega) h.a0 rfl ?_
  refine y_get hC fX5_156 dX5_clearText_4 (k := 93) (by omega) hP.a93 rfl ?_
  refine y_istore_n hC dX5_clearText_7 (i := 1) rfl (Nat.le_of_ble_eq_true rfl) rfl (lo' := [some (rf E (0)), some (.int (nI (S.ln)))]) rfl ?_
  refine y_aload_n hC dX5_clearText_8 (i := 0) rfl rfl ?_
  refine y_get hC fX5_26 dX5_clearText_9 (k := 0) (by omega) h.a0 rfl ?_
  refine y_iconst (v := nI 0) hC dX5_clearText_12 (by decide) ?_
  refine y_put hC fpX5_156 dX5_clearText_13 (k := 93) (by omega) hP.a93 (Nat.le_of_ble_eq_true rfl) (rfl) (rfl) (fs' := [rf E (94), rf E (95), rf E (96), .int (nI (0)), .int (tk), .int (it)]) rfl ?_
  refine y_iload_n hC dX5_clearText_16 (i := 1) rfl rfl ?_
  refine y_iret (hC := hC) (hd := dX5_clearText_17) (hq := ?_)
  have hq_n := h.uppa (ln := 0) (tx := S.tx) (g2 := va_up g 93 (oB 2 [rf E 94, rf E 95, rf E 96, .int (nI 0), .int tk, .int it])) ⟨fx, tk, it, stq, tiq, hP.1, Nat.zero_le _, fun k hk => absurd hk (Nat.not_lt_zero k), fun k hk => absurd hk (Nat.not_lt_zero k), va_up_self _ _ _, (va_up_ne _ _ (by decide)).trans hP.a94, (va_up_ne _ _ (by decide)).trans hP.a95, (va_up_ne _ _ (by decide)).trans hP.a96⟩ (fun k hk => va_up_ne _ _ (by omega))
  exact ⟨rfl, hq_n.cp⟩

theorem dX5_paint_0 : decode cX5_paint 0 = .ok (.iload_n 1, 1) := by decide +kernel
theorem dX5_paint_1 : decode cX5_paint 1 = .ok (.iload_n 2, 1) := by decide +kernel
theorem dX5_paint_2 : decode cX5_paint 2 = .ok (.invokestatic 163, 3) := by decide +kernel
theorem dX5_paint_5 : decode cX5_paint 5 = .ok (.ifCond .ne 5, 3) := by decide +kernel
theorem dX5_paint_8 : decode cX5_paint 8 = .ok (.iconst (-1), 1) := by decide +kernel
theorem dX5_paint_9 : decode cX5_paint 9 = .ok (.ireturn, 1) := by decide +kernel
theorem dX5_paint_10 : decode cX5_paint 10 = .ok (.iload_n 3, 1) := by decide +kernel
theorem dX5_paint_11 : decode cX5_paint 11 = .ok (.invokestatic 41, 3) := by decide +kernel
theorem dX5_paint_14 : decode cX5_paint 14 = .ok (.ifCond .ne 6, 3) := by decide +kernel
theorem dX5_paint_17 : decode cX5_paint 17 = .ok (.bipush (-2), 2) := by decide +kernel
theorem dX5_paint_19 : decode cX5_paint 19 = .ok (.ireturn, 1) := by decide +kernel
theorem dX5_paint_20 : decode cX5_paint 20 = .ok (.iload_n 1, 1) := by decide +kernel
theorem dX5_paint_21 : decode cX5_paint 21 = .ok (.bipush 8, 2) := by decide +kernel
theorem dX5_paint_23 : decode cX5_paint 23 = .ok (.imul, 1) := by decide +kernel
theorem dX5_paint_24 : decode cX5_paint 24 = .ok (.iload_n 2, 1) := by decide +kernel
theorem dX5_paint_25 : decode cX5_paint 25 = .ok (.iadd, 1) := by decide +kernel
theorem dX5_paint_26 : decode cX5_paint 26 = .ok (.istore 4, 2) := by decide +kernel
theorem dX5_paint_28 : decode cX5_paint 28 = .ok (.aload_n 0, 1) := by decide +kernel
theorem dX5_paint_29 : decode cX5_paint 29 = .ok (.getfield 12, 3) := by decide +kernel
theorem dX5_paint_32 : decode cX5_paint 32 = .ok (.getfield 166, 3) := by decide +kernel
theorem dX5_paint_35 : decode cX5_paint 35 = .ok (.iload 4, 2) := by decide +kernel
theorem dX5_paint_37 : decode cX5_paint 37 = .ok (.iaload, 1) := by decide +kernel
theorem dX5_paint_38 : decode cX5_paint 38 = .ok (.istore 5, 2) := by decide +kernel
theorem dX5_paint_40 : decode cX5_paint 40 = .ok (.iload 5, 2) := by decide +kernel
theorem dX5_paint_42 : decode cX5_paint 42 = .ok (.iload_n 3, 1) := by decide +kernel
theorem dX5_paint_43 : decode cX5_paint 43 = .ok (.if_icmp .ne 6, 3) := by decide +kernel
theorem dX5_paint_46 : decode cX5_paint 46 = .ok (.bipush (-5), 2) := by decide +kernel
theorem dX5_paint_48 : decode cX5_paint 48 = .ok (.ireturn, 1) := by decide +kernel
theorem dX5_paint_49 : decode cX5_paint 49 = .ok (.aload_n 0, 1) := by decide +kernel
theorem dX5_paint_50 : decode cX5_paint 50 = .ok (.getfield 19, 3) := by decide +kernel
theorem dX5_paint_53 : decode cX5_paint 53 = .ok (.aload_n 0, 1) := by decide +kernel
theorem dX5_paint_54 : decode cX5_paint 54 = .ok (.getfield 12, 3) := by decide +kernel
theorem dX5_paint_57 : decode cX5_paint 57 = .ok (.invokevirtual 51, 3) := by decide +kernel
theorem dX5_paint_60 : decode cX5_paint 60 = .ok (.aload_n 0, 1) := by decide +kernel
theorem dX5_paint_61 : decode cX5_paint 61 = .ok (.getfield 12, 3) := by decide +kernel
theorem dX5_paint_64 : decode cX5_paint 64 = .ok (.getfield 166, 3) := by decide +kernel
theorem dX5_paint_67 : decode cX5_paint 67 = .ok (.iload 4, 2) := by decide +kernel
theorem dX5_paint_69 : decode cX5_paint 69 = .ok (.iload_n 3, 1) := by decide +kernel
theorem dX5_paint_70 : decode cX5_paint 70 = .ok (.iastore, 1) := by decide +kernel
theorem dX5_paint_71 : decode cX5_paint 71 = .ok (.iload 5, 2) := by decide +kernel
theorem dX5_paint_73 : decode cX5_paint 73 = .ok (.ireturn, 1) := by decide +kernel
set_option maxHeartbeats 4000000 in
set_option maxRecDepth 100000 in
theorem c_X5_paint (l : Launch) (E : gE) (g : Mem) (S : AS) (B : Nat) (hB : B < 90000000) (ho : OK S B) (sh mk wa : Nat → Int32) (h : CQ E g S sh mk wa) (xa xb xc : Int32) : Mt l E yX5_paint cX5_paint 6 (some .int) 3 69 [rf E (0), .int (xa), .int (xb), .int (xc)] g (pI (fun z g' => z = (qPaint S xa xb xc).1 ∧ CP E g' (qPaint S xa xb xc).2)) := by
  have hK := h.k
  have hv := ho.v
  have hrc : rc S.r ≤ 6 := hv.1.2
  have hgc : gc S.r ≤ 4 := hv.2.1.2
  have hc4 := ho.c4
  refine mt_go (own := RX5) (by decide) rfl (lo := [some (rf E (0)), some (.int (xa)), some (.int (xb)), some (.int (xc)), none, none]) rfl (Nat.le_of_ble_eq_true rfl) (fun X hC => ?_)
  obtain ⟨co, pi, π, ρ, V, U, hX, e1, e2, e3, e4⟩ := zStF (r := S.r) (B := B) h.sta hv
  refine y_iload_n hC dX5_paint_0 (i := 1) rfl rfl ?_
  refine y_iload_n hC dX5_paint_1 (i := 2) rfl rfl ?_
  refine y_callS hC mX5_isPixel kX5_163 dX5_paint_2 (As := [.int (xa), .int (xb)]) (rest := []) (c_X5_isPixel l E g ((xa)) ((xb))) rfl rfl rfl (Nat.le_of_ble_eq_true rfl) ⟨Nat.le_of_ble_eq_true rfl, Nat.le_of_ble_eq_true rfl⟩ (pk_i ?_)
  rintro r_2 g_2 ⟨hr_2, hq_2⟩
  obtain rfl := hq_2.symm
  rw [hr_2]
  clear hr_2 r_2
  refine y_if_ne_b (tgt := 10) hC dX5_paint_5 (by decide) (fun c_5 => ?_) (fun c_5 => ?_)
  · obtain ⟨p, hp, hpx⟩ := zN (m := 7) c_5.1
    subst hpx
    obtain ⟨q, hq, hqx⟩ := zN (m := 7) c_5.2
    subst hqx
    refine y_iload_n hC dX5_paint_10 (i := 3) rfl rfl ?_
    refine y_callS hC mX5_isPlace kX5_41 dX5_paint_11 (As := [.int (xc)]) (rest := []) (c_X5_isPlace l E g ((xc))) rfl rfl rfl (Nat.le_of_ble_eq_true rfl) ⟨Nat.le_of_ble_eq_true rfl, Nat.le_of_ble_eq_true rfl⟩ (pk_i ?_)
    rintro r_11 g_11 ⟨hr_11, hq_11⟩
    obtain rfl := hq_11.symm
    rw [hr_11]
    clear hr_11 r_11
    refine y_if_ne_b (tgt := 20) hC dX5_paint_14 (by decide) (fun c_14 => ?_) (fun c_14 => ?_)
    · obtain ⟨c, hc, hcx⟩ := zN (m := 31) c_14
      subst hcx
      refine y_iload_n hC dX5_paint_20 (i := 1) rfl rfl ?_
      refine y_bipush (v := nI 8) hC dX5_paint_21 (by decide) ?_
      refine y_imul_n hC dX5_paint_23 ?_
      refine y_iload_n hC dX5_paint_24 (i := 2) rfl rfl ?_
      refine y_iadd_n hC dX5_paint_25 ?_
      refine y_istore hC dX5_paint_26 (Nat.le_of_ble_eq_true rfl) rfl (lo' := [some (rf E (0)), some (.int (nI (p))), some (.int (nI (q))), some (.int (nI (c))), some (.int (nI ((p * 8) + q))), none]) rfl ?_
      refine y_aload_n hC dX5_paint_28 (i := 0) rfl rfl ?_
      refine y_get hC fX5_12 dX5_paint_29 (k := 0) (by omega) h.a0 rfl ?_
      refine y_get hC fX5_166 dX5_paint_32 (k := 1) (hX.k (k := 0) (by decide)) hX.s0 rfl ?_
      refine y_iload hC dX5_paint_35 rfl ?_
      refine y_iald hC dX5_paint_37 (k := 1 + 2) (j := (p * 8) + q) (hX.k (k := 2) (by decide)) hX.s2 (rfl) (by omega) (by decide) ?_
      have hpb := (hv.2.2.2.2.2.2.1 (8 * p + q) (by omega)).2
      refine y_top (y := nI (px S.r (8 * p + q))) ((e2 (p * 8 + q) (by omega)).trans ((congrArg (fun k => S.r (92 + k)) (show p * 8 + q = 8 * p + q by omega)).trans (hv.2.2.2.2.2.2.1 (8 * p + q) (by omega)).1)) ?_
      refine y_istore hC dX5_paint_38 (Nat.le_of_ble_eq_true rfl) rfl (lo' := [some (rf E (0)), some (.int (nI (p))), some (.int (nI (q))), some (.int (nI (c))), some (.int (nI ((p * 8) + q))), some (.int (nI (px S.r (8 * p + q))))]) rfl ?_
      refine y_iload hC dX5_paint_40 rfl ?_
      refine y_iload_n hC dX5_paint_42 (i := 3) rfl rfl ?_
      refine y_icmp_ne_n (tgt := 49) hC dX5_paint_43 (by decide) (by omega) (by omega) (fun c_43 => ?_) (fun c_43 => ?_)
      · refine y_aload_n hC dX5_paint_49 (i := 0) rfl rfl ?_
        refine y_get hC fX5_19 dX5_paint_50 (k := 0) (by omega) h.a0 rfl ?_
        refine y_aload_n hC dX5_paint_53 (i := 0) rfl rfl ?_
        refine y_get hC fX5_12 dX5_paint_54 (k := 0) (by omega) h.a0 rfl ?_
        refine y_callV hC mX1_record kX5_51 dX5_paint_57 (b := 16) (As := [rf E (1)]) (rest := []) (c_X1_record l E g S.c S.kp S.hr S.sn S.r B h.ha h.sta hv) (by omega) h.a16 rfl rfl rfl (Nat.le_of_ble_eq_true rfl) ⟨Nat.le_of_ble_eq_true rfl, Nat.le_of_ble_eq_true rfl⟩ (pk_v ?_)
        rintro g_57 hrec_57
        have hq_57 := h.uprec hrec_57
        obtain ⟨co_57, pi_57, π_57, ρ_57, V_57, U_57, hX_57, e1_57, e2_57, e3_57, e4_57⟩ := zStF (r := S.r) (B := B) hq_57.sta hv
        refine y_aload_n hC dX5_paint_60 (i := 0) rfl rfl ?_
        refine y_get hC fX5_12 dX5_paint_61 (k := 0) (by omega) hq_57.a0 rfl ?_
        refine y_get hC fX5_166 dX5_paint_64 (k := 1) (hX_57.k (k := 0) (by decide)) hX_57.s0 rfl ?_
        refine y_iload hC dX5_paint_67 rfl ?_
        refine y_iload_n hC dX5_paint_69 (i := 3) rfl rfl ?_
        refine y_iast hC dX5_paint_70 (k := 1 + 2) (j := (p * 8) + q) (hX_57.k (k := 2) (by decide)) hX_57.s2 (rfl) (by omega) (by decide) ?_
        have hX_70 : SF E g_57 (va_up g_57 (1 + 2) (aI E 0 64 (upd pi_57 ((p * 8) + q) (nI (c))))) 1 co_57 (upd pi_57 ((p * 8) + q) (nI (c))) π_57 ρ_57 V_57 U_57 (v4 (nI (rc S.r)) (nI (gc S.r)) (nI (nn (S.r 156))) (nI (nn (S.r 157)))) := hX_57.uppi _
        generalize (va_up g_57 (1 + 2) (aI E 0 64 (upd pi_57 ((p * 8) + q) (nI (c))))) = g_70 at hX_70 ⊢
        have hr := hX_70.st (sr_p (r2 := upd S.r (92 + (8 * p + q)) (nI c)) hv e1_57 e3_57 e4_57 (fun k hk => by
          by_cases e : k = p * 8 + q
          · rw [e, pk_us, show 92 + (p * 8 + q) = 92 + (8 * p + q) by omega, pk_us]
          · rw [pk_un e, pk_un (by omega)]; exact e2_57 k hk) (fun k hk => pk_un (by omega)))
        refine y_iload hC dX5_paint_71 rfl ?_
        refine y_iret (hC := hC) (hd := dX5_paint_73) (hq := ?_)
        have hqq : qPaint S (nI p) (nI q) (nI c) = (nI (px S.r (8 * p + q)), S.rec.row (upd S.r (92 + (8 * p + q)) (nI c))) := by simp only [qPaint, nn_I (show p < 2147483648 by omega), nn_I (show q < 2147483648 by omega), nn_I (show c < 2147483648 by omega), if_pos c_5, if_pos c_14, if_neg c_43]
        rw [hqq]
        exact ⟨rfl, (hq_57.upst hr.1 hr.2).cp⟩
      · refine y_bipush (v := (-5)) hC dX5_paint_46 (by decide) ?_
        refine y_iret (hC := hC) (hd := dX5_paint_48) (hq := ?_)
        have hqq : qPaint S (nI p) (nI q) (nI c) = (-5, S) := by simp only [qPaint, nn_I (show p < 2147483648 by omega), nn_I (show q < 2147483648 by omega), nn_I (show c < 2147483648 by omega), if_pos c_5, if_pos c_14, if_pos c_43]
        rw [hqq]
        exact ⟨rfl, h.cp⟩
    · refine y_bipush (v := (-2)) hC dX5_paint_17 (by decide) ?_
      refine y_iret (hC := hC) (hd := dX5_paint_19) (hq := ?_)
      have hqq : qPaint S (nI p) (nI q) xc = (-2, S) := by simp only [qPaint, nn_I (show p < 2147483648 by omega), nn_I (show q < 2147483648 by omega), if_pos c_5, if_neg c_14]
      rw [hqq]
      exact ⟨rfl, h.cp⟩
  · refine y_iconst (v := (-1)) hC dX5_paint_8 (by decide) ?_
    refine y_iret (hC := hC) (hd := dX5_paint_9) (hq := ?_)
    have hqq : qPaint S xa xb xc = (-1, S) := by simp only [qPaint, if_neg c_5]
    rw [hqq]
    exact ⟨rfl, h.cp⟩

theorem dX5_undo_0 : decode cX5_undo 0 = .ok (.aload_n 0, 1) := by decide +kernel
theorem dX5_undo_1 : decode cX5_undo 1 = .ok (.getfield 19, 3) := by decide +kernel
theorem dX5_undo_4 : decode cX5_undo 4 = .ok (.getfield 172, 3) := by decide +kernel
theorem dX5_undo_7 : decode cX5_undo 7 = .ok (.ifCond .ne 6, 3) := by decide +kernel
theorem dX5_undo_10 : decode cX5_undo 10 = .ok (.bipush (-5), 2) := by decide +kernel
theorem dX5_undo_12 : decode cX5_undo 12 = .ok (.ireturn, 1) := by decide +kernel
theorem dX5_undo_13 : decode cX5_undo 13 = .ok (.aload_n 0, 1) := by decide +kernel
theorem dX5_undo_14 : decode cX5_undo 14 = .ok (.getfield 19, 3) := by decide +kernel
theorem dX5_undo_17 : decode cX5_undo 17 = .ok (.aload_n 0, 1) := by decide +kernel
theorem dX5_undo_18 : decode cX5_undo 18 = .ok (.getfield 12, 3) := by decide +kernel
theorem dX5_undo_21 : decode cX5_undo 21 = .ok (.invokevirtual 174, 3) := by decide +kernel
theorem dX5_undo_24 : decode cX5_undo 24 = .ok (.aload_n 0, 1) := by decide +kernel
theorem dX5_undo_25 : decode cX5_undo 25 = .ok (.getfield 19, 3) := by decide +kernel
theorem dX5_undo_28 : decode cX5_undo 28 = .ok (.getfield 172, 3) := by decide +kernel
theorem dX5_undo_31 : decode cX5_undo 31 = .ok (.ireturn, 1) := by decide +kernel
set_option maxHeartbeats 4000000 in
set_option maxRecDepth 100000 in
theorem c_X5_undo (l : Launch) (E : gE) (g : Mem) (S : AS) (B : Nat) (hB : B < 90000000) (ho : OK S B) (sh mk wa : Nat → Int32) (h : CQ E g S sh mk wa) : Mt l E yX5_undo cX5_undo 1 (some .int) 3 69 [rf E (0)] g (pI (fun z g' => z = (qUndo S ).1 ∧ CP E g' (qUndo S ).2)) := by
  have hK := h.k
  have hv := ho.v
  have hrc : rc S.r ≤ 6 := hv.1.2
  have hgc : gc S.r ≤ 4 := hv.2.1.2
  have hc4 := ho.c4
  refine mt_go (own := RX5) (by decide) rfl (lo := [some (rf E (0))]) rfl (Nat.le_of_ble_eq_true rfl) (fun X hC => ?_)
  obtain ⟨co, pi, π, ρ, V, U, hX, e1, e2, e3, e4⟩ := zStF (r := S.r) (B := B) h.sta hv
  refine y_aload_n hC dX5_undo_0 (i := 0) rfl rfl ?_
  refine y_get hC fX5_19 dX5_undo_1 (k := 0) (by omega) h.a0 rfl ?_
  refine y_get hC fX5_172 dX5_undo_4 (k := 16) (by omega) h.a16 rfl ?_
  refine y_if_ne_n (tgt := 13) hC dX5_undo_7 (by decide) (by omega) (fun c_7 => ?_) (fun c_7 => ?_)
  · refine y_aload_n hC dX5_undo_13 (i := 0) rfl rfl ?_
    refine y_get hC fX5_19 dX5_undo_14 (k := 0) (by omega) h.a0 rfl ?_
    refine y_aload_n hC dX5_undo_17 (i := 0) rfl rfl ?_
    refine y_get hC fX5_12 dX5_undo_18 (k := 0) (by omega) h.a0 rfl ?_
    refine y_callV hC mX1_takeBack kX5_174 dX5_undo_21 (b := 16) (As := [rf E (1)]) (rest := []) (c_X1_takeBack l E g S.c S.kp S.hr S.sn S.r B h.ha h.sta (by omega) (ho.2.2.2.1 (S.c - 1) (by omega))) (by omega) h.a16 rfl rfl rfl (Nat.le_of_ble_eq_true rfl) ⟨Nat.le_of_ble_eq_true rfl, Nat.le_of_ble_eq_true rfl⟩ (pk_v ?_)
    rintro g_21 hu
    have hq_n := h.upund hu
    refine y_aload_n hC dX5_undo_24 (i := 0) rfl rfl ?_
    refine y_get hC fX5_19 dX5_undo_25 (k := 0) (by omega) hq_n.a0 rfl ?_
    refine y_get hC fX5_172 dX5_undo_28 (k := 16) (by omega) hq_n.a16 rfl ?_
    refine y_iret (hC := hC) (hd := dX5_undo_31) (hq := ?_)
    have hqq : qUndo S  = (nI (S.c - 1), .mk (S.hr (S.c - 1)) (S.c - 1) S.kp S.hr S.sn S.ln S.tx) := by simp only [qUndo, if_neg c_7]
    rw [hqq]
    exact ⟨rfl, hq_n.cp⟩
  · refine y_bipush (v := (-5)) hC dX5_undo_10 (by decide) ?_
    refine y_iret (hC := hC) (hd := dX5_undo_12) (hq := ?_)
    have hqq : qUndo S  = (-5, S) := by simp only [qUndo, if_pos c_7]
    rw [hqq]
    exact ⟨rfl, h.cp⟩

theorem dX5_keep_0 : decode cX5_keep 0 = .ok (.aload_n 0, 1) := by decide +kernel
theorem dX5_keep_1 : decode cX5_keep 1 = .ok (.getfield 19, 3) := by decide +kernel
theorem dX5_keep_4 : decode cX5_keep 4 = .ok (.getfield 177, 3) := by decide +kernel
theorem dX5_keep_7 : decode cX5_keep 7 = .ok (.aload_n 0, 1) := by decide +kernel
theorem dX5_keep_8 : decode cX5_keep 8 = .ok (.getfield 12, 3) := by decide +kernel
theorem dX5_keep_11 : decode cX5_keep 11 = .ok (.invokevirtual 180, 3) := by decide +kernel
theorem dX5_keep_14 : decode cX5_keep 14 = .ok (.aload_n 0, 1) := by decide +kernel
theorem dX5_keep_15 : decode cX5_keep 15 = .ok (.getfield 19, 3) := by decide +kernel
theorem dX5_keep_18 : decode cX5_keep 18 = .ok (.iconst 1, 1) := by decide +kernel
theorem dX5_keep_19 : decode cX5_keep 19 = .ok (.putfield 183, 3) := by decide +kernel
theorem dX5_keep_22 : decode cX5_keep 22 = .ok (.aload_n 0, 1) := by decide +kernel
theorem dX5_keep_23 : decode cX5_keep 23 = .ok (.getfield 12, 3) := by decide +kernel
theorem dX5_keep_26 : decode cX5_keep 26 = .ok (.getfield 83, 3) := by decide +kernel
theorem dX5_keep_29 : decode cX5_keep 29 = .ok (.ireturn, 1) := by decide +kernel
set_option maxHeartbeats 4000000 in
set_option maxRecDepth 100000 in
theorem c_X5_keep (l : Launch) (E : gE) (g : Mem) (S : AS) (B : Nat) (hB : B < 90000000) (ho : OK S B) (sh mk wa : Nat → Int32) (h : CQ E g S sh mk wa) : Mt l E yX5_keep cX5_keep 1 (some .int) 2 48 [rf E (0)] g (pI (fun z g' => z = (qKeep S ).1 ∧ CP E g' (qKeep S ).2)) := by
  have hK := h.k
  have hv := ho.v
  have hrc : rc S.r ≤ 6 := hv.1.2
  have hgc : gc S.r ≤ 4 := hv.2.1.2
  have hc4 := ho.c4
  obtain ⟨ro, hro⟩ := h.ha.s18
  refine mt_go (own := RX5) (by decide) rfl (lo := [some (rf E (0))]) rfl (Nat.le_of_ble_eq_true rfl) (fun X hC => ?_)
  refine y_aload_n hC dX5_keep_0 (i := 0) rfl rfl ?_
  refine y_get hC fX5_19 dX5_keep_1 (k := 0) (by omega) h.a0 rfl ?_
  refine y_get hC fX5_177 dX5_keep_4 (k := 16) (by omega) h.a16 rfl ?_
  refine y_aload_n hC dX5_keep_7 (i := 0) rfl rfl ?_
  refine y_get hC fX5_12 dX5_keep_8 (k := 0) (by omega) h.a0 rfl ?_
  refine y_callV hC mX4_copy kX5_180 dX5_keep_11 (b := 18) (As := [rf E (1)]) (rest := []) (c_X4_copy l E g 18 1 ro S.r B hro h.sta hv (by omega)) hro.of_lt.1 hro.of_lt.2.choose_spec rfl rfl rfl (Nat.le_of_ble_eq_true rfl) ⟨Nat.le_of_ble_eq_true rfl, Nat.le_of_ble_eq_true rfl⟩ (pk_v ?_)
  rintro g_11 ⟨hcp, hfr⟩
  refine y_aload_n hC dX5_keep_14 (i := 0) rfl rfl ?_
  refine y_get hC fX5_19 dX5_keep_15 (k := 0) (by omega) ((hfr 0 (by omega)).trans h.a0) rfl ?_
  refine y_iconst (v := nI 1) hC dX5_keep_18 (by decide) ?_
  refine y_put hC fpX5_183 dX5_keep_19 (k := 16) (by omega) ((hfr 16 (by omega)).trans h.a16) (Nat.le_of_ble_eq_true rfl) (z01n (Or.inr rfl)) (z01f (Or.inr rfl)) (fs' := [rf E (17), rf E (18), .int (nI (S.c)), .int (nI (1))]) rfl ?_
  refine y_aload_n hC dX5_keep_22 (i := 0) rfl rfl ?_
  refine y_get hC fX5_12 dX5_keep_23 (k := 0) (by omega) ((va_up_ne _ _ (by decide)).trans ((hfr 0 (by omega)).trans h.a0)) rfl ?_
  refine y_get hC fX5_83 dX5_keep_26 (k := 1) (by omega) ((va_up_ne _ _ (by decide)).trans ((hfr 1 (by omega)).trans h.sta.f1)) rfl ?_
  refine y_top (y := nI (rc S.r)) hv.1.1 ?_
  refine y_iret (hC := hC) (hd := dX5_keep_29) (hq := ?_)
  exact ⟨rfl, (h.upkeep hcp hfr).cp⟩

theorem dX5_restore_0 : decode cX5_restore 0 = .ok (.aload_n 0, 1) := by decide +kernel
theorem dX5_restore_1 : decode cX5_restore 1 = .ok (.getfield 19, 3) := by decide +kernel
theorem dX5_restore_4 : decode cX5_restore 4 = .ok (.getfield 183, 3) := by decide +kernel
theorem dX5_restore_7 : decode cX5_restore 7 = .ok (.ifCond .ne 6, 3) := by decide +kernel
theorem dX5_restore_10 : decode cX5_restore 10 = .ok (.bipush (-5), 2) := by decide +kernel
theorem dX5_restore_12 : decode cX5_restore 12 = .ok (.ireturn, 1) := by decide +kernel
theorem dX5_restore_13 : decode cX5_restore 13 = .ok (.aload_n 0, 1) := by decide +kernel
theorem dX5_restore_14 : decode cX5_restore 14 = .ok (.getfield 19, 3) := by decide +kernel
theorem dX5_restore_17 : decode cX5_restore 17 = .ok (.aload_n 0, 1) := by decide +kernel
theorem dX5_restore_18 : decode cX5_restore 18 = .ok (.getfield 12, 3) := by decide +kernel
theorem dX5_restore_21 : decode cX5_restore 21 = .ok (.invokevirtual 51, 3) := by decide +kernel
theorem dX5_restore_24 : decode cX5_restore 24 = .ok (.aload_n 0, 1) := by decide +kernel
theorem dX5_restore_25 : decode cX5_restore 25 = .ok (.getfield 12, 3) := by decide +kernel
theorem dX5_restore_28 : decode cX5_restore 28 = .ok (.aload_n 0, 1) := by decide +kernel
theorem dX5_restore_29 : decode cX5_restore 29 = .ok (.getfield 19, 3) := by decide +kernel
theorem dX5_restore_32 : decode cX5_restore 32 = .ok (.getfield 177, 3) := by decide +kernel
theorem dX5_restore_35 : decode cX5_restore 35 = .ok (.invokevirtual 180, 3) := by decide +kernel
theorem dX5_restore_38 : decode cX5_restore 38 = .ok (.aload_n 0, 1) := by decide +kernel
theorem dX5_restore_39 : decode cX5_restore 39 = .ok (.getfield 12, 3) := by decide +kernel
theorem dX5_restore_42 : decode cX5_restore 42 = .ok (.getfield 83, 3) := by decide +kernel
theorem dX5_restore_45 : decode cX5_restore 45 = .ok (.ireturn, 1) := by decide +kernel
set_option maxHeartbeats 4000000 in
set_option maxRecDepth 100000 in
theorem c_X5_restore (l : Launch) (E : gE) (g : Mem) (S : AS) (B : Nat) (hB : B < 90000000) (ho : OK S B) (sh mk wa : Nat → Int32) (h : CQ E g S sh mk wa) : Mt l E yX5_restore cX5_restore 1 (some .int) 3 69 [rf E (0)] g (pI (fun z g' => z = (qRestore S ).1 ∧ CP E g' (qRestore S ).2)) := by
  have hK := h.k
  have hv := ho.v
  have hrc : rc S.r ≤ 6 := hv.1.2
  have hgc : gc S.r ≤ 4 := hv.2.1.2
  have hc4 := ho.c4
  refine mt_go (own := RX5) (by decide) rfl (lo := [some (rf E (0))]) rfl (Nat.le_of_ble_eq_true rfl) (fun X hC => ?_)
  obtain ⟨co, pi, π, ρ, V, U, hX, e1, e2, e3, e4⟩ := zStF (r := S.r) (B := B) h.sta hv
  have hkp := ho.2.2.1
  refine y_aload_n hC dX5_restore_0 (i := 0) rfl rfl ?_
  refine y_get hC fX5_19 dX5_restore_1 (k := 0) (by omega) h.a0 rfl ?_
  refine y_get hC fX5_183 dX5_restore_4 (k := 16) (by omega) h.a16 rfl ?_
  refine y_if_ne_n (tgt := 13) hC dX5_restore_7 (by decide) (by omega) (fun c_7 => ?_) (fun c_7 => ?_)
  · refine y_aload_n hC dX5_restore_13 (i := 0) rfl rfl ?_
    refine y_get hC fX5_19 dX5_restore_14 (k := 0) (by omega) h.a0 rfl ?_
    refine y_aload_n hC dX5_restore_17 (i := 0) rfl rfl ?_
    refine y_get hC fX5_12 dX5_restore_18 (k := 0) (by omega) h.a0 rfl ?_
    refine y_callV hC mX1_record kX5_51 dX5_restore_21 (b := 16) (As := [rf E (1)]) (rest := []) (c_X1_record l E g S.c S.kp S.hr S.sn S.r B h.ha h.sta hv) (by omega) h.a16 rfl rfl rfl (Nat.le_of_ble_eq_true rfl) ⟨Nat.le_of_ble_eq_true rfl, Nat.le_of_ble_eq_true rfl⟩ (pk_v ?_)
    rintro g_21 hrec_21
    have hq_21 := h.uprec hrec_21
    obtain ⟨co_21, pi_21, π_21, ρ_21, V_21, U_21, hX_21, e1_21, e2_21, e3_21, e4_21⟩ := zStF (r := S.r) (B := B) hq_21.sta hv
    have hk1 : S.kp = 1 := by have := ho.2.2.1; omega
    have hvs := ho.2.2.2.2.1 hk1
    have hs18 := hq_21.ha.sn1 hk1
    refine y_aload_n hC dX5_restore_24 (i := 0) rfl rfl ?_
    refine y_get hC fX5_12 dX5_restore_25 (k := 0) (by omega) hq_21.a0 rfl ?_
    refine y_aload_n hC dX5_restore_28 (i := 0) rfl rfl ?_
    refine y_get hC fX5_19 dX5_restore_29 (k := 0) (by omega) hq_21.a0 rfl ?_
    refine y_get hC fX5_177 dX5_restore_32 (k := 16) (by omega) hq_21.a16 rfl ?_
    refine y_callV hC mX4_copy kX5_180 dX5_restore_35 (b := 1) (As := [rf E (18)]) (rest := []) (c_X4_copy l E g_21 1 18 S.r S.sn B hq_21.sta hs18 hvs (by omega)) (hX_21.k (k := 0) (by decide)) hX_21.s0 rfl rfl rfl (Nat.le_of_ble_eq_true rfl) ⟨Nat.le_of_ble_eq_true rfl, Nat.le_of_ble_eq_true rfl⟩ (pk_v ?_)
    rintro g_35 ⟨hcp, hfr⟩
    have hq_n := hq_21.upst hcp hfr
    refine y_aload_n hC dX5_restore_38 (i := 0) rfl rfl ?_
    refine y_get hC fX5_12 dX5_restore_39 (k := 0) (by omega) hq_n.a0 rfl ?_
    refine y_get hC fX5_83 dX5_restore_42 (k := 1) (by omega) hcp.f1 rfl ?_
    refine y_top (y := nI (rc S.sn)) (hvs.1.1) ?_
    refine y_iret (hC := hC) (hd := dX5_restore_45) (hq := ?_)
    have hqq : qRestore S  = (nI (rc S.sn), S.rec.row S.sn) := by simp only [qRestore, if_neg c_7]
    rw [hqq]
    exact ⟨rfl, hq_n.cp⟩
  · refine y_bipush (v := (-5)) hC dX5_restore_10 (by decide) ?_
    refine y_iret (hC := hC) (hd := dX5_restore_12) (hq := ?_)
    have hqq : qRestore S  = (-5, S) := by simp only [qRestore, if_pos c_7]
    rw [hqq]
    exact ⟨rfl, h.cp⟩
end
