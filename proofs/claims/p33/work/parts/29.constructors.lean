/-! ===== the constructors ===== -/
def zD0 : List Value := [.int 0, .int 0, .int 0, .int 0]
theorem zi0 : zMi yX0_init cX0_init 1 := ⟨⟨by decide +kernel, by decide +kernel, by decide +kernel⟩, rfl, wiX0_init, lw_g (List.mem_append_right _ (List.mem_of_getElem? (i := 4) (by decide +kernel))) rfl, wcX0_init⟩
theorem zo0 : Cond.methodLink RX0 1 Lib.objectInit ∈ lw_gt := lw_g (List.mem_append_right _ (List.mem_of_getElem? (i := 70) (by decide +kernel))) rfl
def zD1 : List Value := [.null, .null, .int 0, .int 0]
theorem zi1 : zMi yX1_init cX1_init 2 := ⟨⟨by decide +kernel, by decide +kernel, by decide +kernel⟩, rfl, wiX1_init, lw_g (List.mem_append_right _ (List.mem_of_getElem? (i := 5) (by decide +kernel))) rfl, wcX1_init⟩
theorem zo1 : Cond.methodLink RX1 3 Lib.objectInit ∈ lw_gt := lw_g (List.mem_append_right _ (List.mem_of_getElem? (i := 128) (by decide +kernel))) rfl
def zD2 : List Value := [.null, .null, .null, .int 0, .int 0, .int 0]
theorem zi2 : zMi yX2_init cX2_init 1 := ⟨⟨by decide +kernel, by decide +kernel, by decide +kernel⟩, rfl, wiX2_init, lw_g (List.mem_append_right _ (List.mem_of_getElem? (i := 6) (by decide +kernel))) rfl, wcX2_init⟩
theorem zo2 : Cond.methodLink RX2 3 Lib.objectInit ∈ lw_gt := lw_g (List.mem_append_right _ (List.mem_of_getElem? (i := 151) (by decide +kernel))) rfl
def zD3 : List Value := [.int 0, .int 0, .int 0, .int 0, .int 0, .int 0, .int 0]
theorem zi3 : zMi yX3_init cX3_init 1 := ⟨⟨by decide +kernel, by decide +kernel, by decide +kernel⟩, rfl, wiX3_init, lw_g (List.mem_append_right _ (List.mem_of_getElem? (i := 3) (by decide +kernel))) rfl, wcX3_init⟩
theorem zo3 : Cond.methodLink RX3 3 Lib.objectInit ∈ lw_gt := lw_g (List.mem_append_right _ (List.mem_of_getElem? (i := 31) (by decide +kernel))) rfl
def zD4 : List Value := [.null, .null, .null, .null, .int 0, .int 0, .int 0, .int 0]
theorem zi4 : zMi yX4_init cX4_init 2 := ⟨⟨by decide +kernel, by decide +kernel, by decide +kernel⟩, rfl, wiX4_init, lw_g (List.mem_append_right _ (List.mem_of_getElem? (i := 2) (by decide +kernel))) rfl, wcX4_init⟩
theorem zo4 : Cond.methodLink RX4 3 Lib.objectInit ∈ lw_gt := lw_g (List.mem_append_right _ (List.mem_of_getElem? (i := 22) (by decide +kernel))) rfl
def zD5 : List Value := [.null, .null, .null, .null, .null, .null]
theorem zi5 : zMi yX5_init cX5_init 1 := ⟨⟨by decide +kernel, by decide +kernel, by decide +kernel⟩, rfl, wiX5_init, lw_g (List.mem_append_right _ (List.mem_of_getElem? (i := 1) (by decide +kernel))) rfl, wcX5_init⟩
theorem zo5 : Cond.methodLink RX5 3 Lib.objectInit ∈ lw_gt := lw_g (List.mem_append_right _ (List.mem_of_getElem? (i := 14) (by decide +kernel))) rfl
theorem zn5_9 : zNew RX5 9 4 8 zD4 := ⟨RX4, TX4, tyX4, rfl, uwX4, tyX4_ok, lw_g (List.mem_append_right _ (List.mem_of_getElem? (i := 17) (by decide +kernel))) rfl, lw_g (List.mem_append_right _ (List.mem_of_getElem? (i := 18) (by decide +kernel))) rfl, lw_g (List.mem_append_right _ (List.mem_of_getElem? (i := 2) (by decide +kernel))) rfl, fun j hj => by rcases (show j = 0 ∨ j = 1 ∨ j = 2 ∨ j = 3 ∨ j = 4 ∨ j = 5 ∨ j = 6 ∨ j = 7 by omega) with rfl | rfl | rfl | rfl | rfl | rfl | rfl | rfl <;> rfl⟩
theorem zn5_16 : zNew RX5 16 1 4 zD1 := ⟨RX1, TX1, tyX1, rfl, uwX1, tyX1_ok, lw_g (List.mem_append_right _ (List.mem_of_getElem? (i := 123) (by decide +kernel))) rfl, lw_g (List.mem_append_right _ (List.mem_of_getElem? (i := 124) (by decide +kernel))) rfl, lw_g (List.mem_append_right _ (List.mem_of_getElem? (i := 5) (by decide +kernel))) rfl, fun j hj => by rcases (show j = 0 ∨ j = 1 ∨ j = 2 ∨ j = 3 by omega) with rfl | rfl | rfl | rfl <;> rfl⟩
theorem zn5_23 : zNew RX5 23 2 6 zD2 := ⟨RX2, TX2, tyX2, rfl, uwX2, tyX2_ok, lw_g (List.mem_append_right _ (List.mem_of_getElem? (i := 146) (by decide +kernel))) rfl, lw_g (List.mem_append_right _ (List.mem_of_getElem? (i := 147) (by decide +kernel))) rfl, lw_g (List.mem_append_right _ (List.mem_of_getElem? (i := 6) (by decide +kernel))) rfl, fun j hj => by rcases (show j = 0 ∨ j = 1 ∨ j = 2 ∨ j = 3 ∨ j = 4 ∨ j = 5 by omega) with rfl | rfl | rfl | rfl | rfl | rfl <;> rfl⟩
theorem zn4_18 : zNew RX4 18 3 7 zD3 := ⟨RX3, TX3, tyX3, rfl, uwX3, tyX3_ok, lw_g (List.mem_append_right _ (List.mem_of_getElem? (i := 23) (by decide +kernel))) rfl, lw_g (List.mem_append_right _ (List.mem_of_getElem? (i := 27) (by decide +kernel))) rfl, lw_g (List.mem_append_right _ (List.mem_of_getElem? (i := 3) (by decide +kernel))) rfl, fun j hj => by rcases (show j = 0 ∨ j = 1 ∨ j = 2 ∨ j = 3 ∨ j = 4 ∨ j = 5 ∨ j = 6 by omega) with rfl | rfl | rfl | rfl | rfl | rfl | rfl <;> rfl⟩
theorem zn4_24 : zNew RX4 24 0 4 zD0 := ⟨RX0, TX0, tyX0, rfl, uwX0, tyX0_ok, lw_g (List.mem_append_right _ (List.mem_of_getElem? (i := 25) (by decide +kernel))) rfl, lw_g (List.mem_append_right _ (List.mem_of_getElem? (i := 66) (by decide +kernel))) rfl, lw_g (List.mem_append_right _ (List.mem_of_getElem? (i := 4) (by decide +kernel))) rfl, fun j hj => by rcases (show j = 0 ∨ j = 1 ∨ j = 2 ∨ j = 3 by omega) with rfl | rfl | rfl | rfl <;> rfl⟩
theorem zn1_9 : zNew RX1 9 4 8 zD4 := ⟨RX4, TX4, tyX4, rfl, uwX4, tyX4_ok, lw_g (List.mem_append_right _ (List.mem_of_getElem? (i := 129) (by decide +kernel))) rfl, lw_g (List.mem_append_right _ (List.mem_of_getElem? (i := 18) (by decide +kernel))) rfl, lw_g (List.mem_append_right _ (List.mem_of_getElem? (i := 2) (by decide +kernel))) rfl, fun j hj => by rcases (show j = 0 ∨ j = 1 ∨ j = 2 ∨ j = 3 ∨ j = 4 ∨ j = 5 ∨ j = 6 ∨ j = 7 by omega) with rfl | rfl | rfl | rfl | rfl | rfl | rfl | rfl <;> rfl⟩
theorem zq4_18 : zNq RX4 18 3 RX3 := ⟨lw_g (List.mem_append_right _ (List.mem_of_getElem? (i := 23) (by decide +kernel))) rfl, Or.inl ⟨rfl, rfl⟩⟩
theorem zq4_24 : zNq RX4 24 4 RX0 := ⟨lw_g (List.mem_append_right _ (List.mem_of_getElem? (i := 25) (by decide +kernel))) rfl, Or.inr (Or.inl ⟨rfl, rfl⟩)⟩
theorem zq1_9 : zNq RX1 9 5 RX4 := ⟨lw_g (List.mem_append_right _ (List.mem_of_getElem? (i := 129) (by decide +kernel))) rfl, Or.inr (Or.inr ⟨rfl, rfl⟩)⟩
theorem zf4_9 : zF RX4 9 4 0 (.array .int) := ⟨RX4, TX4, 8, tyX4, rfl, by decide, uwX4, lw_g (List.mem_append_right _ (List.mem_of_getElem? (i := 90) (by decide +kernel))) rfl, tyX4_ok, nmX4, Or.inr ⟨rfl, rfl⟩, by decide +kernel⟩
theorem zf4_15 : zF RX4 15 4 1 (.array .int) := ⟨RX4, TX4, 8, tyX4, rfl, by decide, uwX4, lw_g (List.mem_append_right _ (List.mem_of_getElem? (i := 92) (by decide +kernel))) rfl, tyX4_ok, nmX4, Or.inr ⟨rfl, rfl⟩, by decide +kernel⟩
theorem zf4_20 : zF RX4 20 4 2 (.array (.object "PaletteTurns$Range")) := ⟨RX4, TX4, 8, tyX4, rfl, by decide, uwX4, lw_g (List.mem_append_right _ (List.mem_of_getElem? (i := 94) (by decide +kernel))) rfl, tyX4_ok, nmX4, Or.inr ⟨rfl, rfl⟩, by decide +kernel⟩
theorem zf4_26 : zF RX4 26 4 3 (.array (.object "PaletteTurns$Glow")) := ⟨RX4, TX4, 8, tyX4, rfl, by decide, uwX4, lw_g (List.mem_append_right _ (List.mem_of_getElem? (i := 96) (by decide +kernel))) rfl, tyX4_ok, nmX4, Or.inr ⟨rfl, rfl⟩, by decide +kernel⟩
theorem zf1_11 : zF RX1 11 1 0 (.array (.object "PaletteTurns$State")) := ⟨RX1, TX1, 4, tyX1, rfl, by decide, uwX1, lw_g (List.mem_append_right _ (List.mem_of_getElem? (i := 132) (by decide +kernel))) rfl, tyX1_ok, nmX1, Or.inr ⟨rfl, rfl⟩, by decide +kernel⟩
theorem zf1_18 : zF RX1 18 1 1 (.object "PaletteTurns$State") := ⟨RX1, TX1, 4, tyX1, rfl, by decide, uwX1, lw_g (List.mem_append_right _ (List.mem_of_getElem? (i := 133) (by decide +kernel))) rfl, tyX1_ok, nmX1, Or.inr ⟨rfl, rfl⟩, by decide +kernel⟩
theorem zf2_9 : zF RX2 9 2 0 (.array .char) := ⟨RX2, TX2, 6, tyX2, rfl, by decide, uwX2, lw_g (List.mem_append_right _ (List.mem_of_getElem? (i := 152) (by decide +kernel))) rfl, tyX2_ok, nmX2, Or.inr ⟨rfl, rfl⟩, by decide +kernel⟩
theorem zf2_15 : zF RX2 15 2 1 (.array .int) := ⟨RX2, TX2, 6, tyX2, rfl, by decide, uwX2, lw_g (List.mem_append_right _ (List.mem_of_getElem? (i := 153) (by decide +kernel))) rfl, tyX2_ok, nmX2, Or.inr ⟨rfl, rfl⟩, by decide +kernel⟩
theorem zf2_19 : zF RX2 19 2 2 (.array .int) := ⟨RX2, TX2, 6, tyX2, rfl, by decide, uwX2, lw_g (List.mem_append_right _ (List.mem_of_getElem? (i := 154) (by decide +kernel))) rfl, tyX2_ok, nmX2, Or.inr ⟨rfl, rfl⟩, by decide +kernel⟩
theorem zf5_12 : zF RX5 12 5 0 (.object "PaletteTurns$State") := ⟨RX5, TX5, 6, tyX5, rfl, by decide, uwX5, lw_g (List.mem_append_right _ (List.mem_of_getElem? (i := 175) (by decide +kernel))) rfl, tyX5_ok, nmX5, Or.inr ⟨rfl, rfl⟩, by decide +kernel⟩
theorem zf5_19 : zF RX5 19 5 1 (.object "PaletteTurns$History") := ⟨RX5, TX5, 6, tyX5, rfl, by decide, uwX5, lw_g (List.mem_append_right _ (List.mem_of_getElem? (i := 176) (by decide +kernel))) rfl, tyX5_ok, nmX5, Or.inr ⟨rfl, rfl⟩, by decide +kernel⟩
theorem zf5_26 : zF RX5 26 5 2 (.object "PaletteTurns$Program") := ⟨RX5, TX5, 6, tyX5, rfl, by decide, uwX5, lw_g (List.mem_append_right _ (List.mem_of_getElem? (i := 177) (by decide +kernel))) rfl, tyX5_ok, nmX5, Or.inr ⟨rfl, rfl⟩, by decide +kernel⟩
theorem zf5_30 : zF RX5 30 5 3 (.array .int) := ⟨RX5, TX5, 6, tyX5, rfl, by decide, uwX5, lw_g (List.mem_append_right _ (List.mem_of_getElem? (i := 178) (by decide +kernel))) rfl, tyX5_ok, nmX5, Or.inr ⟨rfl, rfl⟩, by decide +kernel⟩
theorem zf5_34 : zF RX5 34 5 4 (.array .boolean) := ⟨RX5, TX5, 6, tyX5, rfl, by decide, uwX5, lw_g (List.mem_append_right _ (List.mem_of_getElem? (i := 179) (by decide +kernel))) rfl, tyX5_ok, nmX5, Or.inr ⟨rfl, rfl⟩, by decide +kernel⟩
theorem zf5_38 : zF RX5 38 5 5 (.array .int) := ⟨RX5, TX5, 6, tyX5, rfl, by decide, uwX5, lw_g (List.mem_append_right _ (List.mem_of_getElem? (i := 180) (by decide +kernel))) rfl, tyX5_ok, nmX5, Or.inr ⟨rfl, rfl⟩, by decide +kernel⟩
theorem dX0_init_0 : decode cX0_init 0 = .ok (.aload_n 0, 1) := by decide +kernel
theorem dX0_init_1 : decode cX0_init 1 = .ok (.invokespecial 1, 3) := by decide +kernel
theorem dX0_init_4 : decode cX0_init 4 = .ok (.aload_n 0, 1) := by decide +kernel
theorem dX0_init_5 : decode cX0_init 5 = .ok (.iconst 0, 1) := by decide +kernel
theorem dX0_init_6 : decode cX0_init 6 = .ok (.putfield 7, 3) := by decide +kernel
theorem dX0_init_9 : decode cX0_init 9 = .ok (.aload_n 0, 1) := by decide +kernel
theorem dX0_init_10 : decode cX0_init 10 = .ok (.iconst 0, 1) := by decide +kernel
theorem dX0_init_11 : decode cX0_init 11 = .ok (.putfield 13, 3) := by decide +kernel
theorem dX0_init_14 : decode cX0_init 14 = .ok (.aload_n 0, 1) := by decide +kernel
theorem dX0_init_15 : decode cX0_init 15 = .ok (.iconst 1, 1) := by decide +kernel
theorem dX0_init_16 : decode cX0_init 16 = .ok (.putfield 16, 3) := by decide +kernel
theorem dX0_init_19 : decode cX0_init 19 = .ok (.aload_n 0, 1) := by decide +kernel
theorem dX0_init_20 : decode cX0_init 20 = .ok (.iconst 0, 1) := by decide +kernel
theorem dX0_init_21 : decode cX0_init 21 = .ok (.putfield 19, 3) := by decide +kernel
theorem dX0_init_24 : decode cX0_init 24 = .ok (.return_, 1) := by decide +kernel
theorem dX1_init_0 : decode cX1_init 0 = .ok (.aload_n 0, 1) := by decide +kernel
theorem dX1_init_1 : decode cX1_init 1 = .ok (.invokespecial 3, 3) := by decide +kernel
theorem dX1_init_4 : decode cX1_init 4 = .ok (.aload_n 0, 1) := by decide +kernel
theorem dX1_init_5 : decode cX1_init 5 = .ok (.iconst 4, 1) := by decide +kernel
theorem dX1_init_6 : decode cX1_init 6 = .ok (.anewarray 9, 3) := by decide +kernel
theorem dX1_init_9 : decode cX1_init 9 = .ok (.putfield 11, 3) := by decide +kernel
theorem dX1_init_12 : decode cX1_init 12 = .ok (.aload_n 0, 1) := by decide +kernel
theorem dX1_init_13 : decode cX1_init 13 = .ok (.new 9, 3) := by decide +kernel
theorem dX1_init_16 : decode cX1_init 16 = .ok (.dup, 1) := by decide +kernel
theorem dX1_init_17 : decode cX1_init 17 = .ok (.invokespecial 17, 3) := by decide +kernel
theorem dX1_init_20 : decode cX1_init 20 = .ok (.putfield 18, 3) := by decide +kernel
theorem dX1_init_23 : decode cX1_init 23 = .ok (.aload_n 0, 1) := by decide +kernel
theorem dX1_init_24 : decode cX1_init 24 = .ok (.iconst 0, 1) := by decide +kernel
theorem dX1_init_25 : decode cX1_init 25 = .ok (.putfield 22, 3) := by decide +kernel
theorem dX1_init_28 : decode cX1_init 28 = .ok (.aload_n 0, 1) := by decide +kernel
theorem dX1_init_29 : decode cX1_init 29 = .ok (.iconst 0, 1) := by decide +kernel
theorem dX1_init_30 : decode cX1_init 30 = .ok (.putfield 26, 3) := by decide +kernel
theorem dX1_init_33 : decode cX1_init 33 = .ok (.iconst 0, 1) := by decide +kernel
theorem dX1_init_34 : decode cX1_init 34 = .ok (.istore_n 1, 1) := by decide +kernel
theorem dX1_init_35 : decode cX1_init 35 = .ok (.iload_n 1, 1) := by decide +kernel
theorem dX1_init_36 : decode cX1_init 36 = .ok (.iconst 4, 1) := by decide +kernel
theorem dX1_init_37 : decode cX1_init 37 = .ok (.if_icmp .ge 22, 3) := by decide +kernel
theorem dX1_init_40 : decode cX1_init 40 = .ok (.aload_n 0, 1) := by decide +kernel
theorem dX1_init_41 : decode cX1_init 41 = .ok (.getfield 11, 3) := by decide +kernel
theorem dX1_init_44 : decode cX1_init 44 = .ok (.iload_n 1, 1) := by decide +kernel
theorem dX1_init_45 : decode cX1_init 45 = .ok (.new 9, 3) := by decide +kernel
theorem dX1_init_48 : decode cX1_init 48 = .ok (.dup, 1) := by decide +kernel
theorem dX1_init_49 : decode cX1_init 49 = .ok (.invokespecial 17, 3) := by decide +kernel
theorem dX1_init_52 : decode cX1_init 52 = .ok (.aastore, 1) := by decide +kernel
theorem dX1_init_53 : decode cX1_init 53 = .ok (.iinc 1 1, 3) := by decide +kernel
theorem dX1_init_56 : decode cX1_init 56 = .ok (.goto (-21), 3) := by decide +kernel
theorem dX1_init_59 : decode cX1_init 59 = .ok (.return_, 1) := by decide +kernel
theorem dX2_init_0 : decode cX2_init 0 = .ok (.aload_n 0, 1) := by decide +kernel
theorem dX2_init_1 : decode cX2_init 1 = .ok (.invokespecial 3, 3) := by decide +kernel
theorem dX2_init_4 : decode cX2_init 4 = .ok (.aload_n 0, 1) := by decide +kernel
theorem dX2_init_5 : decode cX2_init 5 = .ok (.bipush 60, 2) := by decide +kernel
theorem dX2_init_7 : decode cX2_init 7 = .ok (.newarray .char, 2) := by decide +kernel
theorem dX2_init_9 : decode cX2_init 9 = .ok (.putfield 9, 3) := by decide +kernel
theorem dX2_init_12 : decode cX2_init 12 = .ok (.aload_n 0, 1) := by decide +kernel
theorem dX2_init_13 : decode cX2_init 13 = .ok (.bipush 60, 2) := by decide +kernel
theorem dX2_init_15 : decode cX2_init 15 = .ok (.newarray .int, 2) := by decide +kernel
theorem dX2_init_17 : decode cX2_init 17 = .ok (.putfield 15, 3) := by decide +kernel
theorem dX2_init_20 : decode cX2_init 20 = .ok (.aload_n 0, 1) := by decide +kernel
theorem dX2_init_21 : decode cX2_init 21 = .ok (.bipush 60, 2) := by decide +kernel
theorem dX2_init_23 : decode cX2_init 23 = .ok (.newarray .int, 2) := by decide +kernel
theorem dX2_init_25 : decode cX2_init 25 = .ok (.putfield 19, 3) := by decide +kernel
theorem dX2_init_28 : decode cX2_init 28 = .ok (.aload_n 0, 1) := by decide +kernel
theorem dX2_init_29 : decode cX2_init 29 = .ok (.iconst 0, 1) := by decide +kernel
theorem dX2_init_30 : decode cX2_init 30 = .ok (.putfield 22, 3) := by decide +kernel
theorem dX2_init_33 : decode cX2_init 33 = .ok (.aload_n 0, 1) := by decide +kernel
theorem dX2_init_34 : decode cX2_init 34 = .ok (.iconst 0, 1) := by decide +kernel
theorem dX2_init_35 : decode cX2_init 35 = .ok (.putfield 26, 3) := by decide +kernel
theorem dX2_init_38 : decode cX2_init 38 = .ok (.aload_n 0, 1) := by decide +kernel
theorem dX2_init_39 : decode cX2_init 39 = .ok (.iconst 0, 1) := by decide +kernel
theorem dX2_init_40 : decode cX2_init 40 = .ok (.putfield 29, 3) := by decide +kernel
theorem dX2_init_43 : decode cX2_init 43 = .ok (.return_, 1) := by decide +kernel
theorem dX3_init_0 : decode cX3_init 0 = .ok (.aload_n 0, 1) := by decide +kernel
theorem dX3_init_1 : decode cX3_init 1 = .ok (.invokespecial 3, 3) := by decide +kernel
theorem dX3_init_4 : decode cX3_init 4 = .ok (.aload_n 0, 1) := by decide +kernel
theorem dX3_init_5 : decode cX3_init 5 = .ok (.iconst 0, 1) := by decide +kernel
theorem dX3_init_6 : decode cX3_init 6 = .ok (.putfield 9, 3) := by decide +kernel
theorem dX3_init_9 : decode cX3_init 9 = .ok (.aload_n 0, 1) := by decide +kernel
theorem dX3_init_10 : decode cX3_init 10 = .ok (.iconst 1, 1) := by decide +kernel
theorem dX3_init_11 : decode cX3_init 11 = .ok (.putfield 15, 3) := by decide +kernel
theorem dX3_init_14 : decode cX3_init 14 = .ok (.aload_n 0, 1) := by decide +kernel
theorem dX3_init_15 : decode cX3_init 15 = .ok (.iconst 1, 1) := by decide +kernel
theorem dX3_init_16 : decode cX3_init 16 = .ok (.putfield 18, 3) := by decide +kernel
theorem dX3_init_19 : decode cX3_init 19 = .ok (.aload_n 0, 1) := by decide +kernel
theorem dX3_init_20 : decode cX3_init 20 = .ok (.iconst 0, 1) := by decide +kernel
theorem dX3_init_21 : decode cX3_init 21 = .ok (.putfield 21, 3) := by decide +kernel
theorem dX3_init_24 : decode cX3_init 24 = .ok (.aload_n 0, 1) := by decide +kernel
theorem dX3_init_25 : decode cX3_init 25 = .ok (.iconst 1, 1) := by decide +kernel
theorem dX3_init_26 : decode cX3_init 26 = .ok (.putfield 24, 3) := by decide +kernel
theorem dX3_init_29 : decode cX3_init 29 = .ok (.aload_n 0, 1) := by decide +kernel
theorem dX3_init_30 : decode cX3_init 30 = .ok (.iconst 0, 1) := by decide +kernel
theorem dX3_init_31 : decode cX3_init 31 = .ok (.putfield 28, 3) := by decide +kernel
theorem dX3_init_34 : decode cX3_init 34 = .ok (.aload_n 0, 1) := by decide +kernel
theorem dX3_init_35 : decode cX3_init 35 = .ok (.iconst 0, 1) := by decide +kernel
theorem dX3_init_36 : decode cX3_init 36 = .ok (.putfield 31, 3) := by decide +kernel
theorem dX3_init_39 : decode cX3_init 39 = .ok (.return_, 1) := by decide +kernel
theorem dX4_init_0 : decode cX4_init 0 = .ok (.aload_n 0, 1) := by decide +kernel
theorem dX4_init_1 : decode cX4_init 1 = .ok (.invokespecial 3, 3) := by decide +kernel
theorem dX4_init_4 : decode cX4_init 4 = .ok (.aload_n 0, 1) := by decide +kernel
theorem dX4_init_5 : decode cX4_init 5 = .ok (.bipush 32, 2) := by decide +kernel
theorem dX4_init_7 : decode cX4_init 7 = .ok (.newarray .int, 2) := by decide +kernel
theorem dX4_init_9 : decode cX4_init 9 = .ok (.putfield 9, 3) := by decide +kernel
theorem dX4_init_12 : decode cX4_init 12 = .ok (.aload_n 0, 1) := by decide +kernel
theorem dX4_init_13 : decode cX4_init 13 = .ok (.bipush 64, 2) := by decide +kernel
theorem dX4_init_15 : decode cX4_init 15 = .ok (.newarray .int, 2) := by decide +kernel
theorem dX4_init_17 : decode cX4_init 17 = .ok (.putfield 15, 3) := by decide +kernel
theorem dX4_init_20 : decode cX4_init 20 = .ok (.aload_n 0, 1) := by decide +kernel
theorem dX4_init_21 : decode cX4_init 21 = .ok (.bipush 6, 2) := by decide +kernel
theorem dX4_init_23 : decode cX4_init 23 = .ok (.anewarray 18, 3) := by decide +kernel
theorem dX4_init_26 : decode cX4_init 26 = .ok (.putfield 20, 3) := by decide +kernel
theorem dX4_init_29 : decode cX4_init 29 = .ok (.aload_n 0, 1) := by decide +kernel
theorem dX4_init_30 : decode cX4_init 30 = .ok (.iconst 4, 1) := by decide +kernel
theorem dX4_init_31 : decode cX4_init 31 = .ok (.anewarray 24, 3) := by decide +kernel
theorem dX4_init_34 : decode cX4_init 34 = .ok (.putfield 26, 3) := by decide +kernel
theorem dX4_init_37 : decode cX4_init 37 = .ok (.aload_n 0, 1) := by decide +kernel
theorem dX4_init_38 : decode cX4_init 38 = .ok (.iconst 0, 1) := by decide +kernel
theorem dX4_init_39 : decode cX4_init 39 = .ok (.putfield 30, 3) := by decide +kernel
theorem dX4_init_42 : decode cX4_init 42 = .ok (.aload_n 0, 1) := by decide +kernel
theorem dX4_init_43 : decode cX4_init 43 = .ok (.iconst 0, 1) := by decide +kernel
theorem dX4_init_44 : decode cX4_init 44 = .ok (.putfield 34, 3) := by decide +kernel
theorem dX4_init_47 : decode cX4_init 47 = .ok (.aload_n 0, 1) := by decide +kernel
theorem dX4_init_48 : decode cX4_init 48 = .ok (.iconst 0, 1) := by decide +kernel
theorem dX4_init_49 : decode cX4_init 49 = .ok (.putfield 37, 3) := by decide +kernel
theorem dX4_init_52 : decode cX4_init 52 = .ok (.aload_n 0, 1) := by decide +kernel
theorem dX4_init_53 : decode cX4_init 53 = .ok (.iconst 0, 1) := by decide +kernel
theorem dX4_init_54 : decode cX4_init 54 = .ok (.putfield 40, 3) := by decide +kernel
theorem dX4_init_57 : decode cX4_init 57 = .ok (.iconst 0, 1) := by decide +kernel
theorem dX4_init_58 : decode cX4_init 58 = .ok (.istore_n 1, 1) := by decide +kernel
theorem dX4_init_59 : decode cX4_init 59 = .ok (.iload_n 1, 1) := by decide +kernel
theorem dX4_init_60 : decode cX4_init 60 = .ok (.bipush 6, 2) := by decide +kernel
theorem dX4_init_62 : decode cX4_init 62 = .ok (.if_icmp .ge 22, 3) := by decide +kernel
theorem dX4_init_65 : decode cX4_init 65 = .ok (.aload_n 0, 1) := by decide +kernel
theorem dX4_init_66 : decode cX4_init 66 = .ok (.getfield 20, 3) := by decide +kernel
theorem dX4_init_69 : decode cX4_init 69 = .ok (.iload_n 1, 1) := by decide +kernel
theorem dX4_init_70 : decode cX4_init 70 = .ok (.new 18, 3) := by decide +kernel
theorem dX4_init_73 : decode cX4_init 73 = .ok (.dup, 1) := by decide +kernel
theorem dX4_init_74 : decode cX4_init 74 = .ok (.invokespecial 43, 3) := by decide +kernel
theorem dX4_init_77 : decode cX4_init 77 = .ok (.aastore, 1) := by decide +kernel
theorem dX4_init_78 : decode cX4_init 78 = .ok (.iinc 1 1, 3) := by decide +kernel
theorem dX4_init_81 : decode cX4_init 81 = .ok (.goto (-22), 3) := by decide +kernel
theorem dX4_init_84 : decode cX4_init 84 = .ok (.iconst 0, 1) := by decide +kernel
theorem dX4_init_85 : decode cX4_init 85 = .ok (.istore_n 1, 1) := by decide +kernel
theorem dX4_init_86 : decode cX4_init 86 = .ok (.iload_n 1, 1) := by decide +kernel
theorem dX4_init_87 : decode cX4_init 87 = .ok (.iconst 4, 1) := by decide +kernel
theorem dX4_init_88 : decode cX4_init 88 = .ok (.if_icmp .ge 22, 3) := by decide +kernel
theorem dX4_init_91 : decode cX4_init 91 = .ok (.aload_n 0, 1) := by decide +kernel
theorem dX4_init_92 : decode cX4_init 92 = .ok (.getfield 26, 3) := by decide +kernel
theorem dX4_init_95 : decode cX4_init 95 = .ok (.iload_n 1, 1) := by decide +kernel
theorem dX4_init_96 : decode cX4_init 96 = .ok (.new 24, 3) := by decide +kernel
theorem dX4_init_99 : decode cX4_init 99 = .ok (.dup, 1) := by decide +kernel
theorem dX4_init_100 : decode cX4_init 100 = .ok (.invokespecial 44, 3) := by decide +kernel
theorem dX4_init_103 : decode cX4_init 103 = .ok (.aastore, 1) := by decide +kernel
theorem dX4_init_104 : decode cX4_init 104 = .ok (.iinc 1 1, 3) := by decide +kernel
theorem dX4_init_107 : decode cX4_init 107 = .ok (.goto (-21), 3) := by decide +kernel
theorem dX4_init_110 : decode cX4_init 110 = .ok (.return_, 1) := by decide +kernel
theorem dX5_init_0 : decode cX5_init 0 = .ok (.aload_n 0, 1) := by decide +kernel
theorem dX5_init_1 : decode cX5_init 1 = .ok (.invokespecial 3, 3) := by decide +kernel
theorem dX5_init_4 : decode cX5_init 4 = .ok (.aload_n 0, 1) := by decide +kernel
theorem dX5_init_5 : decode cX5_init 5 = .ok (.new 9, 3) := by decide +kernel
theorem dX5_init_8 : decode cX5_init 8 = .ok (.dup, 1) := by decide +kernel
theorem dX5_init_9 : decode cX5_init 9 = .ok (.invokespecial 11, 3) := by decide +kernel
theorem dX5_init_12 : decode cX5_init 12 = .ok (.putfield 12, 3) := by decide +kernel
theorem dX5_init_15 : decode cX5_init 15 = .ok (.aload_n 0, 1) := by decide +kernel
theorem dX5_init_16 : decode cX5_init 16 = .ok (.new 16, 3) := by decide +kernel
theorem dX5_init_19 : decode cX5_init 19 = .ok (.dup, 1) := by decide +kernel
theorem dX5_init_20 : decode cX5_init 20 = .ok (.invokespecial 18, 3) := by decide +kernel
theorem dX5_init_23 : decode cX5_init 23 = .ok (.putfield 19, 3) := by decide +kernel
theorem dX5_init_26 : decode cX5_init 26 = .ok (.aload_n 0, 1) := by decide +kernel
theorem dX5_init_27 : decode cX5_init 27 = .ok (.new 23, 3) := by decide +kernel
theorem dX5_init_30 : decode cX5_init 30 = .ok (.dup, 1) := by decide +kernel
theorem dX5_init_31 : decode cX5_init 31 = .ok (.invokespecial 25, 3) := by decide +kernel
theorem dX5_init_34 : decode cX5_init 34 = .ok (.putfield 26, 3) := by decide +kernel
theorem dX5_init_37 : decode cX5_init 37 = .ok (.aload_n 0, 1) := by decide +kernel
theorem dX5_init_38 : decode cX5_init 38 = .ok (.bipush 32, 2) := by decide +kernel
theorem dX5_init_40 : decode cX5_init 40 = .ok (.newarray .int, 2) := by decide +kernel
theorem dX5_init_42 : decode cX5_init 42 = .ok (.putfield 30, 3) := by decide +kernel
theorem dX5_init_45 : decode cX5_init 45 = .ok (.aload_n 0, 1) := by decide +kernel
theorem dX5_init_46 : decode cX5_init 46 = .ok (.bipush 32, 2) := by decide +kernel
theorem dX5_init_48 : decode cX5_init 48 = .ok (.newarray .boolean, 2) := by decide +kernel
theorem dX5_init_50 : decode cX5_init 50 = .ok (.putfield 34, 3) := by decide +kernel
theorem dX5_init_53 : decode cX5_init 53 = .ok (.aload_n 0, 1) := by decide +kernel
theorem dX5_init_54 : decode cX5_init 54 = .ok (.bipush 64, 2) := by decide +kernel
theorem dX5_init_56 : decode cX5_init 56 = .ok (.newarray .int, 2) := by decide +kernel
theorem dX5_init_58 : decode cX5_init 58 = .ok (.putfield 38, 3) := by decide +kernel
theorem dX5_init_61 : decode cX5_init 61 = .ok (.return_, 1) := by decide +kernel
def rR0 : Nat → Int32 := v7 (nI 0) (nI 1) (nI 1) (nI 0) (nI 1) (nI 0) (nI 0)
def rG0 : Nat → Int32 := v4 (nI 0) (nI 0) (nI 1) (nI 0)
def zR : Row := fun _ => nI 0
theorem c_X0_init (l : Launch) (G : va_G) (T : Nat → ClassId) (b : Nat) {k : Nat} {g : Mem} (h0 : g k = oB 0 zD0) : Mz l G T b yX0_init cX0_init 1 1 12 (k + 1) (k + 1) 0 0 [zr b (k)] g (fun g' => g' k = oB 0 (gFs rG0) ∧ ∀ j, j ≠ k → g' j = g j) := by
  refine mz_go (own := RX0) (by decide +kernel) rfl rfl (lo := [some (zr b (k))]) rfl (Nat.le_of_ble_eq_true rfl) (fun X hC => ?_)
  refine z_aload_n hC dX0_init_0 (i := 0) rfl rfl ?_
  refine z_obj hC rfl zo0 dX0_init_1 (by decide) (by decide) ?_
  refine z_aload_n hC dX0_init_4 (i := 0) rfl rfl ?_
  refine z_iconst (v := nI 0) hC dX0_init_5 (by decide) ?_
  refine z_put hC (zF_of fpX0_7) dX0_init_6 (k := k) (by omega) (fs := [.int 0, .int 0, .int 0, .int 0]) (h0) (fs' := [.int (nI 0), .int 0, .int 0, .int 0]) (v := .int (nI 0)) (Nat.le_of_ble_eq_true rfl) rfl rfl rfl ?_
  refine z_aload_n hC dX0_init_9 (i := 0) rfl rfl ?_
  refine z_iconst (v := nI 0) hC dX0_init_10 (by decide) ?_
  refine z_put hC (zF_of fpX0_13) dX0_init_11 (k := k) (by omega) (fs := [.int (nI 0), .int 0, .int 0, .int 0]) (va_up_self _ _ _) (fs' := [.int (nI 0), .int (nI 0), .int 0, .int 0]) (v := .int (nI 0)) (Nat.le_of_ble_eq_true rfl) rfl rfl rfl ?_
  refine z_aload_n hC dX0_init_14 (i := 0) rfl rfl ?_
  refine z_iconst (v := nI 1) hC dX0_init_15 (by decide) ?_
  refine z_put hC (zF_of fpX0_16) dX0_init_16 (k := k) (by omega) (fs := [.int (nI 0), .int (nI 0), .int 0, .int 0]) (va_up_self _ _ _) (fs' := [.int (nI 0), .int (nI 0), .int (nI 1), .int 0]) (v := .int (nI 1)) (Nat.le_of_ble_eq_true rfl) rfl rfl rfl ?_
  refine z_aload_n hC dX0_init_19 (i := 0) rfl rfl ?_
  refine z_iconst (v := nI 0) hC dX0_init_20 (by decide) ?_
  refine z_put hC (zF_of fpX0_19) dX0_init_21 (k := k) (by omega) (fs := [.int (nI 0), .int (nI 0), .int (nI 1), .int 0]) (va_up_self _ _ _) (fs' := [.int (nI 0), .int (nI 0), .int (nI 1), .int (nI 0)]) (v := .int (nI 0)) (Nat.le_of_ble_eq_true rfl) rfl rfl rfl ?_
  exact z_ret hC dX0_init_24 ⟨va_up_self _ _ _, fun j hj => (va_up_ne _ _ hj).trans ((va_up_ne _ _ hj).trans ((va_up_ne _ _ hj).trans (va_up_ne _ _ hj)))⟩ rfl rfl rfl
theorem c_X3_init (l : Launch) (G : va_G) (T : Nat → ClassId) (b : Nat) {k : Nat} {g : Mem} (h0 : g k = oB 3 zD3) : Mz l G T b yX3_init cX3_init 1 1 12 (k + 1) (k + 1) 0 0 [zr b (k)] g (fun g' => g' k = oB 3 (rFs rR0) ∧ ∀ j, j ≠ k → g' j = g j) := by
  refine mz_go (own := RX3) (by decide +kernel) rfl rfl (lo := [some (zr b (k))]) rfl (Nat.le_of_ble_eq_true rfl) (fun X hC => ?_)
  refine z_aload_n hC dX3_init_0 (i := 0) rfl rfl ?_
  refine z_obj hC rfl zo3 dX3_init_1 (by decide) (by decide) ?_
  refine z_aload_n hC dX3_init_4 (i := 0) rfl rfl ?_
  refine z_iconst (v := nI 0) hC dX3_init_5 (by decide) ?_
  refine z_put hC (zF_of fpX3_9) dX3_init_6 (k := k) (by omega) (fs := [.int 0, .int 0, .int 0, .int 0, .int 0, .int 0, .int 0]) (h0) (fs' := [.int (nI 0), .int 0, .int 0, .int 0, .int 0, .int 0, .int 0]) (v := .int (nI 0)) (Nat.le_of_ble_eq_true rfl) rfl rfl rfl ?_
  refine z_aload_n hC dX3_init_9 (i := 0) rfl rfl ?_
  refine z_iconst (v := nI 1) hC dX3_init_10 (by decide) ?_
  refine z_put hC (zF_of fpX3_15) dX3_init_11 (k := k) (by omega) (fs := [.int (nI 0), .int 0, .int 0, .int 0, .int 0, .int 0, .int 0]) (va_up_self _ _ _) (fs' := [.int (nI 0), .int (nI 1), .int 0, .int 0, .int 0, .int 0, .int 0]) (v := .int (nI 1)) (Nat.le_of_ble_eq_true rfl) rfl rfl rfl ?_
  refine z_aload_n hC dX3_init_14 (i := 0) rfl rfl ?_
  refine z_iconst (v := nI 1) hC dX3_init_15 (by decide) ?_
  refine z_put hC (zF_of fpX3_18) dX3_init_16 (k := k) (by omega) (fs := [.int (nI 0), .int (nI 1), .int 0, .int 0, .int 0, .int 0, .int 0]) (va_up_self _ _ _) (fs' := [.int (nI 0), .int (nI 1), .int (nI 1), .int 0, .int 0, .int 0, .int 0]) (v := .int (nI 1)) (Nat.le_of_ble_eq_true rfl) rfl rfl rfl ?_
  refine z_aload_n hC dX3_init_19 (i := 0) rfl rfl ?_
  refine z_iconst (v := nI 0) hC dX3_init_20 (by decide) ?_
  refine z_put hC (zF_of fpX3_21) dX3_init_21 (k := k) (by omega) (fs := [.int (nI 0), .int (nI 1), .int (nI 1), .int 0, .int 0, .int 0, .int 0]) (va_up_self _ _ _) (fs' := [.int (nI 0), .int (nI 1), .int (nI 1), .int (nI 0), .int 0, .int 0, .int 0]) (v := .int (nI 0)) (Nat.le_of_ble_eq_true rfl) rfl rfl rfl ?_
  refine z_aload_n hC dX3_init_24 (i := 0) rfl rfl ?_
  refine z_iconst (v := nI 1) hC dX3_init_25 (by decide) ?_
  refine z_put hC (zF_of fpX3_24) dX3_init_26 (k := k) (by omega) (fs := [.int (nI 0), .int (nI 1), .int (nI 1), .int (nI 0), .int 0, .int 0, .int 0]) (va_up_self _ _ _) (fs' := [.int (nI 0), .int (nI 1), .int (nI 1), .int (nI 0), .int (nI 1), .int 0, .int 0]) (v := .int (nI 1)) (Nat.le_of_ble_eq_true rfl) rfl rfl rfl ?_
  refine z_aload_n hC dX3_init_29 (i := 0) rfl rfl ?_
  refine z_iconst (v := nI 0) hC dX3_init_30 (by decide) ?_
  refine z_put hC (zF_of fpX3_28) dX3_init_31 (k := k) (by omega) (fs := [.int (nI 0), .int (nI 1), .int (nI 1), .int (nI 0), .int (nI 1), .int 0, .int 0]) (va_up_self _ _ _) (fs' := [.int (nI 0), .int (nI 1), .int (nI 1), .int (nI 0), .int (nI 1), .int (nI 0), .int 0]) (v := .int (nI 0)) (Nat.le_of_ble_eq_true rfl) rfl rfl rfl ?_
  refine z_aload_n hC dX3_init_34 (i := 0) rfl rfl ?_
  refine z_iconst (v := nI 0) hC dX3_init_35 (by decide) ?_
  refine z_put hC (zF_of fpX3_31) dX3_init_36 (k := k) (by omega) (fs := [.int (nI 0), .int (nI 1), .int (nI 1), .int (nI 0), .int (nI 1), .int (nI 0), .int 0]) (va_up_self _ _ _) (fs' := [.int (nI 0), .int (nI 1), .int (nI 1), .int (nI 0), .int (nI 1), .int (nI 0), .int (nI 0)]) (v := .int (nI 0)) (Nat.le_of_ble_eq_true rfl) rfl rfl rfl ?_
  exact z_ret hC dX3_init_39 ⟨va_up_self _ _ _, fun j hj => (va_up_ne _ _ hj).trans ((va_up_ne _ _ hj).trans ((va_up_ne _ _ hj).trans ((va_up_ne _ _ hj).trans ((va_up_ne _ _ hj).trans ((va_up_ne _ _ hj).trans (va_up_ne _ _ hj))))))⟩ rfl rfl rfl
theorem c_X2_init (l : Launch) (G : va_G) (T : Nat → ClassId) (b : Nat) {g : Mem} (h0 : g 93 = oB 2 zD2) : Mz l G T b yX2_init cX2_init 1 1 12 (94) (97) 3 180 [zr b (93)] g (fun g' => (g' 93 = oB 2 [zr b 94, zr b 95, zr b 96, .int (nI 0), .int (nI 0), .int (nI 0)] ∧ g' 94 = zI T 1 60 (fun _ => 0) ∧ g' 95 = zI T 0 60 (fun _ => 0) ∧ g' 96 = zI T 0 60 (fun _ => 0)) ∧ ∀ j, j < 93 → g' j = g j) := by
  refine mz_go (own := RX2) (by decide +kernel) rfl rfl (lo := [some (zr b (93))]) rfl (Nat.le_of_ble_eq_true rfl) (fun X hC => ?_)
  refine z_aload_n hC dX2_init_0 (i := 0) rfl rfl ?_
  refine z_obj hC rfl zo2 dX2_init_1 (by decide) (by decide) ?_
  refine z_aload_n hC dX2_init_4 (i := 0) rfl rfl ?_
  refine z_bipush (v := nI 60) hC dX2_init_5 (by decide) ?_
  refine z_newa (N := 60) (t := 1) hC (Or.inr (Or.inl ⟨rfl, rfl⟩)) dX2_init_7 rfl (by decide) (n' := 95) (c' := 1) (s' := 60) rfl rfl rfl (by decide) (by decide) ?_
  refine z_put hC zf2_9 dX2_init_9 (k := 93) (by omega) (fs := [.null, .null, .null, .int 0, .int 0, .int 0]) ((va_up_ne _ _ (by omega)).trans (h0)) (fs' := [zr b (94), .null, .null, .int 0, .int 0, .int 0]) (v := zr b (94)) (Nat.le_of_ble_eq_true rfl) rfl rfl rfl ?_
  refine z_aload_n hC dX2_init_12 (i := 0) rfl rfl ?_
  refine z_bipush (v := nI 60) hC dX2_init_13 (by decide) ?_
  refine z_newa (N := 60) (t := 0) hC (Or.inl ⟨rfl, rfl⟩) dX2_init_15 rfl (by decide) (n' := 96) (c' := 2) (s' := 120) rfl rfl rfl (by decide) (by decide) ?_
  refine z_put hC zf2_15 dX2_init_17 (k := 93) (by omega) (fs := [zr b (94), .null, .null, .int 0, .int 0, .int 0]) ((va_up_ne _ _ (by omega)).trans (va_up_self _ _ _)) (fs' := [zr b (94), zr b (95), .null, .int 0, .int 0, .int 0]) (v := zr b (95)) (Nat.le_of_ble_eq_true rfl) rfl rfl rfl ?_
  refine z_aload_n hC dX2_init_20 (i := 0) rfl rfl ?_
  refine z_bipush (v := nI 60) hC dX2_init_21 (by decide) ?_
  refine z_newa (N := 60) (t := 0) hC (Or.inl ⟨rfl, rfl⟩) dX2_init_23 rfl (by decide) (n' := 97) (c' := 3) (s' := 180) rfl rfl rfl (by decide) (by decide) ?_
  refine z_put hC zf2_19 dX2_init_25 (k := 93) (by omega) (fs := [zr b (94), zr b (95), .null, .int 0, .int 0, .int 0]) ((va_up_ne _ _ (by omega)).trans (va_up_self _ _ _)) (fs' := [zr b (94), zr b (95), zr b (96), .int 0, .int 0, .int 0]) (v := zr b (96)) (Nat.le_of_ble_eq_true rfl) rfl rfl rfl ?_
  refine z_aload_n hC dX2_init_28 (i := 0) rfl rfl ?_
  refine z_iconst (v := nI 0) hC dX2_init_29 (by decide) ?_
  refine z_put hC (zF_of fpX2_22) dX2_init_30 (k := 93) (by omega) (fs := [zr b (94), zr b (95), zr b (96), .int 0, .int 0, .int 0]) (va_up_self _ _ _) (fs' := [zr b (94), zr b (95), zr b (96), .int (nI 0), .int 0, .int 0]) (v := .int (nI 0)) (Nat.le_of_ble_eq_true rfl) rfl rfl rfl ?_
  refine z_aload_n hC dX2_init_33 (i := 0) rfl rfl ?_
  refine z_iconst (v := nI 0) hC dX2_init_34 (by decide) ?_
  refine z_put hC (zF_of fpX2_26) dX2_init_35 (k := 93) (by omega) (fs := [zr b (94), zr b (95), zr b (96), .int (nI 0), .int 0, .int 0]) (va_up_self _ _ _) (fs' := [zr b (94), zr b (95), zr b (96), .int (nI 0), .int (nI 0), .int 0]) (v := .int (nI 0)) (Nat.le_of_ble_eq_true rfl) rfl rfl rfl ?_
  refine z_aload_n hC dX2_init_38 (i := 0) rfl rfl ?_
  refine z_iconst (v := nI 0) hC dX2_init_39 (by decide) ?_
  refine z_put hC (zF_of fpX2_29) dX2_init_40 (k := 93) (by omega) (fs := [zr b (94), zr b (95), zr b (96), .int (nI 0), .int (nI 0), .int 0]) (va_up_self _ _ _) (fs' := [zr b (94), zr b (95), zr b (96), .int (nI 0), .int (nI 0), .int (nI 0)]) (v := .int (nI 0)) (Nat.le_of_ble_eq_true rfl) rfl rfl rfl ?_
  exact z_ret hC dX2_init_43 ⟨⟨va_up_self _ _ _, (va_up_ne _ _ (by omega)).trans ((va_up_ne _ _ (by omega)).trans ((va_up_ne _ _ (by omega)).trans ((va_up_ne _ _ (by omega)).trans ((va_up_ne _ _ (by omega)).trans ((va_up_ne _ _ (by omega)).trans ((va_up_ne _ _ (by omega)).trans ((va_up_ne _ _ (by omega)).trans (va_up_self _ _ _)))))))), (va_up_ne _ _ (by omega)).trans ((va_up_ne _ _ (by omega)).trans ((va_up_ne _ _ (by omega)).trans ((va_up_ne _ _ (by omega)).trans ((va_up_ne _ _ (by omega)).trans ((va_up_ne _ _ (by omega)).trans (va_up_self _ _ _)))))), (va_up_ne _ _ (by omega)).trans ((va_up_ne _ _ (by omega)).trans ((va_up_ne _ _ (by omega)).trans ((va_up_ne _ _ (by omega)).trans (va_up_self _ _ _))))⟩, fun j hj => (va_up_ne _ _ (by omega)).trans ((va_up_ne _ _ (by omega)).trans ((va_up_ne _ _ (by omega)).trans ((va_up_ne _ _ (by omega)).trans ((va_up_ne _ _ (by omega)).trans ((va_up_ne _ _ (by omega)).trans ((va_up_ne _ _ (by omega)).trans ((va_up_ne _ _ (by omega)).trans ((va_up_ne _ _ (by omega)).trans (rfl)))))))))⟩ rfl rfl rfl
/-- a state that is being made: so many ranges, so many glows are made -/
def zSI (T : Nat → ClassId) (b k i j : Nat) (g0 g : Mem) : Prop :=
  g k = oB 4 [zr b (k + 1), zr b (k + 2), zr b (k + 3), zr b (k + 4), .int (nI 0), .int (nI 0), .int (nI 0), .int (nI 0)] ∧ g (k + 1) = zI T 0 32 (fun _ => 0) ∧ g (k + 2) = zI T 0 64 (fun _ => 0) ∧
  g (k + 3) = zJ T 3 6 (fun a => if a < i then some (b + (k + 5 + a)) else none) ∧ g (k + 4) = zJ T 4 4 (fun a => if a < j then some (b + (k + 11 + a)) else none) ∧
  (∀ a, a < i → g (k + 5 + a) = oB 3 (rFs rR0)) ∧ (∀ a, a < j → g (k + 11 + a) = oB 0 (gFs rG0)) ∧ ∀ a, a < k → g a = g0 a
theorem zJ_up {i n : Nat} {h : Nat → Nat} : va_up (fun a => if a < i then some (h a) else none) i (some (h i)) = fun a => if a < i + 1 then some (h a) else (none : Option Nat) := by
  funext a
  by_cases e : a = i
  · subst e
    rw [va_up_self, if_pos (by omega)]
  · rw [va_up_ne _ _ e]
    by_cases e2 : a < i
    · rw [if_pos e2, if_pos (by omega)]
    · rw [if_neg e2, if_neg (by omega)]
theorem zSI.r {T : Nat → ClassId} {b k i : Nat} {g0 g g' : Mem} {e : va_E} (h : zSI T b k i 0 g0 g) (h1 : g' (k + 5 + i) = oB 3 (rFs rR0)) (h2 : ∀ j, j ≠ k + 5 + i → g' j = va_up g (k + 5 + i) e j) : zSI T b k (i + 1) 0 g0 (va_up g' (k + 3) (zJ T 3 6 (va_up (fun a => if a < i then some (b + (k + 5 + a)) else none) i (some (b + (k + 5 + i)))))) := by
  obtain ⟨q1, q2, q3, q4, q5, q6, q7, q8⟩ := h
  have e2 : ∀ j, j ≠ k + 5 + i → g' j = g j := fun j hj => (h2 j hj).trans (va_up_ne _ _ hj)
  rw [zJ_up (n := 0) (h := fun a => b + (k + 5 + a))]
  refine ⟨(va_up_ne _ _ (by omega)).trans ((e2 _ (by omega)).trans q1), (va_up_ne _ _ (by omega)).trans ((e2 _ (by omega)).trans q2), (va_up_ne _ _ (by omega)).trans ((e2 _ (by omega)).trans q3), va_up_self _ _ _, (va_up_ne _ _ (by omega)).trans ((e2 _ (by omega)).trans q5), fun a ha => ?_, fun a ha => absurd ha (Nat.not_lt_zero a), fun a ha => (va_up_ne _ _ (by omega)).trans ((e2 _ (by omega)).trans (q8 a ha))⟩
  refine (va_up_ne _ _ (by omega)).trans ?_
  by_cases hai : a = i
  · subst hai
    exact h1
  · exact (e2 _ (by omega)).trans (q6 a (by omega))
theorem zSI.g {T : Nat → ClassId} {b k i : Nat} {g0 g g' : Mem} {e : va_E} (h : zSI T b k 6 i g0 g) (h1 : g' (k + 11 + i) = oB 0 (gFs rG0)) (h2 : ∀ j, j ≠ k + 11 + i → g' j = va_up g (k + 11 + i) e j) : zSI T b k 6 (i + 1) g0 (va_up g' (k + 4) (zJ T 4 4 (va_up (fun a => if a < i then some (b + (k + 11 + a)) else none) i (some (b + (k + 11 + i)))))) := by
  obtain ⟨q1, q2, q3, q4, q5, q6, q7, q8⟩ := h
  have e2 : ∀ j, j ≠ k + 11 + i → g' j = g j := fun j hj => (h2 j hj).trans (va_up_ne _ _ hj)
  rw [zJ_up (n := 0) (h := fun a => b + (k + 11 + a))]
  refine ⟨(va_up_ne _ _ (by omega)).trans ((e2 _ (by omega)).trans q1), (va_up_ne _ _ (by omega)).trans ((e2 _ (by omega)).trans q2), (va_up_ne _ _ (by omega)).trans ((e2 _ (by omega)).trans q3), (va_up_ne _ _ (by omega)).trans ((e2 _ (by omega)).trans q4), va_up_self _ _ _, fun a ha => (va_up_ne _ _ (by omega)).trans ((e2 _ (by omega)).trans (q6 a ha)), fun a ha => ?_, fun a ha => (va_up_ne _ _ (by omega)).trans ((e2 _ (by omega)).trans (q8 a ha))⟩
  refine (va_up_ne _ _ (by omega)).trans ?_
  by_cases hai : a = i
  · subst hai
    exact h1
  · exact (e2 _ (by omega)).trans (q7 a (by omega))
theorem zSI.sta {G : va_G} {T : Nat → ClassId} {b k n : Nat} {g0 g : Mem} (h : zSI T b k 6 4 g0 g) (hn : k + 15 ≤ n) : StA (zE G T b n) (va_up (va_up g (k + 3) (zJ T 3 6 (fun a => some (b + (k + 5 + a))))) (k + 4) (zJ T 4 4 (fun a => some (b + (k + 11 + a))))) k zR := by
  obtain ⟨q1, q2, q3, q4, q5, q6, q7, q8⟩ := h
  have e0 : ∀ j : Nat, j ≠ k + 3 → j ≠ k + 4 → va_up (va_up g (k + 3) (zJ T 3 6 (fun a => some (b + (k + 5 + a))))) (k + 4) (zJ T 4 4 (fun a => some (b + (k + 11 + a)))) j = g j := fun j h1 h2 => (va_up_ne _ _ h2).trans (va_up_ne _ _ h1)
  refine ⟨fun _ => 0, fun _ => 0, fun i => i, fun i => i, fun _ => rR0, fun _ => rG0, fun _ => nI 0, ⟨hn, fun _ _ => rfl, (e0 _ (by omega) (by omega)).trans q1, (e0 _ (by omega) (by omega)).trans q2, (e0 _ (by omega) (by omega)).trans q3, (va_up_ne _ _ (by omega)).trans (va_up_self _ _ _), va_up_self _ _ _, ⟨fun _ h => h, fun _ _ _ _ h => h⟩, ⟨fun _ h => h, fun _ _ _ _ h => h⟩, fun i hi => (e0 _ (by omega) (by omega)).trans (q6 i hi), fun i hi => (e0 _ (by omega) (by omega)).trans (q7 i hi)⟩, ?_⟩
  have hrc : rc zR = 0 := by decide
  have hgc : gc zR = 0 := by decide
  exact ⟨fun _ _ => rfl, fun _ _ => rfl, ⟨rfl, rfl, rfl, rfl⟩, fun i hi => by rw [hrc] at hi; omega, fun i hi => by rw [hgc] at hi; omega⟩
section ZS
variable {l : Launch} {G : va_G} {T : Nat → ClassId} {b : Nat} {X : gX9} {post : Mem → Prop} {k : Nat} {g0 : Mem}
theorem lX4_init_59 (hC : zC l G T b X RX4 cX4_init 2 2 32 14 164) (kk : ∀ g, zSI T b k 6 0 g0 g → Z l G T b X (k + 15) 14 164 post 84 [some (zr b k), some (.int (nI 6))] [] g (k + 11) 10 148) : ∀ (d i : Nat), i + d = 6 → ∀ g, zSI T b k i 0 g0 g → Z l G T b X (k + 15) 14 164 post 59 [some (zr b k), some (.int (nI i))] [] g (k + 5 + i) (4 + i) (106 + 7 * i)
  | 0, i, hi, g, h => by
    have e : i = 6 := by omega
    subst e
    refine z_iload_n hC dX4_init_59 (i := 1) rfl rfl ?_
    refine z_bipush (v := nI 6) hC dX4_init_60 (by decide) ?_
    exact z_icmp_ge_n hC dX4_init_62 (tgt := 84) rfl (by decide) (by decide) (fun _ => kk g h) (fun q => absurd (Nat.le_refl 6) q)
  | d + 1, i, hi, g, h => by
    have hi6 : i < 6 := by omega
    refine z_iload_n hC dX4_init_59 (i := 1) rfl rfl ?_
    refine z_bipush (v := nI 6) hC dX4_init_60 (by decide) ?_
    refine z_icmp_ge_n hC dX4_init_62 (tgt := 84) rfl (by omega) (by decide) (fun q => absurd hi6 (by omega)) (fun _ => ?_)
    refine z_aload_n hC dX4_init_65 (i := 0) rfl rfl ?_
    refine z_get hC fX4_20 dX4_init_66 (k := k) (by omega) h.1 (v := zr b (k + 3)) rfl ?_
    refine z_iload_n hC dX4_init_69 (i := 1) rfl rfl ?_
    refine z_new hC zn4_18 dX4_init_70 (n' := k + 5 + (i + 1)) (c' := 4 + (i + 1)) (s' := 106 + 7 * (i + 1)) (by omega) (by omega) (by omega) (by omega) (by omega) ?_
    refine z_dup hC dX4_init_73 rfl ?_
    refine z_callN hC zi3 (fun q => q.2.1) dX4_init_74 (c_X3_init l G T b (k := k + 5 + i) (va_up_self _ _ _)) rfl (Nat.le_of_ble_eq_true rfl) ⟨Nat.le_of_ble_eq_true rfl, Nat.le_of_ble_eq_true rfl⟩ (n2 := k + 5 + (i + 1)) (c' := 4 + (i + 1)) (s' := 106 + 7 * (i + 1)) (by omega) (by omega) (by omega) ⟨by omega, by omega⟩ (fun g' hp => ?_)
    refine z_aast hC (t := 3) (ci := 3) (C := RX3) (Or.inl ⟨rfl, rfl, rfl⟩) dX4_init_77 (k := k + 3) (r := k + 5 + i) (N := 6) (j := i) (by omega) ((hp.2 _ (by omega)).trans ((va_up_ne _ _ (by omega)).trans h.2.2.2.1)) (by omega) hp.1 rfl hi6 (by decide) ?_
    refine z_iinc hC dX4_init_78 (x := nI i) (v := nI (i + 1)) rfl (nI_add i 1) (Nat.le_of_ble_eq_true rfl) rfl (lo' := [some (zr b k), some (.int (nI (i + 1)))]) rfl ?_
    refine z_goto hC dX4_init_81 (tgt := 59) rfl ?_
    exact lX4_init_59 hC kk d (i + 1) (by omega) _ (h.r hp.1 hp.2)
theorem lX4_init_86 (hC : zC l G T b X RX4 cX4_init 2 2 32 14 164) (kk : ∀ g, zSI T b k 6 4 g0 g → Z l G T b X (k + 15) 14 164 post 110 [some (zr b k), some (.int (nI 4))] [] g (k + 15) 14 164) : ∀ (d i : Nat), i + d = 4 → ∀ g, zSI T b k 6 i g0 g → Z l G T b X (k + 15) 14 164 post 86 [some (zr b k), some (.int (nI i))] [] g (k + 11 + i) (10 + i) (148 + 4 * i)
  | 0, i, hi, g, h => by
    have e : i = 4 := by omega
    subst e
    refine z_iload_n hC dX4_init_86 (i := 1) rfl rfl ?_
    refine z_iconst (v := nI 4) hC dX4_init_87 (by decide) ?_
    exact z_icmp_ge_n hC dX4_init_88 (tgt := 110) rfl (by decide) (by decide) (fun _ => kk g h) (fun q => absurd (Nat.le_refl 4) q)
  | d + 1, i, hi, g, h => by
    have hi6 : i < 4 := by omega
    refine z_iload_n hC dX4_init_86 (i := 1) rfl rfl ?_
    refine z_iconst (v := nI 4) hC dX4_init_87 (by decide) ?_
    refine z_icmp_ge_n hC dX4_init_88 (tgt := 110) rfl (by omega) (by decide) (fun q => absurd hi6 (by omega)) (fun _ => ?_)
    refine z_aload_n hC dX4_init_91 (i := 0) rfl rfl ?_
    refine z_get hC fX4_26 dX4_init_92 (k := k) (by omega) h.1 (v := zr b (k + 4)) rfl ?_
    refine z_iload_n hC dX4_init_95 (i := 1) rfl rfl ?_
    refine z_new hC zn4_24 dX4_init_96 (n' := k + 11 + (i + 1)) (c' := 10 + (i + 1)) (s' := 148 + 4 * (i + 1)) (by omega) (by omega) (by omega) (by omega) (by omega) ?_
    refine z_dup hC dX4_init_99 rfl ?_
    refine z_callN hC zi0 (fun q => q.2.2.1) dX4_init_100 (c_X0_init l G T b (k := k + 11 + i) (va_up_self _ _ _)) rfl (Nat.le_of_ble_eq_true rfl) ⟨Nat.le_of_ble_eq_true rfl, Nat.le_of_ble_eq_true rfl⟩ (n2 := k + 11 + (i + 1)) (c' := 10 + (i + 1)) (s' := 148 + 4 * (i + 1)) (by omega) (by omega) (by omega) ⟨by omega, by omega⟩ (fun g' hp => ?_)
    refine z_aast hC (t := 4) (ci := 0) (C := RX0) (Or.inr (Or.inl ⟨rfl, rfl, rfl⟩)) dX4_init_103 (k := k + 4) (r := k + 11 + i) (N := 4) (j := i) (by omega) ((hp.2 _ (by omega)).trans ((va_up_ne _ _ (by omega)).trans h.2.2.2.2.1)) (by omega) hp.1 rfl hi6 (by decide) ?_
    refine z_iinc hC dX4_init_104 (x := nI i) (v := nI (i + 1)) rfl (nI_add i 1) (Nat.le_of_ble_eq_true rfl) rfl (lo' := [some (zr b k), some (.int (nI (i + 1)))]) rfl ?_
    refine z_goto hC dX4_init_107 (tgt := 86) rfl ?_
    exact lX4_init_86 hC kk d (i + 1) (by omega) _ (h.g hp.1 hp.2)
end ZS
theorem c_X4_init (l : Launch) (G : va_G) (T : Nat → ClassId) (b : Nat) {k : Nat} {g : Mem} (h0 : g k = oB 4 zD4) : Mz l G T b yX4_init cX4_init 2 2 32 (k + 1) (k + 15) 14 164 [zr b (k)] g (fun g' => (∀ n, k + 15 ≤ n → StA (zE G T b n) g' k zR) ∧ ∀ j, j < k → g' j = g j) := by
  refine mz_go (own := RX4) (by decide +kernel) rfl rfl (lo := [some (zr b (k)), none]) rfl (Nat.le_of_ble_eq_true rfl) (fun X hC => ?_)
  refine z_aload_n hC dX4_init_0 (i := 0) rfl rfl ?_
  refine z_obj hC rfl zo4 dX4_init_1 (by decide) (by decide) ?_
  refine z_aload_n hC dX4_init_4 (i := 0) rfl rfl ?_
  refine z_bipush (v := nI 32) hC dX4_init_5 (by decide) ?_
  refine z_newa (N := 32) (t := 0) hC (Or.inl ⟨rfl, rfl⟩) dX4_init_7 rfl (by decide) (n' := k + 2) (c' := 1) (s' := 32) rfl rfl rfl (by decide) (by decide) ?_
  refine z_put hC zf4_9 dX4_init_9 (k := k) (by omega) (fs := [.null, .null, .null, .null, .int 0, .int 0, .int 0, .int 0]) ((va_up_ne _ _ (by omega)).trans (h0)) (fs' := [zr b (k + 1), .null, .null, .null, .int 0, .int 0, .int 0, .int 0]) (v := zr b (k + 1)) (Nat.le_of_ble_eq_true rfl) rfl rfl rfl ?_
  refine z_aload_n hC dX4_init_12 (i := 0) rfl rfl ?_
  refine z_bipush (v := nI 64) hC dX4_init_13 (by decide) ?_
  refine z_newa (N := 64) (t := 0) hC (Or.inl ⟨rfl, rfl⟩) dX4_init_15 rfl (by decide) (n' := k + 3) (c' := 2) (s' := 96) rfl rfl rfl (by decide) (by decide) ?_
  refine z_put hC zf4_15 dX4_init_17 (k := k) (by omega) (fs := [zr b (k + 1), .null, .null, .null, .int 0, .int 0, .int 0, .int 0]) ((va_up_ne _ _ (by omega)).trans (va_up_self _ _ _)) (fs' := [zr b (k + 1), zr b (k + 2), .null, .null, .int 0, .int 0, .int 0, .int 0]) (v := zr b (k + 2)) (Nat.le_of_ble_eq_true rfl) rfl rfl rfl ?_
  refine z_aload_n hC dX4_init_20 (i := 0) rfl rfl ?_
  refine z_bipush (v := nI 6) hC dX4_init_21 (by decide) ?_
  refine z_newq (N := 6) hC zq4_18 dX4_init_23 rfl (by decide) (n' := k + 4) (c' := 3) (s' := 102) rfl rfl rfl (by decide) (by decide) ?_
  refine z_put hC zf4_20 dX4_init_26 (k := k) (by omega) (fs := [zr b (k + 1), zr b (k + 2), .null, .null, .int 0, .int 0, .int 0, .int 0]) ((va_up_ne _ _ (by omega)).trans (va_up_self _ _ _)) (fs' := [zr b (k + 1), zr b (k + 2), zr b (k + 3), .null, .int 0, .int 0, .int 0, .int 0]) (v := zr b (k + 3)) (Nat.le_of_ble_eq_true rfl) rfl rfl rfl ?_
  refine z_aload_n hC dX4_init_29 (i := 0) rfl rfl ?_
  refine z_iconst (v := nI 4) hC dX4_init_30 (by decide) ?_
  refine z_newq (N := 4) hC zq4_24 dX4_init_31 rfl (by decide) (n' := k + 5) (c' := 4) (s' := 106) rfl rfl rfl (by decide) (by decide) ?_
  refine z_put hC zf4_26 dX4_init_34 (k := k) (by omega) (fs := [zr b (k + 1), zr b (k + 2), zr b (k + 3), .null, .int 0, .int 0, .int 0, .int 0]) ((va_up_ne _ _ (by omega)).trans (va_up_self _ _ _)) (fs' := [zr b (k + 1), zr b (k + 2), zr b (k + 3), zr b (k + 4), .int 0, .int 0, .int 0, .int 0]) (v := zr b (k + 4)) (Nat.le_of_ble_eq_true rfl) rfl rfl rfl ?_
  refine z_aload_n hC dX4_init_37 (i := 0) rfl rfl ?_
  refine z_iconst (v := nI 0) hC dX4_init_38 (by decide) ?_
  refine z_put hC (zF_of fpX4_30) dX4_init_39 (k := k) (by omega) (fs := [zr b (k + 1), zr b (k + 2), zr b (k + 3), zr b (k + 4), .int 0, .int 0, .int 0, .int 0]) (va_up_self _ _ _) (fs' := [zr b (k + 1), zr b (k + 2), zr b (k + 3), zr b (k + 4), .int (nI 0), .int 0, .int 0, .int 0]) (v := .int (nI 0)) (Nat.le_of_ble_eq_true rfl) rfl rfl rfl ?_
  refine z_aload_n hC dX4_init_42 (i := 0) rfl rfl ?_
  refine z_iconst (v := nI 0) hC dX4_init_43 (by decide) ?_
  refine z_put hC (zF_of fpX4_34) dX4_init_44 (k := k) (by omega) (fs := [zr b (k + 1), zr b (k + 2), zr b (k + 3), zr b (k + 4), .int (nI 0), .int 0, .int 0, .int 0]) (va_up_self _ _ _) (fs' := [zr b (k + 1), zr b (k + 2), zr b (k + 3), zr b (k + 4), .int (nI 0), .int (nI 0), .int 0, .int 0]) (v := .int (nI 0)) (Nat.le_of_ble_eq_true rfl) rfl rfl rfl ?_
  refine z_aload_n hC dX4_init_47 (i := 0) rfl rfl ?_
  refine z_iconst (v := nI 0) hC dX4_init_48 (by decide) ?_
  refine z_put hC (zF_of fpX4_37) dX4_init_49 (k := k) (by omega) (fs := [zr b (k + 1), zr b (k + 2), zr b (k + 3), zr b (k + 4), .int (nI 0), .int (nI 0), .int 0, .int 0]) (va_up_self _ _ _) (fs' := [zr b (k + 1), zr b (k + 2), zr b (k + 3), zr b (k + 4), .int (nI 0), .int (nI 0), .int (nI 0), .int 0]) (v := .int (nI 0)) (Nat.le_of_ble_eq_true rfl) rfl rfl rfl ?_
  refine z_aload_n hC dX4_init_52 (i := 0) rfl rfl ?_
  refine z_iconst (v := nI 0) hC dX4_init_53 (by decide) ?_
  refine z_put hC (zF_of fpX4_40) dX4_init_54 (k := k) (by omega) (fs := [zr b (k + 1), zr b (k + 2), zr b (k + 3), zr b (k + 4), .int (nI 0), .int (nI 0), .int (nI 0), .int 0]) (va_up_self _ _ _) (fs' := [zr b (k + 1), zr b (k + 2), zr b (k + 3), zr b (k + 4), .int (nI 0), .int (nI 0), .int (nI 0), .int (nI 0)]) (v := .int (nI 0)) (Nat.le_of_ble_eq_true rfl) rfl rfl rfl ?_
  refine z_iconst (v := nI 0) hC dX4_init_57 (by decide) ?_
  refine z_istore_n hC dX4_init_58 (i := 1) rfl (Nat.le_of_ble_eq_true rfl) rfl (lo' := [some (zr b k), some (.int (nI 0))]) rfl ?_
  refine lX4_init_59 (g0 := g) hC (fun g1 h1 => ?_) 6 0 rfl _ ⟨va_up_self _ _ _, (va_up_ne _ _ (by omega)).trans ((va_up_ne _ _ (by omega)).trans ((va_up_ne _ _ (by omega)).trans ((va_up_ne _ _ (by omega)).trans ((va_up_ne _ _ (by omega)).trans ((va_up_ne _ _ (by omega)).trans ((va_up_ne _ _ (by omega)).trans ((va_up_ne _ _ (by omega)).trans ((va_up_ne _ _ (by omega)).trans ((va_up_ne _ _ (by omega)).trans ((va_up_ne _ _ (by omega)).trans (va_up_self _ _ _))))))))))), (va_up_ne _ _ (by omega)).trans ((va_up_ne _ _ (by omega)).trans ((va_up_ne _ _ (by omega)).trans ((va_up_ne _ _ (by omega)).trans ((va_up_ne _ _ (by omega)).trans ((va_up_ne _ _ (by omega)).trans ((va_up_ne _ _ (by omega)).trans ((va_up_ne _ _ (by omega)).trans ((va_up_ne _ _ (by omega)).trans (va_up_self _ _ _))))))))), ((va_up_ne _ _ (by omega)).trans ((va_up_ne _ _ (by omega)).trans ((va_up_ne _ _ (by omega)).trans ((va_up_ne _ _ (by omega)).trans ((va_up_ne _ _ (by omega)).trans ((va_up_ne _ _ (by omega)).trans ((va_up_ne _ _ (by omega)).trans (va_up_self _ _ _)))))))).trans (congrArg (zJ T 3 6) (funext fun a => (if_neg (Nat.not_lt_zero a)).symm)), ((va_up_ne _ _ (by omega)).trans ((va_up_ne _ _ (by omega)).trans ((va_up_ne _ _ (by omega)).trans ((va_up_ne _ _ (by omega)).trans ((va_up_ne _ _ (by omega)).trans (va_up_self _ _ _)))))).trans (congrArg (zJ T 4 4) (funext fun a => (if_neg (Nat.not_lt_zero a)).symm)), fun a ha => absurd ha (Nat.not_lt_zero a), fun a ha => absurd ha (Nat.not_lt_zero a), fun a ha => (va_up_ne _ _ (by omega)).trans ((va_up_ne _ _ (by omega)).trans ((va_up_ne _ _ (by omega)).trans ((va_up_ne _ _ (by omega)).trans ((va_up_ne _ _ (by omega)).trans ((va_up_ne _ _ (by omega)).trans ((va_up_ne _ _ (by omega)).trans ((va_up_ne _ _ (by omega)).trans ((va_up_ne _ _ (by omega)).trans ((va_up_ne _ _ (by omega)).trans ((va_up_ne _ _ (by omega)).trans ((va_up_ne _ _ (by omega)).trans (rfl))))))))))))⟩
  refine z_iconst (v := nI 0) hC dX4_init_84 (by decide) ?_
  refine z_istore_n hC dX4_init_85 (i := 1) rfl (Nat.le_of_ble_eq_true rfl) rfl (lo' := [some (zr b k), some (.int (nI 0))]) rfl ?_
  refine lX4_init_86 (g0 := g) hC (fun g2 h2 => ?_) 4 0 rfl _ h1
  refine z_mem (k := k + 3) (by omega) h2.2.2.2.1 (h := fun a => some (b + (k + 5 + a))) (fun i hi => if_pos hi) ?_
  refine z_mem (k := k + 4) (by omega) ((va_up_ne _ _ (by omega)).trans h2.2.2.2.2.1) (h := fun a => some (b + (k + 11 + a))) (fun i hi => if_pos hi) ?_
  exact z_ret hC dX4_init_110 ⟨fun n hn => h2.sta hn, fun j hj => (va_up_ne _ _ (by omega)).trans ((va_up_ne _ _ (by omega)).trans (h2.2.2.2.2.2.2.2 j hj))⟩ rfl rfl rfl
def zHI (G : va_G) (T : Nat → ClassId) (b i : Nat) (g0 g : Mem) : Prop :=
  g 16 = oB 1 [zr b 17, zr b 18, .int (nI 0), .int (nI 0)] ∧ g 17 = zJ T 5 4 (fun a => if a < i then some (b + (33 + 15 * a)) else none) ∧ StA (zE G T b 100) g 18 zR ∧ (∀ a, a < i → StA (zE G T b 100) g (33 + 15 * a) zR) ∧ ∀ a, a < 16 → g a = g0 a
theorem zHI.s {G : va_G} {T : Nat → ClassId} {b i : Nat} {g0 g g' : Mem} {e : va_E} (h : zHI G T b i g0 g) (hi : i < 4) (h1 : StA (zE G T b 100) g' (33 + 15 * i) zR) (h2 : ∀ j, j < 33 + 15 * i → g' j = va_up g (33 + 15 * i) e j) : zHI G T b (i + 1) g0 (va_up g' 17 (zJ T 5 4 (va_up (fun a => if a < i then some (b + (33 + 15 * a)) else none) i (some (b + (33 + 15 * i)))))) := by
  obtain ⟨q1, q2, q3, q4, q5⟩ := h
  have e2 : ∀ j, j < 33 + 15 * i → g' j = g j := fun j hj => (h2 j hj).trans (va_up_ne _ _ (by omega))
  rw [zJ_up (n := 0) (h := fun a => b + (33 + 15 * a))]
  refine ⟨(va_up_ne _ _ (by omega)).trans ((e2 _ (by omega)).trans q1), va_up_self _ _ _, q3.keep (fun k h3 h4 => (va_up_ne _ _ (by omega)).trans (e2 _ (by omega))), fun a ha => ?_, fun a ha => (va_up_ne _ _ (by omega)).trans ((e2 _ (by omega)).trans (q5 a ha))⟩
  by_cases hai : a = i
  · subst hai
    exact h1.keep (fun k h3 h4 => va_up_ne _ _ (by omega))
  · exact (q4 a (by omega)).keep (fun k h3 h4 => (va_up_ne _ _ (by omega)).trans (e2 _ (by omega)))
theorem lX1_init_35 {l : Launch} {G : va_G} {T : Nat → ClassId} {b : Nat} {X : gX9} {post : Mem → Prop} {g0 : Mem} (hC : zC l G T b X RX1 cX1_init 2 3 53 76 864) (kk : ∀ g, zHI G T b 4 g0 g → Z l G T b X 93 76 864 post 59 [some (zr b 16), some (.int (nI 4))] [] g 93 76 864) : ∀ (d i : Nat), i + d = 4 → ∀ g, zHI G T b i g0 g → Z l G T b X 93 76 864 post 35 [some (zr b 16), some (.int (nI i))] [] g (33 + 15 * i) (16 + 15 * i) (176 + 172 * i)
  | 0, i, hi, g, h => by
    have e : i = 4 := by omega
    subst e
    refine z_iload_n hC dX1_init_35 (i := 1) rfl rfl ?_
    refine z_iconst (v := nI 4) hC dX1_init_36 (by decide) ?_
    exact z_icmp_ge_n hC dX1_init_37 (tgt := 59) rfl (by decide) (by decide) (fun _ => kk g h) (fun q => absurd (Nat.le_refl 4) q)
  | d + 1, i, hi, g, h => by
    have hi6 : i < 4 := by omega
    refine z_iload_n hC dX1_init_35 (i := 1) rfl rfl ?_
    refine z_iconst (v := nI 4) hC dX1_init_36 (by decide) ?_
    refine z_icmp_ge_n hC dX1_init_37 (tgt := 59) rfl (by omega) (by decide) (fun q => absurd hi6 (by omega)) (fun _ => ?_)
    refine z_aload_n hC dX1_init_40 (i := 0) rfl rfl ?_
    refine z_get hC fX1_11 dX1_init_41 (k := 16) (by omega) h.1 (v := zr b 17) rfl ?_
    refine z_iload_n hC dX1_init_44 (i := 1) rfl rfl ?_
    refine z_new hC zn1_9 dX1_init_45 (n' := 33 + 15 * i + 1) (c' := 17 + 15 * i) (s' := 184 + 172 * i) (by omega) (by omega) (by omega) (by omega) (by omega) ?_
    refine z_dup hC dX1_init_48 rfl ?_
    refine z_call hC zi4 kX1_17 dX1_init_49 (c_X4_init l G T b (k := 33 + 15 * i) (va_up_self _ _ _)) rfl (Nat.le_of_ble_eq_true rfl) ⟨Nat.le_of_ble_eq_true rfl, Nat.le_of_ble_eq_true rfl⟩ (c' := 16 + 15 * (i + 1)) (s' := 176 + 172 * (i + 1)) (by omega) (by omega) (by omega) ⟨by omega, by omega⟩ (fun g' hp => ?_)
    have hst := hp.1 100 (by omega)
    obtain ⟨-, fs, hfs⟩ := StA.of_lt hst
    refine z_aast hC (t := 5) (ci := 4) (C := RX4) (Or.inr (Or.inr ⟨rfl, rfl, rfl⟩)) dX1_init_52 (k := 17) (r := 33 + 15 * i) (N := 4) (j := i) (by omega) ((hp.2 _ (by omega)).trans ((va_up_ne _ _ (by omega)).trans h.2.1)) (by omega) hfs rfl hi6 (by decide) ?_
    refine z_iinc hC dX1_init_53 (x := nI i) (v := nI (i + 1)) rfl (nI_add i 1) (Nat.le_of_ble_eq_true rfl) rfl (lo' := [some (zr b 16), some (.int (nI (i + 1)))]) rfl ?_
    refine z_goto hC dX1_init_56 (tgt := 35) rfl ?_
    exact lX1_init_35 hC kk d (i + 1) (by omega) _ (h.s hi6 hst hp.2)
theorem c_X1_init (l : Launch) (G : va_G) (T : Nat → ClassId) (b : Nat) {g : Mem} (h0 : g 16 = oB 1 zD1) : Mz l G T b yX1_init cX1_init 2 3 53 (17) (93) 76 864 [zr b (16)] g (fun g' => HA (zE G T b 100) g' 0 0 (fun _ => zR) zR ∧ ∀ j, j < 16 → g' j = g j) := by
  refine mz_go (own := RX1) (by decide +kernel) rfl rfl (lo := [some (zr b (16)), none]) rfl (Nat.le_of_ble_eq_true rfl) (fun X hC => ?_)
  refine z_aload_n hC dX1_init_0 (i := 0) rfl rfl ?_
  refine z_obj hC rfl zo1 dX1_init_1 (by decide) (by decide) ?_
  refine z_aload_n hC dX1_init_4 (i := 0) rfl rfl ?_
  refine z_iconst (v := nI 4) hC dX1_init_5 (by decide) ?_
  refine z_newq (N := 4) hC zq1_9 dX1_init_6 rfl (by decide) (n' := 18) (c' := 1) (s' := 4) rfl rfl rfl (by decide) (by decide) ?_
  refine z_put hC zf1_11 dX1_init_9 (k := 16) (by omega) (fs := [.null, .null, .int 0, .int 0]) ((va_up_ne _ _ (by omega)).trans (h0)) (fs' := [zr b (17), .null, .int 0, .int 0]) (v := zr b (17)) (Nat.le_of_ble_eq_true rfl) rfl rfl rfl ?_
  refine z_aload_n hC dX1_init_12 (i := 0) rfl rfl ?_
  refine z_new hC zn1_9 dX1_init_13 (n' := 19) (c' := 2) (s' := 12) rfl rfl rfl (by decide) (by decide) ?_
  refine z_dup hC dX1_init_16 rfl ?_
  refine z_call hC zi4 kX1_17 dX1_init_17 (c_X4_init l G T b (k := 18) (va_up_self _ _ _)) rfl (Nat.le_of_ble_eq_true rfl) ⟨Nat.le_of_ble_eq_true rfl, Nat.le_of_ble_eq_true rfl⟩ (n2 := 33) (c' := 16) (s' := 176) rfl rfl rfl ⟨by omega, by omega⟩ (fun g1 hp => ?_)
  have hst := hp.1 100 (by omega)
  have h16 : g1 16 = oB 1 [zr b (17), .null, .int 0, .int 0] := (hp.2 16 (by decide)).trans ((va_up_ne _ _ (by omega)).trans (va_up_self _ _ _))
  have h17 : g1 17 = zJ T 5 4 (fun _ => none) := (hp.2 17 (by decide)).trans ((va_up_ne _ _ (by omega)).trans ((va_up_ne _ _ (by omega)).trans (va_up_self _ _ _)))
  have hlo : ∀ j, j < 16 → g1 j = g j := fun j hj => (hp.2 j (by omega)).trans ((va_up_ne _ _ (by omega)).trans ((va_up_ne _ _ (by omega)).trans ((va_up_ne _ _ (by omega)).trans (rfl))))
  refine z_put hC zf1_18 dX1_init_20 (k := 16) (by omega) (fs := [zr b (17), .null, .int 0, .int 0]) (h16) (fs' := [zr b (17), zr b (18), .int 0, .int 0]) (v := zr b (18)) (Nat.le_of_ble_eq_true rfl) rfl rfl rfl ?_
  refine z_aload_n hC dX1_init_23 (i := 0) rfl rfl ?_
  refine z_iconst (v := nI 0) hC dX1_init_24 (by decide) ?_
  refine z_put hC (zF_of fpX1_22) dX1_init_25 (k := 16) (by omega) (fs := [zr b (17), zr b (18), .int 0, .int 0]) (va_up_self _ _ _) (fs' := [zr b (17), zr b (18), .int (nI 0), .int 0]) (v := .int (nI 0)) (Nat.le_of_ble_eq_true rfl) rfl rfl rfl ?_
  refine z_aload_n hC dX1_init_28 (i := 0) rfl rfl ?_
  refine z_iconst (v := nI 0) hC dX1_init_29 (by decide) ?_
  refine z_put hC (zF_of fpX1_26) dX1_init_30 (k := 16) (by omega) (fs := [zr b (17), zr b (18), .int (nI 0), .int 0]) (va_up_self _ _ _) (fs' := [zr b (17), zr b (18), .int (nI 0), .int (nI 0)]) (v := .int (nI 0)) (Nat.le_of_ble_eq_true rfl) rfl rfl rfl ?_
  refine z_iconst (v := nI 0) hC dX1_init_33 (by decide) ?_
  refine z_istore_n hC dX1_init_34 (i := 1) rfl (Nat.le_of_ble_eq_true rfl) rfl (lo' := [some (zr b 16), some (.int (nI 0))]) rfl ?_
  refine lX1_init_35 (g0 := g) hC (fun g2 h2 => ?_) 4 0 rfl _ ⟨va_up_self _ _ _, ((va_up_ne _ _ (by omega)).trans ((va_up_ne _ _ (by omega)).trans ((va_up_ne _ _ (by omega)).trans (h17)))).trans (congrArg (zJ T 5 4) (funext fun a => (if_neg (Nat.not_lt_zero a)).symm)), hst.keep (fun a ha1 ha2 => (va_up_ne _ _ (by omega)).trans ((va_up_ne _ _ (by omega)).trans ((va_up_ne _ _ (by omega)).trans (rfl)))), fun a ha => absurd ha (Nat.not_lt_zero a), fun a ha => (va_up_ne _ _ (by omega)).trans ((va_up_ne _ _ (by omega)).trans ((va_up_ne _ _ (by omega)).trans (hlo a ha)))⟩
  refine z_mem (k := 17) (by omega) h2.2.1 (h := fun a => some (b + (33 + 15 * a))) (fun i hi => if_pos hi) ?_
  have hk : ∀ j, j ≠ 17 → va_up g2 17 (zJ T 5 4 (fun a => some (b + (33 + 15 * a)))) j = g2 j := fun j hj => va_up_ne _ _ hj
  refine z_ret hC dX1_init_59 ⟨⟨Nat.le_refl _, by decide, by decide, (hk _ (by decide)).trans h2.1, ⟨fun i => i, ⟨fun _ h => h, fun _ _ _ _ h => h⟩, va_up_self _ _ _, fun i hi => ⟨zR, (h2.2.2.2.1 i hi).keep (fun k h3 h4 => hk k (by omega))⟩, fun i hi => absurd hi (Nat.not_lt_zero i)⟩, ⟨zR, h2.2.2.1.keep (fun k h3 h4 => hk k (by omega))⟩, fun q => absurd q (by decide)⟩, fun j hj => (hk _ (by omega)).trans (h2.2.2.2.2 j hj)⟩ rfl rfl rfl
def zS0 : AS := .mk zR 0 0 (fun _ => zR) zR 0 (fun _ => 0)
theorem c_X5_init (l : Launch) (G : va_G) (T : Nat → ClassId) (b : Nat) {g : Mem} (h0 : g 0 = oB 5 zD5) : Mz l G T b yX5_init cX5_init 1 4 74 (1) (100) 99 1354 [zr b (0)] g (fun g' => CP (zE G T b 100) g' zS0) := by
  refine mz_go (own := RX5) (by decide +kernel) rfl rfl (lo := [some (zr b (0))]) rfl (Nat.le_of_ble_eq_true rfl) (fun X hC => ?_)
  refine z_aload_n hC dX5_init_0 (i := 0) rfl rfl ?_
  refine z_obj hC rfl zo5 dX5_init_1 (by decide) (by decide) ?_
  refine z_aload_n hC dX5_init_4 (i := 0) rfl rfl ?_
  refine z_new hC zn5_9 dX5_init_5 (n' := 2) (c' := 1) (s' := 8) rfl rfl rfl (by decide) (by decide) ?_
  refine z_dup hC dX5_init_8 rfl ?_
  refine z_call hC zi4 kX5_11 dX5_init_9 (c_X4_init l G T b (k := 1) (va_up_self _ _ _)) rfl (Nat.le_of_ble_eq_true rfl) ⟨Nat.le_of_ble_eq_true rfl, Nat.le_of_ble_eq_true rfl⟩ (n2 := 16) (c' := 15) (s' := 172) rfl rfl rfl ⟨by omega, by omega⟩ (fun g1 hp => ?_)
  have hst := hp.1 100 (by omega)
  have h1 : g1 0 = oB 5 [.null, .null, .null, .null, .null, .null] := (hp.2 0 (by decide)).trans ((va_up_ne _ _ (by omega)).trans (h0))
  refine z_put hC zf5_12 dX5_init_12 (k := 0) (by omega) (fs := [.null, .null, .null, .null, .null, .null]) (h1) (fs' := [zr b (1), .null, .null, .null, .null, .null]) (v := zr b (1)) (Nat.le_of_ble_eq_true rfl) rfl rfl rfl ?_
  refine z_aload_n hC dX5_init_15 (i := 0) rfl rfl ?_
  refine z_new hC zn5_16 dX5_init_16 (n' := 17) (c' := 16) (s' := 176) rfl rfl rfl (by decide) (by decide) ?_
  refine z_dup hC dX5_init_19 rfl ?_
  refine z_call hC zi1 kX5_18 dX5_init_20 (c_X1_init l G T b (va_up_self _ _ _)) rfl (Nat.le_of_ble_eq_true rfl) ⟨Nat.le_of_ble_eq_true rfl, Nat.le_of_ble_eq_true rfl⟩ (n2 := 93) (c' := 92) (s' := 1040) rfl rfl rfl ⟨by omega, by omega⟩ (fun g2 hp2 => ?_)
  have hst2 : StA (zE G T b 100) g2 1 zR := hst.keep (fun a ha1 ha2 => (hp2.2 a (by omega)).trans ((va_up_ne _ _ (by omega)).trans ((va_up_ne _ _ (by omega)).trans (rfl))))
  have h2 : g2 0 = oB 5 [zr b (1), .null, .null, .null, .null, .null] := (hp2.2 0 (by decide)).trans ((va_up_ne _ _ (by omega)).trans (va_up_self _ _ _))
  refine z_put hC zf5_19 dX5_init_23 (k := 0) (by omega) (fs := [zr b (1), .null, .null, .null, .null, .null]) (h2) (fs' := [zr b (1), zr b (16), .null, .null, .null, .null]) (v := zr b (16)) (Nat.le_of_ble_eq_true rfl) rfl rfl rfl ?_
  refine z_aload_n hC dX5_init_26 (i := 0) rfl rfl ?_
  refine z_new hC zn5_23 dX5_init_27 (n' := 94) (c' := 93) (s' := 1046) rfl rfl rfl (by decide) (by decide) ?_
  refine z_dup hC dX5_init_30 rfl ?_
  refine z_callN hC zi2 (fun q => q.2.2.2.1) dX5_init_31 (c_X2_init l G T b (va_up_self _ _ _)) rfl (Nat.le_of_ble_eq_true rfl) ⟨Nat.le_of_ble_eq_true rfl, Nat.le_of_ble_eq_true rfl⟩ (n2 := 97) (c' := 96) (s' := 1226) rfl rfl rfl ⟨by omega, by omega⟩ (fun g3 hp3 => ?_)
  obtain ⟨⟨p1, p2, p3, p4⟩, hp3⟩ := hp3
  have hst3 : StA (zE G T b 100) g3 1 zR := hst2.keep (fun a ha1 ha2 => (hp3 a (by omega)).trans ((va_up_ne _ _ (by omega)).trans ((va_up_ne _ _ (by omega)).trans (rfl))))
  have hha3 : HA (zE G T b 100) g3 0 0 (fun _ => zR) zR := hp2.1.keep (fun a ha1 ha2 => (hp3 a (by omega)).trans ((va_up_ne _ _ (by omega)).trans ((va_up_ne _ _ (by omega)).trans (rfl))))
  have h3 : g3 0 = oB 5 [zr b (1), zr b (16), .null, .null, .null, .null] := (hp3 0 (by decide)).trans ((va_up_ne _ _ (by omega)).trans (va_up_self _ _ _))
  refine z_put hC zf5_26 dX5_init_34 (k := 0) (by omega) (fs := [zr b (1), zr b (16), .null, .null, .null, .null]) (h3) (fs' := [zr b (1), zr b (16), zr b (93), .null, .null, .null]) (v := zr b (93)) (Nat.le_of_ble_eq_true rfl) rfl rfl rfl ?_
  refine z_aload_n hC dX5_init_37 (i := 0) rfl rfl ?_
  refine z_bipush (v := nI 32) hC dX5_init_38 (by decide) ?_
  refine z_newa (N := 32) (t := 0) hC (Or.inl ⟨rfl, rfl⟩) dX5_init_40 rfl (by decide) (n' := 98) (c' := 97) (s' := 1258) rfl rfl rfl (by decide) (by decide) ?_
  refine z_put hC zf5_30 dX5_init_42 (k := 0) (by omega) (fs := [zr b (1), zr b (16), zr b (93), .null, .null, .null]) ((va_up_ne _ _ (by omega)).trans (va_up_self _ _ _)) (fs' := [zr b (1), zr b (16), zr b (93), zr b (97), .null, .null]) (v := zr b (97)) (Nat.le_of_ble_eq_true rfl) rfl rfl rfl ?_
  refine z_aload_n hC dX5_init_45 (i := 0) rfl rfl ?_
  refine z_bipush (v := nI 32) hC dX5_init_46 (by decide) ?_
  refine z_newa (N := 32) (t := 2) hC (Or.inr (Or.inr ⟨rfl, rfl⟩)) dX5_init_48 rfl (by decide) (n' := 99) (c' := 98) (s' := 1290) rfl rfl rfl (by decide) (by decide) ?_
  refine z_put hC zf5_34 dX5_init_50 (k := 0) (by omega) (fs := [zr b (1), zr b (16), zr b (93), zr b (97), .null, .null]) ((va_up_ne _ _ (by omega)).trans (va_up_self _ _ _)) (fs' := [zr b (1), zr b (16), zr b (93), zr b (97), zr b (98), .null]) (v := zr b (98)) (Nat.le_of_ble_eq_true rfl) rfl rfl rfl ?_
  refine z_aload_n hC dX5_init_53 (i := 0) rfl rfl ?_
  refine z_bipush (v := nI 64) hC dX5_init_54 (by decide) ?_
  refine z_newa (N := 64) (t := 0) hC (Or.inl ⟨rfl, rfl⟩) dX5_init_56 rfl (by decide) (n' := 100) (c' := 99) (s' := 1354) rfl rfl rfl (by decide) (by decide) ?_
  refine z_put hC zf5_38 dX5_init_58 (k := 0) (by omega) (fs := [zr b (1), zr b (16), zr b (93), zr b (97), zr b (98), .null]) ((va_up_ne _ _ (by omega)).trans (va_up_self _ _ _)) (fs' := [zr b (1), zr b (16), zr b (93), zr b (97), zr b (98), zr b (99)]) (v := zr b (99)) (Nat.le_of_ble_eq_true rfl) rfl rfl rfl ?_
  refine z_ret hC dX5_init_61 ⟨fun _ => 0, fun _ => 0, fun _ => 0, Nat.le_refl _, va_up_self _ _ _, hst3.keep (fun a ha1 ha2 => (va_up_ne _ _ (by omega)).trans ((va_up_ne _ _ (by omega)).trans ((va_up_ne _ _ (by omega)).trans ((va_up_ne _ _ (by omega)).trans ((va_up_ne _ _ (by omega)).trans ((va_up_ne _ _ (by omega)).trans ((va_up_ne _ _ (by omega)).trans (rfl)))))))), hha3.keep (fun a ha1 ha2 => (va_up_ne _ _ (by omega)).trans ((va_up_ne _ _ (by omega)).trans ((va_up_ne _ _ (by omega)).trans ((va_up_ne _ _ (by omega)).trans ((va_up_ne _ _ (by omega)).trans ((va_up_ne _ _ (by omega)).trans ((va_up_ne _ _ (by omega)).trans (rfl)))))))), ⟨fun _ => 0, nI 0, nI 0, fun _ => 0, fun _ => 0, Nat.le_refl _, by decide, fun k hk => absurd hk (Nat.not_lt_zero k), fun k hk => absurd hk (Nat.not_lt_zero k), (va_up_ne _ _ (by omega)).trans ((va_up_ne _ _ (by omega)).trans ((va_up_ne _ _ (by omega)).trans ((va_up_ne _ _ (by omega)).trans ((va_up_ne _ _ (by omega)).trans ((va_up_ne _ _ (by omega)).trans ((va_up_ne _ _ (by omega)).trans (p1))))))), (va_up_ne _ _ (by omega)).trans ((va_up_ne _ _ (by omega)).trans ((va_up_ne _ _ (by omega)).trans ((va_up_ne _ _ (by omega)).trans ((va_up_ne _ _ (by omega)).trans ((va_up_ne _ _ (by omega)).trans ((va_up_ne _ _ (by omega)).trans (p2))))))), (va_up_ne _ _ (by omega)).trans ((va_up_ne _ _ (by omega)).trans ((va_up_ne _ _ (by omega)).trans ((va_up_ne _ _ (by omega)).trans ((va_up_ne _ _ (by omega)).trans ((va_up_ne _ _ (by omega)).trans ((va_up_ne _ _ (by omega)).trans (p3))))))), (va_up_ne _ _ (by omega)).trans ((va_up_ne _ _ (by omega)).trans ((va_up_ne _ _ (by omega)).trans ((va_up_ne _ _ (by omega)).trans ((va_up_ne _ _ (by omega)).trans ((va_up_ne _ _ (by omega)).trans ((va_up_ne _ _ (by omega)).trans (p4)))))))⟩, (va_up_ne _ _ (by omega)).trans ((va_up_ne _ _ (by omega)).trans ((va_up_ne _ _ (by omega)).trans ((va_up_ne _ _ (by omega)).trans ((va_up_ne _ _ (by omega)).trans (va_up_self _ _ _))))), (va_up_ne _ _ (by omega)).trans ((va_up_ne _ _ (by omega)).trans ((va_up_ne _ _ (by omega)).trans (va_up_self _ _ _))), (va_up_ne _ _ (by omega)).trans (va_up_self _ _ _)⟩ rfl rfl rfl
theorem zR_v : Vr zR 0 := by
  have hrc : rc zR = 0 := by decide
  have hgc : gc zR = 0 := by decide
  have hp : px zR = fun _ => 0 := funext fun p => (show nn (nI 0) = 0 by decide)
  refine ⟨⟨by rw [hrc]; rfl, by rw [hrc]; decide⟩, ⟨by rw [hgc]; rfl, by rw [hgc]; decide⟩, fun i hi => by rw [hrc] at hi; omega, fun i j _ hj => by rw [hrc] at hj; omega, fun i hi => by rw [hgc] at hi; omega, fun i j _ hj => by rw [hgc] at hj; omega, fun p _ => ⟨by rw [hp]; rfl, by rw [hp]; exact (show 0 < 32 by decide)⟩, ⟨show nI 0 = nI (nn (nI 0)) by decide, show nn (nI 0) ≤ 0 by decide⟩, ⟨show nI 0 = nI (nn (nI 0)) by decide, show nn (nI 0) ≤ 0 by decide⟩⟩
theorem zS0_ok : OK zS0 0 := ⟨zR_v, by decide, by decide, fun i hi => absurd hi (Nat.not_lt_zero i), fun _ => zR_v, by decide, fun k hk => absurd hk (Nat.not_lt_zero k)⟩
