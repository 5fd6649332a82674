/-! ===== the model: its small methods ===== -/
theorem dX6_in_0 : decode cX6_in 0 = .ok (.iload_n 0, 1) := by decide +kernel
theorem dX6_in_1 : decode cX6_in 1 = .ok (.iload_n 1, 1) := by decide +kernel
theorem dX6_in_2 : decode cX6_in 2 = .ok (.if_icmp .lt 12, 3) := by decide +kernel
theorem dX6_in_5 : decode cX6_in 5 = .ok (.iload_n 0, 1) := by decide +kernel
theorem dX6_in_6 : decode cX6_in 6 = .ok (.iload_n 2, 1) := by decide +kernel
theorem dX6_in_7 : decode cX6_in 7 = .ok (.if_icmp .gt 7, 3) := by decide +kernel
theorem dX6_in_10 : decode cX6_in 10 = .ok (.iconst 1, 1) := by decide +kernel
theorem dX6_in_11 : decode cX6_in 11 = .ok (.goto 4, 3) := by decide +kernel
theorem dX6_in_14 : decode cX6_in 14 = .ok (.iconst 0, 1) := by decide +kernel
theorem dX6_in_15 : decode cX6_in 15 = .ok (.ireturn, 1) := by decide +kernel
set_option maxHeartbeats 4000000 in
set_option maxRecDepth 100000 in
theorem c_X6_in (l : Launch) (E : gE) (g : Mem) (x a b : Int32) : Mt l E yX6_in cX6_in 3 (some .boolean) 0 0 [.int (x), .int (a), .int (b)] g (pI (fun r g' => r = bI (a.toInt ≤ x.toInt ∧ x.toInt ≤ b.toInt) ∧ g' = g)) := by
  refine mt_go (own := RX6) (by decide) rfl (lo := [some (.int (x)), some (.int (a)), some (.int (b))]) rfl (Nat.le_of_ble_eq_true rfl) (fun X hC => ?_)
  refine y_iload_n hC dX6_in_0 (i := 0) rfl rfl ?_
  refine y_iload_n hC dX6_in_1 (i := 1) rfl rfl ?_
  refine y_icmp_lt (tgt := 14) hC dX6_in_2 (by decide) (fun c_2 => ?_) (fun c_2 => ?_)
  · refine y_iconst (v := nI 0) hC dX6_in_14 (by decide) ?_
    refine y_zret (hrt := rfl) (hn := rfl) (hC := hC) (hd := dX6_in_15) (hq := ?_)
    refine ⟨?_, rfl⟩
    try simp only [Int32.lt_iff_toInt_lt] at c_2
    try simp only [Int32.lt_iff_toInt_lt] at c_7
    first | exact (bI_t (by omega)).symm | exact (bI_f (by omega)).symm
  · refine y_iload_n hC dX6_in_5 (i := 0) rfl rfl ?_
    refine y_iload_n hC dX6_in_6 (i := 2) rfl rfl ?_
    refine y_icmp_gt (tgt := 14) hC dX6_in_7 (by decide) (fun c_7 => ?_) (fun c_7 => ?_)
    · refine y_iconst (v := nI 0) hC dX6_in_14 (by decide) ?_
      refine y_zret (hrt := rfl) (hn := rfl) (hC := hC) (hd := dX6_in_15) (hq := ?_)
      refine ⟨?_, rfl⟩
      try simp only [Int32.lt_iff_toInt_lt] at c_2
      try simp only [Int32.lt_iff_toInt_lt] at c_7
      first | exact (bI_t (by omega)).symm | exact (bI_f (by omega)).symm
    · refine y_iconst (v := nI 1) hC dX6_in_10 (by decide) ?_
      refine y_goto (tgt := 15) hC dX6_in_11 (by decide) ?_
      refine y_zret (hrt := rfl) (hn := rfl) (hC := hC) (hd := dX6_in_15) (hq := ?_)
      refine ⟨?_, rfl⟩
      try simp only [Int32.lt_iff_toInt_lt] at c_2
      try simp only [Int32.lt_iff_toInt_lt] at c_7
      first | exact (bI_t (by omega)).symm | exact (bI_f (by omega)).symm

theorem c_X6_inN (l : Launch) (E : gE) (g : Mem) (x : Int32) (a b : Nat) (ha : a < 2147483648) (hb : b < 2147483648) : Mt l E yX6_in cX6_in 3 (some .boolean) 0 0 [.int x, .int (nI a), .int (nI b)] g (pI (fun r g' => r = bI ((a : Int) ≤ x.toInt ∧ x.toInt ≤ (b : Int)) ∧ g' = g)) := by
  have h := c_X6_in l E g x (nI a) (nI b)
  rw [tI ha, tI hb] at h
  exact h
theorem c_X6_inM (l : Launch) (E : gE) (g : Mem) (p a b : Nat) (hp : p < 2147483648) (ha : a < 2147483648) (hb : b < 2147483648) : Mt l E yX6_in cX6_in 3 (some .boolean) 0 0 [.int (nI p), .int (nI a), .int (nI b)] g (pI (fun r g' => r = bI (a ≤ p ∧ p ≤ b) ∧ g' = g)) := by
  have h := c_X6_inN l E g (nI p) a b ha hb
  have e : bI ((a : Int) ≤ (nI p).toInt ∧ (nI p).toInt ≤ (b : Int)) = bI (a ≤ p ∧ p ≤ b) := bI_cg (by rw [tI hp]; omega)
  rw [e] at h
  exact h
theorem dX6_isPlace_0 : decode cX6_isPlace 0 = .ok (.iload_n 0, 1) := by decide +kernel
theorem dX6_isPlace_1 : decode cX6_isPlace 1 = .ok (.iconst 0, 1) := by decide +kernel
theorem dX6_isPlace_2 : decode cX6_isPlace 2 = .ok (.bipush 31, 2) := by decide +kernel
theorem dX6_isPlace_4 : decode cX6_isPlace 4 = .ok (.invokestatic 44, 3) := by decide +kernel
theorem dX6_isPlace_7 : decode cX6_isPlace 7 = .ok (.ireturn, 1) := by decide +kernel
set_option maxHeartbeats 4000000 in
set_option maxRecDepth 100000 in
theorem c_X6_isPlace (l : Launch) (E : gE) (g : Mem) (x : Int32) : Mt l E yX6_isPlace cX6_isPlace 1 (some .boolean) 1 22 [.int (x)] g (pI (fun r g' => r = bI (0 ≤ x.toInt ∧ x.toInt ≤ 31) ∧ g' = g)) := by
  refine mt_go (own := RX6) (by decide) rfl (lo := [some (.int (x))]) rfl (Nat.le_of_ble_eq_true rfl) (fun X hC => ?_)
  refine y_iload_n hC dX6_isPlace_0 (i := 0) rfl rfl ?_
  refine y_iconst (v := nI 0) hC dX6_isPlace_1 (by decide) ?_
  refine y_bipush (v := nI 31) hC dX6_isPlace_2 (by decide) ?_
  refine y_callS hC mX6_in kX6_44 dX6_isPlace_4 (As := [.int (x), .int (nI (0)), .int (nI (31))]) (rest := []) (c_X6_inN l E g x 0 31 (by decide) (by decide)) rfl rfl rfl (Nat.le_of_ble_eq_true rfl) ⟨Nat.le_of_ble_eq_true rfl, Nat.le_of_ble_eq_true rfl⟩ (pk_i ?_)
  rintro r_4 g_4 ⟨hr_4, hq_4⟩
  obtain rfl := hq_4.symm
  rw [hr_4]
  clear hr_4 r_4
  refine y_zretb (hC := hC) (hd := dX6_isPlace_7) (hq := ?_)
  exact ⟨rfl, rfl⟩

theorem dX6_isColour_0 : decode cX6_isColour 0 = .ok (.iload_n 0, 1) := by decide +kernel
theorem dX6_isColour_1 : decode cX6_isColour 1 = .ok (.iconst 0, 1) := by decide +kernel
theorem dX6_isColour_2 : decode cX6_isColour 2 = .ok (.ldc 48, 2) := by decide +kernel
theorem dX6_isColour_4 : decode cX6_isColour 4 = .ok (.invokestatic 44, 3) := by decide +kernel
theorem dX6_isColour_7 : decode cX6_isColour 7 = .ok (.ireturn, 1) := by decide +kernel
set_option maxHeartbeats 4000000 in
set_option maxRecDepth 100000 in
theorem c_X6_isColour (l : Launch) (E : gE) (g : Mem) (x : Int32) : Mt l E yX6_isColour cX6_isColour 1 (some .boolean) 1 22 [.int (x)] g (pI (fun r g' => r = bI (0 ≤ x.toInt ∧ x.toInt ≤ 262143) ∧ g' = g)) := by
  refine mt_go (own := RX6) (by decide) rfl (lo := [some (.int (x))]) rfl (Nat.le_of_ble_eq_true rfl) (fun X hC => ?_)
  refine y_iload_n hC dX6_isColour_0 (i := 0) rfl rfl ?_
  refine y_iconst (v := nI 0) hC dX6_isColour_1 (by decide) ?_
  refine y_ldc hC cnX6_48 dX6_isColour_2 ?_
  refine y_top (show (262143 : Int32) = nI 262143 from by decide) ?_
  refine y_callS hC mX6_in kX6_44 dX6_isColour_4 (As := [.int (x), .int (nI (0)), .int (nI (262143))]) (rest := []) (c_X6_inN l E g x 0 262143 (by decide) (by decide)) rfl rfl rfl (Nat.le_of_ble_eq_true rfl) ⟨Nat.le_of_ble_eq_true rfl, Nat.le_of_ble_eq_true rfl⟩ (pk_i ?_)
  rintro r_4 g_4 ⟨hr_4, hq_4⟩
  obtain rfl := hq_4.symm
  rw [hr_4]
  clear hr_4 r_4
  refine y_zretb (hC := hC) (hd := dX6_isColour_7) (hq := ?_)
  exact ⟨rfl, rfl⟩

theorem dX6_isPixel_0 : decode cX6_isPixel 0 = .ok (.iload_n 0, 1) := by decide +kernel
theorem dX6_isPixel_1 : decode cX6_isPixel 1 = .ok (.iconst 0, 1) := by decide +kernel
theorem dX6_isPixel_2 : decode cX6_isPixel 2 = .ok (.bipush 7, 2) := by decide +kernel
theorem dX6_isPixel_4 : decode cX6_isPixel 4 = .ok (.invokestatic 44, 3) := by decide +kernel
theorem dX6_isPixel_7 : decode cX6_isPixel 7 = .ok (.ifCond .eq 17, 3) := by decide +kernel
theorem dX6_isPixel_10 : decode cX6_isPixel 10 = .ok (.iload_n 1, 1) := by decide +kernel
theorem dX6_isPixel_11 : decode cX6_isPixel 11 = .ok (.iconst 0, 1) := by decide +kernel
theorem dX6_isPixel_12 : decode cX6_isPixel 12 = .ok (.bipush 7, 2) := by decide +kernel
theorem dX6_isPixel_14 : decode cX6_isPixel 14 = .ok (.invokestatic 44, 3) := by decide +kernel
theorem dX6_isPixel_17 : decode cX6_isPixel 17 = .ok (.ifCond .eq 7, 3) := by decide +kernel
theorem dX6_isPixel_20 : decode cX6_isPixel 20 = .ok (.iconst 1, 1) := by decide +kernel
theorem dX6_isPixel_21 : decode cX6_isPixel 21 = .ok (.goto 4, 3) := by decide +kernel
theorem dX6_isPixel_24 : decode cX6_isPixel 24 = .ok (.iconst 0, 1) := by decide +kernel
theorem dX6_isPixel_25 : decode cX6_isPixel 25 = .ok (.ireturn, 1) := by decide +kernel
set_option maxHeartbeats 4000000 in
set_option maxRecDepth 100000 in
theorem c_X6_isPixel (l : Launch) (E : gE) (g : Mem) (x y : Int32) : Mt l E yX6_isPixel cX6_isPixel 2 (some .boolean) 1 22 [.int (x), .int (y)] g (pI (fun r g' => r = bI ((0 ≤ x.toInt ∧ x.toInt ≤ 7) ∧ 0 ≤ y.toInt ∧ y.toInt ≤ 7) ∧ g' = g)) := by
  refine mt_go (own := RX6) (by decide) rfl (lo := [some (.int (x)), some (.int (y))]) rfl (Nat.le_of_ble_eq_true rfl) (fun X hC => ?_)
  refine y_iload_n hC dX6_isPixel_0 (i := 0) rfl rfl ?_
  refine y_iconst (v := nI 0) hC dX6_isPixel_1 (by decide) ?_
  refine y_bipush (v := nI 7) hC dX6_isPixel_2 (by decide) ?_
  refine y_callS hC mX6_in kX6_44 dX6_isPixel_4 (As := [.int (x), .int (nI (0)), .int (nI (7))]) (rest := []) (c_X6_inN l E g x 0 7 (by decide) (by decide)) rfl rfl rfl (Nat.le_of_ble_eq_true rfl) ⟨Nat.le_of_ble_eq_true rfl, Nat.le_of_ble_eq_true rfl⟩ (pk_i ?_)
  rintro r_4 g_4 ⟨hr_4, hq_4⟩
  obtain rfl := hq_4.symm
  rw [hr_4]
  clear hr_4 r_4
  refine y_if_eq_b (tgt := 24) hC dX6_isPixel_7 (by decide) (fun c_7 => ?_) (fun c_7 => ?_)
  · refine y_iconst (v := nI 0) hC dX6_isPixel_24 (by decide) ?_
    refine y_zret (hrt := rfl) (hn := rfl) (hC := hC) (hd := dX6_isPixel_25) (hq := ?_)
    first | exact ⟨(bI_t ⟨by assumption, by assumption⟩).symm, rfl⟩ | exact ⟨(bI_f (fun q => absurd q.1 (by assumption))).symm, rfl⟩ | exact ⟨(bI_f (fun q => absurd q.2 (by assumption))).symm, rfl⟩
  · refine y_iload_n hC dX6_isPixel_10 (i := 1) rfl rfl ?_
    refine y_iconst (v := nI 0) hC dX6_isPixel_11 (by decide) ?_
    refine y_bipush (v := nI 7) hC dX6_isPixel_12 (by decide) ?_
    refine y_callS hC mX6_in kX6_44 dX6_isPixel_14 (As := [.int (y), .int (nI (0)), .int (nI (7))]) (rest := []) (c_X6_inN l E g y 0 7 (by decide) (by decide)) rfl rfl rfl (Nat.le_of_ble_eq_true rfl) ⟨Nat.le_of_ble_eq_true rfl, Nat.le_of_ble_eq_true rfl⟩ (pk_i ?_)
    rintro r_14 g_14 ⟨hr_14, hq_14⟩
    obtain rfl := hq_14.symm
    rw [hr_14]
    clear hr_14 r_14
    refine y_if_eq_b (tgt := 24) hC dX6_isPixel_17 (by decide) (fun c_17 => ?_) (fun c_17 => ?_)
    · refine y_iconst (v := nI 0) hC dX6_isPixel_24 (by decide) ?_
      refine y_zret (hrt := rfl) (hn := rfl) (hC := hC) (hd := dX6_isPixel_25) (hq := ?_)
      first | exact ⟨(bI_t ⟨by assumption, by assumption⟩).symm, rfl⟩ | exact ⟨(bI_f (fun q => absurd q.1 (by assumption))).symm, rfl⟩ | exact ⟨(bI_f (fun q => absurd q.2 (by assumption))).symm, rfl⟩
    · refine y_iconst (v := nI 1) hC dX6_isPixel_20 (by decide) ?_
      refine y_goto (tgt := 25) hC dX6_isPixel_21 (by decide) ?_
      refine y_zret (hrt := rfl) (hn := rfl) (hC := hC) (hd := dX6_isPixel_25) (hq := ?_)
      first | exact ⟨(bI_t ⟨by assumption, by assumption⟩).symm, rfl⟩ | exact ⟨(bI_f (fun q => absurd q.1 (by assumption))).symm, rfl⟩ | exact ⟨(bI_f (fun q => absurd q.2 (by assumption))).symm, rfl⟩

theorem dX6_isRange_0 : decode cX6_isRange 0 = .ok (.iload_n 1, 1) := by decide +kernel
theorem dX6_isRange_1 : decode cX6_isRange 1 = .ok (.iconst 0, 1) := by decide +kernel
theorem dX6_isRange_2 : decode cX6_isRange 2 = .ok (.aload_n 0, 1) := by decide +kernel
theorem dX6_isRange_3 : decode cX6_isRange 3 = .ok (.getfield 7, 3) := by decide +kernel
theorem dX6_isRange_6 : decode cX6_isRange 6 = .ok (.bipush 32, 2) := by decide +kernel
theorem dX6_isRange_8 : decode cX6_isRange 8 = .ok (.iaload, 1) := by decide +kernel
theorem dX6_isRange_9 : decode cX6_isRange 9 = .ok (.iconst 1, 1) := by decide +kernel
theorem dX6_isRange_10 : decode cX6_isRange 10 = .ok (.isub, 1) := by decide +kernel
theorem dX6_isRange_11 : decode cX6_isRange 11 = .ok (.invokestatic 44, 3) := by decide +kernel
theorem dX6_isRange_14 : decode cX6_isRange 14 = .ok (.ireturn, 1) := by decide +kernel
set_option maxHeartbeats 4000000 in
set_option maxRecDepth 100000 in
theorem c_X6_isRange (l : Launch) (E : gE) (g : Mem) (row : Nat → Int32) (B : GB) (C : GC) (D : GD) (P : GP) (hM : MX E g row B C D P) (r : Row) (Bd : Nat) (hB : Bd < 95000000) (hR : ∀ k, k < 158 → row k = r k) (hv : Vr r Bd) (x : Int32) : Mt l E yX6_isRange cX6_isRange 2 (some .boolean) 1 22 [rf E (0), .int (x)] g (pI (fun z g' => z = bI (0 ≤ x.toInt ∧ x.toInt < (rc r : Int)) ∧ g' = g)) := by
  have hK := hM.k
  have hrc : rc r ≤ 6 := hv.1.2
  have hgc : gc r ≤ 4 := hv.2.1.2
  refine mt_go (own := RX6) (by decide) rfl (lo := [some (rf E (0)), some (.int (x))]) rfl (Nat.le_of_ble_eq_true rfl) (fun X hC => ?_)
  refine y_iload_n hC dX6_isRange_0 (i := 1) rfl rfl ?_
  refine y_iconst (v := nI 0) hC dX6_isRange_1 (by decide) ?_
  refine y_aload_n hC dX6_isRange_2 (i := 0) rfl rfl ?_
  refine y_get hC fX6_7 dX6_isRange_3 (k := 0) (by omega) hM.a0 rfl ?_
  refine y_bipush (v := nI 32) hC dX6_isRange_6 (by decide) ?_
  refine y_iald hC dX6_isRange_8 (k := 1) (j := 32) (by omega) hM.a1 (rfl) (by omega) (by decide) ?_
  refine y_top (y := nI (rc r)) ((hR 32 (by decide)).trans hv.1.1) ?_
  refine y_iconst (v := nI 1) hC dX6_isRange_9 (by decide) ?_
  refine y_isub hC dX6_isRange_10 ?_
  refine y_callS hC mX6_in kX6_44 dX6_isRange_11 (As := [.int (x), .int (nI (0)), .int (nI (rc r) - nI (1))]) (rest := []) (c_X6_in l E g x (nI 0) (nI (rc r) - nI (1))) rfl rfl rfl (Nat.le_of_ble_eq_true rfl) ⟨Nat.le_of_ble_eq_true rfl, Nat.le_of_ble_eq_true rfl⟩ (pk_i ?_)
  rintro r_11 g_11 ⟨hr_11, hq_11⟩
  obtain rfl := hq_11.symm
  rw [hr_11, show bI ((nI 0).toInt ≤ x.toInt ∧ x.toInt ≤ (nI (rc r) - nI 1).toInt) = bI (0 ≤ x.toInt ∧ x.toInt < (rc r : Int)) from bI_cg (by rw [tI (by decide), sI (by omega) (by decide)]; omega)]
  clear hr_11 r_11
  refine y_zretb (hC := hC) (hd := dX6_isRange_14) (hq := ?_)
  exact ⟨rfl, rfl⟩

theorem dX6_isGlow_0 : decode cX6_isGlow 0 = .ok (.iload_n 1, 1) := by decide +kernel
theorem dX6_isGlow_1 : decode cX6_isGlow 1 = .ok (.iconst 0, 1) := by decide +kernel
theorem dX6_isGlow_2 : decode cX6_isGlow 2 = .ok (.aload_n 0, 1) := by decide +kernel
theorem dX6_isGlow_3 : decode cX6_isGlow 3 = .ok (.getfield 7, 3) := by decide +kernel
theorem dX6_isGlow_6 : decode cX6_isGlow 6 = .ok (.bipush 75, 2) := by decide +kernel
theorem dX6_isGlow_8 : decode cX6_isGlow 8 = .ok (.iaload, 1) := by decide +kernel
theorem dX6_isGlow_9 : decode cX6_isGlow 9 = .ok (.iconst 1, 1) := by decide +kernel
theorem dX6_isGlow_10 : decode cX6_isGlow 10 = .ok (.isub, 1) := by decide +kernel
theorem dX6_isGlow_11 : decode cX6_isGlow 11 = .ok (.invokestatic 44, 3) := by decide +kernel
theorem dX6_isGlow_14 : decode cX6_isGlow 14 = .ok (.ireturn, 1) := by decide +kernel
set_option maxHeartbeats 4000000 in
set_option maxRecDepth 100000 in
theorem c_X6_isGlow (l : Launch) (E : gE) (g : Mem) (row : Nat → Int32) (B : GB) (C : GC) (D : GD) (P : GP) (hM : MX E g row B C D P) (r : Row) (Bd : Nat) (hB : Bd < 95000000) (hR : ∀ k, k < 158 → row k = r k) (hv : Vr r Bd) (x : Int32) : Mt l E yX6_isGlow cX6_isGlow 2 (some .boolean) 1 22 [rf E (0), .int (x)] g (pI (fun z g' => z = bI (0 ≤ x.toInt ∧ x.toInt < (gc r : Int)) ∧ g' = g)) := by
  have hK := hM.k
  have hrc : rc r ≤ 6 := hv.1.2
  have hgc : gc r ≤ 4 := hv.2.1.2
  refine mt_go (own := RX6) (by decide) rfl (lo := [some (rf E (0)), some (.int (x))]) rfl (Nat.le_of_ble_eq_true rfl) (fun X hC => ?_)
  refine y_iload_n hC dX6_isGlow_0 (i := 1) rfl rfl ?_
  refine y_iconst (v := nI 0) hC dX6_isGlow_1 (by decide) ?_
  refine y_aload_n hC dX6_isGlow_2 (i := 0) rfl rfl ?_
  refine y_get hC fX6_7 dX6_isGlow_3 (k := 0) (by omega) hM.a0 rfl ?_
  refine y_bipush (v := nI 75) hC dX6_isGlow_6 (by decide) ?_
  refine y_iald hC dX6_isGlow_8 (k := 1) (j := 75) (by omega) hM.a1 (rfl) (by omega) (by decide) ?_
  refine y_top (y := nI (gc r)) ((hR 75 (by decide)).trans hv.2.1.1) ?_
  refine y_iconst (v := nI 1) hC dX6_isGlow_9 (by decide) ?_
  refine y_isub hC dX6_isGlow_10 ?_
  refine y_callS hC mX6_in kX6_44 dX6_isGlow_11 (As := [.int (x), .int (nI (0)), .int (nI (gc r) - nI (1))]) (rest := []) (c_X6_in l E g x (nI 0) (nI (gc r) - nI (1))) rfl rfl rfl (Nat.le_of_ble_eq_true rfl) ⟨Nat.le_of_ble_eq_true rfl, Nat.le_of_ble_eq_true rfl⟩ (pk_i ?_)
  rintro r_11 g_11 ⟨hr_11, hq_11⟩
  obtain rfl := hq_11.symm
  rw [hr_11, show bI ((nI 0).toInt ≤ x.toInt ∧ x.toInt ≤ (nI (gc r) - nI 1).toInt) = bI (0 ≤ x.toInt ∧ x.toInt < (gc r : Int)) from bI_cg (by rw [tI (by decide), sI (by omega) (by decide)]; omega)]
  clear hr_11 r_11
  refine y_zretb (hC := hC) (hd := dX6_isGlow_14) (hq := ?_)
  exact ⟨rfl, rfl⟩

theorem dX6_of_0 : decode cX6_of 0 = .ok (.aload_n 0, 1) := by decide +kernel
theorem dX6_of_1 : decode cX6_of 1 = .ok (.getfield 7, 3) := by decide +kernel
theorem dX6_of_4 : decode cX6_of 4 = .ok (.bipush 33, 2) := by decide +kernel
theorem dX6_of_6 : decode cX6_of 6 = .ok (.bipush 7, 2) := by decide +kernel
theorem dX6_of_8 : decode cX6_of 8 = .ok (.iload_n 1, 1) := by decide +kernel
theorem dX6_of_9 : decode cX6_of 9 = .ok (.imul, 1) := by decide +kernel
theorem dX6_of_10 : decode cX6_of 10 = .ok (.iadd, 1) := by decide +kernel
theorem dX6_of_11 : decode cX6_of 11 = .ok (.iload_n 2, 1) := by decide +kernel
theorem dX6_of_12 : decode cX6_of 12 = .ok (.iadd, 1) := by decide +kernel
theorem dX6_of_13 : decode cX6_of 13 = .ok (.iaload, 1) := by decide +kernel
theorem dX6_of_14 : decode cX6_of 14 = .ok (.ireturn, 1) := by decide +kernel
set_option maxHeartbeats 4000000 in
set_option maxRecDepth 100000 in
theorem c_X6_of (l : Launch) (E : gE) (g : Mem) (row : Nat → Int32) (B : GB) (C : GC) (D : GD) (P : GP) (hM : MX E g row B C D P) (r : Row) (Bd : Nat) (hB : Bd < 95000000) (hR : ∀ k, k < 158 → row k = r k) (hv : Vr r Bd) (i w : Nat) (hi : i < rc r) (hw : w < 7) : Mt l E yX6_of cX6_of 3 (some .int) 0 0 [rf E (0), .int (nI (i)), .int (nI (w))] g (pI (fun z g' => z = nI (rg r i w) ∧ g' = g)) := by
  have hK := hM.k
  have hrc : rc r ≤ 6 := hv.1.2
  have hgc : gc r ≤ 4 := hv.2.1.2
  refine mt_go (own := RX6) (by decide) rfl (lo := [some (rf E (0)), some (.int (nI (i))), some (.int (nI (w)))]) rfl (Nat.le_of_ble_eq_true rfl) (fun X hC => ?_)
  refine y_aload_n hC dX6_of_0 (i := 0) rfl rfl ?_
  refine y_get hC fX6_7 dX6_of_1 (k := 0) (by omega) hM.a0 rfl ?_
  refine y_bipush (v := nI 33) hC dX6_of_4 (by decide) ?_
  refine y_bipush (v := nI 7) hC dX6_of_6 (by decide) ?_
  refine y_iload_n hC dX6_of_8 (i := 1) rfl rfl ?_
  refine y_imul_n hC dX6_of_9 ?_
  refine y_iadd_n hC dX6_of_10 ?_
  refine y_iload_n hC dX6_of_11 (i := 2) rfl rfl ?_
  refine y_iadd_n hC dX6_of_12 ?_
  refine y_iald hC dX6_of_13 (k := 1) (j := (33 + (7 * i)) + w) (by omega) hM.a1 (rfl) (by omega) (by decide) ?_
  refine y_top (y := nI (rg r i w)) ((hR (33 + 7 * i + w) (by omega)).trans ((hv.rg hi).1 w hw)) ?_
  refine y_iret (hC := hC) (hd := dX6_of_14) (hq := ?_)
  exact ⟨rfl, rfl⟩

theorem dX6_ofGlow_0 : decode cX6_ofGlow 0 = .ok (.aload_n 0, 1) := by decide +kernel
theorem dX6_ofGlow_1 : decode cX6_ofGlow 1 = .ok (.getfield 7, 3) := by decide +kernel
theorem dX6_ofGlow_4 : decode cX6_ofGlow 4 = .ok (.bipush 76, 2) := by decide +kernel
theorem dX6_ofGlow_6 : decode cX6_ofGlow 6 = .ok (.iconst 4, 1) := by decide +kernel
theorem dX6_ofGlow_7 : decode cX6_ofGlow 7 = .ok (.iload_n 1, 1) := by decide +kernel
theorem dX6_ofGlow_8 : decode cX6_ofGlow 8 = .ok (.imul, 1) := by decide +kernel
theorem dX6_ofGlow_9 : decode cX6_ofGlow 9 = .ok (.iadd, 1) := by decide +kernel
theorem dX6_ofGlow_10 : decode cX6_ofGlow 10 = .ok (.iload_n 2, 1) := by decide +kernel
theorem dX6_ofGlow_11 : decode cX6_ofGlow 11 = .ok (.iadd, 1) := by decide +kernel
theorem dX6_ofGlow_12 : decode cX6_ofGlow 12 = .ok (.iaload, 1) := by decide +kernel
theorem dX6_ofGlow_13 : decode cX6_ofGlow 13 = .ok (.ireturn, 1) := by decide +kernel
set_option maxHeartbeats 4000000 in
set_option maxRecDepth 100000 in
theorem c_X6_ofGlow (l : Launch) (E : gE) (g : Mem) (row : Nat → Int32) (B : GB) (C : GC) (D : GD) (P : GP) (hM : MX E g row B C D P) (r : Row) (Bd : Nat) (hB : Bd < 95000000) (hR : ∀ k, k < 158 → row k = r k) (hv : Vr r Bd) (i w : Nat) (hi : i < gc r) (hw : w < 4) : Mt l E yX6_ofGlow cX6_ofGlow 3 (some .int) 0 0 [rf E (0), .int (nI (i)), .int (nI (w))] g (pI (fun z g' => z = r (76 + 4 * i + w) ∧ g' = g)) := by
  have hK := hM.k
  have hrc : rc r ≤ 6 := hv.1.2
  have hgc : gc r ≤ 4 := hv.2.1.2
  refine mt_go (own := RX6) (by decide) rfl (lo := [some (rf E (0)), some (.int (nI (i))), some (.int (nI (w)))]) rfl (Nat.le_of_ble_eq_true rfl) (fun X hC => ?_)
  refine y_aload_n hC dX6_ofGlow_0 (i := 0) rfl rfl ?_
  refine y_get hC fX6_7 dX6_ofGlow_1 (k := 0) (by omega) hM.a0 rfl ?_
  refine y_bipush (v := nI 76) hC dX6_ofGlow_4 (by decide) ?_
  refine y_iconst (v := nI 4) hC dX6_ofGlow_6 (by decide) ?_
  refine y_iload_n hC dX6_ofGlow_7 (i := 1) rfl rfl ?_
  refine y_imul_n hC dX6_ofGlow_8 ?_
  refine y_iadd_n hC dX6_ofGlow_9 ?_
  refine y_iload_n hC dX6_ofGlow_10 (i := 2) rfl rfl ?_
  refine y_iadd_n hC dX6_ofGlow_11 ?_
  refine y_iald hC dX6_ofGlow_12 (k := 1) (j := (76 + (4 * i)) + w) (by omega) hM.a1 (rfl) (by omega) (by decide) ?_
  refine y_top (y := (r (76 + 4 * i + w))) (hR (76 + 4 * i + w) (by omega)) ?_
  refine y_iret (hC := hC) (hd := dX6_ofGlow_13) (hq := ?_)
  exact ⟨rfl, rfl⟩

theorem dX6_places_0 : decode cX6_places 0 = .ok (.aload_n 0, 1) := by decide +kernel
theorem dX6_places_1 : decode cX6_places 1 = .ok (.iload_n 1, 1) := by decide +kernel
theorem dX6_places_2 : decode cX6_places 2 = .ok (.iconst 1, 1) := by decide +kernel
theorem dX6_places_3 : decode cX6_places 3 = .ok (.invokevirtual 60, 3) := by decide +kernel
theorem dX6_places_6 : decode cX6_places 6 = .ok (.aload_n 0, 1) := by decide +kernel
theorem dX6_places_7 : decode cX6_places 7 = .ok (.iload_n 1, 1) := by decide +kernel
theorem dX6_places_8 : decode cX6_places 8 = .ok (.iconst 0, 1) := by decide +kernel
theorem dX6_places_9 : decode cX6_places 9 = .ok (.invokevirtual 60, 3) := by decide +kernel
theorem dX6_places_12 : decode cX6_places 12 = .ok (.isub, 1) := by decide +kernel
theorem dX6_places_13 : decode cX6_places 13 = .ok (.iconst 1, 1) := by decide +kernel
theorem dX6_places_14 : decode cX6_places 14 = .ok (.iadd, 1) := by decide +kernel
theorem dX6_places_15 : decode cX6_places 15 = .ok (.ireturn, 1) := by decide +kernel
set_option maxHeartbeats 4000000 in
set_option maxRecDepth 100000 in
theorem c_X6_places (l : Launch) (E : gE) (g : Mem) (row : Nat → Int32) (B : GB) (C : GC) (D : GD) (P : GP) (hM : MX E g row B C D P) (r : Row) (Bd : Nat) (hB : Bd < 95000000) (hR : ∀ k, k < 158 → row k = r k) (hv : Vr r Bd) (i : Nat) (hi : i < rc r) : Mt l E yX6_places cX6_places 2 (some .int) 1 22 [rf E (0), .int (nI (i))] g (pI (fun z g' => z = nI (nP r i) ∧ g' = g)) := by
  have hK := hM.k
  have hrc : rc r ≤ 6 := hv.1.2
  have hgc : gc r ≤ 4 := hv.2.1.2
  refine mt_go (own := RX6) (by decide) rfl (lo := [some (rf E (0)), some (.int (nI (i)))]) rfl (Nat.le_of_ble_eq_true rfl) (fun X hC => ?_)
  obtain ⟨q1, q2, q3, q4, q5, q6, q7, q8, q9⟩ := hv.rg hi
  refine y_aload_n hC dX6_places_0 (i := 0) rfl rfl ?_
  refine y_iload_n hC dX6_places_1 (i := 1) rfl rfl ?_
  refine y_iconst (v := nI 1) hC dX6_places_2 (by decide) ?_
  refine y_callV hC mX6_of kX6_60 dX6_places_3 (b := 0) (As := [.int (nI (i)), .int (nI (1))]) (rest := []) (c_X6_of l E g row B C D P hM r Bd (by omega) hR hv (i) 1 (by omega) (by decide)) (by omega) hM.a0 rfl rfl rfl (Nat.le_of_ble_eq_true rfl) ⟨Nat.le_of_ble_eq_true rfl, Nat.le_of_ble_eq_true rfl⟩ (pk_i ?_)
  rintro r_3 g_3 ⟨hr_3, hq_3⟩
  obtain rfl := hq_3.symm
  rw [hr_3]
  clear hr_3 r_3
  refine y_aload_n hC dX6_places_6 (i := 0) rfl rfl ?_
  refine y_iload_n hC dX6_places_7 (i := 1) rfl rfl ?_
  refine y_iconst (v := nI 0) hC dX6_places_8 (by decide) ?_
  refine y_callV hC mX6_of kX6_60 dX6_places_9 (b := 0) (As := [.int (nI (i)), .int (nI (0))]) (rest := [.int (nI (rg r (i) 1))]) (c_X6_of l E g row B C D P hM r Bd (by omega) hR hv (i) 0 (by omega) (by decide)) (by omega) hM.a0 rfl rfl rfl (Nat.le_of_ble_eq_true rfl) ⟨Nat.le_of_ble_eq_true rfl, Nat.le_of_ble_eq_true rfl⟩ (pk_i ?_)
  rintro r_9 g_9 ⟨hr_9, hq_9⟩
  obtain rfl := hq_9.symm
  rw [hr_9]
  clear hr_9 r_9
  refine y_isub_n hC dX6_places_12 (by omega) ?_
  refine y_iconst (v := nI 1) hC dX6_places_13 (by decide) ?_
  refine y_iadd_n hC dX6_places_14 ?_
  refine y_iret (hC := hC) (hd := dX6_places_15) (hq := ?_)
  exact ⟨rfl, rfl⟩

theorem dX6_turn_0 : decode cX6_turn 0 = .ok (.aload_n 0, 1) := by decide +kernel
theorem dX6_turn_1 : decode cX6_turn 1 = .ok (.iload_n 1, 1) := by decide +kernel
theorem dX6_turn_2 : decode cX6_turn 2 = .ok (.invokevirtual 64, 3) := by decide +kernel
theorem dX6_turn_5 : decode cX6_turn 5 = .ok (.istore_n 2, 1) := by decide +kernel
theorem dX6_turn_6 : decode cX6_turn 6 = .ok (.aload_n 0, 1) := by decide +kernel
theorem dX6_turn_7 : decode cX6_turn 7 = .ok (.iload_n 1, 1) := by decide +kernel
theorem dX6_turn_8 : decode cX6_turn 8 = .ok (.bipush 6, 2) := by decide +kernel
theorem dX6_turn_10 : decode cX6_turn 10 = .ok (.invokevirtual 60, 3) := by decide +kernel
theorem dX6_turn_13 : decode cX6_turn 13 = .ok (.istore_n 3, 1) := by decide +kernel
theorem dX6_turn_14 : decode cX6_turn 14 = .ok (.aload_n 0, 1) := by decide +kernel
theorem dX6_turn_15 : decode cX6_turn 15 = .ok (.iload_n 1, 1) := by decide +kernel
theorem dX6_turn_16 : decode cX6_turn 16 = .ok (.iconst 3, 1) := by decide +kernel
theorem dX6_turn_17 : decode cX6_turn 17 = .ok (.invokevirtual 60, 3) := by decide +kernel
theorem dX6_turn_20 : decode cX6_turn 20 = .ok (.ifCond .ne 7, 3) := by decide +kernel
theorem dX6_turn_23 : decode cX6_turn 23 = .ok (.iload_n 3, 1) := by decide +kernel
theorem dX6_turn_24 : decode cX6_turn 24 = .ok (.iload_n 2, 1) := by decide +kernel
theorem dX6_turn_25 : decode cX6_turn 25 = .ok (.irem, 1) := by decide +kernel
theorem dX6_turn_26 : decode cX6_turn 26 = .ok (.ireturn, 1) := by decide +kernel
theorem dX6_turn_27 : decode cX6_turn 27 = .ok (.aload_n 0, 1) := by decide +kernel
theorem dX6_turn_28 : decode cX6_turn 28 = .ok (.iload_n 1, 1) := by decide +kernel
theorem dX6_turn_29 : decode cX6_turn 29 = .ok (.iconst 3, 1) := by decide +kernel
theorem dX6_turn_30 : decode cX6_turn 30 = .ok (.invokevirtual 60, 3) := by decide +kernel
theorem dX6_turn_33 : decode cX6_turn 33 = .ok (.iconst 1, 1) := by decide +kernel
theorem dX6_turn_34 : decode cX6_turn 34 = .ok (.if_icmp .ne 11, 3) := by decide +kernel
theorem dX6_turn_37 : decode cX6_turn 37 = .ok (.iload_n 2, 1) := by decide +kernel
theorem dX6_turn_38 : decode cX6_turn 38 = .ok (.iload_n 3, 1) := by decide +kernel
theorem dX6_turn_39 : decode cX6_turn 39 = .ok (.iload_n 2, 1) := by decide +kernel
theorem dX6_turn_40 : decode cX6_turn 40 = .ok (.irem, 1) := by decide +kernel
theorem dX6_turn_41 : decode cX6_turn 41 = .ok (.isub, 1) := by decide +kernel
theorem dX6_turn_42 : decode cX6_turn 42 = .ok (.iload_n 2, 1) := by decide +kernel
theorem dX6_turn_43 : decode cX6_turn 43 = .ok (.irem, 1) := by decide +kernel
theorem dX6_turn_44 : decode cX6_turn 44 = .ok (.ireturn, 1) := by decide +kernel
theorem dX6_turn_45 : decode cX6_turn 45 = .ok (.iload_n 3, 1) := by decide +kernel
theorem dX6_turn_46 : decode cX6_turn 46 = .ok (.iconst 2, 1) := by decide +kernel
theorem dX6_turn_47 : decode cX6_turn 47 = .ok (.iload_n 2, 1) := by decide +kernel
theorem dX6_turn_48 : decode cX6_turn 48 = .ok (.imul, 1) := by decide +kernel
theorem dX6_turn_49 : decode cX6_turn 49 = .ok (.iconst 2, 1) := by decide +kernel
theorem dX6_turn_50 : decode cX6_turn 50 = .ok (.isub, 1) := by decide +kernel
theorem dX6_turn_51 : decode cX6_turn 51 = .ok (.irem, 1) := by decide +kernel
theorem dX6_turn_52 : decode cX6_turn 52 = .ok (.istore 4, 2) := by decide +kernel
theorem dX6_turn_54 : decode cX6_turn 54 = .ok (.iload 4, 2) := by decide +kernel
theorem dX6_turn_56 : decode cX6_turn 56 = .ok (.iload_n 2, 1) := by decide +kernel
theorem dX6_turn_57 : decode cX6_turn 57 = .ok (.if_icmp .ge 8, 3) := by decide +kernel
theorem dX6_turn_60 : decode cX6_turn 60 = .ok (.iload 4, 2) := by decide +kernel
theorem dX6_turn_62 : decode cX6_turn 62 = .ok (.goto 11, 3) := by decide +kernel
theorem dX6_turn_65 : decode cX6_turn 65 = .ok (.iconst 2, 1) := by decide +kernel
theorem dX6_turn_66 : decode cX6_turn 66 = .ok (.iload_n 2, 1) := by decide +kernel
theorem dX6_turn_67 : decode cX6_turn 67 = .ok (.imul, 1) := by decide +kernel
theorem dX6_turn_68 : decode cX6_turn 68 = .ok (.iconst 2, 1) := by decide +kernel
theorem dX6_turn_69 : decode cX6_turn 69 = .ok (.isub, 1) := by decide +kernel
theorem dX6_turn_70 : decode cX6_turn 70 = .ok (.iload 4, 2) := by decide +kernel
theorem dX6_turn_72 : decode cX6_turn 72 = .ok (.isub, 1) := by decide +kernel
theorem dX6_turn_73 : decode cX6_turn 73 = .ok (.ireturn, 1) := by decide +kernel
set_option maxHeartbeats 4000000 in
set_option maxRecDepth 100000 in
theorem c_X6_turn (l : Launch) (E : gE) (g : Mem) (row : Nat → Int32) (B : GB) (C : GC) (D : GD) (P : GP) (hM : MX E g row B C D P) (r : Row) (Bd : Nat) (hB : Bd < 95000000) (hR : ∀ k, k < 158 → row k = r k) (hv : Vr r Bd) (i : Nat) (hi : i < rc r) : Mt l E yX6_turn cX6_turn 5 (some .int) 2 43 [rf E (0), .int (nI (i))] g (pI (fun z g' => z = nI (tuN r i 0) ∧ g' = g)) := by
  have hK := hM.k
  have hrc : rc r ≤ 6 := hv.1.2
  have hgc : gc r ≤ 4 := hv.2.1.2
  refine mt_go (own := RX6) (by decide) rfl (lo := [some (rf E (0)), some (.int (nI (i))), none, none, none]) rfl (Nat.le_of_ble_eq_true rfl) (fun X hC => ?_)
  obtain ⟨q1, q2, q3, q4, q5, q6, q7, q8, q9⟩ := hv.rg hi
  have hn : 2 ≤ nP r i ∧ nP r i ≤ 32 := by unfold nP; omega
  have hml := Nat.mod_lt (rg r i 6) (show 0 < nP r i by omega)
  have hml2 := Nat.mod_lt (rg r i 6) (show 0 < 2 * nP r i - 2 by omega)
  have hmm : (nP r i - rg r i 6 % nP r i) % nP r i = if rg r i 6 % nP r i = 0 then 0 else nP r i - rg r i 6 % nP r i := by
    split
    · rename_i e
      rw [e, Nat.sub_zero, Nat.mod_self]
    · exact Nat.mod_eq_of_lt (by omega)
  refine y_aload_n hC dX6_turn_0 (i := 0) rfl rfl ?_
  refine y_iload_n hC dX6_turn_1 (i := 1) rfl rfl ?_
  refine y_callV hC mX6_places kX6_64 dX6_turn_2 (b := 0) (As := [.int (nI (i))]) (rest := []) (c_X6_places l E g row B C D P hM r Bd (by omega) hR hv (i) (by omega)) (by omega) hM.a0 rfl rfl rfl (Nat.le_of_ble_eq_true rfl) ⟨Nat.le_of_ble_eq_true rfl, Nat.le_of_ble_eq_true rfl⟩ (pk_i ?_)
  rintro r_2 g_2 ⟨hr_2, hq_2⟩
  obtain rfl := hq_2.symm
  rw [hr_2]
  clear hr_2 r_2
  refine y_istore_n hC dX6_turn_5 (i := 2) rfl (Nat.le_of_ble_eq_true rfl) rfl (lo' := [some (rf E (0)), some (.int (nI (i))), some (.int (nI (nP r (i)))), none, none]) rfl ?_
  refine y_aload_n hC dX6_turn_6 (i := 0) rfl rfl ?_
  refine y_iload_n hC dX6_turn_7 (i := 1) rfl rfl ?_
  refine y_bipush (v := nI 6) hC dX6_turn_8 (by decide) ?_
  refine y_callV hC mX6_of kX6_60 dX6_turn_10 (b := 0) (As := [.int (nI (i)), .int (nI (6))]) (rest := []) (c_X6_of l E g row B C D P hM r Bd (by omega) hR hv (i) 6 (by omega) (by decide)) (by omega) hM.a0 rfl rfl rfl (Nat.le_of_ble_eq_true rfl) ⟨Nat.le_of_ble_eq_true rfl, Nat.le_of_ble_eq_true rfl⟩ (pk_i ?_)
  rintro r_10 g_10 ⟨hr_10, hq_10⟩
  obtain rfl := hq_10.symm
  rw [hr_10]
  clear hr_10 r_10
  refine y_istore_n hC dX6_turn_13 (i := 3) rfl (Nat.le_of_ble_eq_true rfl) rfl (lo' := [some (rf E (0)), some (.int (nI (i))), some (.int (nI (nP r (i)))), some (.int (nI (rg r (i) 6))), none]) rfl ?_
  refine y_aload_n hC dX6_turn_14 (i := 0) rfl rfl ?_
  refine y_iload_n hC dX6_turn_15 (i := 1) rfl rfl ?_
  refine y_iconst (v := nI 3) hC dX6_turn_16 (by decide) ?_
  refine y_callV hC mX6_of kX6_60 dX6_turn_17 (b := 0) (As := [.int (nI (i)), .int (nI (3))]) (rest := []) (c_X6_of l E g row B C D P hM r Bd (by omega) hR hv (i) 3 (by omega) (by decide)) (by omega) hM.a0 rfl rfl rfl (Nat.le_of_ble_eq_true rfl) ⟨Nat.le_of_ble_eq_true rfl, Nat.le_of_ble_eq_true rfl⟩ (pk_i ?_)
  rintro r_17 g_17 ⟨hr_17, hq_17⟩
  obtain rfl := hq_17.symm
  rw [hr_17]
  clear hr_17 r_17
  refine y_if_ne_n (tgt := 27) hC dX6_turn_20 (by decide) (by omega) (fun c_20 => ?_) (fun c_20 => ?_)
  · refine y_aload_n hC dX6_turn_27 (i := 0) rfl rfl ?_
    refine y_iload_n hC dX6_turn_28 (i := 1) rfl rfl ?_
    refine y_iconst (v := nI 3) hC dX6_turn_29 (by decide) ?_
    refine y_callV hC mX6_of kX6_60 dX6_turn_30 (b := 0) (As := [.int (nI (i)), .int (nI (3))]) (rest := []) (c_X6_of l E g row B C D P hM r Bd (by omega) hR hv (i) 3 (by omega) (by decide)) (by omega) hM.a0 rfl rfl rfl (Nat.le_of_ble_eq_true rfl) ⟨Nat.le_of_ble_eq_true rfl, Nat.le_of_ble_eq_true rfl⟩ (pk_i ?_)
    rintro r_30 g_30 ⟨hr_30, hq_30⟩
    obtain rfl := hq_30.symm
    rw [hr_30]
    clear hr_30 r_30
    refine y_iconst (v := nI 1) hC dX6_turn_33 (by decide) ?_
    refine y_icmp_ne_n (tgt := 45) hC dX6_turn_34 (by decide) (by omega) (by omega) (fun c_34 => ?_) (fun c_34 => ?_)
    · refine y_iload_n hC dX6_turn_45 (i := 3) rfl rfl ?_
      refine y_iconst (v := nI 2) hC dX6_turn_46 (by decide) ?_
      refine y_iload_n hC dX6_turn_47 (i := 2) rfl rfl ?_
      refine y_imul_n hC dX6_turn_48 ?_
      refine y_iconst (v := nI 2) hC dX6_turn_49 (by decide) ?_
      refine y_isub_n hC dX6_turn_50 (by omega) ?_
      refine y_irem_n hC dX6_turn_51 (by omega) (by omega) (by omega) ?_
      refine y_istore hC dX6_turn_52 (Nat.le_of_ble_eq_true rfl) rfl (lo' := [some (rf E (0)), some (.int (nI (i))), some (.int (nI (nP r (i)))), some (.int (nI (rg r (i) 6))), some (.int (nI ((rg r (i) 6) % ((2 * (nP r (i))) - (2)))))]) rfl ?_
      refine y_iload hC dX6_turn_54 rfl ?_
      refine y_iload_n hC dX6_turn_56 (i := 2) rfl rfl ?_
      refine y_icmp_ge_n (tgt := 65) hC dX6_turn_57 (by decide) (by omega) (by omega) (fun c_57 => ?_) (fun c_57 => ?_)
      · refine y_iconst (v := nI 2) hC dX6_turn_65 (by decide) ?_
        refine y_iload_n hC dX6_turn_66 (i := 2) rfl rfl ?_
        refine y_imul_n hC dX6_turn_67 ?_
        refine y_iconst (v := nI 2) hC dX6_turn_68 (by decide) ?_
        refine y_isub_n hC dX6_turn_69 (by omega) ?_
        refine y_iload hC dX6_turn_70 rfl ?_
        refine y_isub_n hC dX6_turn_72 (by omega) ?_
        refine y_iret (hC := hC) (hd := dX6_turn_73) (hq := ?_)
        refine ⟨congrArg nI ?_, rfl⟩
        rw [tuN_0 hv hi]
        unfold tnN
        first
          | (rw [if_neg (by omega), if_neg (by omega)]; done)
          | (rw [if_pos (by omega), ← hmm]; done)
          | (rw [if_neg (by omega), if_pos (by omega), if_pos (by omega)]; done)
          | (rw [if_neg (by omega), if_pos (by omega), if_neg (by omega)]; done)
      · refine y_iload hC dX6_turn_60 rfl ?_
        refine y_goto (tgt := 73) hC dX6_turn_62 (by decide) ?_
        refine y_iret (hC := hC) (hd := dX6_turn_73) (hq := ?_)
        refine ⟨congrArg nI ?_, rfl⟩
        rw [tuN_0 hv hi]
        unfold tnN
        first
          | (rw [if_neg (by omega), if_neg (by omega)]; done)
          | (rw [if_pos (by omega), ← hmm]; done)
          | (rw [if_neg (by omega), if_pos (by omega), if_pos (by omega)]; done)
          | (rw [if_neg (by omega), if_pos (by omega), if_neg (by omega)]; done)
    · refine y_iload_n hC dX6_turn_37 (i := 2) rfl rfl ?_
      refine y_iload_n hC dX6_turn_38 (i := 3) rfl rfl ?_
      refine y_iload_n hC dX6_turn_39 (i := 2) rfl rfl ?_
      refine y_irem_n hC dX6_turn_40 (by omega) (by omega) (by omega) ?_
      refine y_isub_n hC dX6_turn_41 (by omega) ?_
      refine y_iload_n hC dX6_turn_42 (i := 2) rfl rfl ?_
      refine y_irem_n hC dX6_turn_43 (by omega) (by omega) (by omega) ?_
      refine y_iret (hC := hC) (hd := dX6_turn_44) (hq := ?_)
      refine ⟨congrArg nI ?_, rfl⟩
      rw [tuN_0 hv hi]
      unfold tnN
      first
        | (rw [if_neg (by omega), if_neg (by omega)]; done)
        | (rw [if_pos (by omega), ← hmm]; done)
        | (rw [if_neg (by omega), if_pos (by omega), if_pos (by omega)]; done)
        | (rw [if_neg (by omega), if_pos (by omega), if_neg (by omega)]; done)
  · refine y_iload_n hC dX6_turn_23 (i := 3) rfl rfl ?_
    refine y_iload_n hC dX6_turn_24 (i := 2) rfl rfl ?_
    refine y_irem_n hC dX6_turn_25 (by omega) (by omega) (by omega) ?_
    refine y_iret (hC := hC) (hd := dX6_turn_26) (hq := ?_)
    refine ⟨congrArg nI ?_, rfl⟩
    rw [tuN_0 hv hi]
    unfold tnN
    first
      | (rw [if_neg (by omega), if_neg (by omega)]; done)
      | (rw [if_pos (by omega), ← hmm]; done)
      | (rw [if_neg (by omega), if_pos (by omega), if_pos (by omega)]; done)
      | (rw [if_neg (by omega), if_pos (by omega), if_neg (by omega)]; done)

theorem dX6_rangeAt_0 : decode cX6_rangeAt 0 = .ok (.bipush (-5), 2) := by decide +kernel
theorem dX6_rangeAt_2 : decode cX6_rangeAt 2 = .ok (.istore_n 2, 1) := by decide +kernel
theorem dX6_rangeAt_3 : decode cX6_rangeAt 3 = .ok (.iconst 0, 1) := by decide +kernel
theorem dX6_rangeAt_4 : decode cX6_rangeAt 4 = .ok (.istore_n 3, 1) := by decide +kernel
theorem dX6_rangeAt_5 : decode cX6_rangeAt 5 = .ok (.iload_n 3, 1) := by decide +kernel
theorem dX6_rangeAt_6 : decode cX6_rangeAt 6 = .ok (.aload_n 0, 1) := by decide +kernel
theorem dX6_rangeAt_7 : decode cX6_rangeAt 7 = .ok (.getfield 7, 3) := by decide +kernel
theorem dX6_rangeAt_10 : decode cX6_rangeAt 10 = .ok (.bipush 32, 2) := by decide +kernel
theorem dX6_rangeAt_12 : decode cX6_rangeAt 12 = .ok (.iaload, 1) := by decide +kernel
theorem dX6_rangeAt_13 : decode cX6_rangeAt 13 = .ok (.if_icmp .ge 34, 3) := by decide +kernel
theorem dX6_rangeAt_16 : decode cX6_rangeAt 16 = .ok (.iload_n 1, 1) := by decide +kernel
theorem dX6_rangeAt_17 : decode cX6_rangeAt 17 = .ok (.aload_n 0, 1) := by decide +kernel
theorem dX6_rangeAt_18 : decode cX6_rangeAt 18 = .ok (.iload_n 3, 1) := by decide +kernel
theorem dX6_rangeAt_19 : decode cX6_rangeAt 19 = .ok (.iconst 0, 1) := by decide +kernel
theorem dX6_rangeAt_20 : decode cX6_rangeAt 20 = .ok (.invokevirtual 60, 3) := by decide +kernel
theorem dX6_rangeAt_23 : decode cX6_rangeAt 23 = .ok (.aload_n 0, 1) := by decide +kernel
theorem dX6_rangeAt_24 : decode cX6_rangeAt 24 = .ok (.iload_n 3, 1) := by decide +kernel
theorem dX6_rangeAt_25 : decode cX6_rangeAt 25 = .ok (.iconst 1, 1) := by decide +kernel
theorem dX6_rangeAt_26 : decode cX6_rangeAt 26 = .ok (.invokevirtual 60, 3) := by decide +kernel
theorem dX6_rangeAt_29 : decode cX6_rangeAt 29 = .ok (.invokestatic 44, 3) := by decide +kernel
theorem dX6_rangeAt_32 : decode cX6_rangeAt 32 = .ok (.ifCond .eq 7, 3) := by decide +kernel
theorem dX6_rangeAt_35 : decode cX6_rangeAt 35 = .ok (.iload_n 3, 1) := by decide +kernel
theorem dX6_rangeAt_36 : decode cX6_rangeAt 36 = .ok (.goto 4, 3) := by decide +kernel
theorem dX6_rangeAt_39 : decode cX6_rangeAt 39 = .ok (.iload_n 2, 1) := by decide +kernel
theorem dX6_rangeAt_40 : decode cX6_rangeAt 40 = .ok (.istore_n 2, 1) := by decide +kernel
theorem dX6_rangeAt_41 : decode cX6_rangeAt 41 = .ok (.iinc 3 1, 3) := by decide +kernel
theorem dX6_rangeAt_44 : decode cX6_rangeAt 44 = .ok (.goto (-39), 3) := by decide +kernel
theorem dX6_rangeAt_47 : decode cX6_rangeAt 47 = .ok (.iload_n 2, 1) := by decide +kernel
theorem dX6_rangeAt_48 : decode cX6_rangeAt 48 = .ok (.ireturn, 1) := by decide +kernel
set_option maxHeartbeats 4000000 in
set_option maxRecDepth 100000 in
theorem c_X6_rangeAt (l : Launch) (E : gE) (g : Mem) (row : Nat → Int32) (B : GB) (C : GC) (D : GD) (P : GP) (hM : MX E g row B C D P) (r : Row) (Bd : Nat) (hB : Bd < 95000000) (hR : ∀ k, k < 158 → row k = r k) (hv : Vr r Bd) (p : Nat) (hp : p < 2147483648) : Mt l E yX6_rangeAt cX6_rangeAt 4 (some .int) 1 22 [rf E (0), .int (nI (p))] g (pI (fun z g' => z = oI (rAt r p) ∧ g' = g)) := by
  have hK := hM.k
  have hrc : rc r ≤ 6 := hv.1.2
  have hgc : gc r ≤ 4 := hv.2.1.2
  refine mt_go (own := RX6) (by decide) rfl (lo := [some (rf E (0)), some (.int (nI (p))), none, none]) rfl (Nat.le_of_ble_eq_true rfl) (fun X hC => ?_)
  refine y_bipush (v := (-5)) hC dX6_rangeAt_0 (by decide) ?_
  refine y_top (y := (oI (lst (hldP r p) 0))) (rfl) ?_
  refine y_istore_n hC dX6_rangeAt_2 (i := 2) rfl (Nat.le_of_ble_eq_true rfl) rfl (lo' := [some (rf E (0)), some (.int (nI (p))), some (.int (oI (lst (hldP r p) 0))), none]) rfl ?_
  refine y_iconst (v := nI 0) hC dX6_rangeAt_3 (by decide) ?_
  refine y_istore_n hC dX6_rangeAt_4 (i := 3) rfl (Nat.le_of_ble_eq_true rfl) rfl (lo' := [some (rf E (0)), some (.int (nI (p))), some (.int (oI (lst (hldP r p) 0))), some (.int (nI (0)))]) rfl ?_
  have L_5 : ∀ (m : Nat) (i : Nat), (hm : rc r - i < m) → (hi : i ≤ rc r) → Y l E X (pI (fun z g' => z = oI (rAt r p) ∧ g' = g)) 5 [some (rf E (0)), some (.int (nI (p))), some (.int (oI (lst (hldP r p) i))), some (.int (nI (i)))] [] g := by
    intro m
    induction m with
    | zero => intro i hm hi; exact absurd hm (Nat.not_lt_zero _)
    | succ m ih_5 =>
      intro i hm hi
      refine y_iload_n hC dX6_rangeAt_5 (i := 3) rfl rfl ?_
      refine y_aload_n hC dX6_rangeAt_6 (i := 0) rfl rfl ?_
      refine y_get hC fX6_7 dX6_rangeAt_7 (k := 0) (by omega) hM.a0 rfl ?_
      refine y_bipush (v := nI 32) hC dX6_rangeAt_10 (by decide) ?_
      refine y_iald hC dX6_rangeAt_12 (k := 1) (j := 32) (by omega) hM.a1 (rfl) (by omega) (by decide) ?_
      refine y_top (y := nI (rc r)) ((hR 32 (by decide)).trans hv.1.1) ?_
      refine y_icmp_ge_n (tgt := 47) hC dX6_rangeAt_13 (by decide) (by omega) (by omega) (fun c_13 => ?_) (fun c_13 => ?_)
      · refine y_iload_n hC dX6_rangeAt_47 (i := 2) rfl rfl ?_
        refine y_iret (hC := hC) (hd := dX6_rangeAt_48) (hq := ?_)
        exact ⟨by rw [show i = rc r by omega, rAt_lst hv], rfl⟩
      · have hlt : i < rc r := by omega
        obtain ⟨q1, q2, q3, q4, q5, q6, q7, q8, q9⟩ := hv.rg hlt
        refine y_iload_n hC dX6_rangeAt_16 (i := 1) rfl rfl ?_
        refine y_aload_n hC dX6_rangeAt_17 (i := 0) rfl rfl ?_
        refine y_iload_n hC dX6_rangeAt_18 (i := 3) rfl rfl ?_
        refine y_iconst (v := nI 0) hC dX6_rangeAt_19 (by decide) ?_
        refine y_callV hC mX6_of kX6_60 dX6_rangeAt_20 (b := 0) (As := [.int (nI (i)), .int (nI (0))]) (rest := [.int (nI (p))]) (c_X6_of l E g row B C D P hM r Bd (by omega) hR hv (i) 0 (by omega) (by decide)) (by omega) hM.a0 rfl rfl rfl (Nat.le_of_ble_eq_true rfl) ⟨Nat.le_of_ble_eq_true rfl, Nat.le_of_ble_eq_true rfl⟩ (pk_i ?_)
        rintro r_20 g_20 ⟨hr_20, hq_20⟩
        obtain rfl := hq_20.symm
        rw [hr_20]
        clear hr_20 r_20
        refine y_aload_n hC dX6_rangeAt_23 (i := 0) rfl rfl ?_
        refine y_iload_n hC dX6_rangeAt_24 (i := 3) rfl rfl ?_
        refine y_iconst (v := nI 1) hC dX6_rangeAt_25 (by decide) ?_
        refine y_callV hC mX6_of kX6_60 dX6_rangeAt_26 (b := 0) (As := [.int (nI (i)), .int (nI (1))]) (rest := [.int (nI (rg r (i) 0)), .int (nI (p))]) (c_X6_of l E g row B C D P hM r Bd (by omega) hR hv (i) 1 (by omega) (by decide)) (by omega) hM.a0 rfl rfl rfl (Nat.le_of_ble_eq_true rfl) ⟨Nat.le_of_ble_eq_true rfl, Nat.le_of_ble_eq_true rfl⟩ (pk_i ?_)
        rintro r_26 g_26 ⟨hr_26, hq_26⟩
        obtain rfl := hq_26.symm
        rw [hr_26]
        clear hr_26 r_26
        refine y_callS hC mX6_in kX6_44 dX6_rangeAt_29 (As := [.int (nI (p)), .int (nI (rg r (i) 0)), .int (nI (rg r (i) 1))]) (rest := []) (c_X6_inM l E g p (rg r i 0) (rg r i 1) hp (by omega) (by omega)) rfl rfl rfl (Nat.le_of_ble_eq_true rfl) ⟨Nat.le_of_ble_eq_true rfl, Nat.le_of_ble_eq_true rfl⟩ (pk_i ?_)
        rintro r_29 g_29 ⟨hr_29, hq_29⟩
        obtain rfl := hq_29.symm
        rw [hr_29]
        clear hr_29 r_29
        refine y_if_eq_b (tgt := 39) hC dX6_rangeAt_32 (by decide) (fun c_32 => ?_) (fun c_32 => ?_)
        · refine y_iload_n hC dX6_rangeAt_39 (i := 2) rfl rfl ?_
          refine y_top (y := (oI (lst (hldP r p) (i + 1)))) (by rw [lst]; unfold hldP; first | (rw [if_pos (decide_eq_true c_32)]; rfl) | rw [if_neg (by rw [decide_eq_true_eq]; exact c_32)]) ?_
          refine y_istore_n hC dX6_rangeAt_40 (i := 2) rfl (Nat.le_of_ble_eq_true rfl) rfl (lo' := [some (rf E (0)), some (.int (nI (p))), some (.int (oI (lst (hldP r p) (i + 1)))), some (.int (nI (i)))]) rfl ?_
          refine y_iinc_n hC dX6_rangeAt_41 (a := i) (k := 1) rfl (by decide) (Nat.le_of_ble_eq_true rfl) rfl (lo' := [some (rf E (0)), some (.int (nI (p))), some (.int (oI (lst (hldP r p) (i + 1)))), some (.int (nI (i + 1)))]) rfl ?_
          refine y_goto (tgt := 5) hC dX6_rangeAt_44 (by decide) ?_
          exact ih_5 (i + 1) (by omega) (by omega)
        · refine y_iload_n hC dX6_rangeAt_35 (i := 3) rfl rfl ?_
          refine y_goto (tgt := 40) hC dX6_rangeAt_36 (by decide) ?_
          refine y_top (y := (oI (lst (hldP r p) (i + 1)))) (by rw [lst]; unfold hldP; first | (rw [if_pos (decide_eq_true c_32)]; rfl) | rw [if_neg (by rw [decide_eq_true_eq]; exact c_32)]) ?_
          refine y_istore_n hC dX6_rangeAt_40 (i := 2) rfl (Nat.le_of_ble_eq_true rfl) rfl (lo' := [some (rf E (0)), some (.int (nI (p))), some (.int (oI (lst (hldP r p) (i + 1)))), some (.int (nI (i)))]) rfl ?_
          refine y_iinc_n hC dX6_rangeAt_41 (a := i) (k := 1) rfl (by decide) (Nat.le_of_ble_eq_true rfl) rfl (lo' := [some (rf E (0)), some (.int (nI (p))), some (.int (oI (lst (hldP r p) (i + 1)))), some (.int (nI (i + 1)))]) rfl ?_
          refine y_goto (tgt := 5) hC dX6_rangeAt_44 (by decide) ?_
          exact ih_5 (i + 1) (by omega) (by omega)
  exact L_5 (rc r + 1) 0 (by omega) (by omega)

theorem dX6_glowAt_0 : decode cX6_glowAt 0 = .ok (.bipush (-5), 2) := by decide +kernel
theorem dX6_glowAt_2 : decode cX6_glowAt 2 = .ok (.istore_n 2, 1) := by decide +kernel
theorem dX6_glowAt_3 : decode cX6_glowAt 3 = .ok (.iconst 0, 1) := by decide +kernel
theorem dX6_glowAt_4 : decode cX6_glowAt 4 = .ok (.istore_n 3, 1) := by decide +kernel
theorem dX6_glowAt_5 : decode cX6_glowAt 5 = .ok (.iload_n 3, 1) := by decide +kernel
theorem dX6_glowAt_6 : decode cX6_glowAt 6 = .ok (.aload_n 0, 1) := by decide +kernel
theorem dX6_glowAt_7 : decode cX6_glowAt 7 = .ok (.getfield 7, 3) := by decide +kernel
theorem dX6_glowAt_10 : decode cX6_glowAt 10 = .ok (.bipush 75, 2) := by decide +kernel
theorem dX6_glowAt_12 : decode cX6_glowAt 12 = .ok (.iaload, 1) := by decide +kernel
theorem dX6_glowAt_13 : decode cX6_glowAt 13 = .ok (.if_icmp .ge 25, 3) := by decide +kernel
theorem dX6_glowAt_16 : decode cX6_glowAt 16 = .ok (.aload_n 0, 1) := by decide +kernel
theorem dX6_glowAt_17 : decode cX6_glowAt 17 = .ok (.iload_n 3, 1) := by decide +kernel
theorem dX6_glowAt_18 : decode cX6_glowAt 18 = .ok (.iconst 0, 1) := by decide +kernel
theorem dX6_glowAt_19 : decode cX6_glowAt 19 = .ok (.invokevirtual 68, 3) := by decide +kernel
theorem dX6_glowAt_22 : decode cX6_glowAt 22 = .ok (.iload_n 1, 1) := by decide +kernel
theorem dX6_glowAt_23 : decode cX6_glowAt 23 = .ok (.if_icmp .ne 7, 3) := by decide +kernel
theorem dX6_glowAt_26 : decode cX6_glowAt 26 = .ok (.iload_n 3, 1) := by decide +kernel
theorem dX6_glowAt_27 : decode cX6_glowAt 27 = .ok (.goto 4, 3) := by decide +kernel
theorem dX6_glowAt_30 : decode cX6_glowAt 30 = .ok (.iload_n 2, 1) := by decide +kernel
theorem dX6_glowAt_31 : decode cX6_glowAt 31 = .ok (.istore_n 2, 1) := by decide +kernel
theorem dX6_glowAt_32 : decode cX6_glowAt 32 = .ok (.iinc 3 1, 3) := by decide +kernel
theorem dX6_glowAt_35 : decode cX6_glowAt 35 = .ok (.goto (-30), 3) := by decide +kernel
theorem dX6_glowAt_38 : decode cX6_glowAt 38 = .ok (.iload_n 2, 1) := by decide +kernel
theorem dX6_glowAt_39 : decode cX6_glowAt 39 = .ok (.ireturn, 1) := by decide +kernel
set_option maxHeartbeats 4000000 in
set_option maxRecDepth 100000 in
theorem c_X6_glowAt (l : Launch) (E : gE) (g : Mem) (row : Nat → Int32) (B : GB) (C : GC) (D : GD) (P : GP) (hM : MX E g row B C D P) (r : Row) (Bd : Nat) (hB : Bd < 95000000) (hR : ∀ k, k < 158 → row k = r k) (hv : Vr r Bd) (p : Nat) (hp : p < 2147483648) : Mt l E yX6_glowAt cX6_glowAt 4 (some .int) 1 22 [rf E (0), .int (nI (p))] g (pI (fun z g' => z = oI (gAt r p) ∧ g' = g)) := by
  have hK := hM.k
  have hrc : rc r ≤ 6 := hv.1.2
  have hgc : gc r ≤ 4 := hv.2.1.2
  refine mt_go (own := RX6) (by decide) rfl (lo := [some (rf E (0)), some (.int (nI (p))), none, none]) rfl (Nat.le_of_ble_eq_true rfl) (fun X hC => ?_)
  refine y_bipush (v := (-5)) hC dX6_glowAt_0 (by decide) ?_
  refine y_top (y := (oI (lst (glwP r p) 0))) (rfl) ?_
  refine y_istore_n hC dX6_glowAt_2 (i := 2) rfl (Nat.le_of_ble_eq_true rfl) rfl (lo' := [some (rf E (0)), some (.int (nI (p))), some (.int (oI (lst (glwP r p) 0))), none]) rfl ?_
  refine y_iconst (v := nI 0) hC dX6_glowAt_3 (by decide) ?_
  refine y_istore_n hC dX6_glowAt_4 (i := 3) rfl (Nat.le_of_ble_eq_true rfl) rfl (lo' := [some (rf E (0)), some (.int (nI (p))), some (.int (oI (lst (glwP r p) 0))), some (.int (nI (0)))]) rfl ?_
  have L_5 : ∀ (m : Nat) (i : Nat), (hm : gc r - i < m) → (hi : i ≤ gc r) → Y l E X (pI (fun z g' => z = oI (gAt r p) ∧ g' = g)) 5 [some (rf E (0)), some (.int (nI (p))), some (.int (oI (lst (glwP r p) i))), some (.int (nI (i)))] [] g := by
    intro m
    induction m with
    | zero => intro i hm hi; exact absurd hm (Nat.not_lt_zero _)
    | succ m ih_5 =>
      intro i hm hi
      refine y_iload_n hC dX6_glowAt_5 (i := 3) rfl rfl ?_
      refine y_aload_n hC dX6_glowAt_6 (i := 0) rfl rfl ?_
      refine y_get hC fX6_7 dX6_glowAt_7 (k := 0) (by omega) hM.a0 rfl ?_
      refine y_bipush (v := nI 75) hC dX6_glowAt_10 (by decide) ?_
      refine y_iald hC dX6_glowAt_12 (k := 1) (j := 75) (by omega) hM.a1 (rfl) (by omega) (by decide) ?_
      refine y_top (y := nI (gc r)) ((hR 75 (by decide)).trans hv.2.1.1) ?_
      refine y_icmp_ge_n (tgt := 38) hC dX6_glowAt_13 (by decide) (by omega) (by omega) (fun c_13 => ?_) (fun c_13 => ?_)
      · refine y_iload_n hC dX6_glowAt_38 (i := 2) rfl rfl ?_
        refine y_iret (hC := hC) (hd := dX6_glowAt_39) (hq := ?_)
        exact ⟨by rw [show i = gc r by omega, gAt_lst hv], rfl⟩
      · have hlt : i < gc r := by omega
        obtain ⟨q1, q2, q3, q4, q5⟩ := hv.gl hlt
        refine y_aload_n hC dX6_glowAt_16 (i := 0) rfl rfl ?_
        refine y_iload_n hC dX6_glowAt_17 (i := 3) rfl rfl ?_
        refine y_iconst (v := nI 0) hC dX6_glowAt_18 (by decide) ?_
        refine y_callV hC mX6_ofGlow kX6_68 dX6_glowAt_19 (b := 0) (As := [.int (nI (i)), .int (nI (0))]) (rest := []) (c_X6_ofGlow l E g row B C D P hM r Bd (by omega) hR hv (i) 0 (by omega) (by decide)) (by omega) hM.a0 rfl rfl rfl (Nat.le_of_ble_eq_true rfl) ⟨Nat.le_of_ble_eq_true rfl, Nat.le_of_ble_eq_true rfl⟩ (pk_i ?_)
        rintro r_19 g_19 ⟨hr_19, hq_19⟩
        obtain rfl := hq_19.symm
        rw [hr_19]
        clear hr_19 r_19
        refine y_top (y := nI (gl r (i) 0)) ((hv.gl (i := i) (by omega)).1.1) ?_
        refine y_iload_n hC dX6_glowAt_22 (i := 1) rfl rfl ?_
        refine y_icmp_ne_n (tgt := 30) hC dX6_glowAt_23 (by decide) (by omega) (by omega) (fun c_23 => ?_) (fun c_23 => ?_)
        · refine y_iload_n hC dX6_glowAt_30 (i := 2) rfl rfl ?_
          refine y_top (y := (oI (lst (glwP r p) (i + 1)))) (by rw [lst]; unfold glwP; first | (rw [if_pos (decide_eq_true c_23)]; rfl) | rw [if_neg (by rw [decide_eq_true_eq]; exact c_23)]) ?_
          refine y_istore_n hC dX6_glowAt_31 (i := 2) rfl (Nat.le_of_ble_eq_true rfl) rfl (lo' := [some (rf E (0)), some (.int (nI (p))), some (.int (oI (lst (glwP r p) (i + 1)))), some (.int (nI (i)))]) rfl ?_
          refine y_iinc_n hC dX6_glowAt_32 (a := i) (k := 1) rfl (by decide) (Nat.le_of_ble_eq_true rfl) rfl (lo' := [some (rf E (0)), some (.int (nI (p))), some (.int (oI (lst (glwP r p) (i + 1)))), some (.int (nI (i + 1)))]) rfl ?_
          refine y_goto (tgt := 5) hC dX6_glowAt_35 (by decide) ?_
          exact ih_5 (i + 1) (by omega) (by omega)
        · refine y_iload_n hC dX6_glowAt_26 (i := 3) rfl rfl ?_
          refine y_goto (tgt := 31) hC dX6_glowAt_27 (by decide) ?_
          refine y_top (y := (oI (lst (glwP r p) (i + 1)))) (by rw [lst]; unfold glwP; first | (rw [if_pos (decide_eq_true c_23)]; rfl) | rw [if_neg (by rw [decide_eq_true_eq]; exact c_23)]) ?_
          refine y_istore_n hC dX6_glowAt_31 (i := 2) rfl (Nat.le_of_ble_eq_true rfl) rfl (lo' := [some (rf E (0)), some (.int (nI (p))), some (.int (oI (lst (glwP r p) (i + 1)))), some (.int (nI (i)))]) rfl ?_
          refine y_iinc_n hC dX6_glowAt_32 (a := i) (k := 1) rfl (by decide) (Nat.le_of_ble_eq_true rfl) rfl (lo' := [some (rf E (0)), some (.int (nI (p))), some (.int (oI (lst (glwP r p) (i + 1)))), some (.int (nI (i + 1)))]) rfl ?_
          refine y_goto (tgt := 5) hC dX6_glowAt_35 (by decide) ?_
          exact ih_5 (i + 1) (by omega) (by omega)
  exact L_5 (gc r + 1) 0 (by omega) (by omega)

theorem zemod {x n : Int} (hn : 0 < n) : x % n = if x.tmod n < 0 then x.tmod n + n else x.tmod n := by
  obtain ⟨b1, b2⟩ := tmod_bounds (a := x) (M := n) hn
  have h := Int.mul_tdiv_add_tmod x n
  have e : x % n = x.tmod n % n := by
    conv => lhs; rw [← h]
    rw [Int.add_comm, Int.add_mul_emod_self_left]
  rw [e]
  split
  · rw [← Int.add_emod_right]
    exact Int.emod_eq_of_lt (by omega) (by omega)
  · exact Int.emod_eq_of_lt (by omega) (by omega)
theorem dX6_modulo_0 : decode cX6_modulo 0 = .ok (.iload_n 0, 1) := by decide +kernel
theorem dX6_modulo_1 : decode cX6_modulo 1 = .ok (.iload_n 1, 1) := by decide +kernel
theorem dX6_modulo_2 : decode cX6_modulo 2 = .ok (.irem, 1) := by decide +kernel
theorem dX6_modulo_3 : decode cX6_modulo 3 = .ok (.istore_n 2, 1) := by decide +kernel
theorem dX6_modulo_4 : decode cX6_modulo 4 = .ok (.iload_n 2, 1) := by decide +kernel
theorem dX6_modulo_5 : decode cX6_modulo 5 = .ok (.ifCond .ge 9, 3) := by decide +kernel
theorem dX6_modulo_8 : decode cX6_modulo 8 = .ok (.iload_n 2, 1) := by decide +kernel
theorem dX6_modulo_9 : decode cX6_modulo 9 = .ok (.iload_n 1, 1) := by decide +kernel
theorem dX6_modulo_10 : decode cX6_modulo 10 = .ok (.iadd, 1) := by decide +kernel
theorem dX6_modulo_11 : decode cX6_modulo 11 = .ok (.goto 4, 3) := by decide +kernel
theorem dX6_modulo_14 : decode cX6_modulo 14 = .ok (.iload_n 2, 1) := by decide +kernel
theorem dX6_modulo_15 : decode cX6_modulo 15 = .ok (.ireturn, 1) := by decide +kernel
set_option maxHeartbeats 4000000 in
set_option maxRecDepth 100000 in
theorem c_X6_modulo (l : Launch) (E : gE) (g : Mem) (x : Int32) (n : Nat) (h1 : -1000 ≤ x.toInt) (h2 : x.toInt ≤ 1000) (h0 : 0 < n) (hn : n ≤ 1000) : Mt l E yX6_modulo cX6_modulo 3 (some .int) 0 0 [.int (x), .int (nI (n))] g (pI (fun z g' => z = nI (x.toInt % (n : Int)).toNat ∧ g' = g)) := by
  have ht := zrem_toInt (x := x) (y := nI n) (k := n) rfl h0 (by omega) (by omega) (by omega)
  obtain ⟨b1, b2⟩ := tmod_bounds (a := x.toInt) (M := (n : Int)) (by omega)
  have he := Int.emod_nonneg x.toInt (show (n : Int) ≠ 0 by omega)
  have hel := Int.emod_lt_of_pos x.toInt (show (0 : Int) < n by omega)
  have hte : x.toInt % (n : Int) = if x.toInt.tmod n < 0 then x.toInt.tmod n + n else x.toInt.tmod n := zemod (by omega)
  refine mt_go (own := RX6) (by decide) rfl (lo := [some (.int (x)), some (.int (nI (n))), none]) rfl (Nat.le_of_ble_eq_true rfl) (fun X hC => ?_)
  refine y_iload_n hC dX6_modulo_0 (i := 0) rfl rfl ?_
  refine y_iload_n hC dX6_modulo_1 (i := 1) rfl rfl ?_
  refine y_irem hC dX6_modulo_2 (fun q => absurd ((nI_z (by omega)).mp q) (by omega)) ?_
  refine y_istore_n hC dX6_modulo_3 (i := 2) rfl (Nat.le_of_ble_eq_true rfl) rfl (lo' := [some (.int (x)), some (.int (nI (n))), some (.int ((x) - (x) / nI (n) * nI (n)))]) rfl ?_
  refine y_iload_n hC dX6_modulo_4 (i := 2) rfl rfl ?_
  refine y_if_ge (tgt := 14) hC dX6_modulo_5 (by decide) (fun c_5 => ?_) (fun c_5 => ?_)
  · refine y_iload_n hC dX6_modulo_14 (i := 2) rfl rfl ?_
    refine y_iret (hC := hC) (hd := dX6_modulo_15) (hq := ?_)
    refine ⟨?_, rfl⟩
    have t0 : (0 : Int32).toInt = 0 := by decide
    rw [Int32.le_iff_toInt_le, t0] at c_5
    rw [hte]
    first
      | (rw [if_neg (by omega)]; exact zI_of (by rw [ht]; omega) (by omega))
      | (rw [if_pos (by omega)]; refine zI_of ?_ (by omega); rw [zaddI (by rw [ht, tI (by omega)]; omega) (by rw [ht, tI (by omega)]; omega), ht, tI (by omega)]; omega)
  · refine y_iload_n hC dX6_modulo_8 (i := 2) rfl rfl ?_
    refine y_iload_n hC dX6_modulo_9 (i := 1) rfl rfl ?_
    refine y_iadd hC dX6_modulo_10 ?_
    refine y_goto (tgt := 15) hC dX6_modulo_11 (by decide) ?_
    refine y_iret (hC := hC) (hd := dX6_modulo_15) (hq := ?_)
    refine ⟨?_, rfl⟩
    have t0 : (0 : Int32).toInt = 0 := by decide
    rw [Int32.le_iff_toInt_le, t0] at c_5
    rw [hte]
    first
      | (rw [if_neg (by omega)]; exact zI_of (by rw [ht]; omega) (by omega))
      | (rw [if_pos (by omega)]; refine zI_of ?_ (by omega); rw [zaddI (by rw [ht, tI (by omega)]; omega) (by rw [ht, tI (by omega)]; omega), ht, tI (by omega)]; omega)

theorem srN_e {f n p tn : Nat} (h1 : f ≤ p) (h2 : tn < n) : f + (((p : Int) - f - tn) % (n : Int)).toNat = srN f n p tn := by
  unfold srN
  have e : ((p : Int) - f - tn) % (n : Int) = ((p - f + n - tn : Nat) : Int) % (n : Int) := by
    rw [show ((p - f + n - tn : Nat) : Int) = ((p : Int) - f - tn) + n by omega, Int.add_emod_right]
  rw [e, ← Int.natCast_emod, Int.toNat_natCast]
theorem dX6_turned_0 : decode cX6_turned 0 = .ok (.aload_n 0, 1) := by decide +kernel
theorem dX6_turned_1 : decode cX6_turned 1 = .ok (.iload_n 1, 1) := by decide +kernel
theorem dX6_turned_2 : decode cX6_turned 2 = .ok (.invokevirtual 71, 3) := by decide +kernel
theorem dX6_turned_5 : decode cX6_turned 5 = .ok (.istore_n 2, 1) := by decide +kernel
theorem dX6_turned_6 : decode cX6_turned 6 = .ok (.iload_n 2, 1) := by decide +kernel
theorem dX6_turned_7 : decode cX6_turned 7 = .ok (.bipush (-5), 2) := by decide +kernel
theorem dX6_turned_9 : decode cX6_turned 9 = .ok (.if_icmp .ne 10, 3) := by decide +kernel
theorem dX6_turned_12 : decode cX6_turned 12 = .ok (.aload_n 0, 1) := by decide +kernel
theorem dX6_turned_13 : decode cX6_turned 13 = .ok (.getfield 7, 3) := by decide +kernel
theorem dX6_turned_16 : decode cX6_turned 16 = .ok (.iload_n 1, 1) := by decide +kernel
theorem dX6_turned_17 : decode cX6_turned 17 = .ok (.iaload, 1) := by decide +kernel
theorem dX6_turned_18 : decode cX6_turned 18 = .ok (.ireturn, 1) := by decide +kernel
theorem dX6_turned_19 : decode cX6_turned 19 = .ok (.aload_n 0, 1) := by decide +kernel
theorem dX6_turned_20 : decode cX6_turned 20 = .ok (.iload_n 2, 1) := by decide +kernel
theorem dX6_turned_21 : decode cX6_turned 21 = .ok (.iconst 0, 1) := by decide +kernel
theorem dX6_turned_22 : decode cX6_turned 22 = .ok (.invokevirtual 60, 3) := by decide +kernel
theorem dX6_turned_25 : decode cX6_turned 25 = .ok (.istore_n 3, 1) := by decide +kernel
theorem dX6_turned_26 : decode cX6_turned 26 = .ok (.aload_n 0, 1) := by decide +kernel
theorem dX6_turned_27 : decode cX6_turned 27 = .ok (.getfield 7, 3) := by decide +kernel
theorem dX6_turned_30 : decode cX6_turned 30 = .ok (.iload_n 3, 1) := by decide +kernel
theorem dX6_turned_31 : decode cX6_turned 31 = .ok (.iload_n 1, 1) := by decide +kernel
theorem dX6_turned_32 : decode cX6_turned 32 = .ok (.iload_n 3, 1) := by decide +kernel
theorem dX6_turned_33 : decode cX6_turned 33 = .ok (.isub, 1) := by decide +kernel
theorem dX6_turned_34 : decode cX6_turned 34 = .ok (.aload_n 0, 1) := by decide +kernel
theorem dX6_turned_35 : decode cX6_turned 35 = .ok (.iload_n 2, 1) := by decide +kernel
theorem dX6_turned_36 : decode cX6_turned 36 = .ok (.invokevirtual 74, 3) := by decide +kernel
theorem dX6_turned_39 : decode cX6_turned 39 = .ok (.isub, 1) := by decide +kernel
theorem dX6_turned_40 : decode cX6_turned 40 = .ok (.aload_n 0, 1) := by decide +kernel
theorem dX6_turned_41 : decode cX6_turned 41 = .ok (.iload_n 2, 1) := by decide +kernel
theorem dX6_turned_42 : decode cX6_turned 42 = .ok (.invokevirtual 64, 3) := by decide +kernel
theorem dX6_turned_45 : decode cX6_turned 45 = .ok (.invokestatic 77, 3) := by decide +kernel
theorem dX6_turned_48 : decode cX6_turned 48 = .ok (.iadd, 1) := by decide +kernel
theorem dX6_turned_49 : decode cX6_turned 49 = .ok (.iaload, 1) := by decide +kernel
theorem dX6_turned_50 : decode cX6_turned 50 = .ok (.ireturn, 1) := by decide +kernel
set_option maxHeartbeats 4000000 in
set_option maxRecDepth 100000 in
theorem c_X6_turned (l : Launch) (E : gE) (g : Mem) (row : Nat → Int32) (B : GB) (C : GC) (D : GD) (P : GP) (hM : MX E g row B C D P) (r : Row) (Bd : Nat) (hB : Bd < 95000000) (hR : ∀ k, k < 158 → row k = r k) (hv : Vr r Bd) (p : Nat) (hp : p < 32) : Mt l E yX6_turned cX6_turned 4 (some .int) 3 67 [rf E (0), .int (nI (p))] g (pI (fun z g' => z = tnd r p 0 ∧ g' = g)) := by
  have hK := hM.k
  have hrc : rc r ≤ 6 := hv.1.2
  have hgc : gc r ≤ 4 := hv.2.1.2
  refine mt_go (own := RX6) (by decide) rfl (lo := [some (rf E (0)), some (.int (nI (p))), none, none]) rfl (Nat.le_of_ble_eq_true rfl) (fun X hC => ?_)
  refine y_aload_n hC dX6_turned_0 (i := 0) rfl rfl ?_
  refine y_iload_n hC dX6_turned_1 (i := 1) rfl rfl ?_
  refine y_callV hC mX6_rangeAt kX6_71 dX6_turned_2 (b := 0) (As := [.int (nI (p))]) (rest := []) (c_X6_rangeAt l E g row B C D P hM r Bd (by omega) hR hv p (by omega)) (by omega) hM.a0 rfl rfl rfl (Nat.le_of_ble_eq_true rfl) ⟨Nat.le_of_ble_eq_true rfl, Nat.le_of_ble_eq_true rfl⟩ (pk_i ?_)
  rintro r_2 g_2 ⟨hr_2, hq_2⟩
  obtain rfl := hq_2.symm
  rw [hr_2]
  clear hr_2 r_2
  rcases hra : rAt r p with _ | ri
  · refine y_top (y := -5) rfl ?_
    refine y_istore_n hC dX6_turned_5 (i := 2) rfl (Nat.le_of_ble_eq_true rfl) rfl (lo' := [some (rf E (0)), some (.int (nI (p))), some (.int ((-5))), none]) rfl ?_
    refine y_iload_n hC dX6_turned_6 (i := 2) rfl rfl ?_
    refine y_bipush (v := (-5)) hC dX6_turned_7 (by decide) ?_
    refine y_icmp_ne (tgt := 19) hC dX6_turned_9 (by decide) (fun c_9 => ?_) (fun c_9 => ?_)
    · exact absurd rfl c_9
    · refine y_aload_n hC dX6_turned_12 (i := 0) rfl rfl ?_
      refine y_get hC fX6_7 dX6_turned_13 (k := 0) (by omega) hM.a0 rfl ?_
      refine y_iload_n hC dX6_turned_16 (i := 1) rfl rfl ?_
      refine y_iald hC dX6_turned_17 (k := 1) (j := p) (by omega) hM.a1 (rfl) (by omega) (by decide) ?_
      refine y_top (y := (r p)) (hR p (by omega)) ?_
      refine y_iret (hC := hC) (hd := dX6_turned_18) (hq := ?_)
      exact ⟨by unfold tnd; rw [hra], rfl⟩
  · obtain ⟨a1, a2, a3⟩ := rAt_in hra
    obtain ⟨q1, q2, q3, q4, q5, q6, q7, q8, q9⟩ := hv.rg a1
    have hn : 2 ≤ nP r ri ∧ nP r ri ≤ 32 := by unfold nP; omega
    have htl : tuN r ri 0 < nP r ri := tnN_lt hn.1
    have hsr := srN_in (f := rg r ri 0) (n := nP r ri) (p := p) (tn := tuN r ri 0) hn.1
    have hnp : nP r ri = rg r ri 1 - rg r ri 0 + 1 := rfl
    refine y_top (y := nI (ri)) rfl ?_
    refine y_istore_n hC dX6_turned_5 (i := 2) rfl (Nat.le_of_ble_eq_true rfl) rfl (lo' := [some (rf E (0)), some (.int (nI (p))), some (.int (nI (ri))), none]) rfl ?_
    refine y_iload_n hC dX6_turned_6 (i := 2) rfl rfl ?_
    refine y_bipush (v := (-5)) hC dX6_turned_7 (by decide) ?_
    refine y_icmp_ne (tgt := 19) hC dX6_turned_9 (by decide) (fun c_9 => ?_) (fun c_9 => ?_)
    · refine y_aload_n hC dX6_turned_19 (i := 0) rfl rfl ?_
      refine y_iload_n hC dX6_turned_20 (i := 2) rfl rfl ?_
      refine y_iconst (v := nI 0) hC dX6_turned_21 (by decide) ?_
      refine y_callV hC mX6_of kX6_60 dX6_turned_22 (b := 0) (As := [.int (nI (ri)), .int (nI (0))]) (rest := []) (c_X6_of l E g row B C D P hM r Bd (by omega) hR hv (ri) 0 (by omega) (by decide)) (by omega) hM.a0 rfl rfl rfl (Nat.le_of_ble_eq_true rfl) ⟨Nat.le_of_ble_eq_true rfl, Nat.le_of_ble_eq_true rfl⟩ (pk_i ?_)
      rintro r_22 g_22 ⟨hr_22, hq_22⟩
      obtain rfl := hq_22.symm
      rw [hr_22]
      clear hr_22 r_22
      refine y_istore_n hC dX6_turned_25 (i := 3) rfl (Nat.le_of_ble_eq_true rfl) rfl (lo' := [some (rf E (0)), some (.int (nI (p))), some (.int (nI (ri))), some (.int (nI (rg r (ri) 0)))]) rfl ?_
      refine y_aload_n hC dX6_turned_26 (i := 0) rfl rfl ?_
      refine y_get hC fX6_7 dX6_turned_27 (k := 0) (by omega) hM.a0 rfl ?_
      refine y_iload_n hC dX6_turned_30 (i := 3) rfl rfl ?_
      refine y_iload_n hC dX6_turned_31 (i := 1) rfl rfl ?_
      refine y_iload_n hC dX6_turned_32 (i := 3) rfl rfl ?_
      refine y_isub_n hC dX6_turned_33 (by omega) ?_
      refine y_aload_n hC dX6_turned_34 (i := 0) rfl rfl ?_
      refine y_iload_n hC dX6_turned_35 (i := 2) rfl rfl ?_
      refine y_callV hC mX6_turn kX6_74 dX6_turned_36 (b := 0) (As := [.int (nI (ri))]) (rest := [.int (nI (p - (rg r (ri) 0))), .int (nI (rg r (ri) 0)), rf E (1)]) (c_X6_turn l E g row B C D P hM r Bd (by omega) hR hv ri (by omega)) (by omega) hM.a0 rfl rfl rfl (Nat.le_of_ble_eq_true rfl) ⟨Nat.le_of_ble_eq_true rfl, Nat.le_of_ble_eq_true rfl⟩ (pk_i ?_)
      rintro r_36 g_36 ⟨hr_36, hq_36⟩
      obtain rfl := hq_36.symm
      rw [hr_36]
      clear hr_36 r_36
      refine y_isub hC dX6_turned_39 ?_
      refine y_aload_n hC dX6_turned_40 (i := 0) rfl rfl ?_
      refine y_iload_n hC dX6_turned_41 (i := 2) rfl rfl ?_
      refine y_callV hC mX6_places kX6_64 dX6_turned_42 (b := 0) (As := [.int (nI (ri))]) (rest := [.int (nI (p - (rg r (ri) 0)) - nI (tuN r ri 0)), .int (nI (rg r (ri) 0)), rf E (1)]) (c_X6_places l E g row B C D P hM r Bd (by omega) hR hv (ri) (by omega)) (by omega) hM.a0 rfl rfl rfl (Nat.le_of_ble_eq_true rfl) ⟨Nat.le_of_ble_eq_true rfl, Nat.le_of_ble_eq_true rfl⟩ (pk_i ?_)
      rintro r_42 g_42 ⟨hr_42, hq_42⟩
      obtain rfl := hq_42.symm
      rw [hr_42]
      clear hr_42 r_42
      refine y_callS hC mX6_modulo kX6_77 dX6_turned_45 (As := [.int (nI (p - (rg r (ri) 0)) - nI (tuN r ri 0)), .int (nI (nP r (ri)))]) (rest := [.int (nI (rg r (ri) 0)), rf E (1)]) (c_X6_modulo l E g (nI (p - (rg r ri 0)) - nI (tuN r ri 0)) (nP r ri) (by rw [sI (by omega) (by omega)]; omega) (by rw [sI (by omega) (by omega)]; omega) (by omega) (by omega)) rfl rfl rfl (Nat.le_of_ble_eq_true rfl) ⟨Nat.le_of_ble_eq_true rfl, Nat.le_of_ble_eq_true rfl⟩ (pk_i ?_)
      rintro r_45 g_45 ⟨hr_45, hq_45⟩
      obtain rfl := hq_45.symm
      rw [hr_45, sI (by omega) (by omega), show ((p - rg r ri 0 : Nat) : Int) - (tuN r ri 0 : Nat) = (p : Int) - rg r ri 0 - tuN r ri 0 by omega]
      clear hr_45 r_45
      refine y_iadd_n hC dX6_turned_48 ?_
      refine y_top (y := nI (srN (rg r ri 0) (nP r ri) p (tuN r ri 0))) (congrArg nI (by rw [← srN_e a2 htl])) ?_
      refine y_iald hC dX6_turned_49 (k := 1) (j := srN (rg r ri 0) (nP r ri) p (tuN r ri 0)) (by omega) hM.a1 (rfl) (by omega) (by decide) ?_
      refine y_top (y := (r (srN (rg r ri 0) (nP r ri) p (tuN r ri 0)))) (hR _ (by omega)) ?_
      refine y_iret (hC := hC) (hd := dX6_turned_50) (hq := ?_)
      exact ⟨by unfold tnd; rw [hra], rfl⟩
    · exact absurd c_9 (nI_m5 (by omega))

theorem dX6_strength_0 : decode cX6_strength 0 = .ok (.aload_n 0, 1) := by decide +kernel
theorem dX6_strength_1 : decode cX6_strength 1 = .ok (.iload_n 1, 1) := by decide +kernel
theorem dX6_strength_2 : decode cX6_strength 2 = .ok (.iconst 3, 1) := by decide +kernel
theorem dX6_strength_3 : decode cX6_strength 3 = .ok (.invokevirtual 68, 3) := by decide +kernel
theorem dX6_strength_6 : decode cX6_strength 6 = .ok (.istore_n 2, 1) := by decide +kernel
theorem dX6_strength_7 : decode cX6_strength 7 = .ok (.iload_n 2, 1) := by decide +kernel
theorem dX6_strength_8 : decode cX6_strength 8 = .ok (.aload_n 0, 1) := by decide +kernel
theorem dX6_strength_9 : decode cX6_strength 9 = .ok (.iload_n 1, 1) := by decide +kernel
theorem dX6_strength_10 : decode cX6_strength 10 = .ok (.iconst 2, 1) := by decide +kernel
theorem dX6_strength_11 : decode cX6_strength 11 = .ok (.invokevirtual 68, 3) := by decide +kernel
theorem dX6_strength_14 : decode cX6_strength 14 = .ok (.if_icmp .gt 7, 3) := by decide +kernel
theorem dX6_strength_17 : decode cX6_strength 17 = .ok (.iload_n 2, 1) := by decide +kernel
theorem dX6_strength_18 : decode cX6_strength 18 = .ok (.goto 13, 3) := by decide +kernel
theorem dX6_strength_21 : decode cX6_strength 21 = .ok (.iconst 2, 1) := by decide +kernel
theorem dX6_strength_22 : decode cX6_strength 22 = .ok (.aload_n 0, 1) := by decide +kernel
theorem dX6_strength_23 : decode cX6_strength 23 = .ok (.iload_n 1, 1) := by decide +kernel
theorem dX6_strength_24 : decode cX6_strength 24 = .ok (.iconst 2, 1) := by decide +kernel
theorem dX6_strength_25 : decode cX6_strength 25 = .ok (.invokevirtual 68, 3) := by decide +kernel
theorem dX6_strength_28 : decode cX6_strength 28 = .ok (.imul, 1) := by decide +kernel
theorem dX6_strength_29 : decode cX6_strength 29 = .ok (.iload_n 2, 1) := by decide +kernel
theorem dX6_strength_30 : decode cX6_strength 30 = .ok (.isub, 1) := by decide +kernel
theorem dX6_strength_31 : decode cX6_strength 31 = .ok (.ireturn, 1) := by decide +kernel
set_option maxHeartbeats 4000000 in
set_option maxRecDepth 100000 in
theorem c_X6_strength (l : Launch) (E : gE) (g : Mem) (row : Nat → Int32) (B : GB) (C : GC) (D : GD) (P : GP) (hM : MX E g row B C D P) (r : Row) (Bd : Nat) (hB : Bd < 95000000) (hR : ∀ k, k < 158 → row k = r k) (hv : Vr r Bd) (i : Nat) (hi : i < gc r) : Mt l E yX6_strength cX6_strength 3 (some .int) 1 22 [rf E (0), .int (nI (i))] g (pI (fun z g' => z = nI (stN (gl r i 2) (gl r i 3) 0) ∧ g' = g)) := by
  have hK := hM.k
  have hrc : rc r ≤ 6 := hv.1.2
  have hgc : gc r ≤ 4 := hv.2.1.2
  refine mt_go (own := RX6) (by decide) rfl (lo := [some (rf E (0)), some (.int (nI (i))), none]) rfl (Nat.le_of_ble_eq_true rfl) (fun X hC => ?_)
  obtain ⟨q1, q2, q3, q4, q5⟩ := hv.gl hi
  refine y_aload_n hC dX6_strength_0 (i := 0) rfl rfl ?_
  refine y_iload_n hC dX6_strength_1 (i := 1) rfl rfl ?_
  refine y_iconst (v := nI 3) hC dX6_strength_2 (by decide) ?_
  refine y_callV hC mX6_ofGlow kX6_68 dX6_strength_3 (b := 0) (As := [.int (nI (i)), .int (nI (3))]) (rest := []) (c_X6_ofGlow l E g row B C D P hM r Bd (by omega) hR hv (i) 3 (by omega) (by decide)) (by omega) hM.a0 rfl rfl rfl (Nat.le_of_ble_eq_true rfl) ⟨Nat.le_of_ble_eq_true rfl, Nat.le_of_ble_eq_true rfl⟩ (pk_i ?_)
  rintro r_3 g_3 ⟨hr_3, hq_3⟩
  obtain rfl := hq_3.symm
  rw [hr_3]
  clear hr_3 r_3
  refine y_top (y := nI (gl r (i) 3)) ((hv.gl (i := i) (by omega)).1.2.2) ?_
  refine y_istore_n hC dX6_strength_6 (i := 2) rfl (Nat.le_of_ble_eq_true rfl) rfl (lo' := [some (rf E (0)), some (.int (nI (i))), some (.int (nI (gl r (i) 3)))]) rfl ?_
  refine y_iload_n hC dX6_strength_7 (i := 2) rfl rfl ?_
  refine y_aload_n hC dX6_strength_8 (i := 0) rfl rfl ?_
  refine y_iload_n hC dX6_strength_9 (i := 1) rfl rfl ?_
  refine y_iconst (v := nI 2) hC dX6_strength_10 (by decide) ?_
  refine y_callV hC mX6_ofGlow kX6_68 dX6_strength_11 (b := 0) (As := [.int (nI (i)), .int (nI (2))]) (rest := [.int (nI (gl r (i) 3))]) (c_X6_ofGlow l E g row B C D P hM r Bd (by omega) hR hv (i) 2 (by omega) (by decide)) (by omega) hM.a0 rfl rfl rfl (Nat.le_of_ble_eq_true rfl) ⟨Nat.le_of_ble_eq_true rfl, Nat.le_of_ble_eq_true rfl⟩ (pk_i ?_)
  rintro r_11 g_11 ⟨hr_11, hq_11⟩
  obtain rfl := hq_11.symm
  rw [hr_11]
  clear hr_11 r_11
  refine y_top (y := nI (gl r (i) 2)) ((hv.gl (i := i) (by omega)).1.2.1) ?_
  refine y_icmp_gt_n (tgt := 21) hC dX6_strength_14 (by decide) (by omega) (by omega) (fun c_14 => ?_) (fun c_14 => ?_)
  · refine y_iconst (v := nI 2) hC dX6_strength_21 (by decide) ?_
    refine y_aload_n hC dX6_strength_22 (i := 0) rfl rfl ?_
    refine y_iload_n hC dX6_strength_23 (i := 1) rfl rfl ?_
    refine y_iconst (v := nI 2) hC dX6_strength_24 (by decide) ?_
    refine y_callV hC mX6_ofGlow kX6_68 dX6_strength_25 (b := 0) (As := [.int (nI (i)), .int (nI (2))]) (rest := [.int (nI (2))]) (c_X6_ofGlow l E g row B C D P hM r Bd (by omega) hR hv (i) 2 (by omega) (by decide)) (by omega) hM.a0 rfl rfl rfl (Nat.le_of_ble_eq_true rfl) ⟨Nat.le_of_ble_eq_true rfl, Nat.le_of_ble_eq_true rfl⟩ (pk_i ?_)
    rintro r_25 g_25 ⟨hr_25, hq_25⟩
    obtain rfl := hq_25.symm
    rw [hr_25]
    clear hr_25 r_25
    refine y_top (y := nI (gl r (i) 2)) ((hv.gl (i := i) (by omega)).1.2.1) ?_
    refine y_imul_n hC dX6_strength_28 ?_
    refine y_iload_n hC dX6_strength_29 (i := 2) rfl rfl ?_
    refine y_isub_n hC dX6_strength_30 (by omega) ?_
    refine y_iret (hC := hC) (hd := dX6_strength_31) (hq := ?_)
    exact ⟨congrArg nI (by rw [stN_0 q5]; first | rw [if_pos (by omega)] | rw [if_neg (by omega)]), rfl⟩
  · refine y_iload_n hC dX6_strength_17 (i := 2) rfl rfl ?_
    refine y_goto (tgt := 31) hC dX6_strength_18 (by decide) ?_
    refine y_iret (hC := hC) (hd := dX6_strength_31) (hq := ?_)
    exact ⟨congrArg nI (by rw [stN_0 q5]; first | rw [if_pos (by omega)] | rw [if_neg (by omega)]), rfl⟩

theorem dX6_part_0 : decode cX6_part 0 = .ok (.iload_n 0, 1) := by decide +kernel
theorem dX6_part_1 : decode cX6_part 1 = .ok (.iload_n 1, 1) := by decide +kernel
theorem dX6_part_2 : decode cX6_part 2 = .ok (.ishr, 1) := by decide +kernel
theorem dX6_part_3 : decode cX6_part 3 = .ok (.bipush 63, 2) := by decide +kernel
theorem dX6_part_5 : decode cX6_part 5 = .ok (.iand, 1) := by decide +kernel
theorem dX6_part_6 : decode cX6_part 6 = .ok (.ireturn, 1) := by decide +kernel
set_option maxHeartbeats 4000000 in
set_option maxRecDepth 100000 in
theorem c_X6_part (l : Launch) (E : gE) (g : Mem) (c : Int32) (s : Nat) : Mt l E yX6_part cX6_part 2 (some .int) 0 0 [.int (c), .int (nI (s))] g (pI (fun r g' => r = cPart c s ∧ g' = g)) := by
  refine mt_go (own := RX6) (by decide) rfl (lo := [some (.int (c)), some (.int (nI (s)))]) rfl (Nat.le_of_ble_eq_true rfl) (fun X hC => ?_)
  refine y_iload_n hC dX6_part_0 (i := 0) rfl rfl ?_
  refine y_iload_n hC dX6_part_1 (i := 1) rfl rfl ?_
  refine y_ishr hC dX6_part_2 ?_
  refine y_bipush (v := nI 63) hC dX6_part_3 (by decide) ?_
  refine y_iand hC dX6_part_5 ?_
  refine y_iret (hC := hC) (hd := dX6_part_6) (hq := ?_)
  exact ⟨rfl, rfl⟩

theorem dX6_between_0 : decode cX6_between 0 = .ok (.iconst 0, 1) := by decide +kernel
theorem dX6_between_1 : decode cX6_between 1 = .ok (.istore 4, 2) := by decide +kernel
theorem dX6_between_3 : decode cX6_between 3 = .ok (.iconst 0, 1) := by decide +kernel
theorem dX6_between_4 : decode cX6_between 4 = .ok (.istore 5, 2) := by decide +kernel
theorem dX6_between_6 : decode cX6_between 6 = .ok (.iload 5, 2) := by decide +kernel
theorem dX6_between_8 : decode cX6_between 8 = .ok (.bipush 12, 2) := by decide +kernel
theorem dX6_between_10 : decode cX6_between 10 = .ok (.if_icmp .gt 41, 3) := by decide +kernel
theorem dX6_between_13 : decode cX6_between 13 = .ok (.iload_n 0, 1) := by decide +kernel
theorem dX6_between_14 : decode cX6_between 14 = .ok (.iload 5, 2) := by decide +kernel
theorem dX6_between_16 : decode cX6_between 16 = .ok (.invokestatic 80, 3) := by decide +kernel
theorem dX6_between_19 : decode cX6_between 19 = .ok (.istore 6, 2) := by decide +kernel
theorem dX6_between_21 : decode cX6_between 21 = .ok (.iload 4, 2) := by decide +kernel
theorem dX6_between_23 : decode cX6_between 23 = .ok (.iload 6, 2) := by decide +kernel
theorem dX6_between_25 : decode cX6_between 25 = .ok (.iload_n 1, 1) := by decide +kernel
theorem dX6_between_26 : decode cX6_between 26 = .ok (.iload 5, 2) := by decide +kernel
theorem dX6_between_28 : decode cX6_between 28 = .ok (.invokestatic 80, 3) := by decide +kernel
theorem dX6_between_31 : decode cX6_between 31 = .ok (.iload 6, 2) := by decide +kernel
theorem dX6_between_33 : decode cX6_between 33 = .ok (.isub, 1) := by decide +kernel
theorem dX6_between_34 : decode cX6_between 34 = .ok (.iload_n 2, 1) := by decide +kernel
theorem dX6_between_35 : decode cX6_between 35 = .ok (.imul, 1) := by decide +kernel
theorem dX6_between_36 : decode cX6_between 36 = .ok (.iload_n 3, 1) := by decide +kernel
theorem dX6_between_37 : decode cX6_between 37 = .ok (.idiv, 1) := by decide +kernel
theorem dX6_between_38 : decode cX6_between 38 = .ok (.iadd, 1) := by decide +kernel
theorem dX6_between_39 : decode cX6_between 39 = .ok (.iload 5, 2) := by decide +kernel
theorem dX6_between_41 : decode cX6_between 41 = .ok (.ishl, 1) := by decide +kernel
theorem dX6_between_42 : decode cX6_between 42 = .ok (.iadd, 1) := by decide +kernel
theorem dX6_between_43 : decode cX6_between 43 = .ok (.istore 4, 2) := by decide +kernel
theorem dX6_between_45 : decode cX6_between 45 = .ok (.iinc 5 6, 3) := by decide +kernel
theorem dX6_between_48 : decode cX6_between 48 = .ok (.goto (-42), 3) := by decide +kernel
theorem dX6_between_51 : decode cX6_between 51 = .ok (.iload 4, 2) := by decide +kernel
theorem dX6_between_53 : decode cX6_between 53 = .ok (.ireturn, 1) := by decide +kernel
set_option maxHeartbeats 4000000 in
set_option maxRecDepth 100000 in
theorem c_X6_between (l : Launch) (E : gE) (g : Mem) (x y k n : Int32) (hn : ¬ n = 0) : Mt l E yX6_between cX6_between 7 (some .int) 1 21 [.int (x), .int (y), .int (k), .int (n)] g (pI (fun r g' => r = cMix x y k n ∧ g' = g)) := by
  refine mt_go (own := RX6) (by decide) rfl (lo := [some (.int (x)), some (.int (y)), some (.int (k)), some (.int (n)), none, none, none]) rfl (Nat.le_of_ble_eq_true rfl) (fun X hC => ?_)
  refine y_iconst (v := nI 0) hC dX6_between_0 (by decide) ?_
  refine y_istore hC dX6_between_1 (Nat.le_of_ble_eq_true rfl) rfl (lo' := [some (.int (x)), some (.int (y)), some (.int (k)), some (.int (n)), some (.int (nI (0))), none, none]) rfl ?_
  refine y_iconst (v := nI 0) hC dX6_between_3 (by decide) ?_
  refine y_istore hC dX6_between_4 (Nat.le_of_ble_eq_true rfl) rfl (lo' := [some (.int (x)), some (.int (y)), some (.int (k)), some (.int (n)), some (.int (nI (0))), some (.int (nI (0))), none]) rfl ?_
  refine y_iload hC dX6_between_6 rfl ?_
  refine y_bipush (v := nI 12) hC dX6_between_8 (by decide) ?_
  refine y_icmp_gt_n (tgt := 51) hC dX6_between_10 (by decide) (by omega) (by omega) (fun c_10 => ?_) (fun c_10 => ?_)
  · exfalso; omega
  · refine y_iload_n hC dX6_between_13 (i := 0) rfl rfl ?_
    refine y_iload hC dX6_between_14 rfl ?_
    refine y_callS hC mX6_part kX6_80 dX6_between_16 (As := [.int (x), .int (nI (0))]) (rest := []) (c_X6_part l E g x (0)) rfl rfl rfl (Nat.le_of_ble_eq_true rfl) ⟨Nat.le_of_ble_eq_true rfl, Nat.le_of_ble_eq_true rfl⟩ (pk_i ?_)
    rintro r_16 g_16 ⟨hr_16, hq_16⟩
    obtain rfl := hq_16.symm
    rw [hr_16]
    clear hr_16 r_16
    refine y_istore hC dX6_between_19 (Nat.le_of_ble_eq_true rfl) rfl (lo' := [some (.int (x)), some (.int (y)), some (.int (k)), some (.int (n)), some (.int (nI (0))), some (.int (nI (0))), some (.int (cPart x (0)))]) rfl ?_
    refine y_iload hC dX6_between_21 rfl ?_
    refine y_iload hC dX6_between_23 rfl ?_
    refine y_iload_n hC dX6_between_25 (i := 1) rfl rfl ?_
    refine y_iload hC dX6_between_26 rfl ?_
    refine y_callS hC mX6_part kX6_80 dX6_between_28 (As := [.int (y), .int (nI (0))]) (rest := [.int (cPart x (0)), .int (nI (0))]) (c_X6_part l E g y (0)) rfl rfl rfl (Nat.le_of_ble_eq_true rfl) ⟨Nat.le_of_ble_eq_true rfl, Nat.le_of_ble_eq_true rfl⟩ (pk_i ?_)
    rintro r_28 g_28 ⟨hr_28, hq_28⟩
    obtain rfl := hq_28.symm
    rw [hr_28]
    clear hr_28 r_28
    refine y_iload hC dX6_between_31 rfl ?_
    refine y_isub hC dX6_between_33 ?_
    refine y_iload_n hC dX6_between_34 (i := 2) rfl rfl ?_
    refine y_imul hC dX6_between_35 ?_
    refine y_iload_n hC dX6_between_36 (i := 3) rfl rfl ?_
    refine y_idiv hC dX6_between_37 (hn) ?_
    refine y_iadd hC dX6_between_38 ?_
    refine y_iload hC dX6_between_39 rfl ?_
    refine y_ishl hC dX6_between_41 ?_
    refine y_iadd hC dX6_between_42 ?_
    refine y_istore hC dX6_between_43 (Nat.le_of_ble_eq_true rfl) rfl (lo' := [some (.int (x)), some (.int (y)), some (.int (k)), some (.int (n)), some (.int (nI (0) + (((cPart x (0)) + ((((cPart y (0)) - (cPart x (0))) * (k)) / (n))) <<< (nI (0) &&& 31)))), some (.int (nI (0))), some (.int (cPart x (0)))]) rfl ?_
    refine y_iinc_n hC dX6_between_45 (a := 0) (k := 6) rfl (by decide) (Nat.le_of_ble_eq_true rfl) rfl (lo' := [some (.int (x)), some (.int (y)), some (.int (k)), some (.int (n)), some (.int (nI (0) + (((cPart x (0)) + ((((cPart y (0)) - (cPart x (0))) * (k)) / (n))) <<< (nI (0) &&& 31)))), some (.int (nI (0 + 6))), some (.int (cPart x (0)))]) rfl ?_
    refine y_goto (tgt := 6) hC dX6_between_48 (by decide) ?_
    refine y_iload hC dX6_between_6 rfl ?_
    refine y_bipush (v := nI 12) hC dX6_between_8 (by decide) ?_
    refine y_icmp_gt_n (tgt := 51) hC dX6_between_10 (by decide) (by omega) (by omega) (fun c_10 => ?_) (fun c_10 => ?_)
    · exfalso; omega
    · refine y_iload_n hC dX6_between_13 (i := 0) rfl rfl ?_
      refine y_iload hC dX6_between_14 rfl ?_
      refine y_callS hC mX6_part kX6_80 dX6_between_16 (As := [.int (x), .int (nI (0 + 6))]) (rest := []) (c_X6_part l E g x (0 + 6)) rfl rfl rfl (Nat.le_of_ble_eq_true rfl) ⟨Nat.le_of_ble_eq_true rfl, Nat.le_of_ble_eq_true rfl⟩ (pk_i ?_)
      rintro r_16 g_16 ⟨hr_16, hq_16⟩
      obtain rfl := hq_16.symm
      rw [hr_16]
      clear hr_16 r_16
      refine y_istore hC dX6_between_19 (Nat.le_of_ble_eq_true rfl) rfl (lo' := [some (.int (x)), some (.int (y)), some (.int (k)), some (.int (n)), some (.int (nI (0) + (((cPart x (0)) + ((((cPart y (0)) - (cPart x (0))) * (k)) / (n))) <<< (nI (0) &&& 31)))), some (.int (nI (0 + 6))), some (.int (cPart x (0 + 6)))]) rfl ?_
      refine y_iload hC dX6_between_21 rfl ?_
      refine y_iload hC dX6_between_23 rfl ?_
      refine y_iload_n hC dX6_between_25 (i := 1) rfl rfl ?_
      refine y_iload hC dX6_between_26 rfl ?_
      refine y_callS hC mX6_part kX6_80 dX6_between_28 (As := [.int (y), .int (nI (0 + 6))]) (rest := [.int (cPart x (0 + 6)), .int (nI (0) + (((cPart x (0)) + ((((cPart y (0)) - (cPart x (0))) * (k)) / (n))) <<< (nI (0) &&& 31)))]) (c_X6_part l E g y (0 + 6)) rfl rfl rfl (Nat.le_of_ble_eq_true rfl) ⟨Nat.le_of_ble_eq_true rfl, Nat.le_of_ble_eq_true rfl⟩ (pk_i ?_)
      rintro r_28 g_28 ⟨hr_28, hq_28⟩
      obtain rfl := hq_28.symm
      rw [hr_28]
      clear hr_28 r_28
      refine y_iload hC dX6_between_31 rfl ?_
      refine y_isub hC dX6_between_33 ?_
      refine y_iload_n hC dX6_between_34 (i := 2) rfl rfl ?_
      refine y_imul hC dX6_between_35 ?_
      refine y_iload_n hC dX6_between_36 (i := 3) rfl rfl ?_
      refine y_idiv hC dX6_between_37 (hn) ?_
      refine y_iadd hC dX6_between_38 ?_
      refine y_iload hC dX6_between_39 rfl ?_
      refine y_ishl hC dX6_between_41 ?_
      refine y_iadd hC dX6_between_42 ?_
      refine y_istore hC dX6_between_43 (Nat.le_of_ble_eq_true rfl) rfl (lo' := [some (.int (x)), some (.int (y)), some (.int (k)), some (.int (n)), some (.int ((nI (0) + (((cPart x (0)) + ((((cPart y (0)) - (cPart x (0))) * (k)) / (n))) <<< (nI (0) &&& 31))) + (((cPart x (0 + 6)) + ((((cPart y (0 + 6)) - (cPart x (0 + 6))) * (k)) / (n))) <<< (nI (0 + 6) &&& 31)))), some (.int (nI (0 + 6))), some (.int (cPart x (0 + 6)))]) rfl ?_
      refine y_iinc_n hC dX6_between_45 (a := 0 + 6) (k := 6) rfl (by decide) (Nat.le_of_ble_eq_true rfl) rfl (lo' := [some (.int (x)), some (.int (y)), some (.int (k)), some (.int (n)), some (.int ((nI (0) + (((cPart x (0)) + ((((cPart y (0)) - (cPart x (0))) * (k)) / (n))) <<< (nI (0) &&& 31))) + (((cPart x (0 + 6)) + ((((cPart y (0 + 6)) - (cPart x (0 + 6))) * (k)) / (n))) <<< (nI (0 + 6) &&& 31)))), some (.int (nI (0 + 6 + 6))), some (.int (cPart x (0 + 6)))]) rfl ?_
      refine y_goto (tgt := 6) hC dX6_between_48 (by decide) ?_
      refine y_iload hC dX6_between_6 rfl ?_
      refine y_bipush (v := nI 12) hC dX6_between_8 (by decide) ?_
      refine y_icmp_gt_n (tgt := 51) hC dX6_between_10 (by decide) (by omega) (by omega) (fun c_10 => ?_) (fun c_10 => ?_)
      · exfalso; omega
      · refine y_iload_n hC dX6_between_13 (i := 0) rfl rfl ?_
        refine y_iload hC dX6_between_14 rfl ?_
        refine y_callS hC mX6_part kX6_80 dX6_between_16 (As := [.int (x), .int (nI (0 + 6 + 6))]) (rest := []) (c_X6_part l E g x (0 + 6 + 6)) rfl rfl rfl (Nat.le_of_ble_eq_true rfl) ⟨Nat.le_of_ble_eq_true rfl, Nat.le_of_ble_eq_true rfl⟩ (pk_i ?_)
        rintro r_16 g_16 ⟨hr_16, hq_16⟩
        obtain rfl := hq_16.symm
        rw [hr_16]
        clear hr_16 r_16
        refine y_istore hC dX6_between_19 (Nat.le_of_ble_eq_true rfl) rfl (lo' := [some (.int (x)), some (.int (y)), some (.int (k)), some (.int (n)), some (.int ((nI (0) + (((cPart x (0)) + ((((cPart y (0)) - (cPart x (0))) * (k)) / (n))) <<< (nI (0) &&& 31))) + (((cPart x (0 + 6)) + ((((cPart y (0 + 6)) - (cPart x (0 + 6))) * (k)) / (n))) <<< (nI (0 + 6) &&& 31)))), some (.int (nI (0 + 6 + 6))), some (.int (cPart x (0 + 6 + 6)))]) rfl ?_
        refine y_iload hC dX6_between_21 rfl ?_
        refine y_iload hC dX6_between_23 rfl ?_
        refine y_iload_n hC dX6_between_25 (i := 1) rfl rfl ?_
        refine y_iload hC dX6_between_26 rfl ?_
        refine y_callS hC mX6_part kX6_80 dX6_between_28 (As := [.int (y), .int (nI (0 + 6 + 6))]) (rest := [.int (cPart x (0 + 6 + 6)), .int ((nI (0) + (((cPart x (0)) + ((((cPart y (0)) - (cPart x (0))) * (k)) / (n))) <<< (nI (0) &&& 31))) + (((cPart x (0 + 6)) + ((((cPart y (0 + 6)) - (cPart x (0 + 6))) * (k)) / (n))) <<< (nI (0 + 6) &&& 31)))]) (c_X6_part l E g y (0 + 6 + 6)) rfl rfl rfl (Nat.le_of_ble_eq_true rfl) ⟨Nat.le_of_ble_eq_true rfl, Nat.le_of_ble_eq_true rfl⟩ (pk_i ?_)
        rintro r_28 g_28 ⟨hr_28, hq_28⟩
        obtain rfl := hq_28.symm
        rw [hr_28]
        clear hr_28 r_28
        refine y_iload hC dX6_between_31 rfl ?_
        refine y_isub hC dX6_between_33 ?_
        refine y_iload_n hC dX6_between_34 (i := 2) rfl rfl ?_
        refine y_imul hC dX6_between_35 ?_
        refine y_iload_n hC dX6_between_36 (i := 3) rfl rfl ?_
        refine y_idiv hC dX6_between_37 (hn) ?_
        refine y_iadd hC dX6_between_38 ?_
        refine y_iload hC dX6_between_39 rfl ?_
        refine y_ishl hC dX6_between_41 ?_
        refine y_iadd hC dX6_between_42 ?_
        refine y_istore hC dX6_between_43 (Nat.le_of_ble_eq_true rfl) rfl (lo' := [some (.int (x)), some (.int (y)), some (.int (k)), some (.int (n)), some (.int (((nI (0) + (((cPart x (0)) + ((((cPart y (0)) - (cPart x (0))) * (k)) / (n))) <<< (nI (0) &&& 31))) + (((cPart x (0 + 6)) + ((((cPart y (0 + 6)) - (cPart x (0 + 6))) * (k)) / (n))) <<< (nI (0 + 6) &&& 31))) + (((cPart x (0 + 6 + 6)) + ((((cPart y (0 + 6 + 6)) - (cPart x (0 + 6 + 6))) * (k)) / (n))) <<< (nI (0 + 6 + 6) &&& 31)))), some (.int (nI (0 + 6 + 6))), some (.int (cPart x (0 + 6 + 6)))]) rfl ?_
        refine y_iinc_n hC dX6_between_45 (a := 0 + 6 + 6) (k := 6) rfl (by decide) (Nat.le_of_ble_eq_true rfl) rfl (lo' := [some (.int (x)), some (.int (y)), some (.int (k)), some (.int (n)), some (.int (((nI (0) + (((cPart x (0)) + ((((cPart y (0)) - (cPart x (0))) * (k)) / (n))) <<< (nI (0) &&& 31))) + (((cPart x (0 + 6)) + ((((cPart y (0 + 6)) - (cPart x (0 + 6))) * (k)) / (n))) <<< (nI (0 + 6) &&& 31))) + (((cPart x (0 + 6 + 6)) + ((((cPart y (0 + 6 + 6)) - (cPart x (0 + 6 + 6))) * (k)) / (n))) <<< (nI (0 + 6 + 6) &&& 31)))), some (.int (nI (0 + 6 + 6 + 6))), some (.int (cPart x (0 + 6 + 6)))]) rfl ?_
        refine y_goto (tgt := 6) hC dX6_between_48 (by decide) ?_
        refine y_iload hC dX6_between_6 rfl ?_
        refine y_bipush (v := nI 12) hC dX6_between_8 (by decide) ?_
        refine y_icmp_gt_n (tgt := 51) hC dX6_between_10 (by decide) (by omega) (by omega) (fun c_10 => ?_) (fun c_10 => ?_)
        · refine y_iload hC dX6_between_51 rfl ?_
          refine y_iret (hC := hC) (hd := dX6_between_53) (hq := ?_)
          refine ⟨?_, rfl⟩
          show _ = (cMix1 (cPart x 12) (cPart y 12) k n <<< (nI 12 &&& 31) + cMix1 (cPart x 6) (cPart y 6) k n <<< (nI 6 &&& 31)) + cMix1 (cPart x 0) (cPart y 0) k n
          show ((nI 0 + cMix1 (cPart x 0) (cPart y 0) k n <<< (nI 0 &&& 31)) + cMix1 (cPart x 6) (cPart y 6) k n <<< (nI 6 &&& 31)) + cMix1 (cPart x 12) (cPart y 12) k n <<< (nI 12 &&& 31) = _
          rw [ishl0, show nI 0 = (0 : Int32) from by decide, Int32.zero_add]
          ac_rfl
        · exfalso; omega

theorem dX6_distance_0 : decode cX6_distance 0 = .ok (.iconst 0, 1) := by decide +kernel
theorem dX6_distance_1 : decode cX6_distance 1 = .ok (.istore_n 2, 1) := by decide +kernel
theorem dX6_distance_2 : decode cX6_distance 2 = .ok (.iconst 0, 1) := by decide +kernel
theorem dX6_distance_3 : decode cX6_distance 3 = .ok (.istore_n 3, 1) := by decide +kernel
theorem dX6_distance_4 : decode cX6_distance 4 = .ok (.iload_n 3, 1) := by decide +kernel
theorem dX6_distance_5 : decode cX6_distance 5 = .ok (.bipush 12, 2) := by decide +kernel
theorem dX6_distance_7 : decode cX6_distance 7 = .ok (.if_icmp .gt 30, 3) := by decide +kernel
theorem dX6_distance_10 : decode cX6_distance 10 = .ok (.iload_n 0, 1) := by decide +kernel
theorem dX6_distance_11 : decode cX6_distance 11 = .ok (.iload_n 3, 1) := by decide +kernel
theorem dX6_distance_12 : decode cX6_distance 12 = .ok (.invokestatic 80, 3) := by decide +kernel
theorem dX6_distance_15 : decode cX6_distance 15 = .ok (.iload_n 1, 1) := by decide +kernel
theorem dX6_distance_16 : decode cX6_distance 16 = .ok (.iload_n 3, 1) := by decide +kernel
theorem dX6_distance_17 : decode cX6_distance 17 = .ok (.invokestatic 80, 3) := by decide +kernel
theorem dX6_distance_20 : decode cX6_distance 20 = .ok (.isub, 1) := by decide +kernel
theorem dX6_distance_21 : decode cX6_distance 21 = .ok (.istore 4, 2) := by decide +kernel
theorem dX6_distance_23 : decode cX6_distance 23 = .ok (.iload_n 2, 1) := by decide +kernel
theorem dX6_distance_24 : decode cX6_distance 24 = .ok (.iload 4, 2) := by decide +kernel
theorem dX6_distance_26 : decode cX6_distance 26 = .ok (.iload 4, 2) := by decide +kernel
theorem dX6_distance_28 : decode cX6_distance 28 = .ok (.imul, 1) := by decide +kernel
theorem dX6_distance_29 : decode cX6_distance 29 = .ok (.iadd, 1) := by decide +kernel
theorem dX6_distance_30 : decode cX6_distance 30 = .ok (.istore_n 2, 1) := by decide +kernel
theorem dX6_distance_31 : decode cX6_distance 31 = .ok (.iinc 3 6, 3) := by decide +kernel
theorem dX6_distance_34 : decode cX6_distance 34 = .ok (.goto (-30), 3) := by decide +kernel
theorem dX6_distance_37 : decode cX6_distance 37 = .ok (.iload_n 2, 1) := by decide +kernel
theorem dX6_distance_38 : decode cX6_distance 38 = .ok (.ireturn, 1) := by decide +kernel
set_option maxHeartbeats 4000000 in
set_option maxRecDepth 100000 in
theorem c_X6_distance (l : Launch) (E : gE) (g : Mem) (x y : Int32) : Mt l E yX6_distance cX6_distance 5 (some .int) 1 21 [.int (x), .int (y)] g (pI (fun r g' => r = cDist x y ∧ g' = g)) := by
  refine mt_go (own := RX6) (by decide) rfl (lo := [some (.int (x)), some (.int (y)), none, none, none]) rfl (Nat.le_of_ble_eq_true rfl) (fun X hC => ?_)
  refine y_iconst (v := nI 0) hC dX6_distance_0 (by decide) ?_
  refine y_istore_n hC dX6_distance_1 (i := 2) rfl (Nat.le_of_ble_eq_true rfl) rfl (lo' := [some (.int (x)), some (.int (y)), some (.int (nI (0))), none, none]) rfl ?_
  refine y_iconst (v := nI 0) hC dX6_distance_2 (by decide) ?_
  refine y_istore_n hC dX6_distance_3 (i := 3) rfl (Nat.le_of_ble_eq_true rfl) rfl (lo' := [some (.int (x)), some (.int (y)), some (.int (nI (0))), some (.int (nI (0))), none]) rfl ?_
  refine y_iload_n hC dX6_distance_4 (i := 3) rfl rfl ?_
  refine y_bipush (v := nI 12) hC dX6_distance_5 (by decide) ?_
  refine y_icmp_gt_n (tgt := 37) hC dX6_distance_7 (by decide) (by omega) (by omega) (fun c_7 => ?_) (fun c_7 => ?_)
  · exfalso; omega
  · refine y_iload_n hC dX6_distance_10 (i := 0) rfl rfl ?_
    refine y_iload_n hC dX6_distance_11 (i := 3) rfl rfl ?_
    refine y_callS hC mX6_part kX6_80 dX6_distance_12 (As := [.int (x), .int (nI (0))]) (rest := []) (c_X6_part l E g x (0)) rfl rfl rfl (Nat.le_of_ble_eq_true rfl) ⟨Nat.le_of_ble_eq_true rfl, Nat.le_of_ble_eq_true rfl⟩ (pk_i ?_)
    rintro r_12 g_12 ⟨hr_12, hq_12⟩
    obtain rfl := hq_12.symm
    rw [hr_12]
    clear hr_12 r_12
    refine y_iload_n hC dX6_distance_15 (i := 1) rfl rfl ?_
    refine y_iload_n hC dX6_distance_16 (i := 3) rfl rfl ?_
    refine y_callS hC mX6_part kX6_80 dX6_distance_17 (As := [.int (y), .int (nI (0))]) (rest := [.int (cPart x (0))]) (c_X6_part l E g y (0)) rfl rfl rfl (Nat.le_of_ble_eq_true rfl) ⟨Nat.le_of_ble_eq_true rfl, Nat.le_of_ble_eq_true rfl⟩ (pk_i ?_)
    rintro r_17 g_17 ⟨hr_17, hq_17⟩
    obtain rfl := hq_17.symm
    rw [hr_17]
    clear hr_17 r_17
    refine y_isub hC dX6_distance_20 ?_
    refine y_istore hC dX6_distance_21 (Nat.le_of_ble_eq_true rfl) rfl (lo' := [some (.int (x)), some (.int (y)), some (.int (nI (0))), some (.int (nI (0))), some (.int ((cPart x (0)) - (cPart y (0))))]) rfl ?_
    refine y_iload_n hC dX6_distance_23 (i := 2) rfl rfl ?_
    refine y_iload hC dX6_distance_24 rfl ?_
    refine y_iload hC dX6_distance_26 rfl ?_
    refine y_imul hC dX6_distance_28 ?_
    refine y_iadd hC dX6_distance_29 ?_
    refine y_istore_n hC dX6_distance_30 (i := 2) rfl (Nat.le_of_ble_eq_true rfl) rfl (lo' := [some (.int (x)), some (.int (y)), some (.int (nI (0) + (((cPart x (0)) - (cPart y (0))) * ((cPart x (0)) - (cPart y (0)))))), some (.int (nI (0))), some (.int ((cPart x (0)) - (cPart y (0))))]) rfl ?_
    refine y_iinc_n hC dX6_distance_31 (a := 0) (k := 6) rfl (by decide) (Nat.le_of_ble_eq_true rfl) rfl (lo' := [some (.int (x)), some (.int (y)), some (.int (nI (0) + (((cPart x (0)) - (cPart y (0))) * ((cPart x (0)) - (cPart y (0)))))), some (.int (nI (0 + 6))), some (.int ((cPart x (0)) - (cPart y (0))))]) rfl ?_
    refine y_goto (tgt := 4) hC dX6_distance_34 (by decide) ?_
    refine y_iload_n hC dX6_distance_4 (i := 3) rfl rfl ?_
    refine y_bipush (v := nI 12) hC dX6_distance_5 (by decide) ?_
    refine y_icmp_gt_n (tgt := 37) hC dX6_distance_7 (by decide) (by omega) (by omega) (fun c_7 => ?_) (fun c_7 => ?_)
    · exfalso; omega
    · refine y_iload_n hC dX6_distance_10 (i := 0) rfl rfl ?_
      refine y_iload_n hC dX6_distance_11 (i := 3) rfl rfl ?_
      refine y_callS hC mX6_part kX6_80 dX6_distance_12 (As := [.int (x), .int (nI (0 + 6))]) (rest := []) (c_X6_part l E g x (0 + 6)) rfl rfl rfl (Nat.le_of_ble_eq_true rfl) ⟨Nat.le_of_ble_eq_true rfl, Nat.le_of_ble_eq_true rfl⟩ (pk_i ?_)
      rintro r_12 g_12 ⟨hr_12, hq_12⟩
      obtain rfl := hq_12.symm
      rw [hr_12]
      clear hr_12 r_12
      refine y_iload_n hC dX6_distance_15 (i := 1) rfl rfl ?_
      refine y_iload_n hC dX6_distance_16 (i := 3) rfl rfl ?_
      refine y_callS hC mX6_part kX6_80 dX6_distance_17 (As := [.int (y), .int (nI (0 + 6))]) (rest := [.int (cPart x (0 + 6))]) (c_X6_part l E g y (0 + 6)) rfl rfl rfl (Nat.le_of_ble_eq_true rfl) ⟨Nat.le_of_ble_eq_true rfl, Nat.le_of_ble_eq_true rfl⟩ (pk_i ?_)
      rintro r_17 g_17 ⟨hr_17, hq_17⟩
      obtain rfl := hq_17.symm
      rw [hr_17]
      clear hr_17 r_17
      refine y_isub hC dX6_distance_20 ?_
      refine y_istore hC dX6_distance_21 (Nat.le_of_ble_eq_true rfl) rfl (lo' := [some (.int (x)), some (.int (y)), some (.int (nI (0) + (((cPart x (0)) - (cPart y (0))) * ((cPart x (0)) - (cPart y (0)))))), some (.int (nI (0 + 6))), some (.int ((cPart x (0 + 6)) - (cPart y (0 + 6))))]) rfl ?_
      refine y_iload_n hC dX6_distance_23 (i := 2) rfl rfl ?_
      refine y_iload hC dX6_distance_24 rfl ?_
      refine y_iload hC dX6_distance_26 rfl ?_
      refine y_imul hC dX6_distance_28 ?_
      refine y_iadd hC dX6_distance_29 ?_
      refine y_istore_n hC dX6_distance_30 (i := 2) rfl (Nat.le_of_ble_eq_true rfl) rfl (lo' := [some (.int (x)), some (.int (y)), some (.int ((nI (0) + (((cPart x (0)) - (cPart y (0))) * ((cPart x (0)) - (cPart y (0))))) + (((cPart x (0 + 6)) - (cPart y (0 + 6))) * ((cPart x (0 + 6)) - (cPart y (0 + 6)))))), some (.int (nI (0 + 6))), some (.int ((cPart x (0 + 6)) - (cPart y (0 + 6))))]) rfl ?_
      refine y_iinc_n hC dX6_distance_31 (a := 0 + 6) (k := 6) rfl (by decide) (Nat.le_of_ble_eq_true rfl) rfl (lo' := [some (.int (x)), some (.int (y)), some (.int ((nI (0) + (((cPart x (0)) - (cPart y (0))) * ((cPart x (0)) - (cPart y (0))))) + (((cPart x (0 + 6)) - (cPart y (0 + 6))) * ((cPart x (0 + 6)) - (cPart y (0 + 6)))))), some (.int (nI (0 + 6 + 6))), some (.int ((cPart x (0 + 6)) - (cPart y (0 + 6))))]) rfl ?_
      refine y_goto (tgt := 4) hC dX6_distance_34 (by decide) ?_
      refine y_iload_n hC dX6_distance_4 (i := 3) rfl rfl ?_
      refine y_bipush (v := nI 12) hC dX6_distance_5 (by decide) ?_
      refine y_icmp_gt_n (tgt := 37) hC dX6_distance_7 (by decide) (by omega) (by omega) (fun c_7 => ?_) (fun c_7 => ?_)
      · exfalso; omega
      · refine y_iload_n hC dX6_distance_10 (i := 0) rfl rfl ?_
        refine y_iload_n hC dX6_distance_11 (i := 3) rfl rfl ?_
        refine y_callS hC mX6_part kX6_80 dX6_distance_12 (As := [.int (x), .int (nI (0 + 6 + 6))]) (rest := []) (c_X6_part l E g x (0 + 6 + 6)) rfl rfl rfl (Nat.le_of_ble_eq_true rfl) ⟨Nat.le_of_ble_eq_true rfl, Nat.le_of_ble_eq_true rfl⟩ (pk_i ?_)
        rintro r_12 g_12 ⟨hr_12, hq_12⟩
        obtain rfl := hq_12.symm
        rw [hr_12]
        clear hr_12 r_12
        refine y_iload_n hC dX6_distance_15 (i := 1) rfl rfl ?_
        refine y_iload_n hC dX6_distance_16 (i := 3) rfl rfl ?_
        refine y_callS hC mX6_part kX6_80 dX6_distance_17 (As := [.int (y), .int (nI (0 + 6 + 6))]) (rest := [.int (cPart x (0 + 6 + 6))]) (c_X6_part l E g y (0 + 6 + 6)) rfl rfl rfl (Nat.le_of_ble_eq_true rfl) ⟨Nat.le_of_ble_eq_true rfl, Nat.le_of_ble_eq_true rfl⟩ (pk_i ?_)
        rintro r_17 g_17 ⟨hr_17, hq_17⟩
        obtain rfl := hq_17.symm
        rw [hr_17]
        clear hr_17 r_17
        refine y_isub hC dX6_distance_20 ?_
        refine y_istore hC dX6_distance_21 (Nat.le_of_ble_eq_true rfl) rfl (lo' := [some (.int (x)), some (.int (y)), some (.int ((nI (0) + (((cPart x (0)) - (cPart y (0))) * ((cPart x (0)) - (cPart y (0))))) + (((cPart x (0 + 6)) - (cPart y (0 + 6))) * ((cPart x (0 + 6)) - (cPart y (0 + 6)))))), some (.int (nI (0 + 6 + 6))), some (.int ((cPart x (0 + 6 + 6)) - (cPart y (0 + 6 + 6))))]) rfl ?_
        refine y_iload_n hC dX6_distance_23 (i := 2) rfl rfl ?_
        refine y_iload hC dX6_distance_24 rfl ?_
        refine y_iload hC dX6_distance_26 rfl ?_
        refine y_imul hC dX6_distance_28 ?_
        refine y_iadd hC dX6_distance_29 ?_
        refine y_istore_n hC dX6_distance_30 (i := 2) rfl (Nat.le_of_ble_eq_true rfl) rfl (lo' := [some (.int (x)), some (.int (y)), some (.int (((nI (0) + (((cPart x (0)) - (cPart y (0))) * ((cPart x (0)) - (cPart y (0))))) + (((cPart x (0 + 6)) - (cPart y (0 + 6))) * ((cPart x (0 + 6)) - (cPart y (0 + 6))))) + (((cPart x (0 + 6 + 6)) - (cPart y (0 + 6 + 6))) * ((cPart x (0 + 6 + 6)) - (cPart y (0 + 6 + 6)))))), some (.int (nI (0 + 6 + 6))), some (.int ((cPart x (0 + 6 + 6)) - (cPart y (0 + 6 + 6))))]) rfl ?_
        refine y_iinc_n hC dX6_distance_31 (a := 0 + 6 + 6) (k := 6) rfl (by decide) (Nat.le_of_ble_eq_true rfl) rfl (lo' := [some (.int (x)), some (.int (y)), some (.int (((nI (0) + (((cPart x (0)) - (cPart y (0))) * ((cPart x (0)) - (cPart y (0))))) + (((cPart x (0 + 6)) - (cPart y (0 + 6))) * ((cPart x (0 + 6)) - (cPart y (0 + 6))))) + (((cPart x (0 + 6 + 6)) - (cPart y (0 + 6 + 6))) * ((cPart x (0 + 6 + 6)) - (cPart y (0 + 6 + 6)))))), some (.int (nI (0 + 6 + 6 + 6))), some (.int ((cPart x (0 + 6 + 6)) - (cPart y (0 + 6 + 6))))]) rfl ?_
        refine y_goto (tgt := 4) hC dX6_distance_34 (by decide) ?_
        refine y_iload_n hC dX6_distance_4 (i := 3) rfl rfl ?_
        refine y_bipush (v := nI 12) hC dX6_distance_5 (by decide) ?_
        refine y_icmp_gt_n (tgt := 37) hC dX6_distance_7 (by decide) (by omega) (by omega) (fun c_7 => ?_) (fun c_7 => ?_)
        · refine y_iload_n hC dX6_distance_37 (i := 2) rfl rfl ?_
          refine y_iret (hC := hC) (hd := dX6_distance_38) (hq := ?_)
          refine ⟨?_, rfl⟩
          show _ = ((cPart x 12 - cPart y 12) * (cPart x 12 - cPart y 12) + (cPart x 6 - cPart y 6) * (cPart x 6 - cPart y 6)) + (cPart x 0 - cPart y 0) * (cPart x 0 - cPart y 0)
          show ((nI 0 + (cPart x 0 - cPart y 0) * (cPart x 0 - cPart y 0)) + (cPart x 6 - cPart y 6) * (cPart x 6 - cPart y 6)) + (cPart x 12 - cPart y 12) * (cPart x 12 - cPart y 12) = _
          rw [show nI 0 = (0 : Int32) from by decide, Int32.zero_add]
          ac_rfl
        · exfalso; omega

theorem dX6_shownAt_0 : decode cX6_shownAt 0 = .ok (.aload_n 0, 1) := by decide +kernel
theorem dX6_shownAt_1 : decode cX6_shownAt 1 = .ok (.iload_n 1, 1) := by decide +kernel
theorem dX6_shownAt_2 : decode cX6_shownAt 2 = .ok (.invokevirtual 83, 3) := by decide +kernel
theorem dX6_shownAt_5 : decode cX6_shownAt 5 = .ok (.istore_n 2, 1) := by decide +kernel
theorem dX6_shownAt_6 : decode cX6_shownAt 6 = .ok (.iload_n 2, 1) := by decide +kernel
theorem dX6_shownAt_7 : decode cX6_shownAt 7 = .ok (.bipush (-5), 2) := by decide +kernel
theorem dX6_shownAt_9 : decode cX6_shownAt 9 = .ok (.if_icmp .ne 11, 3) := by decide +kernel
theorem dX6_shownAt_12 : decode cX6_shownAt 12 = .ok (.aload_n 0, 1) := by decide +kernel
theorem dX6_shownAt_13 : decode cX6_shownAt 13 = .ok (.iload_n 1, 1) := by decide +kernel
theorem dX6_shownAt_14 : decode cX6_shownAt 14 = .ok (.invokevirtual 86, 3) := by decide +kernel
theorem dX6_shownAt_17 : decode cX6_shownAt 17 = .ok (.goto 28, 3) := by decide +kernel
theorem dX6_shownAt_20 : decode cX6_shownAt 20 = .ok (.aload_n 0, 1) := by decide +kernel
theorem dX6_shownAt_21 : decode cX6_shownAt 21 = .ok (.iload_n 1, 1) := by decide +kernel
theorem dX6_shownAt_22 : decode cX6_shownAt 22 = .ok (.invokevirtual 86, 3) := by decide +kernel
theorem dX6_shownAt_25 : decode cX6_shownAt 25 = .ok (.aload_n 0, 1) := by decide +kernel
theorem dX6_shownAt_26 : decode cX6_shownAt 26 = .ok (.iload_n 2, 1) := by decide +kernel
theorem dX6_shownAt_27 : decode cX6_shownAt 27 = .ok (.iconst 1, 1) := by decide +kernel
theorem dX6_shownAt_28 : decode cX6_shownAt 28 = .ok (.invokevirtual 68, 3) := by decide +kernel
theorem dX6_shownAt_31 : decode cX6_shownAt 31 = .ok (.aload_n 0, 1) := by decide +kernel
theorem dX6_shownAt_32 : decode cX6_shownAt 32 = .ok (.iload_n 2, 1) := by decide +kernel
theorem dX6_shownAt_33 : decode cX6_shownAt 33 = .ok (.invokevirtual 89, 3) := by decide +kernel
theorem dX6_shownAt_36 : decode cX6_shownAt 36 = .ok (.aload_n 0, 1) := by decide +kernel
theorem dX6_shownAt_37 : decode cX6_shownAt 37 = .ok (.iload_n 2, 1) := by decide +kernel
theorem dX6_shownAt_38 : decode cX6_shownAt 38 = .ok (.iconst 2, 1) := by decide +kernel
theorem dX6_shownAt_39 : decode cX6_shownAt 39 = .ok (.invokevirtual 68, 3) := by decide +kernel
theorem dX6_shownAt_42 : decode cX6_shownAt 42 = .ok (.invokestatic 92, 3) := by decide +kernel
theorem dX6_shownAt_45 : decode cX6_shownAt 45 = .ok (.ireturn, 1) := by decide +kernel
set_option maxHeartbeats 4000000 in
set_option maxRecDepth 100000 in
theorem c_X6_shownAt (l : Launch) (E : gE) (g : Mem) (row : Nat → Int32) (B : GB) (C : GC) (D : GD) (P : GP) (hM : MX E g row B C D P) (r : Row) (Bd : Nat) (hB : Bd < 95000000) (hR : ∀ k, k < 158 → row k = r k) (hv : Vr r Bd) (p : Nat) (hp : p < 32) : Mt l E yX6_shownAt cX6_shownAt 3 (some .int) 4 90 [rf E (0), .int (nI (p))] g (pI (fun z g' => z = shd r p 0 ∧ g' = g)) := by
  have hK := hM.k
  have hrc : rc r ≤ 6 := hv.1.2
  have hgc : gc r ≤ 4 := hv.2.1.2
  refine mt_go (own := RX6) (by decide) rfl (lo := [some (rf E (0)), some (.int (nI (p))), none]) rfl (Nat.le_of_ble_eq_true rfl) (fun X hC => ?_)
  refine y_aload_n hC dX6_shownAt_0 (i := 0) rfl rfl ?_
  refine y_iload_n hC dX6_shownAt_1 (i := 1) rfl rfl ?_
  refine y_callV hC mX6_glowAt kX6_83 dX6_shownAt_2 (b := 0) (As := [.int (nI (p))]) (rest := []) (c_X6_glowAt l E g row B C D P hM r Bd (by omega) hR hv p (by omega)) (by omega) hM.a0 rfl rfl rfl (Nat.le_of_ble_eq_true rfl) ⟨Nat.le_of_ble_eq_true rfl, Nat.le_of_ble_eq_true rfl⟩ (pk_i ?_)
  rintro r_2 g_2 ⟨hr_2, hq_2⟩
  obtain rfl := hq_2.symm
  rw [hr_2]
  clear hr_2 r_2
  rcases hga : gAt r p with _ | gi
  · refine y_top (y := -5) rfl ?_
    refine y_istore_n hC dX6_shownAt_5 (i := 2) rfl (Nat.le_of_ble_eq_true rfl) rfl (lo' := [some (rf E (0)), some (.int (nI (p))), some (.int ((-5)))]) rfl ?_
    refine y_iload_n hC dX6_shownAt_6 (i := 2) rfl rfl ?_
    refine y_bipush (v := (-5)) hC dX6_shownAt_7 (by decide) ?_
    refine y_icmp_ne (tgt := 20) hC dX6_shownAt_9 (by decide) (fun c_9 => ?_) (fun c_9 => ?_)
    · exact absurd rfl c_9
    · refine y_aload_n hC dX6_shownAt_12 (i := 0) rfl rfl ?_
      refine y_iload_n hC dX6_shownAt_13 (i := 1) rfl rfl ?_
      refine y_callV hC mX6_turned kX6_86 dX6_shownAt_14 (b := 0) (As := [.int (nI (p))]) (rest := []) (c_X6_turned l E g row B C D P hM r Bd (by omega) hR hv p hp) (by omega) hM.a0 rfl rfl rfl (Nat.le_of_ble_eq_true rfl) ⟨Nat.le_of_ble_eq_true rfl, Nat.le_of_ble_eq_true rfl⟩ (pk_i ?_)
      rintro r_14 g_14 ⟨hr_14, hq_14⟩
      obtain rfl := hq_14.symm
      rw [hr_14]
      clear hr_14 r_14
      refine y_goto (tgt := 45) hC dX6_shownAt_17 (by decide) ?_
      refine y_iret (hC := hC) (hd := dX6_shownAt_45) (hq := ?_)
      first | exact ⟨rfl, rfl⟩ | exact ⟨by unfold shd; rw [hga], rfl⟩
  · obtain ⟨a1, a2⟩ := gAt_in hga
    obtain ⟨p1, p2, p3, p4, p5⟩ := hv.gl a1
    refine y_top (y := nI (gi)) rfl ?_
    refine y_istore_n hC dX6_shownAt_5 (i := 2) rfl (Nat.le_of_ble_eq_true rfl) rfl (lo' := [some (rf E (0)), some (.int (nI (p))), some (.int (nI (gi)))]) rfl ?_
    refine y_iload_n hC dX6_shownAt_6 (i := 2) rfl rfl ?_
    refine y_bipush (v := (-5)) hC dX6_shownAt_7 (by decide) ?_
    refine y_icmp_ne (tgt := 20) hC dX6_shownAt_9 (by decide) (fun c_9 => ?_) (fun c_9 => ?_)
    · refine y_aload_n hC dX6_shownAt_20 (i := 0) rfl rfl ?_
      refine y_iload_n hC dX6_shownAt_21 (i := 1) rfl rfl ?_
      refine y_callV hC mX6_turned kX6_86 dX6_shownAt_22 (b := 0) (As := [.int (nI (p))]) (rest := []) (c_X6_turned l E g row B C D P hM r Bd (by omega) hR hv p hp) (by omega) hM.a0 rfl rfl rfl (Nat.le_of_ble_eq_true rfl) ⟨Nat.le_of_ble_eq_true rfl, Nat.le_of_ble_eq_true rfl⟩ (pk_i ?_)
      rintro r_22 g_22 ⟨hr_22, hq_22⟩
      obtain rfl := hq_22.symm
      rw [hr_22]
      clear hr_22 r_22
      refine y_aload_n hC dX6_shownAt_25 (i := 0) rfl rfl ?_
      refine y_iload_n hC dX6_shownAt_26 (i := 2) rfl rfl ?_
      refine y_iconst (v := nI 1) hC dX6_shownAt_27 (by decide) ?_
      refine y_callV hC mX6_ofGlow kX6_68 dX6_shownAt_28 (b := 0) (As := [.int (nI (gi)), .int (nI (1))]) (rest := [.int (tnd r p 0)]) (c_X6_ofGlow l E g row B C D P hM r Bd (by omega) hR hv (gi) 1 (by omega) (by decide)) (by omega) hM.a0 rfl rfl rfl (Nat.le_of_ble_eq_true rfl) ⟨Nat.le_of_ble_eq_true rfl, Nat.le_of_ble_eq_true rfl⟩ (pk_i ?_)
      rintro r_28 g_28 ⟨hr_28, hq_28⟩
      obtain rfl := hq_28.symm
      rw [hr_28]
      clear hr_28 r_28
      refine y_aload_n hC dX6_shownAt_31 (i := 0) rfl rfl ?_
      refine y_iload_n hC dX6_shownAt_32 (i := 2) rfl rfl ?_
      refine y_callV hC mX6_strength kX6_89 dX6_shownAt_33 (b := 0) (As := [.int (nI (gi))]) (rest := [.int (r (76 + 4 * (gi) + 1)), .int (tnd r p 0)]) (c_X6_strength l E g row B C D P hM r Bd (by omega) hR hv gi (by omega)) (by omega) hM.a0 rfl rfl rfl (Nat.le_of_ble_eq_true rfl) ⟨Nat.le_of_ble_eq_true rfl, Nat.le_of_ble_eq_true rfl⟩ (pk_i ?_)
      rintro r_33 g_33 ⟨hr_33, hq_33⟩
      obtain rfl := hq_33.symm
      rw [hr_33]
      clear hr_33 r_33
      refine y_aload_n hC dX6_shownAt_36 (i := 0) rfl rfl ?_
      refine y_iload_n hC dX6_shownAt_37 (i := 2) rfl rfl ?_
      refine y_iconst (v := nI 2) hC dX6_shownAt_38 (by decide) ?_
      refine y_callV hC mX6_ofGlow kX6_68 dX6_shownAt_39 (b := 0) (As := [.int (nI (gi)), .int (nI (2))]) (rest := [.int (nI (stN (gl r gi 2) (gl r gi 3) 0)), .int (r (76 + 4 * (gi) + 1)), .int (tnd r p 0)]) (c_X6_ofGlow l E g row B C D P hM r Bd (by omega) hR hv (gi) 2 (by omega) (by decide)) (by omega) hM.a0 rfl rfl rfl (Nat.le_of_ble_eq_true rfl) ⟨Nat.le_of_ble_eq_true rfl, Nat.le_of_ble_eq_true rfl⟩ (pk_i ?_)
      rintro r_39 g_39 ⟨hr_39, hq_39⟩
      obtain rfl := hq_39.symm
      rw [hr_39]
      clear hr_39 r_39
      refine y_top (y := nI (gl r (gi) 2)) ((hv.gl (i := gi) (by omega)).1.2.1) ?_
      refine y_callS hC mX6_between kX6_92 dX6_shownAt_42 (As := [.int (tnd r p 0), .int (r (76 + 4 * (gi) + 1)), .int (nI (stN (gl r gi 2) (gl r gi 3) 0)), .int (nI (gl r (gi) 2))]) (rest := []) (c_X6_between l E g (tnd r p 0) (r (76 + 4 * (gi) + 1)) (nI (stN (gl r gi 2) (gl r gi 3) 0)) (nI (gl r gi 2)) (fun q => absurd ((nI_z (by omega)).mp q) (by omega))) rfl rfl rfl (Nat.le_of_ble_eq_true rfl) ⟨Nat.le_of_ble_eq_true rfl, Nat.le_of_ble_eq_true rfl⟩ (pk_i ?_)
      rintro r_42 g_42 ⟨hr_42, hq_42⟩
      obtain rfl := hq_42.symm
      rw [hr_42, show cMix (tnd r p 0) (r (76 + 4 * gi + 1)) (nI (stN (gl r gi 2) (gl r gi 3) 0)) (nI (gl r gi 2)) = shd r p 0 from by unfold shd; rw [hga]]
      clear hr_42 r_42
      refine y_iret (hC := hC) (hd := dX6_shownAt_45) (hq := ?_)
      first | exact ⟨rfl, rfl⟩ | exact ⟨by unfold shd; rw [hga], rfl⟩
    · exact absurd c_9 (nI_m5 (by omega))

theorem dX6_isTaken_0 : decode cX6_isTaken 0 = .ok (.iconst 0, 1) := by decide +kernel
theorem dX6_isTaken_1 : decode cX6_isTaken 1 = .ok (.istore_n 3, 1) := by decide +kernel
theorem dX6_isTaken_2 : decode cX6_isTaken 2 = .ok (.iconst 0, 1) := by decide +kernel
theorem dX6_isTaken_3 : decode cX6_isTaken 3 = .ok (.istore 4, 2) := by decide +kernel
theorem dX6_isTaken_5 : decode cX6_isTaken 5 = .ok (.iload 4, 2) := by decide +kernel
theorem dX6_isTaken_7 : decode cX6_isTaken 7 = .ok (.aload_n 0, 1) := by decide +kernel
theorem dX6_isTaken_8 : decode cX6_isTaken 8 = .ok (.getfield 7, 3) := by decide +kernel
theorem dX6_isTaken_11 : decode cX6_isTaken 11 = .ok (.bipush 32, 2) := by decide +kernel
theorem dX6_isTaken_13 : decode cX6_isTaken 13 = .ok (.iaload, 1) := by decide +kernel
theorem dX6_isTaken_14 : decode cX6_isTaken 14 = .ok (.if_icmp .ge 41, 3) := by decide +kernel
theorem dX6_isTaken_17 : decode cX6_isTaken 17 = .ok (.iload_n 3, 1) := by decide +kernel
theorem dX6_isTaken_18 : decode cX6_isTaken 18 = .ok (.ifCond .ne 25, 3) := by decide +kernel
theorem dX6_isTaken_21 : decode cX6_isTaken 21 = .ok (.iload_n 1, 1) := by decide +kernel
theorem dX6_isTaken_22 : decode cX6_isTaken 22 = .ok (.aload_n 0, 1) := by decide +kernel
theorem dX6_isTaken_23 : decode cX6_isTaken 23 = .ok (.iload 4, 2) := by decide +kernel
theorem dX6_isTaken_25 : decode cX6_isTaken 25 = .ok (.iconst 1, 1) := by decide +kernel
theorem dX6_isTaken_26 : decode cX6_isTaken 26 = .ok (.invokevirtual 60, 3) := by decide +kernel
theorem dX6_isTaken_29 : decode cX6_isTaken 29 = .ok (.if_icmp .gt 18, 3) := by decide +kernel
theorem dX6_isTaken_32 : decode cX6_isTaken 32 = .ok (.aload_n 0, 1) := by decide +kernel
theorem dX6_isTaken_33 : decode cX6_isTaken 33 = .ok (.iload 4, 2) := by decide +kernel
theorem dX6_isTaken_35 : decode cX6_isTaken 35 = .ok (.iconst 0, 1) := by decide +kernel
theorem dX6_isTaken_36 : decode cX6_isTaken 36 = .ok (.invokevirtual 60, 3) := by decide +kernel
theorem dX6_isTaken_39 : decode cX6_isTaken 39 = .ok (.iload_n 2, 1) := by decide +kernel
theorem dX6_isTaken_40 : decode cX6_isTaken 40 = .ok (.if_icmp .gt 7, 3) := by decide +kernel
theorem dX6_isTaken_43 : decode cX6_isTaken 43 = .ok (.iconst 1, 1) := by decide +kernel
theorem dX6_isTaken_44 : decode cX6_isTaken 44 = .ok (.goto 4, 3) := by decide +kernel
theorem dX6_isTaken_47 : decode cX6_isTaken 47 = .ok (.iconst 0, 1) := by decide +kernel
theorem dX6_isTaken_48 : decode cX6_isTaken 48 = .ok (.istore_n 3, 1) := by decide +kernel
theorem dX6_isTaken_49 : decode cX6_isTaken 49 = .ok (.iinc 4 1, 3) := by decide +kernel
theorem dX6_isTaken_52 : decode cX6_isTaken 52 = .ok (.goto (-47), 3) := by decide +kernel
theorem dX6_isTaken_55 : decode cX6_isTaken 55 = .ok (.iload_n 3, 1) := by decide +kernel
theorem dX6_isTaken_56 : decode cX6_isTaken 56 = .ok (.ireturn, 1) := by decide +kernel
set_option maxHeartbeats 4000000 in
set_option maxRecDepth 100000 in
theorem c_X6_isTaken (l : Launch) (E : gE) (g : Mem) (row : Nat → Int32) (B : GB) (C : GC) (D : GD) (P : GP) (hM : MX E g row B C D P) (r : Row) (Bd : Nat) (hB : Bd < 95000000) (hR : ∀ k, k < 158 → row k = r k) (hv : Vr r Bd) (f la : Nat) (hf : f < 32) (hla : la < 32) : Mt l E yX6_isTaken cX6_isTaken 5 (some .boolean) 1 22 [rf E (0), .int (nI (f)), .int (nI (la))] g (pI (fun z g' => z = bI (ovl r f la = true) ∧ g' = g)) := by
  have hK := hM.k
  have hrc : rc r ≤ 6 := hv.1.2
  have hgc : gc r ≤ 4 := hv.2.1.2
  refine mt_go (own := RX6) (by decide) rfl (lo := [some (rf E (0)), some (.int (nI (f))), some (.int (nI (la))), none, none]) rfl (Nat.le_of_ble_eq_true rfl) (fun X hC => ?_)
  refine y_iconst (v := nI 0) hC dX6_isTaken_0 (by decide) ?_
  refine y_top (y := bI (ovN r f la 0 = true)) ((bI_f (by unfold ovN; decide)).symm) ?_
  refine y_istore_n hC dX6_isTaken_1 (i := 3) rfl (Nat.le_of_ble_eq_true rfl) rfl (lo' := [some (rf E (0)), some (.int (nI (f))), some (.int (nI (la))), some (.int (bI (ovN r f la 0 = true))), none]) rfl ?_
  refine y_iconst (v := nI 0) hC dX6_isTaken_2 (by decide) ?_
  refine y_istore hC dX6_isTaken_3 (Nat.le_of_ble_eq_true rfl) rfl (lo' := [some (rf E (0)), some (.int (nI (f))), some (.int (nI (la))), some (.int (bI (ovN r f la 0 = true))), some (.int (nI (0)))]) rfl ?_
  have L_5 : ∀ (m : Nat) (i : Nat), (hm : rc r - i < m) → (hi : i ≤ rc r) → Y l E X (pI (fun z g' => z = bI (ovl r f la = true) ∧ g' = g)) 5 [some (rf E (0)), some (.int (nI (f))), some (.int (nI (la))), some (.int (bI (ovN r f la i = true))), some (.int (nI (i)))] [] g := by
    intro m
    induction m with
    | zero => intro i hm hi; exact absurd hm (Nat.not_lt_zero _)
    | succ m ih_5 =>
      intro i hm hi
      refine y_iload hC dX6_isTaken_5 rfl ?_
      refine y_aload_n hC dX6_isTaken_7 (i := 0) rfl rfl ?_
      refine y_get hC fX6_7 dX6_isTaken_8 (k := 0) (by omega) hM.a0 rfl ?_
      refine y_bipush (v := nI 32) hC dX6_isTaken_11 (by decide) ?_
      refine y_iald hC dX6_isTaken_13 (k := 1) (j := 32) (by omega) hM.a1 (rfl) (by omega) (by decide) ?_
      refine y_top (y := nI (rc r)) ((hR 32 (by decide)).trans hv.1.1) ?_
      refine y_icmp_ge_n (tgt := 55) hC dX6_isTaken_14 (by decide) (by omega) (by omega) (fun c_14 => ?_) (fun c_14 => ?_)
      · refine y_iload_n hC dX6_isTaken_55 (i := 3) rfl rfl ?_
        refine y_zretb (hC := hC) (hd := dX6_isTaken_56) (hq := ?_)
        exact ⟨bI_cg (by rw [show i = rc r by omega]; exact ovl_ovN.symm), rfl⟩
      · have hlt : i < rc r := by omega
        obtain ⟨q1, q2, q3, q4, q5, q6, q7, q8, q9⟩ := hv.rg hlt
        refine y_iload_n hC dX6_isTaken_17 (i := 3) rfl rfl ?_
        refine y_if_ne_b (tgt := 43) hC dX6_isTaken_18 (by decide) (fun c_18 => ?_) (fun c_18 => ?_)
        · refine y_iconst (v := nI 1) hC dX6_isTaken_43 (by decide) ?_
          refine y_goto (tgt := 48) hC dX6_isTaken_44 (by decide) ?_
          refine y_top (y := bI (ovN r f la (i + 1) = true)) (by first | exact (bI_t (by rw [ovN, c_18]; rfl)).symm | exact (bI_t (by rw [ovN, Bool.or_eq_true, decide_eq_true_eq]; exact Or.inr (by omega))).symm | exact (bI_f (by rw [ovN, Bool.or_eq_true, decide_eq_true_eq]; rintro (q | q); exact c_18 q; omega)).symm) ?_
          refine y_istore_n hC dX6_isTaken_48 (i := 3) rfl (Nat.le_of_ble_eq_true rfl) rfl (lo' := [some (rf E (0)), some (.int (nI (f))), some (.int (nI (la))), some (.int (bI (ovN r f la (i + 1) = true))), some (.int (nI (i)))]) rfl ?_
          refine y_iinc_n hC dX6_isTaken_49 (a := i) (k := 1) rfl (by decide) (Nat.le_of_ble_eq_true rfl) rfl (lo' := [some (rf E (0)), some (.int (nI (f))), some (.int (nI (la))), some (.int (bI (ovN r f la (i + 1) = true))), some (.int (nI (i + 1)))]) rfl ?_
          refine y_goto (tgt := 5) hC dX6_isTaken_52 (by decide) ?_
          exact ih_5 (i + 1) (by omega) (by omega)
        · refine y_iload_n hC dX6_isTaken_21 (i := 1) rfl rfl ?_
          refine y_aload_n hC dX6_isTaken_22 (i := 0) rfl rfl ?_
          refine y_iload hC dX6_isTaken_23 rfl ?_
          refine y_iconst (v := nI 1) hC dX6_isTaken_25 (by decide) ?_
          refine y_callV hC mX6_of kX6_60 dX6_isTaken_26 (b := 0) (As := [.int (nI (i)), .int (nI (1))]) (rest := [.int (nI (f))]) (c_X6_of l E g row B C D P hM r Bd (by omega) hR hv (i) 1 (by omega) (by decide)) (by omega) hM.a0 rfl rfl rfl (Nat.le_of_ble_eq_true rfl) ⟨Nat.le_of_ble_eq_true rfl, Nat.le_of_ble_eq_true rfl⟩ (pk_i ?_)
          rintro r_26 g_26 ⟨hr_26, hq_26⟩
          obtain rfl := hq_26.symm
          rw [hr_26]
          clear hr_26 r_26
          refine y_icmp_gt_n (tgt := 47) hC dX6_isTaken_29 (by decide) (by omega) (by omega) (fun c_29 => ?_) (fun c_29 => ?_)
          · refine y_iconst (v := nI 0) hC dX6_isTaken_47 (by decide) ?_
            refine y_top (y := bI (ovN r f la (i + 1) = true)) (by first | exact (bI_t (by rw [ovN, c_18]; rfl)).symm | exact (bI_t (by rw [ovN, Bool.or_eq_true, decide_eq_true_eq]; exact Or.inr (by omega))).symm | exact (bI_f (by rw [ovN, Bool.or_eq_true, decide_eq_true_eq]; rintro (q | q); exact c_18 q; omega)).symm) ?_
            refine y_istore_n hC dX6_isTaken_48 (i := 3) rfl (Nat.le_of_ble_eq_true rfl) rfl (lo' := [some (rf E (0)), some (.int (nI (f))), some (.int (nI (la))), some (.int (bI (ovN r f la (i + 1) = true))), some (.int (nI (i)))]) rfl ?_
            refine y_iinc_n hC dX6_isTaken_49 (a := i) (k := 1) rfl (by decide) (Nat.le_of_ble_eq_true rfl) rfl (lo' := [some (rf E (0)), some (.int (nI (f))), some (.int (nI (la))), some (.int (bI (ovN r f la (i + 1) = true))), some (.int (nI (i + 1)))]) rfl ?_
            refine y_goto (tgt := 5) hC dX6_isTaken_52 (by decide) ?_
            exact ih_5 (i + 1) (by omega) (by omega)
          · refine y_aload_n hC dX6_isTaken_32 (i := 0) rfl rfl ?_
            refine y_iload hC dX6_isTaken_33 rfl ?_
            refine y_iconst (v := nI 0) hC dX6_isTaken_35 (by decide) ?_
            refine y_callV hC mX6_of kX6_60 dX6_isTaken_36 (b := 0) (As := [.int (nI (i)), .int (nI (0))]) (rest := []) (c_X6_of l E g row B C D P hM r Bd (by omega) hR hv (i) 0 (by omega) (by decide)) (by omega) hM.a0 rfl rfl rfl (Nat.le_of_ble_eq_true rfl) ⟨Nat.le_of_ble_eq_true rfl, Nat.le_of_ble_eq_true rfl⟩ (pk_i ?_)
            rintro r_36 g_36 ⟨hr_36, hq_36⟩
            obtain rfl := hq_36.symm
            rw [hr_36]
            clear hr_36 r_36
            refine y_iload_n hC dX6_isTaken_39 (i := 2) rfl rfl ?_
            refine y_icmp_gt_n (tgt := 47) hC dX6_isTaken_40 (by decide) (by omega) (by omega) (fun c_40 => ?_) (fun c_40 => ?_)
            · refine y_iconst (v := nI 0) hC dX6_isTaken_47 (by decide) ?_
              refine y_top (y := bI (ovN r f la (i + 1) = true)) (by first | exact (bI_t (by rw [ovN, c_18]; rfl)).symm | exact (bI_t (by rw [ovN, Bool.or_eq_true, decide_eq_true_eq]; exact Or.inr (by omega))).symm | exact (bI_f (by rw [ovN, Bool.or_eq_true, decide_eq_true_eq]; rintro (q | q); exact c_18 q; omega)).symm) ?_
              refine y_istore_n hC dX6_isTaken_48 (i := 3) rfl (Nat.le_of_ble_eq_true rfl) rfl (lo' := [some (rf E (0)), some (.int (nI (f))), some (.int (nI (la))), some (.int (bI (ovN r f la (i + 1) = true))), some (.int (nI (i)))]) rfl ?_
              refine y_iinc_n hC dX6_isTaken_49 (a := i) (k := 1) rfl (by decide) (Nat.le_of_ble_eq_true rfl) rfl (lo' := [some (rf E (0)), some (.int (nI (f))), some (.int (nI (la))), some (.int (bI (ovN r f la (i + 1) = true))), some (.int (nI (i + 1)))]) rfl ?_
              refine y_goto (tgt := 5) hC dX6_isTaken_52 (by decide) ?_
              exact ih_5 (i + 1) (by omega) (by omega)
            · refine y_iconst (v := nI 1) hC dX6_isTaken_43 (by decide) ?_
              refine y_goto (tgt := 48) hC dX6_isTaken_44 (by decide) ?_
              refine y_top (y := bI (ovN r f la (i + 1) = true)) (by first | exact (bI_t (by rw [ovN, c_18]; rfl)).symm | exact (bI_t (by rw [ovN, Bool.or_eq_true, decide_eq_true_eq]; exact Or.inr (by omega))).symm | exact (bI_f (by rw [ovN, Bool.or_eq_true, decide_eq_true_eq]; rintro (q | q); exact c_18 q; omega)).symm) ?_
              refine y_istore_n hC dX6_isTaken_48 (i := 3) rfl (Nat.le_of_ble_eq_true rfl) rfl (lo' := [some (rf E (0)), some (.int (nI (f))), some (.int (nI (la))), some (.int (bI (ovN r f la (i + 1) = true))), some (.int (nI (i)))]) rfl ?_
              refine y_iinc_n hC dX6_isTaken_49 (a := i) (k := 1) rfl (by decide) (Nat.le_of_ble_eq_true rfl) rfl (lo' := [some (rf E (0)), some (.int (nI (f))), some (.int (nI (la))), some (.int (bI (ovN r f la (i + 1) = true))), some (.int (nI (i + 1)))]) rfl ?_
              refine y_goto (tgt := 5) hC dX6_isTaken_52 (by decide) ?_
              exact ih_5 (i + 1) (by omega) (by omega)
  exact L_5 (rc r + 1) 0 (by omega) (by omega)

theorem dX6_running_0 : decode cX6_running 0 = .ok (.iconst 0, 1) := by decide +kernel
theorem dX6_running_1 : decode cX6_running 1 = .ok (.istore_n 1, 1) := by decide +kernel
theorem dX6_running_2 : decode cX6_running 2 = .ok (.iconst 0, 1) := by decide +kernel
theorem dX6_running_3 : decode cX6_running 3 = .ok (.istore_n 2, 1) := by decide +kernel
theorem dX6_running_4 : decode cX6_running 4 = .ok (.iload_n 2, 1) := by decide +kernel
theorem dX6_running_5 : decode cX6_running 5 = .ok (.aload_n 0, 1) := by decide +kernel
theorem dX6_running_6 : decode cX6_running 6 = .ok (.getfield 7, 3) := by decide +kernel
theorem dX6_running_9 : decode cX6_running 9 = .ok (.bipush 32, 2) := by decide +kernel
theorem dX6_running_11 : decode cX6_running 11 = .ok (.iaload, 1) := by decide +kernel
theorem dX6_running_12 : decode cX6_running 12 = .ok (.if_icmp .ge 18, 3) := by decide +kernel
theorem dX6_running_15 : decode cX6_running 15 = .ok (.iload_n 1, 1) := by decide +kernel
theorem dX6_running_16 : decode cX6_running 16 = .ok (.aload_n 0, 1) := by decide +kernel
theorem dX6_running_17 : decode cX6_running 17 = .ok (.iload_n 2, 1) := by decide +kernel
theorem dX6_running_18 : decode cX6_running 18 = .ok (.iconst 4, 1) := by decide +kernel
theorem dX6_running_19 : decode cX6_running 19 = .ok (.invokevirtual 60, 3) := by decide +kernel
theorem dX6_running_22 : decode cX6_running 22 = .ok (.iadd, 1) := by decide +kernel
theorem dX6_running_23 : decode cX6_running 23 = .ok (.istore_n 1, 1) := by decide +kernel
theorem dX6_running_24 : decode cX6_running 24 = .ok (.iinc 2 1, 3) := by decide +kernel
theorem dX6_running_27 : decode cX6_running 27 = .ok (.goto (-23), 3) := by decide +kernel
theorem dX6_running_30 : decode cX6_running 30 = .ok (.iload_n 1, 1) := by decide +kernel
theorem dX6_running_31 : decode cX6_running 31 = .ok (.ireturn, 1) := by decide +kernel
set_option maxHeartbeats 4000000 in
set_option maxRecDepth 100000 in
theorem c_X6_running (l : Launch) (E : gE) (g : Mem) (row : Nat → Int32) (B : GB) (C : GC) (D : GD) (P : GP) (hM : MX E g row B C D P) (r : Row) (Bd : Nat) (hB : Bd < 95000000) (hR : ∀ k, k < 158 → row k = r k) (hv : Vr r Bd) : Mt l E yX6_running cX6_running 3 (some .int) 1 22 [rf E (0)] g (pI (fun z g' => z = nI (rnC r) ∧ g' = g)) := by
  have hK := hM.k
  have hrc : rc r ≤ 6 := hv.1.2
  have hgc : gc r ≤ 4 := hv.2.1.2
  refine mt_go (own := RX6) (by decide) rfl (lo := [some (rf E (0)), none, none]) rfl (Nat.le_of_ble_eq_true rfl) (fun X hC => ?_)
  refine y_iconst (v := nI 0) hC dX6_running_0 (by decide) ?_
  refine y_istore_n hC dX6_running_1 (i := 1) rfl (Nat.le_of_ble_eq_true rfl) rfl (lo' := [some (rf E (0)), some (.int (nI (0))), none]) rfl ?_
  refine y_iconst (v := nI 0) hC dX6_running_2 (by decide) ?_
  refine y_istore_n hC dX6_running_3 (i := 2) rfl (Nat.le_of_ble_eq_true rfl) rfl (lo' := [some (rf E (0)), some (.int (nI (0))), some (.int (nI (0)))]) rfl ?_
  have L_4 : ∀ (m : Nat) (i c : Nat), (hm : rc r - i < m) → (hi : i ≤ rc r) → (hc : c = cn i (fun i => decide (rg r i 4 = 1))) → Y l E X (pI (fun z g' => z = nI (rnC r) ∧ g' = g)) 4 [some (rf E (0)), some (.int (nI (c))), some (.int (nI (i)))] [] g := by
    intro m
    induction m with
    | zero => intro i c hm hi hc; exact absurd hm (Nat.not_lt_zero _)
    | succ m ih_4 =>
      intro i c hm hi hc
      refine y_iload_n hC dX6_running_4 (i := 2) rfl rfl ?_
      refine y_aload_n hC dX6_running_5 (i := 0) rfl rfl ?_
      refine y_get hC fX6_7 dX6_running_6 (k := 0) (by omega) hM.a0 rfl ?_
      refine y_bipush (v := nI 32) hC dX6_running_9 (by decide) ?_
      refine y_iald hC dX6_running_11 (k := 1) (j := 32) (by omega) hM.a1 (rfl) (by omega) (by decide) ?_
      refine y_top (y := nI (rc r)) ((hR 32 (by decide)).trans hv.1.1) ?_
      refine y_icmp_ge_n (tgt := 30) hC dX6_running_12 (by decide) (by omega) (by omega) (fun c_12 => ?_) (fun c_12 => ?_)
      · refine y_iload_n hC dX6_running_30 (i := 1) rfl rfl ?_
        refine y_iret (hC := hC) (hd := dX6_running_31) (hq := ?_)
        exact ⟨congrArg nI (by rw [hc, show i = rc r by omega]; rfl), rfl⟩
      · have hlt : i < rc r := by omega
        obtain ⟨q1, q2, q3, q4, q5, q6, q7, q8, q9⟩ := hv.rg hlt
        refine y_iload_n hC dX6_running_15 (i := 1) rfl rfl ?_
        refine y_aload_n hC dX6_running_16 (i := 0) rfl rfl ?_
        refine y_iload_n hC dX6_running_17 (i := 2) rfl rfl ?_
        refine y_iconst (v := nI 4) hC dX6_running_18 (by decide) ?_
        refine y_callV hC mX6_of kX6_60 dX6_running_19 (b := 0) (As := [.int (nI (i)), .int (nI (4))]) (rest := [.int (nI (c))]) (c_X6_of l E g row B C D P hM r Bd (by omega) hR hv (i) 4 (by omega) (by decide)) (by omega) hM.a0 rfl rfl rfl (Nat.le_of_ble_eq_true rfl) ⟨Nat.le_of_ble_eq_true rfl, Nat.le_of_ble_eq_true rfl⟩ (pk_i ?_)
        rintro r_19 g_19 ⟨hr_19, hq_19⟩
        obtain rfl := hq_19.symm
        rw [hr_19]
        clear hr_19 r_19
        refine y_iadd_n hC dX6_running_22 ?_
        refine y_istore_n hC dX6_running_23 (i := 1) rfl (Nat.le_of_ble_eq_true rfl) rfl (lo' := [some (rf E (0)), some (.int (nI (c + (rg r (i) 4)))), some (.int (nI (i)))]) rfl ?_
        refine y_iinc_n hC dX6_running_24 (a := i) (k := 1) rfl (by decide) (Nat.le_of_ble_eq_true rfl) rfl (lo' := [some (rf E (0)), some (.int (nI (c + (rg r (i) 4)))), some (.int (nI (i + 1)))]) rfl ?_
        refine y_goto (tgt := 4) hC dX6_running_27 (by decide) ?_
        exact ih_4 (i + 1) _ (by omega) (by omega) (by rw [cn_s, ← hc]; simp only [decide_eq_true_eq]; split <;> omega)
  exact L_4 (rc r + 1) 0 0 (by omega) (by omega) rfl

