/-! ===== the class itself: what it answers ===== -/
def qColour (S : AS) (x : Int32) : Int32 := if 0 ≤ x.toInt ∧ x.toInt ≤ 31 then S.r (nn x) else -1
def qShown (S : AS) (x : Int32) : Int32 := if 0 ≤ x.toInt ∧ x.toInt ≤ 31 then shd S.r (nn x) 0 else -1
def rgQ (r : Row) (i w : Nat) : Int32 := if w < 7 then nI (rg r i w) else nI (tuN r i 0)
def qRange (S : AS) (x w : Int32) : Int32 := if 0 ≤ x.toInt ∧ x.toInt < (rc S.r : Int) then (if 0 ≤ w.toInt ∧ w.toInt ≤ 7 then rgQ S.r (nn x) (nn w) else -2) else -1
def glQ (r : Row) (i w : Nat) : Int32 := if w < 4 then r (76 + 4 * i + w) else nI (stN (gl r i 2) (gl r i 3) 0)
def qGlow (S : AS) (x w : Int32) : Int32 := if 0 ≤ x.toInt ∧ x.toInt < (gc S.r : Int) then (if 0 ≤ w.toInt ∧ w.toInt ≤ 4 then glQ S.r (nn x) (nn w) else -2) else -1
def qPixel (S : AS) (x y : Int32) (zb : Nat) : Int32 := if (0 ≤ x.toInt ∧ x.toInt ≤ 7) ∧ 0 ≤ y.toInt ∧ y.toInt ≤ 7 then (if zb = 0 then nI (px S.r (8 * nn x + nn y)) else shd S.r (px S.r (8 * nn x + nn y)) 0) else -1
def qShownIn (S : AS) (x t : Int32) : Int32 := if 0 ≤ x.toInt ∧ x.toInt ≤ 31 then (if 0 ≤ t.toInt ∧ t.toInt ≤ 1000 then shd S.r (nn x) (nn t) else -2) else -1
theorem dX5_colour_0 : decode cX5_colour 0 = .ok (.iload_n 1, 1) := by decide +kernel
theorem dX5_colour_1 : decode cX5_colour 1 = .ok (.invokestatic 41, 3) := by decide +kernel
theorem dX5_colour_4 : decode cX5_colour 4 = .ok (.ifCond .eq 15, 3) := by decide +kernel
theorem dX5_colour_7 : decode cX5_colour 7 = .ok (.aload_n 0, 1) := by decide +kernel
theorem dX5_colour_8 : decode cX5_colour 8 = .ok (.getfield 12, 3) := by decide +kernel
theorem dX5_colour_11 : decode cX5_colour 11 = .ok (.getfield 48, 3) := by decide +kernel
theorem dX5_colour_14 : decode cX5_colour 14 = .ok (.iload_n 1, 1) := by decide +kernel
theorem dX5_colour_15 : decode cX5_colour 15 = .ok (.iaload, 1) := by decide +kernel
theorem dX5_colour_16 : decode cX5_colour 16 = .ok (.goto 4, 3) := by decide +kernel
theorem dX5_colour_19 : decode cX5_colour 19 = .ok (.iconst (-1), 1) := by decide +kernel
theorem dX5_colour_20 : decode cX5_colour 20 = .ok (.ireturn, 1) := by decide +kernel
set_option maxHeartbeats 4000000 in
set_option maxRecDepth 100000 in
theorem c_X5_colour (l : Launch) (E : gE) (g : Mem) (S : AS) (B : Nat) (hB : B < 90000000) (ho : OK S B) (sh mk wa : Nat → Int32) (h : CQ E g S sh mk wa) (xa : Int32) : Mt l E yX5_colour cX5_colour 2 (some .int) 1 20 [rf E (0), .int (xa)] g (pI (fun zz g' => zz = qColour S xa ∧ CP E g' S)) := by
  have hK := h.k
  have hv := ho.v
  have hrc : rc S.r ≤ 6 := hv.1.2
  have hgc : gc S.r ≤ 4 := hv.2.1.2
  have hc4 := ho.c4
  refine mt_go (own := RX5) (by decide) rfl (lo := [some (rf E (0)), some (.int (xa))]) rfl (Nat.le_of_ble_eq_true rfl) (fun X hC => ?_)
  obtain ⟨co, pi, π, ρ, V, U, hX, e1, e2, e3, e4⟩ := zStF (r := S.r) (B := B) h.sta hv
  refine y_iload_n hC dX5_colour_0 (i := 1) rfl rfl ?_
  refine y_callS hC mX5_isPlace kX5_41 dX5_colour_1 (As := [.int (xa)]) (rest := []) (c_X5_isPlace l E g ((xa))) rfl rfl rfl (Nat.le_of_ble_eq_true rfl) ⟨Nat.le_of_ble_eq_true rfl, Nat.le_of_ble_eq_true rfl⟩ (pk_i ?_)
  rintro r_1 g_1 ⟨hr_1, hq_1⟩
  obtain rfl := hq_1.symm
  rw [hr_1]
  clear hr_1 r_1
  refine y_if_eq_b (tgt := 19) hC dX5_colour_4 (by decide) (fun c_4 => ?_) (fun c_4 => ?_)
  · refine y_iconst (v := (-1)) hC dX5_colour_19 (by decide) ?_
    refine y_iret (hC := hC) (hd := dX5_colour_20) (hq := ?_)
    have hqq : qColour S xa = -1 := by simp only [qColour, if_neg c_4]
    rw [hqq]
    exact ⟨rfl, h.cp⟩
  · obtain ⟨p, hp, hpx⟩ := zN (m := 31) c_4
    subst hpx
    refine y_aload_n hC dX5_colour_7 (i := 0) rfl rfl ?_
    refine y_get hC fX5_12 dX5_colour_8 (k := 0) (by omega) h.a0 rfl ?_
    refine y_get hC fX5_48 dX5_colour_11 (k := 1) (hX.k (k := 0) (by decide)) hX.s0 rfl ?_
    refine y_iload_n hC dX5_colour_14 (i := 1) rfl rfl ?_
    refine y_iald hC dX5_colour_15 (k := 1 + 1) (j := p) (hX.k (k := 1) (by decide)) hX.s1 (rfl) (by omega) (by decide) ?_
    refine y_top (y := (S.r p)) (e1 p (by omega)) ?_
    refine y_goto (tgt := 20) hC dX5_colour_16 (by decide) ?_
    refine y_iret (hC := hC) (hd := dX5_colour_20) (hq := ?_)
    have hqq : qColour S (nI p) = S.r p := by simp only [qColour, nn_I (show p < 2147483648 by omega), if_pos c_4]
    rw [hqq]
    exact ⟨rfl, h.cp⟩

theorem dX5_shown_0 : decode cX5_shown 0 = .ok (.iload_n 1, 1) := by decide +kernel
theorem dX5_shown_1 : decode cX5_shown 1 = .ok (.invokestatic 41, 3) := by decide +kernel
theorem dX5_shown_4 : decode cX5_shown 4 = .ok (.ifCond .eq 15, 3) := by decide +kernel
theorem dX5_shown_7 : decode cX5_shown 7 = .ok (.aload_n 0, 1) := by decide +kernel
theorem dX5_shown_8 : decode cX5_shown 8 = .ok (.getfield 12, 3) := by decide +kernel
theorem dX5_shown_11 : decode cX5_shown 11 = .ok (.iload_n 1, 1) := by decide +kernel
theorem dX5_shown_12 : decode cX5_shown 12 = .ok (.iconst 0, 1) := by decide +kernel
theorem dX5_shown_13 : decode cX5_shown 13 = .ok (.invokevirtual 186, 3) := by decide +kernel
theorem dX5_shown_16 : decode cX5_shown 16 = .ok (.goto 4, 3) := by decide +kernel
theorem dX5_shown_19 : decode cX5_shown 19 = .ok (.iconst (-1), 1) := by decide +kernel
theorem dX5_shown_20 : decode cX5_shown 20 = .ok (.ireturn, 1) := by decide +kernel
set_option maxHeartbeats 4000000 in
set_option maxRecDepth 100000 in
theorem c_X5_shown (l : Launch) (E : gE) (g : Mem) (S : AS) (B : Nat) (hB : B < 90000000) (ho : OK S B) (sh mk wa : Nat → Int32) (h : CQ E g S sh mk wa) (xa : Int32) : Mt l E yX5_shown cX5_shown 2 (some .int) 4 96 [rf E (0), .int (xa)] g (pI (fun zz g' => zz = qShown S xa ∧ CP E g' S)) := by
  have hK := h.k
  have hv := ho.v
  have hrc : rc S.r ≤ 6 := hv.1.2
  have hgc : gc S.r ≤ 4 := hv.2.1.2
  have hc4 := ho.c4
  refine mt_go (own := RX5) (by decide) rfl (lo := [some (rf E (0)), some (.int (xa))]) rfl (Nat.le_of_ble_eq_true rfl) (fun X hC => ?_)
  obtain ⟨co, pi, π, ρ, V, U, hX, e1, e2, e3, e4⟩ := zStF (r := S.r) (B := B) h.sta hv
  refine y_iload_n hC dX5_shown_0 (i := 1) rfl rfl ?_
  refine y_callS hC mX5_isPlace kX5_41 dX5_shown_1 (As := [.int (xa)]) (rest := []) (c_X5_isPlace l E g ((xa))) rfl rfl rfl (Nat.le_of_ble_eq_true rfl) ⟨Nat.le_of_ble_eq_true rfl, Nat.le_of_ble_eq_true rfl⟩ (pk_i ?_)
  rintro r_1 g_1 ⟨hr_1, hq_1⟩
  obtain rfl := hq_1.symm
  rw [hr_1]
  clear hr_1 r_1
  refine y_if_eq_b (tgt := 19) hC dX5_shown_4 (by decide) (fun c_4 => ?_) (fun c_4 => ?_)
  · refine y_iconst (v := (-1)) hC dX5_shown_19 (by decide) ?_
    refine y_iret (hC := hC) (hd := dX5_shown_20) (hq := ?_)
    have hqq : qShown S xa = -1 := by simp only [qShown, if_neg c_4]
    rw [hqq]
    exact ⟨rfl, h.cp⟩
  · obtain ⟨p, hp, hpx⟩ := zN (m := 31) c_4
    subst hpx
    refine y_aload_n hC dX5_shown_7 (i := 0) rfl rfl ?_
    refine y_get hC fX5_12 dX5_shown_8 (k := 0) (by omega) h.a0 rfl ?_
    refine y_iload_n hC dX5_shown_11 (i := 1) rfl rfl ?_
    refine y_iconst (v := nI 0) hC dX5_shown_12 (by decide) ?_
    refine y_callV hC mX4_shade kX5_186 dX5_shown_13 (b := 1) (As := [.int (nI (p)), .int (nI (0))]) (rest := []) (c_X4_shade l E g 1 S.r B (by omega) h.sta hv (p) (0) (by omega) (by omega)) (hX.k (k := 0) (by decide)) hX.s0 rfl rfl rfl (Nat.le_of_ble_eq_true rfl) ⟨Nat.le_of_ble_eq_true rfl, Nat.le_of_ble_eq_true rfl⟩ (pk_i ?_)
    rintro r_13 g_13 ⟨hr_13, hq_13⟩
    obtain rfl := hq_13.symm
    rw [hr_13]
    clear hr_13 r_13
    refine y_goto (tgt := 20) hC dX5_shown_16 (by decide) ?_
    refine y_iret (hC := hC) (hd := dX5_shown_20) (hq := ?_)
    have hqq : qShown S (nI p) = shd S.r p 0 := by simp only [qShown, nn_I (show p < 2147483648 by omega), if_pos c_4]
    rw [hqq]
    exact ⟨rfl, h.cp⟩

theorem dX5_shownIn_0 : decode cX5_shownIn 0 = .ok (.iload_n 1, 1) := by decide +kernel
theorem dX5_shownIn_1 : decode cX5_shownIn 1 = .ok (.invokestatic 41, 3) := by decide +kernel
theorem dX5_shownIn_4 : decode cX5_shownIn 4 = .ok (.ifCond .ne 5, 3) := by decide +kernel
theorem dX5_shownIn_7 : decode cX5_shownIn 7 = .ok (.iconst (-1), 1) := by decide +kernel
theorem dX5_shownIn_8 : decode cX5_shownIn 8 = .ok (.ireturn, 1) := by decide +kernel
theorem dX5_shownIn_9 : decode cX5_shownIn 9 = .ok (.iload_n 2, 1) := by decide +kernel
theorem dX5_shownIn_10 : decode cX5_shownIn 10 = .ok (.invokestatic 233, 3) := by decide +kernel
theorem dX5_shownIn_13 : decode cX5_shownIn 13 = .ok (.ifCond .eq 15, 3) := by decide +kernel
theorem dX5_shownIn_16 : decode cX5_shownIn 16 = .ok (.aload_n 0, 1) := by decide +kernel
theorem dX5_shownIn_17 : decode cX5_shownIn 17 = .ok (.getfield 12, 3) := by decide +kernel
theorem dX5_shownIn_20 : decode cX5_shownIn 20 = .ok (.iload_n 1, 1) := by decide +kernel
theorem dX5_shownIn_21 : decode cX5_shownIn 21 = .ok (.iload_n 2, 1) := by decide +kernel
theorem dX5_shownIn_22 : decode cX5_shownIn 22 = .ok (.invokevirtual 186, 3) := by decide +kernel
theorem dX5_shownIn_25 : decode cX5_shownIn 25 = .ok (.goto 5, 3) := by decide +kernel
theorem dX5_shownIn_28 : decode cX5_shownIn 28 = .ok (.bipush (-2), 2) := by decide +kernel
theorem dX5_shownIn_30 : decode cX5_shownIn 30 = .ok (.ireturn, 1) := by decide +kernel
set_option maxHeartbeats 4000000 in
set_option maxRecDepth 100000 in
theorem c_X5_shownIn (l : Launch) (E : gE) (g : Mem) (S : AS) (B : Nat) (hB : B < 90000000) (ho : OK S B) (sh mk wa : Nat → Int32) (h : CQ E g S sh mk wa) (xa xb : Int32) : Mt l E yX5_shownIn cX5_shownIn 3 (some .int) 4 96 [rf E (0), .int (xa), .int (xb)] g (pI (fun zz g' => zz = qShownIn S xa xb ∧ CP E g' S)) := by
  have hK := h.k
  have hv := ho.v
  have hrc : rc S.r ≤ 6 := hv.1.2
  have hgc : gc S.r ≤ 4 := hv.2.1.2
  have hc4 := ho.c4
  refine mt_go (own := RX5) (by decide) rfl (lo := [some (rf E (0)), some (.int (xa)), some (.int (xb))]) rfl (Nat.le_of_ble_eq_true rfl) (fun X hC => ?_)
  obtain ⟨co, pi, π, ρ, V, U, hX, e1, e2, e3, e4⟩ := zStF (r := S.r) (B := B) h.sta hv
  refine y_iload_n hC dX5_shownIn_0 (i := 1) rfl rfl ?_
  refine y_callS hC mX5_isPlace kX5_41 dX5_shownIn_1 (As := [.int (xa)]) (rest := []) (c_X5_isPlace l E g ((xa))) rfl rfl rfl (Nat.le_of_ble_eq_true rfl) ⟨Nat.le_of_ble_eq_true rfl, Nat.le_of_ble_eq_true rfl⟩ (pk_i ?_)
  rintro r_1 g_1 ⟨hr_1, hq_1⟩
  obtain rfl := hq_1.symm
  rw [hr_1]
  clear hr_1 r_1
  refine y_if_ne_b (tgt := 9) hC dX5_shownIn_4 (by decide) (fun c_4 => ?_) (fun c_4 => ?_)
  · obtain ⟨p, hp, hpx⟩ := zN (m := 31) c_4
    subst hpx
    refine y_iload_n hC dX5_shownIn_9 (i := 2) rfl rfl ?_
    refine y_callS hC mX5_isLater kX5_233 dX5_shownIn_10 (As := [.int (xb)]) (rest := []) (c_X5_isLater l E g ((xb))) rfl rfl rfl (Nat.le_of_ble_eq_true rfl) ⟨Nat.le_of_ble_eq_true rfl, Nat.le_of_ble_eq_true rfl⟩ (pk_i ?_)
    rintro r_10 g_10 ⟨hr_10, hq_10⟩
    obtain rfl := hq_10.symm
    rw [hr_10]
    clear hr_10 r_10
    refine y_if_eq_b (tgt := 28) hC dX5_shownIn_13 (by decide) (fun c_13 => ?_) (fun c_13 => ?_)
    · refine y_bipush (v := (-2)) hC dX5_shownIn_28 (by decide) ?_
      refine y_iret (hC := hC) (hd := dX5_shownIn_30) (hq := ?_)
      have hqq : qShownIn S (nI p) xb = -2 := by simp only [qShownIn, nn_I (show p < 2147483648 by omega), if_pos c_4, if_neg c_13]
      rw [hqq]
      exact ⟨rfl, h.cp⟩
    · obtain ⟨t, ht, htx⟩ := zN (m := 1000) c_13
      subst htx
      refine y_aload_n hC dX5_shownIn_16 (i := 0) rfl rfl ?_
      refine y_get hC fX5_12 dX5_shownIn_17 (k := 0) (by omega) h.a0 rfl ?_
      refine y_iload_n hC dX5_shownIn_20 (i := 1) rfl rfl ?_
      refine y_iload_n hC dX5_shownIn_21 (i := 2) rfl rfl ?_
      refine y_callV hC mX4_shade kX5_186 dX5_shownIn_22 (b := 1) (As := [.int (nI (p)), .int (nI (t))]) (rest := []) (c_X4_shade l E g 1 S.r B (by omega) h.sta hv (p) (t) (by omega) (by omega)) (hX.k (k := 0) (by decide)) hX.s0 rfl rfl rfl (Nat.le_of_ble_eq_true rfl) ⟨Nat.le_of_ble_eq_true rfl, Nat.le_of_ble_eq_true rfl⟩ (pk_i ?_)
      rintro r_22 g_22 ⟨hr_22, hq_22⟩
      obtain rfl := hq_22.symm
      rw [hr_22]
      clear hr_22 r_22
      refine y_goto (tgt := 30) hC dX5_shownIn_25 (by decide) ?_
      refine y_iret (hC := hC) (hd := dX5_shownIn_30) (hq := ?_)
      have hqq : qShownIn S (nI p) (nI t) = shd S.r p t := by simp only [qShownIn, nn_I (show p < 2147483648 by omega), nn_I (show t < 2147483648 by omega), if_pos c_4, if_pos c_13]
      rw [hqq]
      exact ⟨rfl, h.cp⟩
  · refine y_iconst (v := (-1)) hC dX5_shownIn_7 (by decide) ?_
    refine y_iret (hC := hC) (hd := dX5_shownIn_8) (hq := ?_)
    have hqq : qShownIn S xa xb = -1 := by simp only [qShownIn, if_neg c_4]
    rw [hqq]
    exact ⟨rfl, h.cp⟩

theorem dX5_pixel_0 : decode cX5_pixel 0 = .ok (.iload_n 1, 1) := by decide +kernel
theorem dX5_pixel_1 : decode cX5_pixel 1 = .ok (.iload_n 2, 1) := by decide +kernel
theorem dX5_pixel_2 : decode cX5_pixel 2 = .ok (.invokestatic 163, 3) := by decide +kernel
theorem dX5_pixel_5 : decode cX5_pixel 5 = .ok (.ifCond .ne 5, 3) := by decide +kernel
theorem dX5_pixel_8 : decode cX5_pixel 8 = .ok (.iconst (-1), 1) := by decide +kernel
theorem dX5_pixel_9 : decode cX5_pixel 9 = .ok (.ireturn, 1) := by decide +kernel
theorem dX5_pixel_10 : decode cX5_pixel 10 = .ok (.aload_n 0, 1) := by decide +kernel
theorem dX5_pixel_11 : decode cX5_pixel 11 = .ok (.getfield 12, 3) := by decide +kernel
theorem dX5_pixel_14 : decode cX5_pixel 14 = .ok (.getfield 166, 3) := by decide +kernel
theorem dX5_pixel_17 : decode cX5_pixel 17 = .ok (.iload_n 1, 1) := by decide +kernel
theorem dX5_pixel_18 : decode cX5_pixel 18 = .ok (.bipush 8, 2) := by decide +kernel
theorem dX5_pixel_20 : decode cX5_pixel 20 = .ok (.imul, 1) := by decide +kernel
theorem dX5_pixel_21 : decode cX5_pixel 21 = .ok (.iload_n 2, 1) := by decide +kernel
theorem dX5_pixel_22 : decode cX5_pixel 22 = .ok (.iadd, 1) := by decide +kernel
theorem dX5_pixel_23 : decode cX5_pixel 23 = .ok (.iaload, 1) := by decide +kernel
theorem dX5_pixel_24 : decode cX5_pixel 24 = .ok (.istore 4, 2) := by decide +kernel
theorem dX5_pixel_26 : decode cX5_pixel 26 = .ok (.iload_n 3, 1) := by decide +kernel
theorem dX5_pixel_27 : decode cX5_pixel 27 = .ok (.ifCond .eq 16, 3) := by decide +kernel
theorem dX5_pixel_30 : decode cX5_pixel 30 = .ok (.aload_n 0, 1) := by decide +kernel
theorem dX5_pixel_31 : decode cX5_pixel 31 = .ok (.getfield 12, 3) := by decide +kernel
theorem dX5_pixel_34 : decode cX5_pixel 34 = .ok (.iload 4, 2) := by decide +kernel
theorem dX5_pixel_36 : decode cX5_pixel 36 = .ok (.iconst 0, 1) := by decide +kernel
theorem dX5_pixel_37 : decode cX5_pixel 37 = .ok (.invokevirtual 186, 3) := by decide +kernel
theorem dX5_pixel_40 : decode cX5_pixel 40 = .ok (.goto 5, 3) := by decide +kernel
theorem dX5_pixel_43 : decode cX5_pixel 43 = .ok (.iload 4, 2) := by decide +kernel
theorem dX5_pixel_45 : decode cX5_pixel 45 = .ok (.ireturn, 1) := by decide +kernel
set_option maxHeartbeats 4000000 in
set_option maxRecDepth 100000 in
theorem c_X5_pixel (l : Launch) (E : gE) (g : Mem) (S : AS) (B : Nat) (hB : B < 90000000) (ho : OK S B) (sh mk wa : Nat → Int32) (h : CQ E g S sh mk wa) (xa xb : Int32) (zb : Nat) (hz : zb ≤ 1) : Mt l E yX5_pixel cX5_pixel 5 (some .int) 4 96 [rf E (0), .int (xa), .int (xb), .int (nI (zb))] g (pI (fun zz g' => zz = qPixel S xa xb zb ∧ CP E g' S)) := by
  have hK := h.k
  have hv := ho.v
  have hrc : rc S.r ≤ 6 := hv.1.2
  have hgc : gc S.r ≤ 4 := hv.2.1.2
  have hc4 := ho.c4
  refine mt_go (own := RX5) (by decide) rfl (lo := [some (rf E (0)), some (.int (xa)), some (.int (xb)), some (.int (nI (zb))), none]) rfl (Nat.le_of_ble_eq_true rfl) (fun X hC => ?_)
  obtain ⟨co, pi, π, ρ, V, U, hX, e1, e2, e3, e4⟩ := zStF (r := S.r) (B := B) h.sta hv
  refine y_iload_n hC dX5_pixel_0 (i := 1) rfl rfl ?_
  refine y_iload_n hC dX5_pixel_1 (i := 2) rfl rfl ?_
  refine y_callS hC mX5_isPixel kX5_163 dX5_pixel_2 (As := [.int (xa), .int (xb)]) (rest := []) (c_X5_isPixel l E g ((xa)) ((xb))) rfl rfl rfl (Nat.le_of_ble_eq_true rfl) ⟨Nat.le_of_ble_eq_true rfl, Nat.le_of_ble_eq_true rfl⟩ (pk_i ?_)
  rintro r_2 g_2 ⟨hr_2, hq_2⟩
  obtain rfl := hq_2.symm
  rw [hr_2]
  clear hr_2 r_2
  refine y_if_ne_b (tgt := 10) hC dX5_pixel_5 (by decide) (fun c_5 => ?_) (fun c_5 => ?_)
  · obtain ⟨p, hp, hpx⟩ := zN (m := 7) c_5.1
    subst hpx
    obtain ⟨q, hq, hqx⟩ := zN (m := 7) c_5.2
    subst hqx
    refine y_aload_n hC dX5_pixel_10 (i := 0) rfl rfl ?_
    refine y_get hC fX5_12 dX5_pixel_11 (k := 0) (by omega) h.a0 rfl ?_
    refine y_get hC fX5_166 dX5_pixel_14 (k := 1) (hX.k (k := 0) (by decide)) hX.s0 rfl ?_
    refine y_iload_n hC dX5_pixel_17 (i := 1) rfl rfl ?_
    refine y_bipush (v := nI 8) hC dX5_pixel_18 (by decide) ?_
    refine y_imul_n hC dX5_pixel_20 ?_
    refine y_iload_n hC dX5_pixel_21 (i := 2) rfl rfl ?_
    refine y_iadd_n hC dX5_pixel_22 ?_
    refine y_iald hC dX5_pixel_23 (k := 1 + 2) (j := (p * 8) + q) (hX.k (k := 2) (by decide)) hX.s2 (rfl) (by omega) (by decide) ?_
    have hpb := (hv.2.2.2.2.2.2.1 (8 * p + q) (by omega)).2
    refine y_top (y := nI (px S.r (8 * p + q))) ((e2 (p * 8 + q) (by omega)).trans ((congrArg (fun k => S.r (92 + k)) (show p * 8 + q = 8 * p + q by omega)).trans (hv.2.2.2.2.2.2.1 (8 * p + q) (by omega)).1)) ?_
    refine y_istore hC dX5_pixel_24 (Nat.le_of_ble_eq_true rfl) rfl (lo' := [some (rf E (0)), some (.int (nI (p))), some (.int (nI (q))), some (.int (nI (zb))), some (.int (nI (px S.r (8 * p + q))))]) rfl ?_
    refine y_iload_n hC dX5_pixel_26 (i := 3) rfl rfl ?_
    refine y_if_eq_n (tgt := 43) hC dX5_pixel_27 (by decide) (by omega) (fun c_27 => ?_) (fun c_27 => ?_)
    · refine y_iload hC dX5_pixel_43 rfl ?_
      refine y_iret (hC := hC) (hd := dX5_pixel_45) (hq := ?_)
      have hqq : qPixel S (nI p) (nI q) zb = nI (px S.r (8 * p + q)) := by simp only [qPixel, nn_I (show p < 2147483648 by omega), nn_I (show q < 2147483648 by omega), if_pos c_5, if_pos c_27]
      rw [hqq]
      exact ⟨rfl, h.cp⟩
    · refine y_aload_n hC dX5_pixel_30 (i := 0) rfl rfl ?_
      refine y_get hC fX5_12 dX5_pixel_31 (k := 0) (by omega) h.a0 rfl ?_
      refine y_iload hC dX5_pixel_34 rfl ?_
      refine y_iconst (v := nI 0) hC dX5_pixel_36 (by decide) ?_
      refine y_callV hC mX4_shade kX5_186 dX5_pixel_37 (b := 1) (As := [.int (nI (px S.r (8 * p + q))), .int (nI (0))]) (rest := []) (c_X4_shade l E g 1 S.r B (by omega) h.sta hv (px S.r (8 * p + q)) (0) (by omega) (by omega)) (hX.k (k := 0) (by decide)) hX.s0 rfl rfl rfl (Nat.le_of_ble_eq_true rfl) ⟨Nat.le_of_ble_eq_true rfl, Nat.le_of_ble_eq_true rfl⟩ (pk_i ?_)
      rintro r_37 g_37 ⟨hr_37, hq_37⟩
      obtain rfl := hq_37.symm
      rw [hr_37]
      clear hr_37 r_37
      refine y_goto (tgt := 45) hC dX5_pixel_40 (by decide) ?_
      refine y_iret (hC := hC) (hd := dX5_pixel_45) (hq := ?_)
      have hqq : qPixel S (nI p) (nI q) zb = shd S.r (px S.r (8 * p + q)) 0 := by simp only [qPixel, nn_I (show p < 2147483648 by omega), nn_I (show q < 2147483648 by omega), if_pos c_5, if_neg c_27]
      rw [hqq]
      exact ⟨rfl, h.cp⟩
  · refine y_iconst (v := (-1)) hC dX5_pixel_8 (by decide) ?_
    refine y_iret (hC := hC) (hd := dX5_pixel_9) (hq := ?_)
    have hqq : qPixel S xa xb zb = -1 := by simp only [qPixel, if_neg c_5]
    rw [hqq]
    exact ⟨rfl, h.cp⟩

theorem dX5_range_0 : decode cX5_range 0 = .ok (.aload_n 0, 1) := by decide +kernel
theorem dX5_range_1 : decode cX5_range 1 = .ok (.iload_n 1, 1) := by decide +kernel
theorem dX5_range_2 : decode cX5_range 2 = .ok (.invokevirtual 90, 3) := by decide +kernel
theorem dX5_range_5 : decode cX5_range 5 = .ok (.ifCond .ne 5, 3) := by decide +kernel
theorem dX5_range_8 : decode cX5_range 8 = .ok (.iconst (-1), 1) := by decide +kernel
theorem dX5_range_9 : decode cX5_range 9 = .ok (.ireturn, 1) := by decide +kernel
theorem dX5_range_10 : decode cX5_range 10 = .ok (.aload_n 0, 1) := by decide +kernel
theorem dX5_range_11 : decode cX5_range 11 = .ok (.getfield 12, 3) := by decide +kernel
theorem dX5_range_14 : decode cX5_range 14 = .ok (.getfield 97, 3) := by decide +kernel
theorem dX5_range_17 : decode cX5_range 17 = .ok (.iload_n 1, 1) := by decide +kernel
theorem dX5_range_18 : decode cX5_range 18 = .ok (.aaload, 1) := by decide +kernel
theorem dX5_range_19 : decode cX5_range 19 = .ok (.astore_n 3, 1) := by decide +kernel
theorem dX5_range_20 : decode cX5_range 20 = .ok (.iload_n 2, 1) := by decide +kernel
theorem dX5_range_21 : decode cX5_range 21 = .ok (.tableswitch 96 0 7 #[47, 52, 57, 62, 67, 80, 85, 90], 47) := by decide +kernel
theorem dX5_range_68 : decode cX5_range 68 = .ok (.aload_n 3, 1) := by decide +kernel
theorem dX5_range_69 : decode cX5_range 69 = .ok (.getfield 189, 3) := by decide +kernel
theorem dX5_range_72 : decode cX5_range 72 = .ok (.ireturn, 1) := by decide +kernel
theorem dX5_range_73 : decode cX5_range 73 = .ok (.aload_n 3, 1) := by decide +kernel
theorem dX5_range_74 : decode cX5_range 74 = .ok (.getfield 192, 3) := by decide +kernel
theorem dX5_range_77 : decode cX5_range 77 = .ok (.ireturn, 1) := by decide +kernel
theorem dX5_range_78 : decode cX5_range 78 = .ok (.aload_n 3, 1) := by decide +kernel
theorem dX5_range_79 : decode cX5_range 79 = .ok (.getfield 101, 3) := by decide +kernel
theorem dX5_range_82 : decode cX5_range 82 = .ok (.ireturn, 1) := by decide +kernel
theorem dX5_range_83 : decode cX5_range 83 = .ok (.aload_n 3, 1) := by decide +kernel
theorem dX5_range_84 : decode cX5_range 84 = .ok (.getfield 195, 3) := by decide +kernel
theorem dX5_range_87 : decode cX5_range 87 = .ok (.ireturn, 1) := by decide +kernel
theorem dX5_range_88 : decode cX5_range 88 = .ok (.aload_n 3, 1) := by decide +kernel
theorem dX5_range_89 : decode cX5_range 89 = .ok (.getfield 109, 3) := by decide +kernel
theorem dX5_range_92 : decode cX5_range 92 = .ok (.ifCond .eq 7, 3) := by decide +kernel
theorem dX5_range_95 : decode cX5_range 95 = .ok (.iconst 1, 1) := by decide +kernel
theorem dX5_range_96 : decode cX5_range 96 = .ok (.goto 4, 3) := by decide +kernel
theorem dX5_range_99 : decode cX5_range 99 = .ok (.iconst 0, 1) := by decide +kernel
theorem dX5_range_100 : decode cX5_range 100 = .ok (.ireturn, 1) := by decide +kernel
theorem dX5_range_101 : decode cX5_range 101 = .ok (.aload_n 3, 1) := by decide +kernel
theorem dX5_range_102 : decode cX5_range 102 = .ok (.getfield 198, 3) := by decide +kernel
theorem dX5_range_105 : decode cX5_range 105 = .ok (.ireturn, 1) := by decide +kernel
theorem dX5_range_106 : decode cX5_range 106 = .ok (.aload_n 3, 1) := by decide +kernel
theorem dX5_range_107 : decode cX5_range 107 = .ok (.getfield 199, 3) := by decide +kernel
theorem dX5_range_110 : decode cX5_range 110 = .ok (.ireturn, 1) := by decide +kernel
theorem dX5_range_111 : decode cX5_range 111 = .ok (.aload_n 3, 1) := by decide +kernel
theorem dX5_range_112 : decode cX5_range 112 = .ok (.iconst 0, 1) := by decide +kernel
theorem dX5_range_113 : decode cX5_range 113 = .ok (.invokevirtual 202, 3) := by decide +kernel
theorem dX5_range_116 : decode cX5_range 116 = .ok (.ireturn, 1) := by decide +kernel
theorem dX5_range_117 : decode cX5_range 117 = .ok (.bipush (-2), 2) := by decide +kernel
theorem dX5_range_119 : decode cX5_range 119 = .ok (.ireturn, 1) := by decide +kernel
set_option maxHeartbeats 4000000 in
set_option maxRecDepth 100000 in
theorem c_X5_range (l : Launch) (E : gE) (g : Mem) (S : AS) (B : Nat) (hB : B < 90000000) (ho : OK S B) (sh mk wa : Nat → Int32) (h : CQ E g S sh mk wa) (xa xb : Int32) : Mt l E yX5_range cX5_range 4 (some .int) 2 45 [rf E (0), .int (xa), .int (xb)] g (pI (fun zz g' => zz = qRange S xa xb ∧ CP E g' S)) := by
  have hK := h.k
  have hv := ho.v
  have hrc : rc S.r ≤ 6 := hv.1.2
  have hgc : gc S.r ≤ 4 := hv.2.1.2
  have hc4 := ho.c4
  refine mt_go (own := RX5) (by decide) rfl (lo := [some (rf E (0)), some (.int (xa)), some (.int (xb)), none]) rfl (Nat.le_of_ble_eq_true rfl) (fun X hC => ?_)
  obtain ⟨co, pi, π, ρ, V, U, hX, e1, e2, e3, e4⟩ := zStF (r := S.r) (B := B) h.sta hv
  refine y_aload_n hC dX5_range_0 (i := 0) rfl rfl ?_
  refine y_iload_n hC dX5_range_1 (i := 1) rfl rfl ?_
  refine y_callV hC mX5_isRange kX5_90 dX5_range_2 (b := 0) (As := [.int (xa)]) (rest := []) (c_X5_isRange l E g S B hB ho sh mk wa h ((xa))) (by omega) h.a0 rfl rfl rfl (Nat.le_of_ble_eq_true rfl) ⟨Nat.le_of_ble_eq_true rfl, Nat.le_of_ble_eq_true rfl⟩ (pk_i ?_)
  rintro r_2 g_2 ⟨hr_2, hq_2⟩
  obtain rfl := hq_2.symm
  rw [hr_2]
  clear hr_2 r_2
  refine y_if_ne_b (tgt := 10) hC dX5_range_5 (by decide) (fun c_5 => ?_) (fun c_5 => ?_)
  · obtain ⟨a, ha, hax⟩ := zNl (m := rc S.r) c_5
    subst hax
    obtain ⟨q1, q2, q3, q4, q5, q6, q7, q8, q9⟩ := hv.rg (i := a) (by omega)
    refine y_aload_n hC dX5_range_10 (i := 0) rfl rfl ?_
    refine y_get hC fX5_12 dX5_range_11 (k := 0) (by omega) h.a0 rfl ?_
    refine y_get hC fX5_97 dX5_range_14 (k := 1) (hX.k (k := 0) (by decide)) hX.s0 rfl ?_
    refine y_iload_n hC dX5_range_17 (i := 1) rfl rfl ?_
    refine y_aald hC (Or.inl ⟨rfl, rfl, rfl⟩ : yT 3 3 RX3) dX5_range_18 (k := 1 + 3) (j := a) (hX.k (k := 3) (by decide)) hX.s3 (rfl) (by omega) (by decide) ?_
    refine y_astore_n hC (o := some (1 + 5 + π (a))) dX5_range_19 (i := 3) rfl (Nat.le_of_ble_eq_true rfl) rfl (lo' := [some (rf E (0)), some (.int (nI (a))), some (.int (xb)), some (rf E (1 + 5 + π (a)))]) rfl ?_
    refine y_iload_n hC dX5_range_20 (i := 2) rfl rfl ?_
    by_cases hw : 0 ≤ xb.toInt ∧ xb.toInt ≤ 7
    · obtain ⟨u, hu, hux⟩ := zN (m := 7) hw
      subst hux
      rcases (show u = 0 ∨ u = 1 ∨ u = 2 ∨ u = 3 ∨ u = 4 ∨ u = 5 ∨ u = 6 ∨ u = 7 by omega) with rfl | rfl | rfl | rfl | rfl | rfl | rfl | rfl
      · refine y_tabIn (off := 47) (tgt := 68) hC dX5_range_21 (by decide) (by decide) (by decide) (by decide) ?_
        refine y_aload_n hC dX5_range_68 (i := 3) rfl rfl ?_
        refine y_get hC fX5_189 dX5_range_69 (k := 1 + 5 + π (a)) (hX.kV (i := a) (by omega)) (hX.rV hv (i := a) (by omega) (e3 (a) (by omega))) rfl ?_
        refine y_iret (hC := hC) (hd := dX5_range_72) (hq := ?_)
        have hqq : qRange S (nI a) (nI 0) = rgQ S.r a 0 := by simp only [qRange, nn_I (show a < 2147483648 by omega), if_pos c_5]; rw [if_pos (by decide)]; rfl
        rw [hqq]
        exact ⟨rfl, h.cp⟩
      · refine y_tabIn (off := 52) (tgt := 73) hC dX5_range_21 (by decide) (by decide) (by decide) (by decide) ?_
        refine y_aload_n hC dX5_range_73 (i := 3) rfl rfl ?_
        refine y_get hC fX5_192 dX5_range_74 (k := 1 + 5 + π (a)) (hX.kV (i := a) (by omega)) (hX.rV hv (i := a) (by omega) (e3 (a) (by omega))) rfl ?_
        refine y_iret (hC := hC) (hd := dX5_range_77) (hq := ?_)
        have hqq : qRange S (nI a) (nI 1) = rgQ S.r a 1 := by simp only [qRange, nn_I (show a < 2147483648 by omega), if_pos c_5]; rw [if_pos (by decide)]; rfl
        rw [hqq]
        exact ⟨rfl, h.cp⟩
      · refine y_tabIn (off := 57) (tgt := 78) hC dX5_range_21 (by decide) (by decide) (by decide) (by decide) ?_
        refine y_aload_n hC dX5_range_78 (i := 3) rfl rfl ?_
        refine y_get hC fX5_101 dX5_range_79 (k := 1 + 5 + π (a)) (hX.kV (i := a) (by omega)) (hX.rV hv (i := a) (by omega) (e3 (a) (by omega))) rfl ?_
        refine y_iret (hC := hC) (hd := dX5_range_82) (hq := ?_)
        have hqq : qRange S (nI a) (nI 2) = rgQ S.r a 2 := by simp only [qRange, nn_I (show a < 2147483648 by omega), if_pos c_5]; rw [if_pos (by decide)]; rfl
        rw [hqq]
        exact ⟨rfl, h.cp⟩
      · refine y_tabIn (off := 62) (tgt := 83) hC dX5_range_21 (by decide) (by decide) (by decide) (by decide) ?_
        refine y_aload_n hC dX5_range_83 (i := 3) rfl rfl ?_
        refine y_get hC fX5_195 dX5_range_84 (k := 1 + 5 + π (a)) (hX.kV (i := a) (by omega)) (hX.rV hv (i := a) (by omega) (e3 (a) (by omega))) rfl ?_
        refine y_iret (hC := hC) (hd := dX5_range_87) (hq := ?_)
        have hqq : qRange S (nI a) (nI 3) = rgQ S.r a 3 := by simp only [qRange, nn_I (show a < 2147483648 by omega), if_pos c_5]; rw [if_pos (by decide)]; rfl
        rw [hqq]
        exact ⟨rfl, h.cp⟩
      · refine y_tabIn (off := 67) (tgt := 88) hC dX5_range_21 (by decide) (by decide) (by decide) (by decide) ?_
        refine y_aload_n hC dX5_range_88 (i := 3) rfl rfl ?_
        refine y_get hC fX5_109 dX5_range_89 (k := 1 + 5 + π (a)) (hX.kV (i := a) (by omega)) (hX.rV hv (i := a) (by omega) (e3 (a) (by omega))) rfl ?_
        refine y_if_eq_n (tgt := 99) hC dX5_range_92 (by decide) (by omega) (fun c_92 => ?_) (fun c_92 => ?_)
        · refine y_iconst (v := nI 0) hC dX5_range_99 (by decide) ?_
          refine y_iret (hC := hC) (hd := dX5_range_100) (hq := ?_)
          have hqq : qRange S (nI a) (nI 4) = rgQ S.r a 4 := by simp only [qRange, nn_I (show a < 2147483648 by omega), if_pos c_5]; rw [if_pos (by decide)]; rfl
          rw [hqq]
          exact ⟨(by unfold rgQ; rw [if_pos (by decide)]; exact congrArg nI (by omega)), h.cp⟩
        · refine y_iconst (v := nI 1) hC dX5_range_95 (by decide) ?_
          refine y_goto (tgt := 100) hC dX5_range_96 (by decide) ?_
          refine y_iret (hC := hC) (hd := dX5_range_100) (hq := ?_)
          have hqq : qRange S (nI a) (nI 4) = rgQ S.r a 4 := by simp only [qRange, nn_I (show a < 2147483648 by omega), if_pos c_5]; rw [if_pos (by decide)]; rfl
          rw [hqq]
          exact ⟨(by unfold rgQ; rw [if_pos (by decide)]; exact congrArg nI (by omega)), h.cp⟩
      · refine y_tabIn (off := 80) (tgt := 101) hC dX5_range_21 (by decide) (by decide) (by decide) (by decide) ?_
        refine y_aload_n hC dX5_range_101 (i := 3) rfl rfl ?_
        refine y_get hC fX5_198 dX5_range_102 (k := 1 + 5 + π (a)) (hX.kV (i := a) (by omega)) (hX.rV hv (i := a) (by omega) (e3 (a) (by omega))) rfl ?_
        refine y_iret (hC := hC) (hd := dX5_range_105) (hq := ?_)
        have hqq : qRange S (nI a) (nI 5) = rgQ S.r a 5 := by simp only [qRange, nn_I (show a < 2147483648 by omega), if_pos c_5]; rw [if_pos (by decide)]; rfl
        rw [hqq]
        exact ⟨rfl, h.cp⟩
      · refine y_tabIn (off := 85) (tgt := 106) hC dX5_range_21 (by decide) (by decide) (by decide) (by decide) ?_
        refine y_aload_n hC dX5_range_106 (i := 3) rfl rfl ?_
        refine y_get hC fX5_199 dX5_range_107 (k := 1 + 5 + π (a)) (hX.kV (i := a) (by omega)) (hX.rV hv (i := a) (by omega) (e3 (a) (by omega))) rfl ?_
        refine y_iret (hC := hC) (hd := dX5_range_110) (hq := ?_)
        have hqq : qRange S (nI a) (nI 6) = rgQ S.r a 6 := by simp only [qRange, nn_I (show a < 2147483648 by omega), if_pos c_5]; rw [if_pos (by decide)]; rfl
        rw [hqq]
        exact ⟨rfl, h.cp⟩
      · refine y_tabIn (off := 90) (tgt := 111) hC dX5_range_21 (by decide) (by decide) (by decide) (by decide) ?_
        refine y_aload_n hC dX5_range_111 (i := 3) rfl rfl ?_
        refine y_iconst (v := nI 0) hC dX5_range_112 (by decide) ?_
        refine y_callV hC mX3_turn kX5_202 dX5_range_113 (b := 1 + 5 + π (a)) (As := [.int (nI (0))]) (rest := []) (c_X3_turn l E g (1 + 5 + π (a)) (hX.kV (i := a) (by omega)) (rg S.r (a) 0) (rg S.r (a) 1) (rg S.r (a) 2) (rg S.r (a) 3) (rg S.r (a) 4) (rg S.r (a) 5) (rg S.r (a) 6) q2 q3 q4 q5 q6 q7 q8 (by omega) (hX.rV hv (i := a) (by omega) (e3 (a) (by omega))) 0 (by omega)) (hX.kV (i := a) (by omega)) (hX.rV hv (i := a) (by omega) (e3 (a) (by omega))) rfl rfl rfl (Nat.le_of_ble_eq_true rfl) ⟨Nat.le_of_ble_eq_true rfl, Nat.le_of_ble_eq_true rfl⟩ (pk_i ?_)
        rintro r_113 g_113 ⟨hr_113, hq_113⟩
        obtain rfl := hq_113.symm
        rw [hr_113]
        clear hr_113 r_113
        refine y_iret (hC := hC) (hd := dX5_range_116) (hq := ?_)
        have hqq : qRange S (nI a) (nI 7) = rgQ S.r a 7 := by simp only [qRange, nn_I (show a < 2147483648 by omega), if_pos c_5]; rw [if_pos (by decide)]; rfl
        rw [hqq]
        exact ⟨rfl, h.cp⟩
    · refine y_tabOut (tgt := 117) hC dX5_range_21 (by omega) (by decide) ?_
      refine y_bipush (v := (-2)) hC dX5_range_117 (by decide) ?_
      refine y_iret (hC := hC) (hd := dX5_range_119) (hq := ?_)
      have hqq : qRange S (nI a) xb = -2 := by simp only [qRange, nn_I (show a < 2147483648 by omega), if_pos c_5, if_neg hw]
      rw [hqq]
      exact ⟨rfl, h.cp⟩
  · refine y_iconst (v := (-1)) hC dX5_range_8 (by decide) ?_
    refine y_iret (hC := hC) (hd := dX5_range_9) (hq := ?_)
    have hqq : qRange S xa xb = -1 := by simp only [qRange, if_neg c_5]
    rw [hqq]
    exact ⟨rfl, h.cp⟩

theorem dX5_glow_0 : decode cX5_glow 0 = .ok (.aload_n 0, 1) := by decide +kernel
theorem dX5_glow_1 : decode cX5_glow 1 = .ok (.iload_n 1, 1) := by decide +kernel
theorem dX5_glow_2 : decode cX5_glow 2 = .ok (.invokevirtual 128, 3) := by decide +kernel
theorem dX5_glow_5 : decode cX5_glow 5 = .ok (.ifCond .ne 5, 3) := by decide +kernel
theorem dX5_glow_8 : decode cX5_glow 8 = .ok (.iconst (-1), 1) := by decide +kernel
theorem dX5_glow_9 : decode cX5_glow 9 = .ok (.ireturn, 1) := by decide +kernel
theorem dX5_glow_10 : decode cX5_glow 10 = .ok (.aload_n 0, 1) := by decide +kernel
theorem dX5_glow_11 : decode cX5_glow 11 = .ok (.getfield 12, 3) := by decide +kernel
theorem dX5_glow_14 : decode cX5_glow 14 = .ok (.getfield 205, 3) := by decide +kernel
theorem dX5_glow_17 : decode cX5_glow 17 = .ok (.iload_n 1, 1) := by decide +kernel
theorem dX5_glow_18 : decode cX5_glow 18 = .ok (.aaload, 1) := by decide +kernel
theorem dX5_glow_19 : decode cX5_glow 19 = .ok (.astore_n 3, 1) := by decide +kernel
theorem dX5_glow_20 : decode cX5_glow 20 = .ok (.iload_n 2, 1) := by decide +kernel
theorem dX5_glow_21 : decode cX5_glow 21 = .ok (.tableswitch 61 0 4 #[35, 40, 45, 50, 55], 35) := by decide +kernel
theorem dX5_glow_56 : decode cX5_glow 56 = .ok (.aload_n 3, 1) := by decide +kernel
theorem dX5_glow_57 : decode cX5_glow 57 = .ok (.getfield 209, 3) := by decide +kernel
theorem dX5_glow_60 : decode cX5_glow 60 = .ok (.ireturn, 1) := by decide +kernel
theorem dX5_glow_61 : decode cX5_glow 61 = .ok (.aload_n 3, 1) := by decide +kernel
theorem dX5_glow_62 : decode cX5_glow 62 = .ok (.getfield 214, 3) := by decide +kernel
theorem dX5_glow_65 : decode cX5_glow 65 = .ok (.ireturn, 1) := by decide +kernel
theorem dX5_glow_66 : decode cX5_glow 66 = .ok (.aload_n 3, 1) := by decide +kernel
theorem dX5_glow_67 : decode cX5_glow 67 = .ok (.getfield 217, 3) := by decide +kernel
theorem dX5_glow_70 : decode cX5_glow 70 = .ok (.ireturn, 1) := by decide +kernel
theorem dX5_glow_71 : decode cX5_glow 71 = .ok (.aload_n 3, 1) := by decide +kernel
theorem dX5_glow_72 : decode cX5_glow 72 = .ok (.getfield 218, 3) := by decide +kernel
theorem dX5_glow_75 : decode cX5_glow 75 = .ok (.ireturn, 1) := by decide +kernel
theorem dX5_glow_76 : decode cX5_glow 76 = .ok (.aload_n 3, 1) := by decide +kernel
theorem dX5_glow_77 : decode cX5_glow 77 = .ok (.iconst 0, 1) := by decide +kernel
theorem dX5_glow_78 : decode cX5_glow 78 = .ok (.invokevirtual 219, 3) := by decide +kernel
theorem dX5_glow_81 : decode cX5_glow 81 = .ok (.ireturn, 1) := by decide +kernel
theorem dX5_glow_82 : decode cX5_glow 82 = .ok (.bipush (-2), 2) := by decide +kernel
theorem dX5_glow_84 : decode cX5_glow 84 = .ok (.ireturn, 1) := by decide +kernel
set_option maxHeartbeats 4000000 in
set_option maxRecDepth 100000 in
theorem c_X5_glow (l : Launch) (E : gE) (g : Mem) (S : AS) (B : Nat) (hB : B < 90000000) (ho : OK S B) (sh mk wa : Nat → Int32) (h : CQ E g S sh mk wa) (xa xb : Int32) : Mt l E yX5_glow cX5_glow 4 (some .int) 2 42 [rf E (0), .int (xa), .int (xb)] g (pI (fun zz g' => zz = qGlow S xa xb ∧ CP E g' S)) := by
  have hK := h.k
  have hv := ho.v
  have hrc : rc S.r ≤ 6 := hv.1.2
  have hgc : gc S.r ≤ 4 := hv.2.1.2
  have hc4 := ho.c4
  refine mt_go (own := RX5) (by decide) rfl (lo := [some (rf E (0)), some (.int (xa)), some (.int (xb)), none]) rfl (Nat.le_of_ble_eq_true rfl) (fun X hC => ?_)
  obtain ⟨co, pi, π, ρ, V, U, hX, e1, e2, e3, e4⟩ := zStF (r := S.r) (B := B) h.sta hv
  refine y_aload_n hC dX5_glow_0 (i := 0) rfl rfl ?_
  refine y_iload_n hC dX5_glow_1 (i := 1) rfl rfl ?_
  refine y_callV hC mX5_isGlow kX5_128 dX5_glow_2 (b := 0) (As := [.int (xa)]) (rest := []) (c_X5_isGlow l E g S B hB ho sh mk wa h ((xa))) (by omega) h.a0 rfl rfl rfl (Nat.le_of_ble_eq_true rfl) ⟨Nat.le_of_ble_eq_true rfl, Nat.le_of_ble_eq_true rfl⟩ (pk_i ?_)
  rintro r_2 g_2 ⟨hr_2, hq_2⟩
  obtain rfl := hq_2.symm
  rw [hr_2]
  clear hr_2 r_2
  refine y_if_ne_b (tgt := 10) hC dX5_glow_5 (by decide) (fun c_5 => ?_) (fun c_5 => ?_)
  · obtain ⟨a, ha, hax⟩ := zNl (m := gc S.r) c_5
    subst hax
    obtain ⟨q1, q2, q3, q4, q5⟩ := hv.gl (i := a) (by omega)
    refine y_aload_n hC dX5_glow_10 (i := 0) rfl rfl ?_
    refine y_get hC fX5_12 dX5_glow_11 (k := 0) (by omega) h.a0 rfl ?_
    refine y_get hC fX5_205 dX5_glow_14 (k := 1) (hX.k (k := 0) (by decide)) hX.s0 rfl ?_
    refine y_iload_n hC dX5_glow_17 (i := 1) rfl rfl ?_
    refine y_aald hC (Or.inr (Or.inl ⟨rfl, rfl, rfl⟩) : yT 4 0 RX0) dX5_glow_18 (k := 1 + 4) (j := a) (hX.k (k := 4) (by decide)) hX.s4 (rfl) (by omega) (by decide) ?_
    refine y_astore_n hC (o := some (1 + 11 + ρ (a))) dX5_glow_19 (i := 3) rfl (Nat.le_of_ble_eq_true rfl) rfl (lo' := [some (rf E (0)), some (.int (nI (a))), some (.int (xb)), some (rf E (1 + 11 + ρ (a)))]) rfl ?_
    refine y_iload_n hC dX5_glow_20 (i := 2) rfl rfl ?_
    by_cases hw : 0 ≤ xb.toInt ∧ xb.toInt ≤ 4
    · obtain ⟨u, hu, hux⟩ := zN (m := 4) hw
      subst hux
      rcases (show u = 0 ∨ u = 1 ∨ u = 2 ∨ u = 3 ∨ u = 4 by omega) with rfl | rfl | rfl | rfl | rfl
      · refine y_tabIn (off := 35) (tgt := 56) hC dX5_glow_21 (by decide) (by decide) (by decide) (by decide) ?_
        refine y_aload_n hC dX5_glow_56 (i := 3) rfl rfl ?_
        refine y_get hC fX5_209 dX5_glow_57 (k := 1 + 11 + ρ (a)) (hX.kU (i := a) (by omega)) (hX.rU hv (i := a) (by omega) (e4 (a) (by omega))) rfl ?_
        refine y_iret (hC := hC) (hd := dX5_glow_60) (hq := ?_)
        have hqq : qGlow S (nI a) (nI 0) = glQ S.r a 0 := by simp only [qGlow, nn_I (show a < 2147483648 by omega), if_pos c_5]; rw [if_pos (by decide)]; rfl
        rw [hqq]
        exact ⟨q1.1.symm, h.cp⟩
      · refine y_tabIn (off := 40) (tgt := 61) hC dX5_glow_21 (by decide) (by decide) (by decide) (by decide) ?_
        refine y_aload_n hC dX5_glow_61 (i := 3) rfl rfl ?_
        refine y_get hC fX5_214 dX5_glow_62 (k := 1 + 11 + ρ (a)) (hX.kU (i := a) (by omega)) (hX.rU hv (i := a) (by omega) (e4 (a) (by omega))) rfl ?_
        refine y_iret (hC := hC) (hd := dX5_glow_65) (hq := ?_)
        have hqq : qGlow S (nI a) (nI 1) = glQ S.r a 1 := by simp only [qGlow, nn_I (show a < 2147483648 by omega), if_pos c_5]; rw [if_pos (by decide)]; rfl
        rw [hqq]
        exact ⟨rfl, h.cp⟩
      · refine y_tabIn (off := 45) (tgt := 66) hC dX5_glow_21 (by decide) (by decide) (by decide) (by decide) ?_
        refine y_aload_n hC dX5_glow_66 (i := 3) rfl rfl ?_
        refine y_get hC fX5_217 dX5_glow_67 (k := 1 + 11 + ρ (a)) (hX.kU (i := a) (by omega)) (hX.rU hv (i := a) (by omega) (e4 (a) (by omega))) rfl ?_
        refine y_iret (hC := hC) (hd := dX5_glow_70) (hq := ?_)
        have hqq : qGlow S (nI a) (nI 2) = glQ S.r a 2 := by simp only [qGlow, nn_I (show a < 2147483648 by omega), if_pos c_5]; rw [if_pos (by decide)]; rfl
        rw [hqq]
        exact ⟨q1.2.1.symm, h.cp⟩
      · refine y_tabIn (off := 50) (tgt := 71) hC dX5_glow_21 (by decide) (by decide) (by decide) (by decide) ?_
        refine y_aload_n hC dX5_glow_71 (i := 3) rfl rfl ?_
        refine y_get hC fX5_218 dX5_glow_72 (k := 1 + 11 + ρ (a)) (hX.kU (i := a) (by omega)) (hX.rU hv (i := a) (by omega) (e4 (a) (by omega))) rfl ?_
        refine y_iret (hC := hC) (hd := dX5_glow_75) (hq := ?_)
        have hqq : qGlow S (nI a) (nI 3) = glQ S.r a 3 := by simp only [qGlow, nn_I (show a < 2147483648 by omega), if_pos c_5]; rw [if_pos (by decide)]; rfl
        rw [hqq]
        exact ⟨q1.2.2.symm, h.cp⟩
      · refine y_tabIn (off := 55) (tgt := 76) hC dX5_glow_21 (by decide) (by decide) (by decide) (by decide) ?_
        refine y_aload_n hC dX5_glow_76 (i := 3) rfl rfl ?_
        refine y_iconst (v := nI 0) hC dX5_glow_77 (by decide) ?_
        refine y_callV hC mX0_strength kX5_219 dX5_glow_78 (b := 1 + 11 + ρ (a)) (As := [.int (nI (0))]) (rest := []) (c_X0_strength l E g (1 + 11 + ρ (a)) (hX.kU (i := a) (by omega)) _ _ (gl S.r (a) 2) (gl S.r (a) 3) q3 q4 q5 (hX.rU hv (i := a) (by omega) (e4 (a) (by omega))) 0 (by omega)) (hX.kU (i := a) (by omega)) (hX.rU hv (i := a) (by omega) (e4 (a) (by omega))) rfl rfl rfl (Nat.le_of_ble_eq_true rfl) ⟨Nat.le_of_ble_eq_true rfl, Nat.le_of_ble_eq_true rfl⟩ (pk_i ?_)
        rintro r_78 g_78 ⟨hr_78, hq_78⟩
        obtain rfl := hq_78.symm
        rw [hr_78]
        clear hr_78 r_78
        refine y_iret (hC := hC) (hd := dX5_glow_81) (hq := ?_)
        have hqq : qGlow S (nI a) (nI 4) = glQ S.r a 4 := by simp only [qGlow, nn_I (show a < 2147483648 by omega), if_pos c_5]; rw [if_pos (by decide)]; rfl
        rw [hqq]
        exact ⟨rfl, h.cp⟩
    · refine y_tabOut (tgt := 82) hC dX5_glow_21 (by omega) (by decide) ?_
      refine y_bipush (v := (-2)) hC dX5_glow_82 (by decide) ?_
      refine y_iret (hC := hC) (hd := dX5_glow_84) (hq := ?_)
      have hqq : qGlow S (nI a) xb = -2 := by simp only [qGlow, nn_I (show a < 2147483648 by omega), if_pos c_5, if_neg hw]
      rw [hqq]
      exact ⟨rfl, h.cp⟩
  · refine y_iconst (v := (-1)) hC dX5_glow_8 (by decide) ?_
    refine y_iret (hC := hC) (hd := dX5_glow_9) (hq := ?_)
    have hqq : qGlow S xa xb = -1 := by simp only [qGlow, if_neg c_5]
    rw [hqq]
    exact ⟨rfl, h.cp⟩

