/-! ===== a state of the class: what is asked of it ===== -/
/-- what the cells of a state are, by its row -/
theorem zSt {E : gE} {g : Mem} {b : Nat} {r : Row} {B : Nat} (h : StA E g b r) (hv : Vr r B) : ∃ (co pi : Nat → Int32) (π ρ : Nat → Nat), b + 15 ≤ eK E ∧ g b = oB 4 [rf E (b + 1), rf E (b + 2), rf E (b + 3), rf E (b + 4), .int (nI (rc r)), .int (nI (gc r)), .int (nI (nn (r 156))), .int (nI (nn (r 157)))] ∧
    g (b + 1) = aI E 0 32 co ∧ g (b + 2) = aI E 0 64 pi ∧ g (b + 3) = aR E 3 6 (fun i => b + 5 + π i) ∧ g (b + 4) = aR E 4 4 (fun i => b + 11 + ρ i) ∧ (∀ i, i < 6 → b + 5 + π i < eK E) ∧ (∀ i, i < 4 → b + 11 + ρ i < eK E) ∧
    (∀ i, i < rc r → g (b + 5 + π i) = oB 3 [.int (nI (rg r i 0)), .int (nI (rg r i 1)), .int (nI (rg r i 2)), .int (nI (rg r i 3)), .int (nI (rg r i 4)), .int (nI (rg r i 5)), .int (nI (rg r i 6))]) ∧
    (∀ i, i < gc r → g (b + 11 + ρ i) = oB 0 [.int (nI (gl r i 0)), .int (r (76 + 4 * i + 1)), .int (nI (gl r i 2)), .int (nI (gl r i 3))]) ∧ (∀ k, k < 32 → co k = r k) ∧ (∀ k, k < 64 → pi k = r (92 + k)) := by
  obtain ⟨co, pi, π, ρ, V, U, n, h1, h2, h3, ⟨h4, h5, h6, h7⟩, h8, h9⟩ := h
  refine ⟨co, pi, π, ρ, h1.1, ?_, h1.2.2.2.1, h1.2.2.2.2.1, h1.2.2.2.2.2.1, h1.2.2.2.2.2.2.1, fun i hi => h1.kV hi, fun i hi => h1.kU hi, fun i hi => h1.rV hv hi (h8 i hi), fun i hi => h1.rU hv hi (h9 i hi), h2, h3⟩
  have := h1.2.2.1
  rw [h4, h5, h6, h7, hv.1.1, hv.2.1.1, hv.2.2.2.2.2.2.2.1.1, hv.2.2.2.2.2.2.2.2.1] at this
  exact this
/-- the answers of rangeAt, glowAt -/
def RgAt (E : gE) (g : Mem) (r : Row) (p : Nat) (o : Option Nat) : Prop := (o = none ∧ rAt r p = none) ∨ ∃ i a, rAt r p = some i ∧ i < rc r ∧ (rg r i 0 ≤ p ∧ p ≤ rg r i 1) ∧ o = some a ∧ a < eK E ∧ g a = oB 3 [.int (nI (rg r i 0)), .int (nI (rg r i 1)), .int (nI (rg r i 2)), .int (nI (rg r i 3)), .int (nI (rg r i 4)), .int (nI (rg r i 5)), .int (nI (rg r i 6))]
def GlAt (E : gE) (g : Mem) (r : Row) (p : Nat) (o : Option Nat) : Prop := (o = none ∧ gAt r p = none) ∨ ∃ i a, gAt r p = some i ∧ i < gc r ∧ gl r i 0 = p ∧ o = some a ∧ a < eK E ∧ g a = oB 0 [.int (nI (gl r i 0)), .int (r (76 + 4 * i + 1)), .int (nI (gl r i 2)), .int (nI (gl r i 3))]
theorem dX4_rangeAt_0 : decode cX4_rangeAt 0 = .ok (.iconst 0, 1) := by decide +kernel
theorem dX4_rangeAt_1 : decode cX4_rangeAt 1 = .ok (.istore_n 2, 1) := by decide +kernel
theorem dX4_rangeAt_2 : decode cX4_rangeAt 2 = .ok (.iload_n 2, 1) := by decide +kernel
theorem dX4_rangeAt_3 : decode cX4_rangeAt 3 = .ok (.aload_n 0, 1) := by decide +kernel
theorem dX4_rangeAt_4 : decode cX4_rangeAt 4 = .ok (.getfield 30, 3) := by decide +kernel
theorem dX4_rangeAt_7 : decode cX4_rangeAt 7 = .ok (.if_icmp .ge 29, 3) := by decide +kernel
theorem dX4_rangeAt_10 : decode cX4_rangeAt 10 = .ok (.aload_n 0, 1) := by decide +kernel
theorem dX4_rangeAt_11 : decode cX4_rangeAt 11 = .ok (.getfield 20, 3) := by decide +kernel
theorem dX4_rangeAt_14 : decode cX4_rangeAt 14 = .ok (.iload_n 2, 1) := by decide +kernel
theorem dX4_rangeAt_15 : decode cX4_rangeAt 15 = .ok (.aaload, 1) := by decide +kernel
theorem dX4_rangeAt_16 : decode cX4_rangeAt 16 = .ok (.iload_n 1, 1) := by decide +kernel
theorem dX4_rangeAt_17 : decode cX4_rangeAt 17 = .ok (.invokevirtual 58, 3) := by decide +kernel
theorem dX4_rangeAt_20 : decode cX4_rangeAt 20 = .ok (.ifCond .eq 10, 3) := by decide +kernel
theorem dX4_rangeAt_23 : decode cX4_rangeAt 23 = .ok (.aload_n 0, 1) := by decide +kernel
theorem dX4_rangeAt_24 : decode cX4_rangeAt 24 = .ok (.getfield 20, 3) := by decide +kernel
theorem dX4_rangeAt_27 : decode cX4_rangeAt 27 = .ok (.iload_n 2, 1) := by decide +kernel
theorem dX4_rangeAt_28 : decode cX4_rangeAt 28 = .ok (.aaload, 1) := by decide +kernel
theorem dX4_rangeAt_29 : decode cX4_rangeAt 29 = .ok (.areturn, 1) := by decide +kernel
theorem dX4_rangeAt_30 : decode cX4_rangeAt 30 = .ok (.iinc 2 1, 3) := by decide +kernel
theorem dX4_rangeAt_33 : decode cX4_rangeAt 33 = .ok (.goto (-31), 3) := by decide +kernel
theorem dX4_rangeAt_36 : decode cX4_rangeAt 36 = .ok (.aconst_null, 1) := by decide +kernel
theorem dX4_rangeAt_37 : decode cX4_rangeAt 37 = .ok (.areturn, 1) := by decide +kernel
set_option maxHeartbeats 4000000 in
set_option maxRecDepth 100000 in
theorem c_X4_rangeAt (l : Launch) (E : gE) (g : Mem) (b : Nat) (r : Row) (B : Nat) (hB : B < 100000000) (h : StA E g b r) (hv : Vr r B) (p : Nat) (hp : p < 2147483648) : Mt l E yX4_rangeAt cX4_rangeAt 3 (some (.object "PaletteTurns$Range")) 1 21 [rf E (b), .int (nI (p))] g (pR E (fun o g' => g' = g ∧ RgAt E g r p o)) := by
  obtain ⟨co, pi, π, ρ, hK, s0, s1, s2, s3, s4, kV, kU, sV, sU, e1, e2⟩ := zSt h hv
  have hrc : rc r ≤ 6 := hv.1.2
  have hgc : gc r ≤ 4 := hv.2.1.2
  have hS0 : b < eK E := by omega
  have hS1 : b + 1 < eK E := by omega
  have hS2 : b + 2 < eK E := by omega
  have hS3 : b + 3 < eK E := by omega
  have hS4 : b + 4 < eK E := by omega
  refine mt_go (own := RX4) (by decide) rfl (lo := [some (rf E (b)), some (.int (nI (p))), none]) rfl (Nat.le_of_ble_eq_true rfl) (fun X hC => ?_)
  refine y_iconst (v := nI 0) hC dX4_rangeAt_0 (by decide) ?_
  refine y_istore_n hC dX4_rangeAt_1 (i := 2) rfl (Nat.le_of_ble_eq_true rfl) rfl (lo' := [some (rf E (b)), some (.int (nI (p))), some (.int (nI (0)))]) rfl ?_
  have L_2 : ∀ (m : Nat) (i : Nat), (hm : rc r - i < m) → (hi : i ≤ rc r) → (hk : ∀ k, k < i → ¬(rg r k 0 ≤ p ∧ p ≤ rg r k 1)) → Y l E X (pR E (fun o g' => g' = g ∧ RgAt E g r p o)) 2 [some (rf E (b)), some (.int (nI (p))), some (.int (nI (i)))] [] g := by
    intro m
    induction m with
    | zero => intro i hm hi hk; exact absurd hm (Nat.not_lt_zero _)
    | succ m ih_2 =>
      intro i hm hi hk
      refine y_iload_n hC dX4_rangeAt_2 (i := 2) rfl rfl ?_
      refine y_aload_n hC dX4_rangeAt_3 (i := 0) rfl rfl ?_
      refine y_get hC fX4_30 dX4_rangeAt_4 (k := b) hS0 s0 rfl ?_
      refine y_icmp_ge_n (tgt := 36) hC dX4_rangeAt_7 (by decide) (by omega) (by omega) (fun c_7 => ?_) (fun c_7 => ?_)
      · refine y_null hC dX4_rangeAt_36 ?_
        refine y_aret (hrt := rfl) (hC := hC) (hd := dX4_rangeAt_37) (hq := ?_)
        exact ⟨rfl, Or.inl ⟨rfl, fst_none (fun k hkk => decide_eq_false (hk k (by omega)))⟩⟩
      · have hlt : i < rc r := by omega
        have hk0 := hk
        obtain ⟨q1, q2, q3, q4, q5, q6, q7, q8, q9⟩ := hv.rg (i := i) (by omega)
        refine y_aload_n hC dX4_rangeAt_10 (i := 0) rfl rfl ?_
        refine y_get hC fX4_20 dX4_rangeAt_11 (k := b) hS0 s0 rfl ?_
        refine y_iload_n hC dX4_rangeAt_14 (i := 2) rfl rfl ?_
        refine y_aald hC (Or.inl ⟨rfl, rfl, rfl⟩ : yT 3 3 RX3) dX4_rangeAt_15 (k := b + 3) (j := i) hS3 s3 (rfl) (by omega) (by decide) ?_
        refine y_iload_n hC dX4_rangeAt_16 (i := 1) rfl rfl ?_
        refine y_callV hC mX3_holds kX4_58 dX4_rangeAt_17 (b := b + 5 + π (i)) (As := [.int (nI (p))]) (rest := []) (c_X3_holds l E g (b + 5 + π i) (kV i (by omega)) (rg r (i) 0) (rg r (i) 1) (rg r (i) 2) (rg r (i) 3) (rg r (i) 4) (rg r (i) 5) (rg r (i) 6) q2 q3 q4 q5 q6 q7 q8 (by omega) (sV i (by omega)) p hp) (kV (i) (by omega)) (sV (i) (by omega)) rfl rfl rfl (Nat.le_of_ble_eq_true rfl) ⟨Nat.le_of_ble_eq_true rfl, Nat.le_of_ble_eq_true rfl⟩ (pk_i ?_)
        rintro r_17 g_17 ⟨hr_17, hq_17⟩
        obtain rfl := hq_17.symm
        rw [hr_17]
        clear hr_17 r_17
        refine y_if_eq_b (tgt := 30) hC dX4_rangeAt_20 (by decide) (fun c_20 => ?_) (fun c_20 => ?_)
        · refine y_iinc_n hC dX4_rangeAt_30 (a := i) (k := 1) rfl (by decide) (Nat.le_of_ble_eq_true rfl) rfl (lo' := [some (rf E (b)), some (.int (nI (p))), some (.int (nI (i + 1)))]) rfl ?_
          refine y_goto (tgt := 2) hC dX4_rangeAt_33 (by decide) ?_
          exact ih_2 i.succ (by omega) (by omega) (fun k hk => (Nat.lt_succ_iff_lt_or_eq.mp hk).elim (hk0 k) (fun e => e ▸ c_20))
        · refine y_aload_n hC dX4_rangeAt_23 (i := 0) rfl rfl ?_
          refine y_get hC fX4_20 dX4_rangeAt_24 (k := b) hS0 s0 rfl ?_
          refine y_iload_n hC dX4_rangeAt_27 (i := 2) rfl rfl ?_
          refine y_aald hC (Or.inl ⟨rfl, rfl, rfl⟩ : yT 3 3 RX3) dX4_rangeAt_28 (k := b + 3) (j := i) hS3 s3 (rfl) (by omega) (by decide) ?_
          refine y_aret (hrt := rfl) (o := some (b + 5 + π (i))) (hC := hC) (hd := dX4_rangeAt_29) (hq := ?_)
          exact ⟨rfl, Or.inr ⟨i, b + 5 + π i, fst_some hlt (decide_eq_true c_20) (fun k hkk => decide_eq_false (hk k hkk)), hlt, c_20, rfl, kV i (by omega), sV i hlt⟩⟩
  exact L_2 (rc r + 1) 0 (by omega) (by omega) (fun k hk => absurd hk (Nat.not_lt_zero k))

theorem dX4_glowAt_0 : decode cX4_glowAt 0 = .ok (.iconst 0, 1) := by decide +kernel
theorem dX4_glowAt_1 : decode cX4_glowAt 1 = .ok (.istore_n 2, 1) := by decide +kernel
theorem dX4_glowAt_2 : decode cX4_glowAt 2 = .ok (.iload_n 2, 1) := by decide +kernel
theorem dX4_glowAt_3 : decode cX4_glowAt 3 = .ok (.aload_n 0, 1) := by decide +kernel
theorem dX4_glowAt_4 : decode cX4_glowAt 4 = .ok (.getfield 34, 3) := by decide +kernel
theorem dX4_glowAt_7 : decode cX4_glowAt 7 = .ok (.if_icmp .ge 29, 3) := by decide +kernel
theorem dX4_glowAt_10 : decode cX4_glowAt 10 = .ok (.aload_n 0, 1) := by decide +kernel
theorem dX4_glowAt_11 : decode cX4_glowAt 11 = .ok (.getfield 26, 3) := by decide +kernel
theorem dX4_glowAt_14 : decode cX4_glowAt 14 = .ok (.iload_n 2, 1) := by decide +kernel
theorem dX4_glowAt_15 : decode cX4_glowAt 15 = .ok (.aaload, 1) := by decide +kernel
theorem dX4_glowAt_16 : decode cX4_glowAt 16 = .ok (.getfield 62, 3) := by decide +kernel
theorem dX4_glowAt_19 : decode cX4_glowAt 19 = .ok (.iload_n 1, 1) := by decide +kernel
theorem dX4_glowAt_20 : decode cX4_glowAt 20 = .ok (.if_icmp .ne 10, 3) := by decide +kernel
theorem dX4_glowAt_23 : decode cX4_glowAt 23 = .ok (.aload_n 0, 1) := by decide +kernel
theorem dX4_glowAt_24 : decode cX4_glowAt 24 = .ok (.getfield 26, 3) := by decide +kernel
theorem dX4_glowAt_27 : decode cX4_glowAt 27 = .ok (.iload_n 2, 1) := by decide +kernel
theorem dX4_glowAt_28 : decode cX4_glowAt 28 = .ok (.aaload, 1) := by decide +kernel
theorem dX4_glowAt_29 : decode cX4_glowAt 29 = .ok (.areturn, 1) := by decide +kernel
theorem dX4_glowAt_30 : decode cX4_glowAt 30 = .ok (.iinc 2 1, 3) := by decide +kernel
theorem dX4_glowAt_33 : decode cX4_glowAt 33 = .ok (.goto (-31), 3) := by decide +kernel
theorem dX4_glowAt_36 : decode cX4_glowAt 36 = .ok (.aconst_null, 1) := by decide +kernel
theorem dX4_glowAt_37 : decode cX4_glowAt 37 = .ok (.areturn, 1) := by decide +kernel
set_option maxHeartbeats 4000000 in
set_option maxRecDepth 100000 in
theorem c_X4_glowAt (l : Launch) (E : gE) (g : Mem) (b : Nat) (r : Row) (B : Nat) (hB : B < 100000000) (h : StA E g b r) (hv : Vr r B) (p : Nat) (hp : p < 2147483648) : Mt l E yX4_glowAt cX4_glowAt 3 (some (.object "PaletteTurns$Glow")) 0 0 [rf E (b), .int (nI (p))] g (pR E (fun o g' => g' = g ∧ GlAt E g r p o)) := by
  obtain ⟨co, pi, π, ρ, hK, s0, s1, s2, s3, s4, kV, kU, sV, sU, e1, e2⟩ := zSt h hv
  have hrc : rc r ≤ 6 := hv.1.2
  have hgc : gc r ≤ 4 := hv.2.1.2
  have hS0 : b < eK E := by omega
  have hS1 : b + 1 < eK E := by omega
  have hS2 : b + 2 < eK E := by omega
  have hS3 : b + 3 < eK E := by omega
  have hS4 : b + 4 < eK E := by omega
  refine mt_go (own := RX4) (by decide) rfl (lo := [some (rf E (b)), some (.int (nI (p))), none]) rfl (Nat.le_of_ble_eq_true rfl) (fun X hC => ?_)
  refine y_iconst (v := nI 0) hC dX4_glowAt_0 (by decide) ?_
  refine y_istore_n hC dX4_glowAt_1 (i := 2) rfl (Nat.le_of_ble_eq_true rfl) rfl (lo' := [some (rf E (b)), some (.int (nI (p))), some (.int (nI (0)))]) rfl ?_
  have L_2 : ∀ (m : Nat) (i : Nat), (hm : gc r - i < m) → (hi : i ≤ gc r) → (hk : ∀ k, k < i → ¬ gl r k 0 = p) → Y l E X (pR E (fun o g' => g' = g ∧ GlAt E g r p o)) 2 [some (rf E (b)), some (.int (nI (p))), some (.int (nI (i)))] [] g := by
    intro m
    induction m with
    | zero => intro i hm hi hk; exact absurd hm (Nat.not_lt_zero _)
    | succ m ih_2 =>
      intro i hm hi hk
      refine y_iload_n hC dX4_glowAt_2 (i := 2) rfl rfl ?_
      refine y_aload_n hC dX4_glowAt_3 (i := 0) rfl rfl ?_
      refine y_get hC fX4_34 dX4_glowAt_4 (k := b) hS0 s0 rfl ?_
      refine y_icmp_ge_n (tgt := 36) hC dX4_glowAt_7 (by decide) (by omega) (by omega) (fun c_7 => ?_) (fun c_7 => ?_)
      · refine y_null hC dX4_glowAt_36 ?_
        refine y_aret (hrt := rfl) (hC := hC) (hd := dX4_glowAt_37) (hq := ?_)
        exact ⟨rfl, Or.inl ⟨rfl, fst_none (fun k hkk => decide_eq_false (hk k (by omega)))⟩⟩
      · have hlt : i < gc r := by omega
        have hk0 := hk
        obtain ⟨q1, q2, q3, q4, q5⟩ := hv.gl (i := i) (by omega)
        refine y_aload_n hC dX4_glowAt_10 (i := 0) rfl rfl ?_
        refine y_get hC fX4_26 dX4_glowAt_11 (k := b) hS0 s0 rfl ?_
        refine y_iload_n hC dX4_glowAt_14 (i := 2) rfl rfl ?_
        refine y_aald hC (Or.inr (Or.inl ⟨rfl, rfl, rfl⟩) : yT 4 0 RX0) dX4_glowAt_15 (k := b + 4) (j := i) hS4 s4 (rfl) (by omega) (by decide) ?_
        refine y_get hC fX4_62 dX4_glowAt_16 (k := b + 11 + ρ (i)) (kU (i) (by omega)) (sU (i) (by omega)) rfl ?_
        refine y_iload_n hC dX4_glowAt_19 (i := 1) rfl rfl ?_
        refine y_icmp_ne_n (tgt := 30) hC dX4_glowAt_20 (by decide) (by omega) (by omega) (fun c_20 => ?_) (fun c_20 => ?_)
        · refine y_iinc_n hC dX4_glowAt_30 (a := i) (k := 1) rfl (by decide) (Nat.le_of_ble_eq_true rfl) rfl (lo' := [some (rf E (b)), some (.int (nI (p))), some (.int (nI (i + 1)))]) rfl ?_
          refine y_goto (tgt := 2) hC dX4_glowAt_33 (by decide) ?_
          exact ih_2 i.succ (by omega) (by omega) (fun k hk => (Nat.lt_succ_iff_lt_or_eq.mp hk).elim (hk0 k) (fun e => e ▸ c_20))
        · refine y_aload_n hC dX4_glowAt_23 (i := 0) rfl rfl ?_
          refine y_get hC fX4_26 dX4_glowAt_24 (k := b) hS0 s0 rfl ?_
          refine y_iload_n hC dX4_glowAt_27 (i := 2) rfl rfl ?_
          refine y_aald hC (Or.inr (Or.inl ⟨rfl, rfl, rfl⟩) : yT 4 0 RX0) dX4_glowAt_28 (k := b + 4) (j := i) hS4 s4 (rfl) (by omega) (by decide) ?_
          refine y_aret (hrt := rfl) (o := some (b + 11 + ρ (i))) (hC := hC) (hd := dX4_glowAt_29) (hq := ?_)
          exact ⟨rfl, Or.inr ⟨i, b + 11 + ρ i, fst_some hlt (decide_eq_true c_20) (fun k hkk => decide_eq_false (hk k hkk)), hlt, c_20, rfl, kU i (by omega), sU i hlt⟩⟩
  exact L_2 (gc r + 1) 0 (by omega) (by omega) (fun k hk => absurd hk (Nat.not_lt_zero k))

theorem dX4_hasRangeBetween_0 : decode cX4_hasRangeBetween 0 = .ok (.iconst 0, 1) := by decide +kernel
theorem dX4_hasRangeBetween_1 : decode cX4_hasRangeBetween 1 = .ok (.istore_n 3, 1) := by decide +kernel
theorem dX4_hasRangeBetween_2 : decode cX4_hasRangeBetween 2 = .ok (.iload_n 3, 1) := by decide +kernel
theorem dX4_hasRangeBetween_3 : decode cX4_hasRangeBetween 3 = .ok (.aload_n 0, 1) := by decide +kernel
theorem dX4_hasRangeBetween_4 : decode cX4_hasRangeBetween 4 = .ok (.getfield 30, 3) := by decide +kernel
theorem dX4_hasRangeBetween_7 : decode cX4_hasRangeBetween 7 = .ok (.if_icmp .ge 37, 3) := by decide +kernel
theorem dX4_hasRangeBetween_10 : decode cX4_hasRangeBetween 10 = .ok (.aload_n 0, 1) := by decide +kernel
theorem dX4_hasRangeBetween_11 : decode cX4_hasRangeBetween 11 = .ok (.getfield 20, 3) := by decide +kernel
theorem dX4_hasRangeBetween_14 : decode cX4_hasRangeBetween 14 = .ok (.iload_n 3, 1) := by decide +kernel
theorem dX4_hasRangeBetween_15 : decode cX4_hasRangeBetween 15 = .ok (.aaload, 1) := by decide +kernel
theorem dX4_hasRangeBetween_16 : decode cX4_hasRangeBetween 16 = .ok (.getfield 65, 3) := by decide +kernel
theorem dX4_hasRangeBetween_19 : decode cX4_hasRangeBetween 19 = .ok (.iload_n 2, 1) := by decide +kernel
theorem dX4_hasRangeBetween_20 : decode cX4_hasRangeBetween 20 = .ok (.if_icmp .gt 18, 3) := by decide +kernel
theorem dX4_hasRangeBetween_23 : decode cX4_hasRangeBetween 23 = .ok (.aload_n 0, 1) := by decide +kernel
theorem dX4_hasRangeBetween_24 : decode cX4_hasRangeBetween 24 = .ok (.getfield 20, 3) := by decide +kernel
theorem dX4_hasRangeBetween_27 : decode cX4_hasRangeBetween 27 = .ok (.iload_n 3, 1) := by decide +kernel
theorem dX4_hasRangeBetween_28 : decode cX4_hasRangeBetween 28 = .ok (.aaload, 1) := by decide +kernel
theorem dX4_hasRangeBetween_29 : decode cX4_hasRangeBetween 29 = .ok (.getfield 68, 3) := by decide +kernel
theorem dX4_hasRangeBetween_32 : decode cX4_hasRangeBetween 32 = .ok (.iload_n 1, 1) := by decide +kernel
theorem dX4_hasRangeBetween_33 : decode cX4_hasRangeBetween 33 = .ok (.if_icmp .lt 5, 3) := by decide +kernel
theorem dX4_hasRangeBetween_36 : decode cX4_hasRangeBetween 36 = .ok (.iconst 1, 1) := by decide +kernel
theorem dX4_hasRangeBetween_37 : decode cX4_hasRangeBetween 37 = .ok (.ireturn, 1) := by decide +kernel
theorem dX4_hasRangeBetween_38 : decode cX4_hasRangeBetween 38 = .ok (.iinc 3 1, 3) := by decide +kernel
theorem dX4_hasRangeBetween_41 : decode cX4_hasRangeBetween 41 = .ok (.goto (-39), 3) := by decide +kernel
theorem dX4_hasRangeBetween_44 : decode cX4_hasRangeBetween 44 = .ok (.iconst 0, 1) := by decide +kernel
theorem dX4_hasRangeBetween_45 : decode cX4_hasRangeBetween 45 = .ok (.ireturn, 1) := by decide +kernel
set_option maxHeartbeats 4000000 in
set_option maxRecDepth 100000 in
theorem c_X4_hasRangeBetween (l : Launch) (E : gE) (g : Mem) (b : Nat) (r : Row) (B : Nat) (hB : B < 100000000) (h : StA E g b r) (hv : Vr r B) (f la : Nat) (hf : f < 32) (hla : la < 32) : Mt l E yX4_hasRangeBetween cX4_hasRangeBetween 4 (some .boolean) 0 0 [rf E (b), .int (nI (f)), .int (nI (la))] g (pI (fun z g' => z = bI (ovl r f la = true) ∧ g' = g)) := by
  obtain ⟨co, pi, π, ρ, hK, s0, s1, s2, s3, s4, kV, kU, sV, sU, e1, e2⟩ := zSt h hv
  have hrc : rc r ≤ 6 := hv.1.2
  have hgc : gc r ≤ 4 := hv.2.1.2
  have hS0 : b < eK E := by omega
  have hS1 : b + 1 < eK E := by omega
  have hS2 : b + 2 < eK E := by omega
  have hS3 : b + 3 < eK E := by omega
  have hS4 : b + 4 < eK E := by omega
  refine mt_go (own := RX4) (by decide) rfl (lo := [some (rf E (b)), some (.int (nI (f))), some (.int (nI (la))), none]) rfl (Nat.le_of_ble_eq_true rfl) (fun X hC => ?_)
  refine y_iconst (v := nI 0) hC dX4_hasRangeBetween_0 (by decide) ?_
  refine y_istore_n hC dX4_hasRangeBetween_1 (i := 3) rfl (Nat.le_of_ble_eq_true rfl) rfl (lo' := [some (rf E (b)), some (.int (nI (f))), some (.int (nI (la))), some (.int (nI (0)))]) rfl ?_
  have L_2 : ∀ (m : Nat) (i : Nat), (hm : rc r - i < m) → (hi : i ≤ rc r) → (hk : ∀ k, k < i → ¬(rg r k 0 ≤ la ∧ f ≤ rg r k 1)) → Y l E X (pI (fun z g' => z = bI (ovl r f la = true) ∧ g' = g)) 2 [some (rf E (b)), some (.int (nI (f))), some (.int (nI (la))), some (.int (nI (i)))] [] g := by
    intro m
    induction m with
    | zero => intro i hm hi hk; exact absurd hm (Nat.not_lt_zero _)
    | succ m ih_2 =>
      intro i hm hi hk
      refine y_iload_n hC dX4_hasRangeBetween_2 (i := 3) rfl rfl ?_
      refine y_aload_n hC dX4_hasRangeBetween_3 (i := 0) rfl rfl ?_
      refine y_get hC fX4_30 dX4_hasRangeBetween_4 (k := b) hS0 s0 rfl ?_
      refine y_icmp_ge_n (tgt := 44) hC dX4_hasRangeBetween_7 (by decide) (by omega) (by omega) (fun c_7 => ?_) (fun c_7 => ?_)
      · refine y_iconst (v := nI 0) hC dX4_hasRangeBetween_44 (by decide) ?_
        refine y_zret (hrt := rfl) (hn := rfl) (hC := hC) (hd := dX4_hasRangeBetween_45) (hq := ?_)
        refine ⟨(bI_f ?_).symm, rfl⟩
        unfold ovl
        rw [fst_none (fun k hkk => decide_eq_false (hk k (by omega)))]
        decide
      · have hlt : i < rc r := by omega
        have hk0 := hk
        obtain ⟨q1, q2, q3, q4, q5, q6, q7, q8, q9⟩ := hv.rg (i := i) (by omega)
        refine y_aload_n hC dX4_hasRangeBetween_10 (i := 0) rfl rfl ?_
        refine y_get hC fX4_20 dX4_hasRangeBetween_11 (k := b) hS0 s0 rfl ?_
        refine y_iload_n hC dX4_hasRangeBetween_14 (i := 3) rfl rfl ?_
        refine y_aald hC (Or.inl ⟨rfl, rfl, rfl⟩ : yT 3 3 RX3) dX4_hasRangeBetween_15 (k := b + 3) (j := i) hS3 s3 (rfl) (by omega) (by decide) ?_
        refine y_get hC fX4_65 dX4_hasRangeBetween_16 (k := b + 5 + π (i)) (kV (i) (by omega)) (sV (i) (by omega)) rfl ?_
        refine y_iload_n hC dX4_hasRangeBetween_19 (i := 2) rfl rfl ?_
        refine y_icmp_gt_n (tgt := 38) hC dX4_hasRangeBetween_20 (by decide) (by omega) (by omega) (fun c_20 => ?_) (fun c_20 => ?_)
        · refine y_iinc_n hC dX4_hasRangeBetween_38 (a := i) (k := 1) rfl (by decide) (Nat.le_of_ble_eq_true rfl) rfl (lo' := [some (rf E (b)), some (.int (nI (f))), some (.int (nI (la))), some (.int (nI (i + 1)))]) rfl ?_
          refine y_goto (tgt := 2) hC dX4_hasRangeBetween_41 (by decide) ?_
          exact ih_2 i.succ (by omega) (by omega) (fun k hk => (Nat.lt_succ_iff_lt_or_eq.mp hk).elim (hk0 k) (fun e => by rw [e]; omega))
        · refine y_aload_n hC dX4_hasRangeBetween_23 (i := 0) rfl rfl ?_
          refine y_get hC fX4_20 dX4_hasRangeBetween_24 (k := b) hS0 s0 rfl ?_
          refine y_iload_n hC dX4_hasRangeBetween_27 (i := 3) rfl rfl ?_
          refine y_aald hC (Or.inl ⟨rfl, rfl, rfl⟩ : yT 3 3 RX3) dX4_hasRangeBetween_28 (k := b + 3) (j := i) hS3 s3 (rfl) (by omega) (by decide) ?_
          refine y_get hC fX4_68 dX4_hasRangeBetween_29 (k := b + 5 + π (i)) (kV (i) (by omega)) (sV (i) (by omega)) rfl ?_
          refine y_iload_n hC dX4_hasRangeBetween_32 (i := 1) rfl rfl ?_
          refine y_icmp_lt_n (tgt := 38) hC dX4_hasRangeBetween_33 (by decide) (by omega) (by omega) (fun c_33 => ?_) (fun c_33 => ?_)
          · refine y_iinc_n hC dX4_hasRangeBetween_38 (a := i) (k := 1) rfl (by decide) (Nat.le_of_ble_eq_true rfl) rfl (lo' := [some (rf E (b)), some (.int (nI (f))), some (.int (nI (la))), some (.int (nI (i + 1)))]) rfl ?_
            refine y_goto (tgt := 2) hC dX4_hasRangeBetween_41 (by decide) ?_
            exact ih_2 i.succ (by omega) (by omega) (fun k hk => (Nat.lt_succ_iff_lt_or_eq.mp hk).elim (hk0 k) (fun e => by rw [e]; omega))
          · refine y_iconst (v := nI 1) hC dX4_hasRangeBetween_36 (by decide) ?_
            refine y_zret (hrt := rfl) (hn := rfl) (hC := hC) (hd := dX4_hasRangeBetween_37) (hq := ?_)
            refine ⟨(bI_t ?_).symm, rfl⟩
            unfold ovl
            rw [fst_some hlt (decide_eq_true ⟨by omega, by omega⟩) (fun k hkk => decide_eq_false (hk k hkk))]
            exact rfl
  exact L_2 (rc r + 1) 0 (by omega) (by omega) (fun k hk => absurd hk (Nat.not_lt_zero k))

theorem dX4_runningRanges_0 : decode cX4_runningRanges 0 = .ok (.iconst 0, 1) := by decide +kernel
theorem dX4_runningRanges_1 : decode cX4_runningRanges 1 = .ok (.istore_n 1, 1) := by decide +kernel
theorem dX4_runningRanges_2 : decode cX4_runningRanges 2 = .ok (.iconst 0, 1) := by decide +kernel
theorem dX4_runningRanges_3 : decode cX4_runningRanges 3 = .ok (.istore_n 2, 1) := by decide +kernel
theorem dX4_runningRanges_4 : decode cX4_runningRanges 4 = .ok (.iload_n 2, 1) := by decide +kernel
theorem dX4_runningRanges_5 : decode cX4_runningRanges 5 = .ok (.aload_n 0, 1) := by decide +kernel
theorem dX4_runningRanges_6 : decode cX4_runningRanges 6 = .ok (.getfield 30, 3) := by decide +kernel
theorem dX4_runningRanges_9 : decode cX4_runningRanges 9 = .ok (.if_icmp .ge 24, 3) := by decide +kernel
theorem dX4_runningRanges_12 : decode cX4_runningRanges 12 = .ok (.aload_n 0, 1) := by decide +kernel
theorem dX4_runningRanges_13 : decode cX4_runningRanges 13 = .ok (.getfield 20, 3) := by decide +kernel
theorem dX4_runningRanges_16 : decode cX4_runningRanges 16 = .ok (.iload_n 2, 1) := by decide +kernel
theorem dX4_runningRanges_17 : decode cX4_runningRanges 17 = .ok (.aaload, 1) := by decide +kernel
theorem dX4_runningRanges_18 : decode cX4_runningRanges 18 = .ok (.getfield 90, 3) := by decide +kernel
theorem dX4_runningRanges_21 : decode cX4_runningRanges 21 = .ok (.ifCond .eq 6, 3) := by decide +kernel
theorem dX4_runningRanges_24 : decode cX4_runningRanges 24 = .ok (.iinc 1 1, 3) := by decide +kernel
theorem dX4_runningRanges_27 : decode cX4_runningRanges 27 = .ok (.iinc 2 1, 3) := by decide +kernel
theorem dX4_runningRanges_30 : decode cX4_runningRanges 30 = .ok (.goto (-26), 3) := by decide +kernel
theorem dX4_runningRanges_33 : decode cX4_runningRanges 33 = .ok (.iload_n 1, 1) := by decide +kernel
theorem dX4_runningRanges_34 : decode cX4_runningRanges 34 = .ok (.ireturn, 1) := by decide +kernel
set_option maxHeartbeats 4000000 in
set_option maxRecDepth 100000 in
theorem c_X4_runningRanges (l : Launch) (E : gE) (g : Mem) (b : Nat) (r : Row) (B : Nat) (hB : B < 100000000) (h : StA E g b r) (hv : Vr r B) : Mt l E yX4_runningRanges cX4_runningRanges 3 (some .int) 0 0 [rf E (b)] g (pI (fun z g' => z = nI (cn (rc r) (fun i => decide (rg r i 4 = 1))) ∧ g' = g)) := by
  obtain ⟨co, pi, π, ρ, hK, s0, s1, s2, s3, s4, kV, kU, sV, sU, e1, e2⟩ := zSt h hv
  have hrc : rc r ≤ 6 := hv.1.2
  have hgc : gc r ≤ 4 := hv.2.1.2
  have hS0 : b < eK E := by omega
  have hS1 : b + 1 < eK E := by omega
  have hS2 : b + 2 < eK E := by omega
  have hS3 : b + 3 < eK E := by omega
  have hS4 : b + 4 < eK E := by omega
  refine mt_go (own := RX4) (by decide) rfl (lo := [some (rf E (b)), none, none]) rfl (Nat.le_of_ble_eq_true rfl) (fun X hC => ?_)
  refine y_iconst (v := nI 0) hC dX4_runningRanges_0 (by decide) ?_
  refine y_istore_n hC dX4_runningRanges_1 (i := 1) rfl (Nat.le_of_ble_eq_true rfl) rfl (lo' := [some (rf E (b)), some (.int (nI (0))), none]) rfl ?_
  refine y_iconst (v := nI 0) hC dX4_runningRanges_2 (by decide) ?_
  refine y_istore_n hC dX4_runningRanges_3 (i := 2) rfl (Nat.le_of_ble_eq_true rfl) rfl (lo' := [some (rf E (b)), some (.int (nI (0))), some (.int (nI (0)))]) rfl ?_
  have L_4 : ∀ (m : Nat) (i c : Nat), (hm : rc r - i < m) → (hi : i ≤ rc r) → (hc : c = cn i (fun i => decide (rg r i 4 = 1))) → Y l E X (pI (fun z g' => z = nI (cn (rc r) (fun i => decide (rg r i 4 = 1))) ∧ g' = g)) 4 [some (rf E (b)), some (.int (nI (c))), some (.int (nI (i)))] [] g := by
    intro m
    induction m with
    | zero => intro i c hm hi hc; exact absurd hm (Nat.not_lt_zero _)
    | succ m ih_4 =>
      intro i c hm hi hc
      refine y_iload_n hC dX4_runningRanges_4 (i := 2) rfl rfl ?_
      refine y_aload_n hC dX4_runningRanges_5 (i := 0) rfl rfl ?_
      refine y_get hC fX4_30 dX4_runningRanges_6 (k := b) hS0 s0 rfl ?_
      refine y_icmp_ge_n (tgt := 33) hC dX4_runningRanges_9 (by decide) (by omega) (by omega) (fun c_9 => ?_) (fun c_9 => ?_)
      · refine y_iload_n hC dX4_runningRanges_33 (i := 1) rfl rfl ?_
        refine y_iret (hC := hC) (hd := dX4_runningRanges_34) (hq := ?_)
        exact ⟨congrArg nI (by rw [hc, show i = rc r by omega]), rfl⟩
      · have hlt : i < rc r := by omega
        obtain ⟨q1, q2, q3, q4, q5, q6, q7, q8, q9⟩ := hv.rg (i := i) (by omega)
        have hcl := cn_le i (fun i => decide (rg r i 4 = 1))
        refine y_aload_n hC dX4_runningRanges_12 (i := 0) rfl rfl ?_
        refine y_get hC fX4_20 dX4_runningRanges_13 (k := b) hS0 s0 rfl ?_
        refine y_iload_n hC dX4_runningRanges_16 (i := 2) rfl rfl ?_
        refine y_aald hC (Or.inl ⟨rfl, rfl, rfl⟩ : yT 3 3 RX3) dX4_runningRanges_17 (k := b + 3) (j := i) hS3 s3 (rfl) (by omega) (by decide) ?_
        refine y_get hC fX4_90 dX4_runningRanges_18 (k := b + 5 + π (i)) (kV (i) (by omega)) (sV (i) (by omega)) rfl ?_
        refine y_if_eq_n (tgt := 27) hC dX4_runningRanges_21 (by decide) (by omega) (fun c_21 => ?_) (fun c_21 => ?_)
        · refine y_iinc_n hC dX4_runningRanges_27 (a := i) (k := 1) rfl (by decide) (Nat.le_of_ble_eq_true rfl) rfl (lo' := [some (rf E (b)), some (.int (nI (c))), some (.int (nI (i + 1)))]) rfl ?_
          refine y_goto (tgt := 4) hC dX4_runningRanges_30 (by decide) ?_
          exact ih_4 (i + 1) _ (by omega) (by omega) (by rw [cn_s, ← hc]; simp only [decide_eq_true_eq]; split <;> omega)
        · refine y_iinc_n hC dX4_runningRanges_24 (a := c) (k := 1) rfl (by decide) (Nat.le_of_ble_eq_true rfl) rfl (lo' := [some (rf E (b)), some (.int (nI (c + 1))), some (.int (nI (i)))]) rfl ?_
          refine y_iinc_n hC dX4_runningRanges_27 (a := i) (k := 1) rfl (by decide) (Nat.le_of_ble_eq_true rfl) rfl (lo' := [some (rf E (b)), some (.int (nI (c + 1))), some (.int (nI (i + 1)))]) rfl ?_
          refine y_goto (tgt := 4) hC dX4_runningRanges_30 (by decide) ?_
          exact ih_4 (i + 1) _ (by omega) (by omega) (by rw [cn_s, ← hc]; simp only [decide_eq_true_eq]; split <;> omega)
  exact L_4 (rc r + 1) 0 0 (by omega) (by omega) rfl

theorem dX4_placesInRanges_0 : decode cX4_placesInRanges 0 = .ok (.iconst 0, 1) := by decide +kernel
theorem dX4_placesInRanges_1 : decode cX4_placesInRanges 1 = .ok (.istore_n 1, 1) := by decide +kernel
theorem dX4_placesInRanges_2 : decode cX4_placesInRanges 2 = .ok (.iconst 0, 1) := by decide +kernel
theorem dX4_placesInRanges_3 : decode cX4_placesInRanges 3 = .ok (.istore_n 2, 1) := by decide +kernel
theorem dX4_placesInRanges_4 : decode cX4_placesInRanges 4 = .ok (.iload_n 2, 1) := by decide +kernel
theorem dX4_placesInRanges_5 : decode cX4_placesInRanges 5 = .ok (.aload_n 0, 1) := by decide +kernel
theorem dX4_placesInRanges_6 : decode cX4_placesInRanges 6 = .ok (.getfield 30, 3) := by decide +kernel
theorem dX4_placesInRanges_9 : decode cX4_placesInRanges 9 = .ok (.if_icmp .ge 21, 3) := by decide +kernel
theorem dX4_placesInRanges_12 : decode cX4_placesInRanges 12 = .ok (.iload_n 1, 1) := by decide +kernel
theorem dX4_placesInRanges_13 : decode cX4_placesInRanges 13 = .ok (.aload_n 0, 1) := by decide +kernel
theorem dX4_placesInRanges_14 : decode cX4_placesInRanges 14 = .ok (.getfield 20, 3) := by decide +kernel
theorem dX4_placesInRanges_17 : decode cX4_placesInRanges 17 = .ok (.iload_n 2, 1) := by decide +kernel
theorem dX4_placesInRanges_18 : decode cX4_placesInRanges 18 = .ok (.aaload, 1) := by decide +kernel
theorem dX4_placesInRanges_19 : decode cX4_placesInRanges 19 = .ok (.invokevirtual 94, 3) := by decide +kernel
theorem dX4_placesInRanges_22 : decode cX4_placesInRanges 22 = .ok (.iadd, 1) := by decide +kernel
theorem dX4_placesInRanges_23 : decode cX4_placesInRanges 23 = .ok (.istore_n 1, 1) := by decide +kernel
theorem dX4_placesInRanges_24 : decode cX4_placesInRanges 24 = .ok (.iinc 2 1, 3) := by decide +kernel
theorem dX4_placesInRanges_27 : decode cX4_placesInRanges 27 = .ok (.goto (-23), 3) := by decide +kernel
theorem dX4_placesInRanges_30 : decode cX4_placesInRanges 30 = .ok (.iload_n 1, 1) := by decide +kernel
theorem dX4_placesInRanges_31 : decode cX4_placesInRanges 31 = .ok (.ireturn, 1) := by decide +kernel
set_option maxHeartbeats 4000000 in
set_option maxRecDepth 100000 in
theorem c_X4_placesInRanges (l : Launch) (E : gE) (g : Mem) (b : Nat) (r : Row) (B : Nat) (hB : B < 100000000) (h : StA E g b r) (hv : Vr r B) : Mt l E yX4_placesInRanges cX4_placesInRanges 3 (some .int) 1 20 [rf E (b)] g (pI (fun z g' => z = nI (sm (rc r) (fun i => nP r i)) ∧ g' = g)) := by
  obtain ⟨co, pi, π, ρ, hK, s0, s1, s2, s3, s4, kV, kU, sV, sU, e1, e2⟩ := zSt h hv
  have hrc : rc r ≤ 6 := hv.1.2
  have hgc : gc r ≤ 4 := hv.2.1.2
  have hS0 : b < eK E := by omega
  have hS1 : b + 1 < eK E := by omega
  have hS2 : b + 2 < eK E := by omega
  have hS3 : b + 3 < eK E := by omega
  have hS4 : b + 4 < eK E := by omega
  refine mt_go (own := RX4) (by decide) rfl (lo := [some (rf E (b)), none, none]) rfl (Nat.le_of_ble_eq_true rfl) (fun X hC => ?_)
  refine y_iconst (v := nI 0) hC dX4_placesInRanges_0 (by decide) ?_
  refine y_istore_n hC dX4_placesInRanges_1 (i := 1) rfl (Nat.le_of_ble_eq_true rfl) rfl (lo' := [some (rf E (b)), some (.int (nI (0))), none]) rfl ?_
  refine y_iconst (v := nI 0) hC dX4_placesInRanges_2 (by decide) ?_
  refine y_istore_n hC dX4_placesInRanges_3 (i := 2) rfl (Nat.le_of_ble_eq_true rfl) rfl (lo' := [some (rf E (b)), some (.int (nI (0))), some (.int (nI (0)))]) rfl ?_
  have L_4 : ∀ (m : Nat) (i c : Nat), (hm : rc r - i < m) → (hi : i ≤ rc r) → (hc : c = sm i (fun i => nP r i)) → Y l E X (pI (fun z g' => z = nI (sm (rc r) (fun i => nP r i)) ∧ g' = g)) 4 [some (rf E (b)), some (.int (nI (c))), some (.int (nI (i)))] [] g := by
    intro m
    induction m with
    | zero => intro i c hm hi hc; exact absurd hm (Nat.not_lt_zero _)
    | succ m ih_4 =>
      intro i c hm hi hc
      refine y_iload_n hC dX4_placesInRanges_4 (i := 2) rfl rfl ?_
      refine y_aload_n hC dX4_placesInRanges_5 (i := 0) rfl rfl ?_
      refine y_get hC fX4_30 dX4_placesInRanges_6 (k := b) hS0 s0 rfl ?_
      refine y_icmp_ge_n (tgt := 30) hC dX4_placesInRanges_9 (by decide) (by omega) (by omega) (fun c_9 => ?_) (fun c_9 => ?_)
      · refine y_iload_n hC dX4_placesInRanges_30 (i := 1) rfl rfl ?_
        refine y_iret (hC := hC) (hd := dX4_placesInRanges_31) (hq := ?_)
        exact ⟨congrArg nI (by rw [hc, show i = rc r by omega]), rfl⟩
      · have hlt : i < rc r := by omega
        obtain ⟨q1, q2, q3, q4, q5, q6, q7, q8, q9⟩ := hv.rg (i := i) (by omega)
        refine y_iload_n hC dX4_placesInRanges_12 (i := 1) rfl rfl ?_
        refine y_aload_n hC dX4_placesInRanges_13 (i := 0) rfl rfl ?_
        refine y_get hC fX4_20 dX4_placesInRanges_14 (k := b) hS0 s0 rfl ?_
        refine y_iload_n hC dX4_placesInRanges_17 (i := 2) rfl rfl ?_
        refine y_aald hC (Or.inl ⟨rfl, rfl, rfl⟩ : yT 3 3 RX3) dX4_placesInRanges_18 (k := b + 3) (j := i) hS3 s3 (rfl) (by omega) (by decide) ?_
        refine y_callV hC mX3_places kX4_94 dX4_placesInRanges_19 (b := b + 5 + π (i)) (As := []) (rest := [.int (nI (c))]) (c_X3_places l E g (b + 5 + π i) (kV i (by omega)) (rg r (i) 0) (rg r (i) 1) (rg r (i) 2) (rg r (i) 3) (rg r (i) 4) (rg r (i) 5) (rg r (i) 6) q2 q3 q4 q5 q6 q7 q8 (by omega) (sV i (by omega))) (kV (i) (by omega)) (sV (i) (by omega)) rfl rfl rfl (Nat.le_of_ble_eq_true rfl) ⟨Nat.le_of_ble_eq_true rfl, Nat.le_of_ble_eq_true rfl⟩ (pk_i ?_)
        rintro r_19 g_19 ⟨hr_19, hq_19⟩
        obtain rfl := hq_19.symm
        rw [hr_19]
        clear hr_19 r_19
        refine y_iadd_n hC dX4_placesInRanges_22 ?_
        refine y_istore_n hC dX4_placesInRanges_23 (i := 1) rfl (Nat.le_of_ble_eq_true rfl) rfl (lo' := [some (rf E (b)), some (.int (nI (c + (rg r i 1 - rg r i 0 + 1)))), some (.int (nI (i)))]) rfl ?_
        refine y_iinc_n hC dX4_placesInRanges_24 (a := i) (k := 1) rfl (by decide) (Nat.le_of_ble_eq_true rfl) rfl (lo' := [some (rf E (b)), some (.int (nI (c + (rg r i 1 - rg r i 0 + 1)))), some (.int (nI (i + 1)))]) rfl ?_
        refine y_goto (tgt := 4) hC dX4_placesInRanges_27 (by decide) ?_
        exact ih_4 (i + 1) _ (by omega) (by omega) (by rw [sm, ← hc]; rfl)
  exact L_4 (rc r + 1) 0 0 (by omega) (by omega) rfl

theorem rAt_u {E : gE} {g : Mem} {r : Row} {p : Nat} {o : Option Nat} (h : RgAt E g r p o) : (o = none ∧ rAt r p = none) ∨ ∃ i a, rAt r p = some i ∧ i < rc r ∧ (rg r i 0 ≤ p ∧ p ≤ rg r i 1) ∧ o = some a ∧ a < eK E ∧ g a = oB 3 [.int (nI (rg r i 0)), .int (nI (rg r i 1)), .int (nI (rg r i 2)), .int (nI (rg r i 3)), .int (nI (rg r i 4)), .int (nI (rg r i 5)), .int (nI (rg r i 6))] := h
theorem dX4_moves_0 : decode cX4_moves 0 = .ok (.aload_n 0, 1) := by decide +kernel
theorem dX4_moves_1 : decode cX4_moves 1 = .ok (.iload_n 1, 1) := by decide +kernel
theorem dX4_moves_2 : decode cX4_moves 2 = .ok (.invokevirtual 98, 3) := by decide +kernel
theorem dX4_moves_5 : decode cX4_moves 5 = .ok (.astore_n 2, 1) := by decide +kernel
theorem dX4_moves_6 : decode cX4_moves 6 = .ok (.aload_n 2, 1) := by decide +kernel
theorem dX4_moves_7 : decode cX4_moves 7 = .ok (.ifnull 10, 3) := by decide +kernel
theorem dX4_moves_10 : decode cX4_moves 10 = .ok (.aload_n 2, 1) := by decide +kernel
theorem dX4_moves_11 : decode cX4_moves 11 = .ok (.getfield 90, 3) := by decide +kernel
theorem dX4_moves_14 : decode cX4_moves 14 = .ok (.ifCond .ne 11, 3) := by decide +kernel
theorem dX4_moves_17 : decode cX4_moves 17 = .ok (.aload_n 0, 1) := by decide +kernel
theorem dX4_moves_18 : decode cX4_moves 18 = .ok (.iload_n 1, 1) := by decide +kernel
theorem dX4_moves_19 : decode cX4_moves 19 = .ok (.invokevirtual 102, 3) := by decide +kernel
theorem dX4_moves_22 : decode cX4_moves 22 = .ok (.ifnull 7, 3) := by decide +kernel
theorem dX4_moves_25 : decode cX4_moves 25 = .ok (.iconst 1, 1) := by decide +kernel
theorem dX4_moves_26 : decode cX4_moves 26 = .ok (.goto 4, 3) := by decide +kernel
theorem dX4_moves_29 : decode cX4_moves 29 = .ok (.iconst 0, 1) := by decide +kernel
theorem dX4_moves_30 : decode cX4_moves 30 = .ok (.ireturn, 1) := by decide +kernel
set_option maxHeartbeats 4000000 in
set_option maxRecDepth 100000 in
theorem c_X4_moves (l : Launch) (E : gE) (g : Mem) (b : Nat) (r : Row) (B : Nat) (hB : B < 100000000) (h : StA E g b r) (hv : Vr r B) (p : Nat) (hp : p < 2147483648) : Mt l E yX4_moves cX4_moves 3 (some .boolean) 2 43 [rf E (b), .int (nI (p))] g (pI (fun z g' => z = bI (mvs r p = true) ∧ g' = g)) := by
  obtain ⟨co, pi, π, ρ, hK, s0, s1, s2, s3, s4, kV, kU, sV, sU, e1, e2⟩ := zSt h hv
  have hrc : rc r ≤ 6 := hv.1.2
  have hgc : gc r ≤ 4 := hv.2.1.2
  have hS0 : b < eK E := by omega
  have hS1 : b + 1 < eK E := by omega
  have hS2 : b + 2 < eK E := by omega
  have hS3 : b + 3 < eK E := by omega
  have hS4 : b + 4 < eK E := by omega
  refine mt_go (own := RX4) (by decide) rfl (lo := [some (rf E (b)), some (.int (nI (p))), none]) rfl (Nat.le_of_ble_eq_true rfl) (fun X hC => ?_)
  refine y_aload_n hC dX4_moves_0 (i := 0) rfl rfl ?_
  refine y_iload_n hC dX4_moves_1 (i := 1) rfl rfl ?_
  refine y_callV hC mX4_rangeAt kX4_98 dX4_moves_2 (b := b) (As := [.int (nI (p))]) (rest := []) (c_X4_rangeAt l E g b r B hB h hv p (by omega)) hS0 s0 rfl rfl rfl (Nat.le_of_ble_eq_true rfl) ⟨Nat.le_of_ble_eq_true rfl, Nat.le_of_ble_eq_true rfl⟩ (pk_r ?_)
  rintro ro g_r ⟨hq, hro⟩
  obtain rfl := hq.symm
  refine y_astore_n hC dX4_moves_5 (i := 2) rfl (Nat.le_of_ble_eq_true rfl) rfl (lo' := [some (rf E (b)), some (.int (nI (p))), some (rfo E (ro))]) rfl ?_
  refine y_aload_no hC dX4_moves_6 (i := 2) rfl rfl ?_
  refine y_ifnull (tgt := 17) hC dX4_moves_7 (by decide) (fun c_7 => ?_) (fun k_7 c_7 => ?_)
  · subst c_7
    obtain ⟨-, hr1⟩ | ⟨ri, ra, -, -, -, hz, -, -⟩ := hro
    rotate_left
    · cases hz
    refine y_aload_n hC dX4_moves_17 (i := 0) rfl rfl ?_
    refine y_iload_n hC dX4_moves_18 (i := 1) rfl rfl ?_
    refine y_callV hC mX4_glowAt kX4_102 dX4_moves_19 (b := b) (As := [.int (nI (p))]) (rest := []) (c_X4_glowAt l E g b r B hB h hv p (by omega)) hS0 s0 rfl rfl rfl (Nat.le_of_ble_eq_true rfl) ⟨Nat.le_of_ble_eq_true rfl, Nat.le_of_ble_eq_true rfl⟩ (pk_r ?_)
    rintro go g_g ⟨hq, hgo⟩
    obtain rfl := hq.symm
    refine y_ifnull (tgt := 29) hC dX4_moves_22 (by decide) (fun c_22 => ?_) (fun k_22 c_22 => ?_)
    · subst c_22
      obtain ⟨-, hg1⟩ | ⟨gi, ga, -, -, -, hz, -, -⟩ := hgo
      rotate_left
      · cases hz
      refine y_iconst (v := nI 0) hC dX4_moves_29 (by decide) ?_
      refine y_zret (hrt := rfl) (hn := rfl) (hC := hC) (hd := dX4_moves_30) (hq := ?_)
      refine ⟨?_, rfl⟩
      first
        | (refine (bI_t ?_).symm; simp [mvs, hr1, hg1]; done)
        | (have h1 : rg r ri 4 = 1 := by omega
           refine (bI_t ?_).symm; simp [mvs, hr1, h1]; done)
        | (refine (bI_f ?_).symm; simp [mvs, hr1, hg1]; done)
        | (have h1 : ¬ rg r ri 4 = 1 := by omega
           refine (bI_f ?_).symm; simp [mvs, hr1, hg1, h1]; done)
    · subst c_22
      obtain ⟨hz, -⟩ | ⟨gi, ga, hg1, hg2, hg3, hg4, hg5, hg6⟩ := hgo
      · cases hz
      cases hg4
      obtain ⟨p1, p2, p3, p4, p5⟩ := hv.gl (i := gi) (by omega)
      refine y_iconst (v := nI 1) hC dX4_moves_25 (by decide) ?_
      refine y_goto (tgt := 30) hC dX4_moves_26 (by decide) ?_
      refine y_zret (hrt := rfl) (hn := rfl) (hC := hC) (hd := dX4_moves_30) (hq := ?_)
      refine ⟨?_, rfl⟩
      first
        | (refine (bI_t ?_).symm; simp [mvs, hr1, hg1]; done)
        | (have h1 : rg r ri 4 = 1 := by omega
           refine (bI_t ?_).symm; simp [mvs, hr1, h1]; done)
        | (refine (bI_f ?_).symm; simp [mvs, hr1, hg1]; done)
        | (have h1 : ¬ rg r ri 4 = 1 := by omega
           refine (bI_f ?_).symm; simp [mvs, hr1, hg1, h1]; done)
  · subst c_7
    obtain ⟨hz, -⟩ | ⟨ri, ra, hr1, hr2, hr3, hr4, hr5, hr6⟩ := hro
    · cases hz
    cases hr4
    obtain ⟨q1, q2, q3, q4, q5, q6, q7, q8, q9⟩ := hv.rg (i := ri) (by omega)
    refine y_aload_n hC dX4_moves_10 (i := 2) rfl rfl ?_
    refine y_get hC fX4_90 dX4_moves_11 (k := k_7) hr5 hr6 rfl ?_
    refine y_if_ne_n (tgt := 25) hC dX4_moves_14 (by decide) (by omega) (fun c_14 => ?_) (fun c_14 => ?_)
    · refine y_iconst (v := nI 1) hC dX4_moves_25 (by decide) ?_
      refine y_goto (tgt := 30) hC dX4_moves_26 (by decide) ?_
      refine y_zret (hrt := rfl) (hn := rfl) (hC := hC) (hd := dX4_moves_30) (hq := ?_)
      refine ⟨?_, rfl⟩
      first
        | (refine (bI_t ?_).symm; simp [mvs, hr1, hg1]; done)
        | (have h1 : rg r ri 4 = 1 := by omega
           refine (bI_t ?_).symm; simp [mvs, hr1, h1]; done)
        | (refine (bI_f ?_).symm; simp [mvs, hr1, hg1]; done)
        | (have h1 : ¬ rg r ri 4 = 1 := by omega
           refine (bI_f ?_).symm; simp [mvs, hr1, hg1, h1]; done)
    · refine y_aload_n hC dX4_moves_17 (i := 0) rfl rfl ?_
      refine y_iload_n hC dX4_moves_18 (i := 1) rfl rfl ?_
      refine y_callV hC mX4_glowAt kX4_102 dX4_moves_19 (b := b) (As := [.int (nI (p))]) (rest := []) (c_X4_glowAt l E g b r B hB h hv p (by omega)) hS0 s0 rfl rfl rfl (Nat.le_of_ble_eq_true rfl) ⟨Nat.le_of_ble_eq_true rfl, Nat.le_of_ble_eq_true rfl⟩ (pk_r ?_)
      rintro go g_g ⟨hq, hgo⟩
      obtain rfl := hq.symm
      refine y_ifnull (tgt := 29) hC dX4_moves_22 (by decide) (fun c_22 => ?_) (fun k_22 c_22 => ?_)
      · subst c_22
        obtain ⟨-, hg1⟩ | ⟨gi, ga, -, -, -, hz, -, -⟩ := hgo
        rotate_left
        · cases hz
        refine y_iconst (v := nI 0) hC dX4_moves_29 (by decide) ?_
        refine y_zret (hrt := rfl) (hn := rfl) (hC := hC) (hd := dX4_moves_30) (hq := ?_)
        refine ⟨?_, rfl⟩
        first
          | (refine (bI_t ?_).symm; simp [mvs, hr1, hg1]; done)
          | (have h1 : rg r ri 4 = 1 := by omega
             refine (bI_t ?_).symm; simp [mvs, hr1, h1]; done)
          | (refine (bI_f ?_).symm; simp [mvs, hr1, hg1]; done)
          | (have h1 : ¬ rg r ri 4 = 1 := by omega
             refine (bI_f ?_).symm; simp [mvs, hr1, hg1, h1]; done)
      · subst c_22
        obtain ⟨hz, -⟩ | ⟨gi, ga, hg1, hg2, hg3, hg4, hg5, hg6⟩ := hgo
        · cases hz
        cases hg4
        obtain ⟨p1, p2, p3, p4, p5⟩ := hv.gl (i := gi) (by omega)
        refine y_iconst (v := nI 1) hC dX4_moves_25 (by decide) ?_
        refine y_goto (tgt := 30) hC dX4_moves_26 (by decide) ?_
        refine y_zret (hrt := rfl) (hn := rfl) (hC := hC) (hd := dX4_moves_30) (hq := ?_)
        refine ⟨?_, rfl⟩
        first
          | (refine (bI_t ?_).symm; simp [mvs, hr1, hg1]; done)
          | (have h1 : rg r ri 4 = 1 := by omega
             refine (bI_t ?_).symm; simp [mvs, hr1, h1]; done)
          | (refine (bI_f ?_).symm; simp [mvs, hr1, hg1]; done)
          | (have h1 : ¬ rg r ri 4 = 1 := by omega
             refine (bI_f ?_).symm; simp [mvs, hr1, hg1, h1]; done)

theorem dX4_shade_0 : decode cX4_shade 0 = .ok (.aload_n 0, 1) := by decide +kernel
theorem dX4_shade_1 : decode cX4_shade 1 = .ok (.iload_n 1, 1) := by decide +kernel
theorem dX4_shade_2 : decode cX4_shade 2 = .ok (.invokevirtual 98, 3) := by decide +kernel
theorem dX4_shade_5 : decode cX4_shade 5 = .ok (.astore_n 3, 1) := by decide +kernel
theorem dX4_shade_6 : decode cX4_shade 6 = .ok (.aload_n 0, 1) := by decide +kernel
theorem dX4_shade_7 : decode cX4_shade 7 = .ok (.getfield 9, 3) := by decide +kernel
theorem dX4_shade_10 : decode cX4_shade 10 = .ok (.aload_n 3, 1) := by decide +kernel
theorem dX4_shade_11 : decode cX4_shade 11 = .ok (.ifnonnull 7, 3) := by decide +kernel
theorem dX4_shade_14 : decode cX4_shade 14 = .ok (.iload_n 1, 1) := by decide +kernel
theorem dX4_shade_15 : decode cX4_shade 15 = .ok (.goto 9, 3) := by decide +kernel
theorem dX4_shade_18 : decode cX4_shade 18 = .ok (.aload_n 3, 1) := by decide +kernel
theorem dX4_shade_19 : decode cX4_shade 19 = .ok (.iload_n 1, 1) := by decide +kernel
theorem dX4_shade_20 : decode cX4_shade 20 = .ok (.iload_n 2, 1) := by decide +kernel
theorem dX4_shade_21 : decode cX4_shade 21 = .ok (.invokevirtual 106, 3) := by decide +kernel
theorem dX4_shade_24 : decode cX4_shade 24 = .ok (.iaload, 1) := by decide +kernel
theorem dX4_shade_25 : decode cX4_shade 25 = .ok (.istore 4, 2) := by decide +kernel
theorem dX4_shade_27 : decode cX4_shade 27 = .ok (.aload_n 0, 1) := by decide +kernel
theorem dX4_shade_28 : decode cX4_shade 28 = .ok (.iload_n 1, 1) := by decide +kernel
theorem dX4_shade_29 : decode cX4_shade 29 = .ok (.invokevirtual 102, 3) := by decide +kernel
theorem dX4_shade_32 : decode cX4_shade 32 = .ok (.astore 5, 2) := by decide +kernel
theorem dX4_shade_34 : decode cX4_shade 34 = .ok (.aload 5, 2) := by decide +kernel
theorem dX4_shade_36 : decode cX4_shade 36 = .ok (.ifnonnull 8, 3) := by decide +kernel
theorem dX4_shade_39 : decode cX4_shade 39 = .ok (.iload 4, 2) := by decide +kernel
theorem dX4_shade_41 : decode cX4_shade 41 = .ok (.goto 11, 3) := by decide +kernel
theorem dX4_shade_44 : decode cX4_shade 44 = .ok (.aload 5, 2) := by decide +kernel
theorem dX4_shade_46 : decode cX4_shade 46 = .ok (.iload 4, 2) := by decide +kernel
theorem dX4_shade_48 : decode cX4_shade 48 = .ok (.iload_n 2, 1) := by decide +kernel
theorem dX4_shade_49 : decode cX4_shade 49 = .ok (.invokevirtual 110, 3) := by decide +kernel
theorem dX4_shade_52 : decode cX4_shade 52 = .ok (.ireturn, 1) := by decide +kernel
set_option maxHeartbeats 4000000 in
set_option maxRecDepth 100000 in
theorem c_X4_shade (l : Launch) (E : gE) (g : Mem) (b : Nat) (r : Row) (B : Nat) (hB : B < 100000000) (h : StA E g b r) (hv : Vr r B) (p t : Nat) (hp : p < 32) (ht : t ≤ 5000) : Mt l E yX4_shade cX4_shade 6 (some .int) 3 71 [rf E (b), .int (nI (p)), .int (nI (t))] g (pI (fun z g' => z = shd r p t ∧ g' = g)) := by
  obtain ⟨co, pi, π, ρ, hK, s0, s1, s2, s3, s4, kV, kU, sV, sU, e1, e2⟩ := zSt h hv
  have hrc : rc r ≤ 6 := hv.1.2
  have hgc : gc r ≤ 4 := hv.2.1.2
  have hS0 : b < eK E := by omega
  have hS1 : b + 1 < eK E := by omega
  have hS2 : b + 2 < eK E := by omega
  have hS3 : b + 3 < eK E := by omega
  have hS4 : b + 4 < eK E := by omega
  refine mt_go (own := RX4) (by decide) rfl (lo := [some (rf E (b)), some (.int (nI (p))), some (.int (nI (t))), none, none, none]) rfl (Nat.le_of_ble_eq_true rfl) (fun X hC => ?_)
  refine y_aload_n hC dX4_shade_0 (i := 0) rfl rfl ?_
  refine y_iload_n hC dX4_shade_1 (i := 1) rfl rfl ?_
  refine y_callV hC mX4_rangeAt kX4_98 dX4_shade_2 (b := b) (As := [.int (nI (p))]) (rest := []) (c_X4_rangeAt l E g b r B hB h hv p (by omega)) hS0 s0 rfl rfl rfl (Nat.le_of_ble_eq_true rfl) ⟨Nat.le_of_ble_eq_true rfl, Nat.le_of_ble_eq_true rfl⟩ (pk_r ?_)
  rintro ro g_r ⟨hq, hro⟩
  obtain rfl := hq.symm
  refine y_astore_n hC dX4_shade_5 (i := 3) rfl (Nat.le_of_ble_eq_true rfl) rfl (lo' := [some (rf E (b)), some (.int (nI (p))), some (.int (nI (t))), some (rfo E (ro)), none, none]) rfl ?_
  refine y_aload_n hC dX4_shade_6 (i := 0) rfl rfl ?_
  refine y_get hC fX4_9 dX4_shade_7 (k := b) hS0 s0 rfl ?_
  refine y_aload_no hC dX4_shade_10 (i := 3) rfl rfl ?_
  refine y_ifnonnull (tgt := 18) hC dX4_shade_11 (by decide) (fun k_11 c_11 => ?_) (fun c_11 => ?_)
  · subst c_11
    obtain ⟨hz, -⟩ | ⟨ri, ra, hr1, hr2, hr3, hr4, hr5, hr6⟩ := hro
    · cases hz
    cases hr4
    obtain ⟨q1, q2, q3, q4, q5, q6, q7, q8, q9⟩ := hv.rg (i := ri) (by omega)
    refine y_aload_n hC dX4_shade_18 (i := 3) rfl rfl ?_
    refine y_iload_n hC dX4_shade_19 (i := 1) rfl rfl ?_
    refine y_iload_n hC dX4_shade_20 (i := 2) rfl rfl ?_
    refine y_callV hC mX3_source kX4_106 dX4_shade_21 (b := k_11) (As := [.int (nI (p)), .int (nI (t))]) (rest := [rf E (b + 1)]) (c_X3_source l E g k_11 hr5 (rg r (ri) 0) (rg r (ri) 1) (rg r (ri) 2) (rg r (ri) 3) (rg r (ri) 4) (rg r (ri) 5) (rg r (ri) 6) q2 q3 q4 q5 q6 q7 q8 (by omega) hr6 p t hr3.1 hr3.2 ht) hr5 hr6 rfl rfl rfl (Nat.le_of_ble_eq_true rfl) ⟨Nat.le_of_ble_eq_true rfl, Nat.le_of_ble_eq_true rfl⟩ (pk_i ?_)
    rintro r_21 g_21 ⟨hr_21, hq_21⟩
    obtain rfl := hq_21.symm
    rw [hr_21]
    clear hr_21 r_21
    have hsr := srN_in (f := rg r ri 0) (n := nP r ri) (p := p) (tn := tuN r ri t) (by unfold nP; omega)
    have hnp : nP r ri = rg r ri 1 - rg r ri 0 + 1 := rfl
    refine y_iald hC dX4_shade_24 (k := b + 1) (j := srN (rg r ri 0) (nP r ri) p (tuN r ri t)) hS1 s1 (rfl) (by omega) (by decide) ?_
    refine y_top (y := tnd r p t) (by simp only [tnd, hr1]; exact e1 _ (by omega)) ?_
    refine y_istore hC dX4_shade_25 (Nat.le_of_ble_eq_true rfl) rfl (lo' := [some (rf E (b)), some (.int (nI (p))), some (.int (nI (t))), some (rf E (k_11)), some (.int (tnd r p t)), none]) rfl ?_
    refine y_aload_n hC dX4_shade_27 (i := 0) rfl rfl ?_
    refine y_iload_n hC dX4_shade_28 (i := 1) rfl rfl ?_
    refine y_callV hC mX4_glowAt kX4_102 dX4_shade_29 (b := b) (As := [.int (nI (p))]) (rest := []) (c_X4_glowAt l E g b r B hB h hv p (by omega)) hS0 s0 rfl rfl rfl (Nat.le_of_ble_eq_true rfl) ⟨Nat.le_of_ble_eq_true rfl, Nat.le_of_ble_eq_true rfl⟩ (pk_r ?_)
    rintro go g_g ⟨hq, hgo⟩
    obtain rfl := hq.symm
    refine y_astore hC dX4_shade_32 (Nat.le_of_ble_eq_true rfl) rfl (lo' := [some (rf E (b)), some (.int (nI (p))), some (.int (nI (t))), some (rf E (k_11)), some (.int (tnd r p t)), some (rfo E (go))]) rfl ?_
    refine y_aload_o hC dX4_shade_34 rfl ?_
    refine y_ifnonnull (tgt := 44) hC dX4_shade_36 (by decide) (fun k_36 c_36 => ?_) (fun c_36 => ?_)
    · subst c_36
      obtain ⟨hz, -⟩ | ⟨gi, ga, hg1, hg2, hg3, hg4, hg5, hg6⟩ := hgo
      · cases hz
      cases hg4
      obtain ⟨p1, p2, p3, p4, p5⟩ := hv.gl (i := gi) (by omega)
      refine y_aload hC dX4_shade_44 rfl ?_
      refine y_iload hC dX4_shade_46 rfl ?_
      refine y_iload_n hC dX4_shade_48 (i := 2) rfl rfl ?_
      refine y_callV hC mX0_shade kX4_110 dX4_shade_49 (b := k_36) (As := [.int (tnd r p t), .int (nI (t))]) (rest := []) (c_X0_shade l E g k_36 hg5 _ _ (gl r gi 2) (gl r gi 3) p3 p4 p5 hg6 (tnd r p t) t ht) hg5 hg6 rfl rfl rfl (Nat.le_of_ble_eq_true rfl) ⟨Nat.le_of_ble_eq_true rfl, Nat.le_of_ble_eq_true rfl⟩ (pk_i ?_)
      rintro r_49 g_49 ⟨hr_49, hq_49⟩
      obtain rfl := hq_49.symm
      rw [hr_49]
      clear hr_49 r_49
      refine y_iret (hC := hC) (hd := dX4_shade_52) (hq := ?_)
      refine ⟨?_, rfl⟩
      simp only [shd, hg1]
    · subst c_36
      obtain ⟨-, hg1⟩ | ⟨gi, ga, -, -, -, hz, -, -⟩ := hgo
      rotate_left
      · cases hz
      refine y_iload hC dX4_shade_39 rfl ?_
      refine y_goto (tgt := 52) hC dX4_shade_41 (by decide) ?_
      refine y_iret (hC := hC) (hd := dX4_shade_52) (hq := ?_)
      refine ⟨?_, rfl⟩
      simp only [shd, hg1]
  · subst c_11
    obtain ⟨-, hr1⟩ | ⟨ri, ra, -, -, -, hz, -, -⟩ := hro
    rotate_left
    · cases hz
    refine y_iload_n hC dX4_shade_14 (i := 1) rfl rfl ?_
    refine y_goto (tgt := 24) hC dX4_shade_15 (by decide) ?_
    refine y_iald hC dX4_shade_24 (k := b + 1) (j := p) hS1 s1 (rfl) (by omega) (by decide) ?_
    refine y_top (y := tnd r p t) (by simp only [tnd, hr1]; exact e1 _ (by omega)) ?_
    refine y_istore hC dX4_shade_25 (Nat.le_of_ble_eq_true rfl) rfl (lo' := [some (rf E (b)), some (.int (nI (p))), some (.int (nI (t))), some (rfo E (none)), some (.int (tnd r p t)), none]) rfl ?_
    refine y_aload_n hC dX4_shade_27 (i := 0) rfl rfl ?_
    refine y_iload_n hC dX4_shade_28 (i := 1) rfl rfl ?_
    refine y_callV hC mX4_glowAt kX4_102 dX4_shade_29 (b := b) (As := [.int (nI (p))]) (rest := []) (c_X4_glowAt l E g b r B hB h hv p (by omega)) hS0 s0 rfl rfl rfl (Nat.le_of_ble_eq_true rfl) ⟨Nat.le_of_ble_eq_true rfl, Nat.le_of_ble_eq_true rfl⟩ (pk_r ?_)
    rintro go g_g ⟨hq, hgo⟩
    obtain rfl := hq.symm
    refine y_astore hC dX4_shade_32 (Nat.le_of_ble_eq_true rfl) rfl (lo' := [some (rf E (b)), some (.int (nI (p))), some (.int (nI (t))), some (rfo E (none)), some (.int (tnd r p t)), some (rfo E (go))]) rfl ?_
    refine y_aload_o hC dX4_shade_34 rfl ?_
    refine y_ifnonnull (tgt := 44) hC dX4_shade_36 (by decide) (fun k_36 c_36 => ?_) (fun c_36 => ?_)
    · subst c_36
      obtain ⟨hz, -⟩ | ⟨gi, ga, hg1, hg2, hg3, hg4, hg5, hg6⟩ := hgo
      · cases hz
      cases hg4
      obtain ⟨p1, p2, p3, p4, p5⟩ := hv.gl (i := gi) (by omega)
      refine y_aload hC dX4_shade_44 rfl ?_
      refine y_iload hC dX4_shade_46 rfl ?_
      refine y_iload_n hC dX4_shade_48 (i := 2) rfl rfl ?_
      refine y_callV hC mX0_shade kX4_110 dX4_shade_49 (b := k_36) (As := [.int (tnd r p t), .int (nI (t))]) (rest := []) (c_X0_shade l E g k_36 hg5 _ _ (gl r gi 2) (gl r gi 3) p3 p4 p5 hg6 (tnd r p t) t ht) hg5 hg6 rfl rfl rfl (Nat.le_of_ble_eq_true rfl) ⟨Nat.le_of_ble_eq_true rfl, Nat.le_of_ble_eq_true rfl⟩ (pk_i ?_)
      rintro r_49 g_49 ⟨hr_49, hq_49⟩
      obtain rfl := hq_49.symm
      rw [hr_49]
      clear hr_49 r_49
      refine y_iret (hC := hC) (hd := dX4_shade_52) (hq := ?_)
      refine ⟨?_, rfl⟩
      simp only [shd, hg1]
    · subst c_36
      obtain ⟨-, hg1⟩ | ⟨gi, ga, -, -, -, hz, -, -⟩ := hgo
      rotate_left
      · cases hz
      refine y_iload hC dX4_shade_39 rfl ?_
      refine y_goto (tgt := 52) hC dX4_shade_41 (by decide) ?_
      refine y_iret (hC := hC) (hd := dX4_shade_52) (hq := ?_)
      refine ⟨?_, rfl⟩
      simp only [shd, hg1]

