/-! ===== the law: what is shown, ticks, copies ===== -/
theorem tu0 {ρ : Row} {B i : Nat} (hv : Vr ρ B) (hi : i < rc ρ) : tuN ρ i 0 = tnN (nP ρ i) (rg ρ i 3) (rg ρ i 6) := by
  obtain ⟨q1, q2, q3, q4, q5, q6, q7, q8, q9⟩ := hv.rg hi
  unfold tuN mdN
  rw [Nat.add_zero, Nat.div_eq_of_lt q8, Nat.add_zero, ite_self]
theorem tnd_n {ρ : Row} {p t : Nat} (h : rAt ρ p = none) : tnd ρ p t = ρ p := by
  unfold tnd
  rw [h]
theorem tnd_s {ρ : Row} {p t i : Nat} (h : rAt ρ p = some i) : tnd ρ p t = ρ (srN (rg ρ i 0) (nP ρ i) p (tuN ρ i t)) := by
  unfold tnd
  rw [h]
theorem shd_n {ρ : Row} {p t : Nat} (h : gAt ρ p = none) : shd ρ p t = tnd ρ p t := by
  unfold shd
  rw [h]
theorem shd_s {ρ : Row} {p t i : Nat} (h : gAt ρ p = some i) : shd ρ p t = cMix (tnd ρ p t) (ρ (76 + 4 * i + 1)) (nI (stN (gl ρ i 2) (gl ρ i 3) t)) (nI (gl ρ i 2)) := by
  unfold shd
  rw [h]
theorem sr_lt {ρ : Row} {B i p x : Nat} (hv : Vr ρ B) (hi : i < rc ρ) : srN (rg ρ i 0) (nP ρ i) p x < 32 := by
  have h1 := nP_b hv hi
  have h2 := srN_in (f := rg ρ i 0) (n := nP ρ i) (p := p) (tn := x) h1.1
  omega
theorem tnd_C {ρ : Row} {B p t : Nat} (hv : Vr ρ B) (hc : VC ρ) (hp : p < 32) : isC (tnd ρ p t) := by
  cases e : rAt ρ p with
  | none => rw [tnd_n e]; exact hc.1 p hp
  | some i => rw [tnd_s e]; exact hc.1 _ (sr_lt hv (rAt_in e).1)
theorem shd_C {ρ : Row} {B p t : Nat} (hv : Vr ρ B) (hc : VC ρ) (hp : p < 32) : isC (shd ρ p t) := by
  obtain ⟨u, hu, eu⟩ := tnd_C (t := t) hv hc hp
  cases e : gAt ρ p with
  | none => rw [shd_n e]; exact ⟨u, hu, eu⟩
  | some i =>
    have hi := (gAt_in e).1
    obtain ⟨v, hv2, ev⟩ := hc.2 i hi
    have q := hv.gl hi
    rw [shd_s e, eu, ev]
    refine mx_C hu hv2 q.2.2.1 (by omega) ?_
    rcases stN_le (gl ρ i 2) (gl ρ i 3) t with h | h
    · exact h
    · omega
theorem rz_n {ρ : Row} {p : Nat} (h : rAt ρ p = none) : rzN ρ p = 0 := by
  unfold rzN
  rw [h]
theorem rz_s {ρ : Row} {p i : Nat} (h : rAt ρ p = some i) : rzN ρ p = 8 + 8 * i := by
  unfold rzN
  rw [h]
theorem gz_n {ρ : Row} {p : Nat} (h : gAt ρ p = none) : gzN ρ p = 0 := by
  unfold gzN
  rw [h]
theorem gz_s {ρ : Row} {p i : Nat} (h : gAt ρ p = some i) : gzN ρ p = 4 + 4 * i := by
  unfold gzN
  rw [h]
theorem dL_shown_0 : decode cL_shown 0 = .ok (.aload_n 1, 1) := by decide +kernel
theorem dL_shown_1 : decode cL_shown 1 = .ok (.iload_n 3, 1) := by decide +kernel
theorem dL_shown_2 : decode cL_shown 2 = .ok (.invokestatic 15, 3) := by decide +kernel
theorem dL_shown_5 : decode cL_shown 5 = .ok (.istore 4, 2) := by decide +kernel
theorem dL_shown_7 : decode cL_shown 7 = .ok (.aload_n 0, 1) := by decide +kernel
theorem dL_shown_8 : decode cL_shown 8 = .ok (.iload_n 3, 1) := by decide +kernel
theorem dL_shown_9 : decode cL_shown 9 = .ok (.iaload, 1) := by decide +kernel
theorem dL_shown_10 : decode cL_shown 10 = .ok (.istore 5, 2) := by decide +kernel
theorem dL_shown_12 : decode cL_shown 12 = .ok (.iload 4, 2) := by decide +kernel
theorem dL_shown_14 : decode cL_shown 14 = .ok (.ifCond .le 39, 3) := by decide +kernel
theorem dL_shown_17 : decode cL_shown 17 = .ok (.aload_n 0, 1) := by decide +kernel
theorem dL_shown_18 : decode cL_shown 18 = .ok (.aload_n 1, 1) := by decide +kernel
theorem dL_shown_19 : decode cL_shown 19 = .ok (.iload 4, 2) := by decide +kernel
theorem dL_shown_21 : decode cL_shown 21 = .ok (.iaload, 1) := by decide +kernel
theorem dL_shown_22 : decode cL_shown 22 = .ok (.iload_n 3, 1) := by decide +kernel
theorem dL_shown_23 : decode cL_shown 23 = .ok (.aload_n 1, 1) := by decide +kernel
theorem dL_shown_24 : decode cL_shown 24 = .ok (.iload 4, 2) := by decide +kernel
theorem dL_shown_26 : decode cL_shown 26 = .ok (.iaload, 1) := by decide +kernel
theorem dL_shown_27 : decode cL_shown 27 = .ok (.isub, 1) := by decide +kernel
theorem dL_shown_28 : decode cL_shown 28 = .ok (.aload_n 1, 1) := by decide +kernel
theorem dL_shown_29 : decode cL_shown 29 = .ok (.iload 4, 2) := by decide +kernel
theorem dL_shown_31 : decode cL_shown 31 = .ok (.iconst 1, 1) := by decide +kernel
theorem dL_shown_32 : decode cL_shown 32 = .ok (.iadd, 1) := by decide +kernel
theorem dL_shown_33 : decode cL_shown 33 = .ok (.iaload, 1) := by decide +kernel
theorem dL_shown_34 : decode cL_shown 34 = .ok (.iadd, 1) := by decide +kernel
theorem dL_shown_35 : decode cL_shown 35 = .ok (.aload_n 1, 1) := by decide +kernel
theorem dL_shown_36 : decode cL_shown 36 = .ok (.iload 4, 2) := by decide +kernel
theorem dL_shown_38 : decode cL_shown 38 = .ok (.invokestatic 18, 3) := by decide +kernel
theorem dL_shown_41 : decode cL_shown 41 = .ok (.isub, 1) := by decide +kernel
theorem dL_shown_42 : decode cL_shown 42 = .ok (.aload_n 1, 1) := by decide +kernel
theorem dL_shown_43 : decode cL_shown 43 = .ok (.iload 4, 2) := by decide +kernel
theorem dL_shown_45 : decode cL_shown 45 = .ok (.iconst 1, 1) := by decide +kernel
theorem dL_shown_46 : decode cL_shown 46 = .ok (.iadd, 1) := by decide +kernel
theorem dL_shown_47 : decode cL_shown 47 = .ok (.iaload, 1) := by decide +kernel
theorem dL_shown_48 : decode cL_shown 48 = .ok (.irem, 1) := by decide +kernel
theorem dL_shown_49 : decode cL_shown 49 = .ok (.iadd, 1) := by decide +kernel
theorem dL_shown_50 : decode cL_shown 50 = .ok (.iaload, 1) := by decide +kernel
theorem dL_shown_51 : decode cL_shown 51 = .ok (.istore 5, 2) := by decide +kernel
theorem dL_shown_53 : decode cL_shown 53 = .ok (.aload_n 2, 1) := by decide +kernel
theorem dL_shown_54 : decode cL_shown 54 = .ok (.iload_n 3, 1) := by decide +kernel
theorem dL_shown_55 : decode cL_shown 55 = .ok (.invokestatic 21, 3) := by decide +kernel
theorem dL_shown_58 : decode cL_shown 58 = .ok (.istore 6, 2) := by decide +kernel
theorem dL_shown_60 : decode cL_shown 60 = .ok (.iload 6, 2) := by decide +kernel
theorem dL_shown_62 : decode cL_shown 62 = .ok (.ifCond .ne 8, 3) := by decide +kernel
theorem dL_shown_65 : decode cL_shown 65 = .ok (.iload 5, 2) := by decide +kernel
theorem dL_shown_67 : decode cL_shown 67 = .ok (.goto 26, 3) := by decide +kernel
theorem dL_shown_70 : decode cL_shown 70 = .ok (.iload 5, 2) := by decide +kernel
theorem dL_shown_72 : decode cL_shown 72 = .ok (.aload_n 2, 1) := by decide +kernel
theorem dL_shown_73 : decode cL_shown 73 = .ok (.iload 6, 2) := by decide +kernel
theorem dL_shown_75 : decode cL_shown 75 = .ok (.iconst 1, 1) := by decide +kernel
theorem dL_shown_76 : decode cL_shown 76 = .ok (.iadd, 1) := by decide +kernel
theorem dL_shown_77 : decode cL_shown 77 = .ok (.iaload, 1) := by decide +kernel
theorem dL_shown_78 : decode cL_shown 78 = .ok (.aload_n 2, 1) := by decide +kernel
theorem dL_shown_79 : decode cL_shown 79 = .ok (.iload 6, 2) := by decide +kernel
theorem dL_shown_81 : decode cL_shown 81 = .ok (.invokestatic 24, 3) := by decide +kernel
theorem dL_shown_84 : decode cL_shown 84 = .ok (.aload_n 2, 1) := by decide +kernel
theorem dL_shown_85 : decode cL_shown 85 = .ok (.iload 6, 2) := by decide +kernel
theorem dL_shown_87 : decode cL_shown 87 = .ok (.iconst 2, 1) := by decide +kernel
theorem dL_shown_88 : decode cL_shown 88 = .ok (.iadd, 1) := by decide +kernel
theorem dL_shown_89 : decode cL_shown 89 = .ok (.iaload, 1) := by decide +kernel
theorem dL_shown_90 : decode cL_shown 90 = .ok (.invokestatic 27, 3) := by decide +kernel
theorem dL_shown_93 : decode cL_shown 93 = .ok (.ireturn, 1) := by decide +kernel
set_option maxHeartbeats 4000000 in
set_option maxRecDepth 100000 in
theorem c_L_shown (l : Launch) (E : gE) (g : Mem) (C R Z : Nat) (hC0 : C < eK E) (hR : R < eK E) (hZ : Z < eK E) (c r h : Nat → Int32) (hc : g C = aI E 0 32 c) (hr : g R = aI E 0 56 r) (hh : g Z = aI E 0 20 h)(ρ : Row) (B M : Nat) (hv : Vr ρ B) (hB : B ≤ 10000000) (hM : M ≤ 100000000) (a K : Nat → Nat) (hq : RgL ρ r a K M) (hg : GlL ρ h)(hcl : CoL ρ c) (hvc : VC ρ) (p : Nat) (hp : p < 32) : Mt l E yL_shown cL_shown 7 (some .int) 2 46 [rf E (C), rf E (R), rf E (Z), .int (nI (p))] g (pI (fun z g' => z = shd ρ p 0 ∧ g' = g)) := by
  obtain ⟨u, hu, eu⟩ := tnd_C (t := 0) hv hvc hp
  refine mt_go (own := RXL) (by decide) rfl (lo := [some (rf E (C)), some (rf E (R)), some (rf E (Z)), some (.int (nI (p))), none, none, none]) rfl (Nat.le_of_ble_eq_true rfl) (fun X hC => ?_)
  refine y_aload_n hC dL_shown_0 (i := 1) rfl rfl ?_
  refine y_iload_n hC dL_shown_1 (i := 3) rfl rfl ?_
  refine y_callS hC mL_rangeOf kXL_15 dL_shown_2 (As := [rf E (R), .int (nI (p))]) (rest := []) (c_L_rangeOf l E g R hR r hr ρ B M hv a K hq p (by omega)) rfl rfl rfl (Nat.le_of_ble_eq_true rfl) ⟨Nat.le_of_ble_eq_true rfl, Nat.le_of_ble_eq_true rfl⟩ (pk_i ?_)
  rintro r_2 g_2 ⟨hr_2, hq_2⟩
  obtain rfl := hq_2.symm
  rw [hr_2]
  clear hr_2 r_2
  rcases hra : rAt ρ p with _ | i
  · refine y_top (y := nI (0)) (congrArg nI (rz_n hra)) ?_
    refine y_istore hC dL_shown_5 (Nat.le_of_ble_eq_true rfl) rfl (lo' := [some (rf E (C)), some (rf E (R)), some (rf E (Z)), some (.int (nI (p))), some (.int (nI (0))), none, none]) rfl ?_
    refine y_aload_n hC dL_shown_7 (i := 0) rfl rfl ?_
    refine y_iload_n hC dL_shown_8 (i := 3) rfl rfl ?_
    refine y_iald hC dL_shown_9 (k := C) (j := p) hC0 hc (rfl) (by omega) (by decide) ?_
    refine y_top (y := (ρ (p))) (hcl p hp) ?_
    refine y_istore hC dL_shown_10 (Nat.le_of_ble_eq_true rfl) rfl (lo' := [some (rf E (C)), some (rf E (R)), some (rf E (Z)), some (.int (nI (p))), some (.int (nI (0))), some (.int (ρ (p))), none]) rfl ?_
    refine y_iload hC dL_shown_12 rfl ?_
    refine y_if_le_n (tgt := 53) hC dL_shown_14 (by decide) (by omega) (fun c_14 => ?_) (fun c_14 => ?_)
    · refine y_lo (lo' := [some (rf E (C)), some (rf E (R)), some (rf E (Z)), some (.int (nI (p))), some (.int (nI (0))), some (.int (tnd ρ p 0)), none]) (by rw [tnd_n hra]) ?_
      refine y_aload_n hC dL_shown_53 (i := 2) rfl rfl ?_
      refine y_iload_n hC dL_shown_54 (i := 3) rfl rfl ?_
      refine y_callS hC mL_glowOf kXL_21 dL_shown_55 (As := [rf E (Z), .int (nI (p))]) (rest := []) (c_L_glowOf l E g Z hZ h hh ρ B hv hg p (by omega)) rfl rfl rfl (Nat.le_of_ble_eq_true rfl) ⟨Nat.le_of_ble_eq_true rfl, Nat.le_of_ble_eq_true rfl⟩ (pk_i ?_)
      rintro r_55 g_55 ⟨hr_55, hq_55⟩
      obtain rfl := hq_55.symm
      rw [hr_55]
      clear hr_55 r_55
      rcases hga : gAt ρ p with _ | j
      · refine y_top (y := nI (0)) (congrArg nI (gz_n hga)) ?_
        refine y_istore hC dL_shown_58 (Nat.le_of_ble_eq_true rfl) rfl (lo' := [some (rf E (C)), some (rf E (R)), some (rf E (Z)), some (.int (nI (p))), some (.int (nI (0))), some (.int (tnd ρ p 0)), some (.int (nI (0)))]) rfl ?_
        refine y_iload hC dL_shown_60 rfl ?_
        refine y_if_ne_n (tgt := 70) hC dL_shown_62 (by decide) (by omega) (fun c_62 => ?_) (fun c_62 => ?_)
        · exact absurd rfl c_62
        · refine y_iload hC dL_shown_65 rfl ?_
          refine y_goto (tgt := 93) hC dL_shown_67 (by decide) ?_
          refine y_iret (hC := hC) (hd := dL_shown_93) (hq := ?_)
          exact ⟨(shd_n hga).symm, rfl⟩
      · refine y_top (y := nI (4 + 4 * j)) (congrArg nI (gz_s hga)) ?_
        obtain ⟨hj, hj0⟩ := gAt_in hga
        have hgc := hv.2.1.2
        obtain ⟨w1, w2, w3, w4, w5⟩ := hv.gl hj
        obtain ⟨v, hv2, ev⟩ := hvc.2 j hj
        refine y_istore hC dL_shown_58 (Nat.le_of_ble_eq_true rfl) rfl (lo' := [some (rf E (C)), some (rf E (R)), some (rf E (Z)), some (.int (nI (p))), some (.int (nI (0))), some (.int (tnd ρ p 0)), some (.int (nI (4 + 4 * j)))]) rfl ?_
        refine y_iload hC dL_shown_60 rfl ?_
        refine y_if_ne_n (tgt := 70) hC dL_shown_62 (by decide) (by omega) (fun c_62 => ?_) (fun c_62 => ?_)
        · refine y_iload hC dL_shown_70 rfl ?_
          refine y_top (y := nI (u)) (eu) ?_
          refine y_aload_n hC dL_shown_72 (i := 2) rfl rfl ?_
          refine y_iload hC dL_shown_73 rfl ?_
          refine y_iconst (v := nI 1) hC dL_shown_75 (by decide) ?_
          refine y_iadd_n hC dL_shown_76 ?_
          refine y_iald hC dL_shown_77 (k := Z) (j := (4 + 4 * j) + 1) hZ hh (rfl) (by omega) (by decide) ?_
          refine y_top (y := (ρ (76 + 4 * j + 1))) (hg.f1 hj) ?_
          refine y_top (y := nI (v)) (ev) ?_
          refine y_aload_n hC dL_shown_78 (i := 2) rfl rfl ?_
          refine y_iload hC dL_shown_79 rfl ?_
          refine y_callS hC mL_strength kXL_24 dL_shown_81 (As := [rf E (Z), .int (nI (4 + 4 * j))]) (rest := [.int (nI (v)), .int (nI (u))]) (c_L_strength l E g Z hZ h hh (4 + 4 * j) (by omega) (gl ρ j 2) (gl ρ j 3) (hg.f2 hj) (hg.f3 hj) (by omega) (by omega) (by omega)) rfl rfl rfl (Nat.le_of_ble_eq_true rfl) ⟨Nat.le_of_ble_eq_true rfl, Nat.le_of_ble_eq_true rfl⟩ (pk_i ?_)
          rintro r_81 g_81 ⟨hr_81, hq_81⟩
          obtain rfl := hq_81.symm
          rw [hr_81]
          clear hr_81 r_81
          refine y_aload_n hC dL_shown_84 (i := 2) rfl rfl ?_
          refine y_iload hC dL_shown_85 rfl ?_
          refine y_iconst (v := nI 2) hC dL_shown_87 (by decide) ?_
          refine y_iadd_n hC dL_shown_88 ?_
          refine y_iald hC dL_shown_89 (k := Z) (j := (4 + 4 * j) + 2) hZ hh (rfl) (by omega) (by decide) ?_
          refine y_top (y := nI (gl ρ j 2)) (hg.f2 hj) ?_
          refine y_callS hC mL_mixed kXL_27 dL_shown_90 (As := [.int (nI (u)), .int (nI (v)), .int (nI (stN (gl ρ j 2) (gl ρ j 3) 0)), .int (nI (gl ρ j 2))]) (rest := []) (c_L_mixed l E g u v (stN (gl ρ j 2) (gl ρ j 3) 0) (gl ρ j 2) hu hv2 (by omega) (by omega)) rfl rfl rfl (Nat.le_of_ble_eq_true rfl) ⟨Nat.le_of_ble_eq_true rfl, Nat.le_of_ble_eq_true rfl⟩ (pk_i ?_)
          rintro r_90 g_90 ⟨hr_90, hq_90⟩
          obtain rfl := hq_90.symm
          rw [hr_90]
          clear hr_90 r_90
          refine y_iret (hC := hC) (hd := dL_shown_93) (hq := ?_)
          exact ⟨by rw [shd_s hga, eu, ev], rfl⟩
        · exfalso
          omega
    · exfalso
      omega
  · refine y_top (y := nI (8 + 8 * i)) (congrArg nI (rz_s hra)) ?_
    obtain ⟨hi, hf1, hf2⟩ := rAt_in hra
    have hrc := hv.1.2
    obtain ⟨q1, q2, q3, q4, q5, q6, q7, q8, q9⟩ := hv.rg hi
    have hn2 := nP_b hv hi
    have htu := tnN_lt (n := nP ρ i) (wy := rg ρ i 3) (m := rg ρ i 6) hn2.1
    rw [← tu0 hv hi] at htu
    have hsr := sr_lt (p := p) (x := tuN ρ i 0) hv hi
    refine y_istore hC dL_shown_5 (Nat.le_of_ble_eq_true rfl) rfl (lo' := [some (rf E (C)), some (rf E (R)), some (rf E (Z)), some (.int (nI (p))), some (.int (nI (8 + 8 * i))), none, none]) rfl ?_
    refine y_aload_n hC dL_shown_7 (i := 0) rfl rfl ?_
    refine y_iload_n hC dL_shown_8 (i := 3) rfl rfl ?_
    refine y_iald hC dL_shown_9 (k := C) (j := p) hC0 hc (rfl) (by omega) (by decide) ?_
    refine y_top (y := (ρ (p))) (hcl p hp) ?_
    refine y_istore hC dL_shown_10 (Nat.le_of_ble_eq_true rfl) rfl (lo' := [some (rf E (C)), some (rf E (R)), some (rf E (Z)), some (.int (nI (p))), some (.int (nI (8 + 8 * i))), some (.int (ρ (p))), none]) rfl ?_
    refine y_iload hC dL_shown_12 rfl ?_
    refine y_if_le_n (tgt := 53) hC dL_shown_14 (by decide) (by omega) (fun c_14 => ?_) (fun c_14 => ?_)
    · exfalso
      omega
    · refine y_aload_n hC dL_shown_17 (i := 0) rfl rfl ?_
      refine y_aload_n hC dL_shown_18 (i := 1) rfl rfl ?_
      refine y_iload hC dL_shown_19 rfl ?_
      refine y_iald hC dL_shown_21 (k := R) (j := 8 + 8 * i) hR hr (rfl) (by omega) (by decide) ?_
      refine y_top (y := nI (rg ρ i 0)) (hq.f0 hi) ?_
      refine y_iload_n hC dL_shown_22 (i := 3) rfl rfl ?_
      refine y_aload_n hC dL_shown_23 (i := 1) rfl rfl ?_
      refine y_iload hC dL_shown_24 rfl ?_
      refine y_iald hC dL_shown_26 (k := R) (j := 8 + 8 * i) hR hr (rfl) (by omega) (by decide) ?_
      refine y_top (y := nI (rg ρ i 0)) (hq.f0 hi) ?_
      refine y_isub_n hC dL_shown_27 (by omega) ?_
      refine y_aload_n hC dL_shown_28 (i := 1) rfl rfl ?_
      refine y_iload hC dL_shown_29 rfl ?_
      refine y_iconst (v := nI 1) hC dL_shown_31 (by decide) ?_
      refine y_iadd_n hC dL_shown_32 ?_
      refine y_iald hC dL_shown_33 (k := R) (j := (8 + 8 * i) + 1) hR hr (rfl) (by omega) (by decide) ?_
      refine y_top (y := nI (nP ρ i)) (hq.f1 hi) ?_
      refine y_iadd_n hC dL_shown_34 ?_
      refine y_aload_n hC dL_shown_35 (i := 1) rfl rfl ?_
      refine y_iload hC dL_shown_36 rfl ?_
      refine y_callS hC mL_turn kXL_18 dL_shown_38 (As := [rf E (R), .int (nI (8 + 8 * i))]) (rest := [.int (nI ((p - (rg ρ i 0)) + (nP ρ i))), .int (nI (rg ρ i 0)), rf E (C)]) (c_L_turn l E g R hR r hr (8 + 8 * i) (by omega) (nP ρ i) (rg ρ i 3) (rg ρ i 2) (a i) (K i) (hq.f1 hi) (hq.f2 hi) (hq.f3 hi) (hq.f5 hi) (hq.f6 hi) (by omega) (by omega) (by have := hq.le hi; omega) hn2.1 (by omega) (by omega) (by rw [hq.dv hi]; omega)) rfl rfl rfl (Nat.le_of_ble_eq_true rfl) ⟨Nat.le_of_ble_eq_true rfl, Nat.le_of_ble_eq_true rfl⟩ (pk_i ?_)
      rintro r_38 g_38 ⟨hr_38, hq_38⟩
      obtain rfl := hq_38.symm
      rw [hr_38]
      clear hr_38 r_38
      refine y_top (y := nI (tuN ρ i 0)) (congrArg nI (by rw [tu0 hv hi, hq.dv hi])) ?_
      refine y_isub_n hC dL_shown_41 (by omega) ?_
      refine y_aload_n hC dL_shown_42 (i := 1) rfl rfl ?_
      refine y_iload hC dL_shown_43 rfl ?_
      refine y_iconst (v := nI 1) hC dL_shown_45 (by decide) ?_
      refine y_iadd_n hC dL_shown_46 ?_
      refine y_iald hC dL_shown_47 (k := R) (j := (8 + 8 * i) + 1) hR hr (rfl) (by omega) (by decide) ?_
      refine y_top (y := nI (nP ρ i)) (hq.f1 hi) ?_
      refine y_irem_n hC dL_shown_48 (by omega) (by omega) (by omega) ?_
      refine y_iadd_n hC dL_shown_49 ?_
      refine y_iald hC dL_shown_50 (k := C) (j := (rg ρ i 0) + ((((p - (rg ρ i 0)) + (nP ρ i)) - (tuN ρ i 0)) % (nP ρ i))) hC0 hc (rfl) (hsr) (by decide) ?_
      refine y_top (y := (tnd ρ p 0)) ((hcl _ hsr).trans (tnd_s hra).symm) ?_
      refine y_istore hC dL_shown_51 (Nat.le_of_ble_eq_true rfl) rfl (lo' := [some (rf E (C)), some (rf E (R)), some (rf E (Z)), some (.int (nI (p))), some (.int (nI (8 + 8 * i))), some (.int (tnd ρ p 0)), none]) rfl ?_
      refine y_aload_n hC dL_shown_53 (i := 2) rfl rfl ?_
      refine y_iload_n hC dL_shown_54 (i := 3) rfl rfl ?_
      refine y_callS hC mL_glowOf kXL_21 dL_shown_55 (As := [rf E (Z), .int (nI (p))]) (rest := []) (c_L_glowOf l E g Z hZ h hh ρ B hv hg p (by omega)) rfl rfl rfl (Nat.le_of_ble_eq_true rfl) ⟨Nat.le_of_ble_eq_true rfl, Nat.le_of_ble_eq_true rfl⟩ (pk_i ?_)
      rintro r_55 g_55 ⟨hr_55, hq_55⟩
      obtain rfl := hq_55.symm
      rw [hr_55]
      clear hr_55 r_55
      rcases hga : gAt ρ p with _ | j
      · refine y_top (y := nI (0)) (congrArg nI (gz_n hga)) ?_
        refine y_istore hC dL_shown_58 (Nat.le_of_ble_eq_true rfl) rfl (lo' := [some (rf E (C)), some (rf E (R)), some (rf E (Z)), some (.int (nI (p))), some (.int (nI (8 + 8 * i))), some (.int (tnd ρ p 0)), some (.int (nI (0)))]) rfl ?_
        refine y_iload hC dL_shown_60 rfl ?_
        refine y_if_ne_n (tgt := 70) hC dL_shown_62 (by decide) (by omega) (fun c_62 => ?_) (fun c_62 => ?_)
        · exact absurd rfl c_62
        · refine y_iload hC dL_shown_65 rfl ?_
          refine y_goto (tgt := 93) hC dL_shown_67 (by decide) ?_
          refine y_iret (hC := hC) (hd := dL_shown_93) (hq := ?_)
          exact ⟨(shd_n hga).symm, rfl⟩
      · refine y_top (y := nI (4 + 4 * j)) (congrArg nI (gz_s hga)) ?_
        obtain ⟨hj, hj0⟩ := gAt_in hga
        have hgc := hv.2.1.2
        obtain ⟨w1, w2, w3, w4, w5⟩ := hv.gl hj
        obtain ⟨v, hv2, ev⟩ := hvc.2 j hj
        refine y_istore hC dL_shown_58 (Nat.le_of_ble_eq_true rfl) rfl (lo' := [some (rf E (C)), some (rf E (R)), some (rf E (Z)), some (.int (nI (p))), some (.int (nI (8 + 8 * i))), some (.int (tnd ρ p 0)), some (.int (nI (4 + 4 * j)))]) rfl ?_
        refine y_iload hC dL_shown_60 rfl ?_
        refine y_if_ne_n (tgt := 70) hC dL_shown_62 (by decide) (by omega) (fun c_62 => ?_) (fun c_62 => ?_)
        · refine y_iload hC dL_shown_70 rfl ?_
          refine y_top (y := nI (u)) (eu) ?_
          refine y_aload_n hC dL_shown_72 (i := 2) rfl rfl ?_
          refine y_iload hC dL_shown_73 rfl ?_
          refine y_iconst (v := nI 1) hC dL_shown_75 (by decide) ?_
          refine y_iadd_n hC dL_shown_76 ?_
          refine y_iald hC dL_shown_77 (k := Z) (j := (4 + 4 * j) + 1) hZ hh (rfl) (by omega) (by decide) ?_
          refine y_top (y := (ρ (76 + 4 * j + 1))) (hg.f1 hj) ?_
          refine y_top (y := nI (v)) (ev) ?_
          refine y_aload_n hC dL_shown_78 (i := 2) rfl rfl ?_
          refine y_iload hC dL_shown_79 rfl ?_
          refine y_callS hC mL_strength kXL_24 dL_shown_81 (As := [rf E (Z), .int (nI (4 + 4 * j))]) (rest := [.int (nI (v)), .int (nI (u))]) (c_L_strength l E g Z hZ h hh (4 + 4 * j) (by omega) (gl ρ j 2) (gl ρ j 3) (hg.f2 hj) (hg.f3 hj) (by omega) (by omega) (by omega)) rfl rfl rfl (Nat.le_of_ble_eq_true rfl) ⟨Nat.le_of_ble_eq_true rfl, Nat.le_of_ble_eq_true rfl⟩ (pk_i ?_)
          rintro r_81 g_81 ⟨hr_81, hq_81⟩
          obtain rfl := hq_81.symm
          rw [hr_81]
          clear hr_81 r_81
          refine y_aload_n hC dL_shown_84 (i := 2) rfl rfl ?_
          refine y_iload hC dL_shown_85 rfl ?_
          refine y_iconst (v := nI 2) hC dL_shown_87 (by decide) ?_
          refine y_iadd_n hC dL_shown_88 ?_
          refine y_iald hC dL_shown_89 (k := Z) (j := (4 + 4 * j) + 2) hZ hh (rfl) (by omega) (by decide) ?_
          refine y_top (y := nI (gl ρ j 2)) (hg.f2 hj) ?_
          refine y_callS hC mL_mixed kXL_27 dL_shown_90 (As := [.int (nI (u)), .int (nI (v)), .int (nI (stN (gl ρ j 2) (gl ρ j 3) 0)), .int (nI (gl ρ j 2))]) (rest := []) (c_L_mixed l E g u v (stN (gl ρ j 2) (gl ρ j 3) 0) (gl ρ j 2) hu hv2 (by omega) (by omega)) rfl rfl rfl (Nat.le_of_ble_eq_true rfl) ⟨Nat.le_of_ble_eq_true rfl, Nat.le_of_ble_eq_true rfl⟩ (pk_i ?_)
          rintro r_90 g_90 ⟨hr_90, hq_90⟩
          obtain rfl := hq_90.symm
          rw [hr_90]
          clear hr_90 r_90
          refine y_iret (hC := hC) (hd := dL_shown_93) (hq := ?_)
          exact ⟨by rw [shd_s hga, eu, ev], rfl⟩
        · exfalso
          omega

/-- the law's rows while ticks pass: k ranges, k glows have theirs -/
def rPs (r : Nat → Int32) (ρ : Row) (a : Nat → Nat) (t k : Nat) : Nat → Int32 := fun j => if 8 ≤ j ∧ j < 8 + 8 * k ∧ (j - 8) % 8 = 5 then nI (a ((j - 8) / 8) + rg ρ ((j - 8) / 8) 4 * t) else r j
def hPs (h : Nat → Int32) (ρ : Row) (t k : Nat) : Nat → Int32 := fun j => if 4 ≤ j ∧ j < 4 + 4 * k ∧ (j - 4) % 4 = 3 then nI ((gl ρ ((j - 4) / 4) 3 + t) % (2 * gl ρ ((j - 4) / 4) 2)) else h j
theorem rPs_o {r : Nat → Int32} {ρ : Row} {a : Nat → Nat} {t k j : Nat} (h : ¬ (8 ≤ j ∧ j < 8 + 8 * k ∧ (j - 8) % 8 = 5)) : rPs r ρ a t k j = r j := if_neg h
theorem rPs_5 {r : Nat → Int32} {ρ : Row} {a : Nat → Nat} {t k i : Nat} (h : i < k) : rPs r ρ a t k (8 + 8 * i + 5) = nI (a i + rg ρ i 4 * t) := by
  unfold rPs
  rw [if_pos (by omega), show (8 + 8 * i + 5 - 8) / 8 = i by omega]
theorem hPs_o {h : Nat → Int32} {ρ : Row} {t k j : Nat} (q : ¬ (4 ≤ j ∧ j < 4 + 4 * k ∧ (j - 4) % 4 = 3)) : hPs h ρ t k j = h j := if_neg q
theorem hPs_3 {h : Nat → Int32} {ρ : Row} {t k i : Nat} (q : i < k) : hPs h ρ t k (4 + 4 * i + 3) = nI ((gl ρ i 3 + t) % (2 * gl ρ i 2)) := by
  unfold hPs
  rw [if_pos (by omega), show (4 + 4 * i + 3 - 4) / 4 = i by omega]
theorem rPs_0 {r : Nat → Int32} {ρ : Row} {a : Nat → Nat} {t : Nat} : rPs r ρ a t 0 = r := by
  funext j
  exact rPs_o (by omega)
theorem hPs_0 {h : Nat → Int32} {ρ : Row} {t : Nat} : hPs h ρ t 0 = h := by
  funext j
  exact hPs_o (by omega)
theorem rPs_s {r : Nat → Int32} {ρ : Row} {a : Nat → Nat} {t k : Nat} : upd (rPs r ρ a t k) (8 + 8 * k + 5) (nI (a k + rg ρ k 4 * t)) = rPs r ρ a t (k + 1) := by
  funext j
  by_cases e : j = 8 + 8 * k + 5
  · rw [e, pk_us, rPs_5 (by omega)]
  · rw [pk_un e]
    unfold rPs
    by_cases c : 8 ≤ j ∧ j < 8 + 8 * k ∧ (j - 8) % 8 = 5
    · rw [if_pos c, if_pos (by omega)]
    · rw [if_neg c, if_neg (by omega)]
theorem hPs_s {h : Nat → Int32} {ρ : Row} {t k : Nat} : upd (hPs h ρ t k) (4 + 4 * k + 3) (nI ((gl ρ k 3 + t) % (2 * gl ρ k 2))) = hPs h ρ t (k + 1) := by
  funext j
  by_cases e : j = 4 + 4 * k + 3
  · rw [e, pk_us, hPs_3 (by omega)]
  · rw [pk_un e]
    unfold hPs
    by_cases c : 4 ≤ j ∧ j < 4 + 4 * k ∧ (j - 4) % 4 = 3
    · rw [if_pos c, if_pos (by omega)]
    · rw [if_neg c, if_neg (by omega)]
/-- the steps that a range makes -/
def mdS (ρ : Row) (t i : Nat) : Nat := if rg ρ i 4 = 1 then (rg ρ i 5 + t) / rg ρ i 2 else 0
theorem made_S (ρ : Row) (t : Nat) : made ρ t = sm (rc ρ) (mdS ρ t) := rfl
theorem mdS_e {ρ : Row} {r : Nat → Int32} {a K : Nat → Nat} {B M k t : Nat} (hv : Vr ρ B) (hq : RgL ρ r a K M) (hk : k < rc ρ) : (a k + rg ρ k 4 * t) / rg ρ k 2 = a k / rg ρ k 2 + mdS ρ t k := by
  obtain ⟨q1, q2, q3, q4, q5, q6, q7, q8, q9⟩ := hv.rg hk
  unfold mdS
  split
  · rename_i e
    rw [e, Nat.one_mul, dv_add (by omega), hq.md hk]
  · rename_i e
    rw [show rg ρ k 4 = 0 by omega, Nat.zero_mul, Nat.add_zero, Nat.add_zero]
theorem sm_mle {ρ : Row} {B t : Nat} (hv : Vr ρ B) : ∀ k, k ≤ rc ρ → sm k (mdS ρ t) ≤ 6 * t
  | k, hk => by
    have h1 := sm_le (n := k) (c := t) (f := mdS ρ t) (fun i hi => by
      obtain ⟨q1, q2, q3, q4, q5, q6, q7, q8, q9⟩ := hv.rg (show i < rc ρ by omega)
      unfold mdS
      have := dv_le (t := t) q8
      split <;> omega)
    have h2 := Nat.mul_le_mul_right t (show k ≤ 6 by have := hv.1.2; omega)
    omega
theorem rg_tk {ρ : Row} {r : Nat → Int32} {a K : Nat → Nat} {B M t : Nat} (hv : Vr ρ B) (hB : B ≤ 10000000) (ht : t ≤ 5000) (hq : RgL ρ r a K M) : RgL (tkR ρ t) (rPs r ρ a t (rc ρ)) (fun i => a i + rg ρ i 4 * t) K (M + t) := by
  have hrc := hv.1.2
  refine ⟨by rw [rPs_o (by omega), tkR_rc]; exact hq.n, fun k hk => ?_⟩
  rw [tkR_rc] at hk
  obtain ⟨q1, q2, q3, q4, q5, q6, q7, q8, q9⟩ := hv.rg hk
  obtain ⟨e0, e1, e2, e3, e4, e5, e6⟩ := tk_rg hv (show B < 90000000 by omega) ht hk
  have hn : nP (tkR ρ t) k = nP ρ k := by unfold nP; rw [e0, e1]
  have hd := mdS_e (t := t) hv hq hk
  have hl := hq.le hk
  have hw : rg ρ k 4 * t ≤ t := by
    have := Nat.mul_le_mul_right t q7
    omega
  refine ⟨?_, ?_, ?_, ?_, ?_, rPs_5 hk, ?_, ?_, ?_, show a k + rg ρ k 4 * t ≤ M + t by omega⟩
  · rw [rPs_o (by omega), e0]; exact hq.f0 hk
  · rw [rPs_o (by omega), hn]; exact hq.f1 hk
  · rw [rPs_o (by omega), e2]; exact hq.f2 hk
  · rw [rPs_o (by omega), e3]; exact hq.f3 hk
  · rw [rPs_o (by omega), e4]; exact hq.f4 hk
  · rw [rPs_o (by omega)]; exact hq.f6 hk
  · show (a k + rg ρ k 4 * t) % _ = _
    rw [e2, e5]
    split
    · rename_i e
      rw [e, Nat.one_mul, ← hq.md hk, md_add]
    · rename_i e
      rw [show rg ρ k 4 = 0 by omega, Nat.zero_mul, Nat.add_zero, hq.md hk]
  · show (a k + rg ρ k 4 * t) / _ + K k = _
    rw [e2, e6, hd]
    have h9 := hq.dv hk
    unfold mdS mdN
    split <;> omega
theorem gl_tk {ρ : Row} {h : Nat → Int32} {B t : Nat} (hv : Vr ρ B) (ht : t ≤ 5000) (hg : GlL ρ h) : GlL (tkR ρ t) (upd (upd (hPs h ρ t (gc ρ)) 1 (nI (nn (ρ 156) + t))) 2 (nI (nn (ρ 157) + made ρ t))) := by
  have hrc := hv.1.2
  have hgc := hv.2.1.2
  have hm : ∀ j, j ≠ 1 → j ≠ 2 → upd (upd (hPs h ρ t (gc ρ)) 1 (nI (nn (ρ 156) + t))) 2 (nI (nn (ρ 157) + made ρ t)) j = hPs h ρ t (gc ρ) j := fun j h1 h2 => by rw [pk_un h2, pk_un h1]
  refine ⟨by rw [hm _ (by decide) (by decide), hPs_o (by omega), tkR_gc hrc]; exact hg.n, by rw [pk_un (by decide), pk_us, tkR_156 hrc hgc], by rw [pk_us, tkR_157 hrc hgc], fun k hk => ?_⟩
  rw [tkR_gc hrc] at hk
  obtain ⟨e0, e2, e3, e1⟩ := tk_gl (a := t) hv hk
  refine ⟨?_, ?_, ?_, ?_⟩
  · rw [hm _ (by omega) (by omega), hPs_o (by omega), e0]; exact hg.f0 hk
  · rw [hm _ (by omega) (by omega), hPs_o (by omega), e1]; exact hg.f1 hk
  · rw [hm _ (by omega) (by omega), hPs_o (by omega), e2]; exact hg.f2 hk
  · rw [hm _ (by omega) (by omega), hPs_3 hk, e3]
theorem dL_passes_0 : decode cL_passes 0 = .ok (.iconst 0, 1) := by decide +kernel
theorem dL_passes_1 : decode cL_passes 1 = .ok (.istore_n 3, 1) := by decide +kernel
theorem dL_passes_2 : decode cL_passes 2 = .ok (.bipush 8, 2) := by decide +kernel
theorem dL_passes_4 : decode cL_passes 4 = .ok (.istore 4, 2) := by decide +kernel
theorem dL_passes_6 : decode cL_passes 6 = .ok (.iload 4, 2) := by decide +kernel
theorem dL_passes_8 : decode cL_passes 8 = .ok (.bipush 8, 2) := by decide +kernel
theorem dL_passes_10 : decode cL_passes 10 = .ok (.bipush 8, 2) := by decide +kernel
theorem dL_passes_12 : decode cL_passes 12 = .ok (.aload_n 0, 1) := by decide +kernel
theorem dL_passes_13 : decode cL_passes 13 = .ok (.iconst 0, 1) := by decide +kernel
theorem dL_passes_14 : decode cL_passes 14 = .ok (.iaload, 1) := by decide +kernel
theorem dL_passes_15 : decode cL_passes 15 = .ok (.imul, 1) := by decide +kernel
theorem dL_passes_16 : decode cL_passes 16 = .ok (.iadd, 1) := by decide +kernel
theorem dL_passes_17 : decode cL_passes 17 = .ok (.if_icmp .ge 46, 3) := by decide +kernel
theorem dL_passes_20 : decode cL_passes 20 = .ok (.aload_n 0, 1) := by decide +kernel
theorem dL_passes_21 : decode cL_passes 21 = .ok (.iload 4, 2) := by decide +kernel
theorem dL_passes_23 : decode cL_passes 23 = .ok (.invokestatic 9, 3) := by decide +kernel
theorem dL_passes_26 : decode cL_passes 26 = .ok (.istore 5, 2) := by decide +kernel
theorem dL_passes_28 : decode cL_passes 28 = .ok (.aload_n 0, 1) := by decide +kernel
theorem dL_passes_29 : decode cL_passes 29 = .ok (.iload 4, 2) := by decide +kernel
theorem dL_passes_31 : decode cL_passes 31 = .ok (.iconst 5, 1) := by decide +kernel
theorem dL_passes_32 : decode cL_passes 32 = .ok (.iadd, 1) := by decide +kernel
theorem dL_passes_33 : decode cL_passes 33 = .ok (.dup2, 1) := by decide +kernel
theorem dL_passes_34 : decode cL_passes 34 = .ok (.iaload, 1) := by decide +kernel
theorem dL_passes_35 : decode cL_passes 35 = .ok (.aload_n 0, 1) := by decide +kernel
theorem dL_passes_36 : decode cL_passes 36 = .ok (.iload 4, 2) := by decide +kernel
theorem dL_passes_38 : decode cL_passes 38 = .ok (.iconst 4, 1) := by decide +kernel
theorem dL_passes_39 : decode cL_passes 39 = .ok (.iadd, 1) := by decide +kernel
theorem dL_passes_40 : decode cL_passes 40 = .ok (.iaload, 1) := by decide +kernel
theorem dL_passes_41 : decode cL_passes 41 = .ok (.iload_n 2, 1) := by decide +kernel
theorem dL_passes_42 : decode cL_passes 42 = .ok (.imul, 1) := by decide +kernel
theorem dL_passes_43 : decode cL_passes 43 = .ok (.iadd, 1) := by decide +kernel
theorem dL_passes_44 : decode cL_passes 44 = .ok (.iastore, 1) := by decide +kernel
theorem dL_passes_45 : decode cL_passes 45 = .ok (.iload_n 3, 1) := by decide +kernel
theorem dL_passes_46 : decode cL_passes 46 = .ok (.aload_n 0, 1) := by decide +kernel
theorem dL_passes_47 : decode cL_passes 47 = .ok (.iload 4, 2) := by decide +kernel
theorem dL_passes_49 : decode cL_passes 49 = .ok (.invokestatic 9, 3) := by decide +kernel
theorem dL_passes_52 : decode cL_passes 52 = .ok (.iload 5, 2) := by decide +kernel
theorem dL_passes_54 : decode cL_passes 54 = .ok (.isub, 1) := by decide +kernel
theorem dL_passes_55 : decode cL_passes 55 = .ok (.iadd, 1) := by decide +kernel
theorem dL_passes_56 : decode cL_passes 56 = .ok (.istore_n 3, 1) := by decide +kernel
theorem dL_passes_57 : decode cL_passes 57 = .ok (.iinc 4 8, 3) := by decide +kernel
theorem dL_passes_60 : decode cL_passes 60 = .ok (.goto (-54), 3) := by decide +kernel
theorem dL_passes_63 : decode cL_passes 63 = .ok (.iconst 4, 1) := by decide +kernel
theorem dL_passes_64 : decode cL_passes 64 = .ok (.istore 4, 2) := by decide +kernel
theorem dL_passes_66 : decode cL_passes 66 = .ok (.iload 4, 2) := by decide +kernel
theorem dL_passes_68 : decode cL_passes 68 = .ok (.iconst 4, 1) := by decide +kernel
theorem dL_passes_69 : decode cL_passes 69 = .ok (.iconst 4, 1) := by decide +kernel
theorem dL_passes_70 : decode cL_passes 70 = .ok (.aload_n 1, 1) := by decide +kernel
theorem dL_passes_71 : decode cL_passes 71 = .ok (.iconst 0, 1) := by decide +kernel
theorem dL_passes_72 : decode cL_passes 72 = .ok (.iaload, 1) := by decide +kernel
theorem dL_passes_73 : decode cL_passes 73 = .ok (.imul, 1) := by decide +kernel
theorem dL_passes_74 : decode cL_passes 74 = .ok (.iadd, 1) := by decide +kernel
theorem dL_passes_75 : decode cL_passes 75 = .ok (.if_icmp .ge 32, 3) := by decide +kernel
theorem dL_passes_78 : decode cL_passes 78 = .ok (.aload_n 1, 1) := by decide +kernel
theorem dL_passes_79 : decode cL_passes 79 = .ok (.iload 4, 2) := by decide +kernel
theorem dL_passes_81 : decode cL_passes 81 = .ok (.iconst 3, 1) := by decide +kernel
theorem dL_passes_82 : decode cL_passes 82 = .ok (.iadd, 1) := by decide +kernel
theorem dL_passes_83 : decode cL_passes 83 = .ok (.aload_n 1, 1) := by decide +kernel
theorem dL_passes_84 : decode cL_passes 84 = .ok (.iload 4, 2) := by decide +kernel
theorem dL_passes_86 : decode cL_passes 86 = .ok (.iconst 3, 1) := by decide +kernel
theorem dL_passes_87 : decode cL_passes 87 = .ok (.iadd, 1) := by decide +kernel
theorem dL_passes_88 : decode cL_passes 88 = .ok (.iaload, 1) := by decide +kernel
theorem dL_passes_89 : decode cL_passes 89 = .ok (.iload_n 2, 1) := by decide +kernel
theorem dL_passes_90 : decode cL_passes 90 = .ok (.iadd, 1) := by decide +kernel
theorem dL_passes_91 : decode cL_passes 91 = .ok (.iconst 2, 1) := by decide +kernel
theorem dL_passes_92 : decode cL_passes 92 = .ok (.aload_n 1, 1) := by decide +kernel
theorem dL_passes_93 : decode cL_passes 93 = .ok (.iload 4, 2) := by decide +kernel
theorem dL_passes_95 : decode cL_passes 95 = .ok (.iconst 2, 1) := by decide +kernel
theorem dL_passes_96 : decode cL_passes 96 = .ok (.iadd, 1) := by decide +kernel
theorem dL_passes_97 : decode cL_passes 97 = .ok (.iaload, 1) := by decide +kernel
theorem dL_passes_98 : decode cL_passes 98 = .ok (.imul, 1) := by decide +kernel
theorem dL_passes_99 : decode cL_passes 99 = .ok (.irem, 1) := by decide +kernel
theorem dL_passes_100 : decode cL_passes 100 = .ok (.iastore, 1) := by decide +kernel
theorem dL_passes_101 : decode cL_passes 101 = .ok (.iinc 4 4, 3) := by decide +kernel
theorem dL_passes_104 : decode cL_passes 104 = .ok (.goto (-38), 3) := by decide +kernel
theorem dL_passes_107 : decode cL_passes 107 = .ok (.aload_n 1, 1) := by decide +kernel
theorem dL_passes_108 : decode cL_passes 108 = .ok (.iconst 1, 1) := by decide +kernel
theorem dL_passes_109 : decode cL_passes 109 = .ok (.dup2, 1) := by decide +kernel
theorem dL_passes_110 : decode cL_passes 110 = .ok (.iaload, 1) := by decide +kernel
theorem dL_passes_111 : decode cL_passes 111 = .ok (.iload_n 2, 1) := by decide +kernel
theorem dL_passes_112 : decode cL_passes 112 = .ok (.iadd, 1) := by decide +kernel
theorem dL_passes_113 : decode cL_passes 113 = .ok (.iastore, 1) := by decide +kernel
theorem dL_passes_114 : decode cL_passes 114 = .ok (.aload_n 1, 1) := by decide +kernel
theorem dL_passes_115 : decode cL_passes 115 = .ok (.iconst 2, 1) := by decide +kernel
theorem dL_passes_116 : decode cL_passes 116 = .ok (.dup2, 1) := by decide +kernel
theorem dL_passes_117 : decode cL_passes 117 = .ok (.iaload, 1) := by decide +kernel
theorem dL_passes_118 : decode cL_passes 118 = .ok (.iload_n 3, 1) := by decide +kernel
theorem dL_passes_119 : decode cL_passes 119 = .ok (.iadd, 1) := by decide +kernel
theorem dL_passes_120 : decode cL_passes 120 = .ok (.iastore, 1) := by decide +kernel
theorem dL_passes_121 : decode cL_passes 121 = .ok (.iload_n 3, 1) := by decide +kernel
theorem dL_passes_122 : decode cL_passes 122 = .ok (.ireturn, 1) := by decide +kernel
set_option maxHeartbeats 4000000 in
set_option maxRecDepth 100000 in
theorem c_L_passes (l : Launch) (E : gE) (g : Mem) (R Z : Nat) (hR : R < eK E) (hZ : Z < eK E) (hne : R ≠ Z) (r h : Nat → Int32) (hr : g R = aI E 0 56 r) (hh : g Z = aI E 0 20 h) (ρ : Row) (B M : Nat) (hv : Vr ρ B) (hB : B ≤ 10000000) (hM : M ≤ 100000000) (a K : Nat → Nat) (hq : RgL ρ r a K M) (hg : GlL ρ h)(t : Nat) (ht : t ≤ 1000) : Mt l E yL_passes cL_passes 6 (some .int) 1 21 [rf E (R), rf E (Z), .int (nI (t))] g (pI (fun z g' => z = nI (made ρ t) ∧ ∃ (r' h' : Nat → Int32) (a' : Nat → Nat), g' R = aI E 0 56 r' ∧ g' Z = aI E 0 20 h' ∧ (∀ j, j ≠ R → j ≠ Z → g' j = g j) ∧ RgL (tkR ρ t) r' a' K (M + t) ∧ GlL (tkR ρ t) h')) := by
  have hrc := hv.1.2
  have hgc := hv.2.1.2
  have hml := sm_mle (t := t) hv
  have h156 := hv.2.2.2.2.2.2.2.1.1
  have h156b := hv.2.2.2.2.2.2.2.1.2
  have h157 := hv.2.2.2.2.2.2.2.2.1
  have h157b := hv.2.2.2.2.2.2.2.2.2
  refine mt_go (own := RXL) (by decide) rfl (lo := [some (rf E (R)), some (rf E (Z)), some (.int (nI (t))), none, none, none]) rfl (Nat.le_of_ble_eq_true rfl) (fun X hC => ?_)
  refine y_iconst (v := nI 0) hC dL_passes_0 (by decide) ?_
  refine y_istore_n hC dL_passes_1 (i := 3) rfl (Nat.le_of_ble_eq_true rfl) rfl (lo' := [some (rf E (R)), some (rf E (Z)), some (.int (nI (t))), some (.int (nI (0))), none, none]) rfl ?_
  refine y_bipush (v := nI 8) hC dL_passes_2 (by decide) ?_
  refine y_istore hC dL_passes_4 (Nat.le_of_ble_eq_true rfl) rfl (lo' := [some (rf E (R)), some (rf E (Z)), some (.int (nI (t))), some (.int (nI (0))), some (.int (nI (8))), none]) rfl ?_
  have L_6 : ∀ (m : Nat) (k : Nat) (gg : Mem), (hm : rc ρ - k < m) → (hk : k ≤ rc ρ) → (h1 : gg R = aI E 0 56 (rPs r ρ a t k)) → (h2 : gg Z = aI E 0 20 h) → (hf : ∀ j, j ≠ R → j ≠ Z → gg j = g j) → Y l E X (pI (fun z g' => z = nI (made ρ t) ∧ ∃ (r' h' : Nat → Int32) (a' : Nat → Nat), g' R = aI E 0 56 r' ∧ g' Z = aI E 0 20 h' ∧ (∀ j, j ≠ R → j ≠ Z → g' j = g j) ∧ RgL (tkR ρ t) r' a' K (M + t) ∧ GlL (tkR ρ t) h')) 6 [some (rf E (R)), some (rf E (Z)), some (.int (nI (t))), some (.int (nI (sm k (mdS ρ t)))), some (.int (nI (8 + 8 * k))), none] [] gg := by
    intro m
    induction m with
    | zero => intro k gg hm hk h1 h2 hf; exact absurd hm (Nat.not_lt_zero _)
    | succ m ih_6 =>
      intro k gg hm hk h1 h2 hf
      refine y_iload hC dL_passes_6 rfl ?_
      refine y_bipush (v := nI 8) hC dL_passes_8 (by decide) ?_
      refine y_bipush (v := nI 8) hC dL_passes_10 (by decide) ?_
      refine y_aload_n hC dL_passes_12 (i := 0) rfl rfl ?_
      refine y_iconst (v := nI 0) hC dL_passes_13 (by decide) ?_
      refine y_iald hC dL_passes_14 (k := R) (j := 0) hR h1 (rfl) (by omega) (by decide) ?_
      refine y_top (y := nI (rc ρ)) ((rPs_o (by omega)).trans hq.n) ?_
      refine y_imul_n hC dL_passes_15 ?_
      refine y_iadd_n hC dL_passes_16 ?_
      refine y_icmp_ge_n (tgt := 63) hC dL_passes_17 (by decide) (by omega) (by omega) (fun c_17 => ?_) (fun c_17 => ?_)
      · obtain rfl : k = rc ρ := by omega
        refine y_lo (lo' := [some (rf E (R)), some (rf E (Z)), some (.int (nI (t))), some (.int (nI (made ρ t))), some (.int (nI (8 + 8 * rc ρ))), none]) (by rw [made_S]) ?_
        refine y_iconst (v := nI 4) hC dL_passes_63 (by decide) ?_
        refine y_istore hC dL_passes_64 (Nat.le_of_ble_eq_true rfl) rfl (lo' := [some (rf E (R)), some (rf E (Z)), some (.int (nI (t))), some (.int (nI (made ρ t))), some (.int (nI (4))), none]) rfl ?_
        have L_66 : ∀ (m : Nat) (k : Nat) (gg : Mem), (hm : gc ρ - k < m) → (hk : k ≤ gc ρ) → (h1 : gg R = aI E 0 56 (rPs r ρ a t (rc ρ))) → (h2 : gg Z = aI E 0 20 (hPs h ρ t k)) → (hf : ∀ j, j ≠ R → j ≠ Z → gg j = g j) → Y l E X (pI (fun z g' => z = nI (made ρ t) ∧ ∃ (r' h' : Nat → Int32) (a' : Nat → Nat), g' R = aI E 0 56 r' ∧ g' Z = aI E 0 20 h' ∧ (∀ j, j ≠ R → j ≠ Z → g' j = g j) ∧ RgL (tkR ρ t) r' a' K (M + t) ∧ GlL (tkR ρ t) h')) 66 [some (rf E (R)), some (rf E (Z)), some (.int (nI (t))), some (.int (nI (made ρ t))), some (.int (nI (4 + 4 * k))), none] [] gg := by
          intro m
          induction m with
          | zero => intro k gg hm hk h1 h2 hf; exact absurd hm (Nat.not_lt_zero _)
          | succ m ih_66 =>
            intro k gg hm hk h1 h2 hf
            refine y_iload hC dL_passes_66 rfl ?_
            refine y_iconst (v := nI 4) hC dL_passes_68 (by decide) ?_
            refine y_iconst (v := nI 4) hC dL_passes_69 (by decide) ?_
            refine y_aload_n hC dL_passes_70 (i := 1) rfl rfl ?_
            refine y_iconst (v := nI 0) hC dL_passes_71 (by decide) ?_
            refine y_iald hC dL_passes_72 (k := Z) (j := 0) hZ h2 (rfl) (by omega) (by decide) ?_
            refine y_top (y := nI (gc ρ)) ((hPs_o (by omega)).trans hg.n) ?_
            refine y_imul_n hC dL_passes_73 ?_
            refine y_iadd_n hC dL_passes_74 ?_
            refine y_icmp_ge_n (tgt := 107) hC dL_passes_75 (by decide) (by omega) (by omega) (fun c_75 => ?_) (fun c_75 => ?_)
            · obtain rfl : k = gc ρ := by omega
              refine y_aload_n hC dL_passes_107 (i := 1) rfl rfl ?_
              refine y_iconst (v := nI 1) hC dL_passes_108 (by decide) ?_
              refine y_dup2 hC dL_passes_109 rfl rfl ?_
              refine y_iald hC dL_passes_110 (k := Z) (j := 1) hZ h2 (rfl) (by omega) (by decide) ?_
              refine y_top (y := nI (nn (ρ 156))) ((hPs_o (by omega)).trans (hg.t.trans h156)) ?_
              refine y_iload_n hC dL_passes_111 (i := 2) rfl rfl ?_
              refine y_iadd_n hC dL_passes_112 ?_
              refine y_iast hC dL_passes_113 (k := Z) (j := 1) hZ h2 (rfl) (by omega) (by decide) ?_
              have hw_113 : (va_up gg (Z) (aI E 0 20 (upd (hPs h ρ t (gc ρ)) (1) (nI ((nn (ρ 156)) + t))))) (Z) = aI E 0 20 (upd (hPs h ρ t (gc ρ)) (1) (nI ((nn (ρ 156)) + t))) := va_up_self _ _ _
              have ho_113 : ∀ j, j ≠ Z → (va_up gg (Z) (aI E 0 20 (upd (hPs h ρ t (gc ρ)) (1) (nI ((nn (ρ 156)) + t))))) j = gg j := fun j hj => va_up_ne _ _ hj
              have hx_113_0 := (ho_113 (R) (hne)).trans (h1)
              generalize (va_up gg (Z) (aI E 0 20 (upd (hPs h ρ t (gc ρ)) (1) (nI ((nn (ρ 156)) + t))))) = g_113 at hw_113 ho_113 hx_113_0 ⊢
              refine y_aload_n hC dL_passes_114 (i := 1) rfl rfl ?_
              refine y_iconst (v := nI 2) hC dL_passes_115 (by decide) ?_
              refine y_dup2 hC dL_passes_116 rfl rfl ?_
              refine y_iald hC dL_passes_117 (k := Z) (j := 2) hZ hw_113 (rfl) (by omega) (by decide) ?_
              refine y_top (y := nI (nn (ρ 157))) ((pk_un (by decide)).trans ((hPs_o (by omega)).trans (hg.s.trans h157))) ?_
              refine y_iload_n hC dL_passes_118 (i := 3) rfl rfl ?_
              refine y_iadd_n hC dL_passes_119 ?_
              refine y_iast hC dL_passes_120 (k := Z) (j := 2) hZ hw_113 (rfl) (by omega) (by decide) ?_
              have hw_120 : (va_up g_113 (Z) (aI E 0 20 (upd (upd (hPs h ρ t (gc ρ)) (1) (nI ((nn (ρ 156)) + t))) (2) (nI ((nn (ρ 157)) + (made ρ t)))))) (Z) = aI E 0 20 (upd (upd (hPs h ρ t (gc ρ)) (1) (nI ((nn (ρ 156)) + t))) (2) (nI ((nn (ρ 157)) + (made ρ t)))) := va_up_self _ _ _
              have ho_120 : ∀ j, j ≠ Z → (va_up g_113 (Z) (aI E 0 20 (upd (upd (hPs h ρ t (gc ρ)) (1) (nI ((nn (ρ 156)) + t))) (2) (nI ((nn (ρ 157)) + (made ρ t)))))) j = g_113 j := fun j hj => va_up_ne _ _ hj
              have hx_120_0 := (ho_120 (R) (hne)).trans (hx_113_0)
              generalize (va_up g_113 (Z) (aI E 0 20 (upd (upd (hPs h ρ t (gc ρ)) (1) (nI ((nn (ρ 156)) + t))) (2) (nI ((nn (ρ 157)) + (made ρ t)))))) = g_120 at hw_120 ho_120 hx_120_0 ⊢
              refine y_iload_n hC dL_passes_121 (i := 3) rfl rfl ?_
              refine y_iret (hC := hC) (hd := dL_passes_122) (hq := ?_)
              exact ⟨rfl, _, _, _, hx_120_0, hw_120, fun j q1 q2 => (ho_120 j q2).trans ((ho_113 j q2).trans (hf j q1 q2)), rg_tk hv hB (by omega) hq, gl_tk hv (by omega) hg⟩
            · have hkk : k < gc ρ := by omega
              obtain ⟨w1, w2, w3, w4, w5⟩ := hv.gl hkk
              refine y_aload_n hC dL_passes_78 (i := 1) rfl rfl ?_
              refine y_iload hC dL_passes_79 rfl ?_
              refine y_iconst (v := nI 3) hC dL_passes_81 (by decide) ?_
              refine y_iadd_n hC dL_passes_82 ?_
              refine y_aload_n hC dL_passes_83 (i := 1) rfl rfl ?_
              refine y_iload hC dL_passes_84 rfl ?_
              refine y_iconst (v := nI 3) hC dL_passes_86 (by decide) ?_
              refine y_iadd_n hC dL_passes_87 ?_
              refine y_iald hC dL_passes_88 (k := Z) (j := (4 + 4 * k) + 3) hZ h2 (rfl) (by omega) (by decide) ?_
              refine y_top (y := nI (gl ρ k 3)) ((hPs_o (by omega)).trans (hg.f3 hkk)) ?_
              refine y_iload_n hC dL_passes_89 (i := 2) rfl rfl ?_
              refine y_iadd_n hC dL_passes_90 ?_
              refine y_iconst (v := nI 2) hC dL_passes_91 (by decide) ?_
              refine y_aload_n hC dL_passes_92 (i := 1) rfl rfl ?_
              refine y_iload hC dL_passes_93 rfl ?_
              refine y_iconst (v := nI 2) hC dL_passes_95 (by decide) ?_
              refine y_iadd_n hC dL_passes_96 ?_
              refine y_iald hC dL_passes_97 (k := Z) (j := (4 + 4 * k) + 2) hZ h2 (rfl) (by omega) (by decide) ?_
              refine y_top (y := nI (gl ρ k 2)) ((hPs_o (by omega)).trans (hg.f2 hkk)) ?_
              refine y_imul_n hC dL_passes_98 ?_
              refine y_irem_n hC dL_passes_99 (by omega) (by omega) (by omega) ?_
              refine y_iast hC dL_passes_100 (k := Z) (j := (4 + 4 * k) + 3) hZ h2 (rfl) (by omega) (by decide) ?_
              have hw_100 : (va_up gg (Z) (aI E 0 20 (upd (hPs h ρ t k) ((4 + 4 * k) + 3) (nI (((gl ρ k 3) + t) % (2 * (gl ρ k 2))))))) (Z) = aI E 0 20 (upd (hPs h ρ t k) ((4 + 4 * k) + 3) (nI (((gl ρ k 3) + t) % (2 * (gl ρ k 2))))) := va_up_self _ _ _
              have ho_100 : ∀ j, j ≠ Z → (va_up gg (Z) (aI E 0 20 (upd (hPs h ρ t k) ((4 + 4 * k) + 3) (nI (((gl ρ k 3) + t) % (2 * (gl ρ k 2))))))) j = gg j := fun j hj => va_up_ne _ _ hj
              have hx_100_0 := (ho_100 (R) (hne)).trans (h1)
              generalize (va_up gg (Z) (aI E 0 20 (upd (hPs h ρ t k) ((4 + 4 * k) + 3) (nI (((gl ρ k 3) + t) % (2 * (gl ρ k 2))))))) = g_100 at hw_100 ho_100 hx_100_0 ⊢
              rw [hPs_s] at hw_100
              refine y_iinc_n hC dL_passes_101 (a := 4 + 4 * k) (k := 4) rfl (by decide) (Nat.le_of_ble_eq_true rfl) rfl (lo' := [some (rf E (R)), some (rf E (Z)), some (.int (nI (t))), some (.int (nI (made ρ t))), some (.int (nI (4 + 4 * k + 4))), none]) rfl ?_
              refine y_goto (tgt := 66) hC dL_passes_104 (by decide) ?_
              rw [show 4 + 4 * k + 4 = 4 + 4 * (k + 1) from by omega]
              exact ih_66 (k + 1) g_100 (by omega) (by omega) (hx_100_0) (hw_100) (fun j q1 q2 => (ho_100 j q2).trans (hf j q1 q2))
        exact L_66 (gc ρ + 1) 0 gg (by omega) (by omega) (h1) (by rw [hPs_0]; exact h2) (fun j q1 q2 => hf j q1 q2)
      · have hkk : k < rc ρ := by omega
        obtain ⟨q1, q2, q3, q4, q5, q6, q7, q8, q9⟩ := hv.rg hkk
        have hl := hq.le hkk
        have hmd := mdS_e (t := t) hv hq hkk
        have hwt : rg ρ k 4 * t ≤ t := by
          have := Nat.mul_le_mul_right t q7
          omega
        refine y_aload_n hC dL_passes_20 (i := 0) rfl rfl ?_
        refine y_iload hC dL_passes_21 rfl ?_
        refine y_callS hC mL_steps kXL_9 dL_passes_23 (As := [rf E (R), .int (nI (8 + 8 * k))]) (rest := []) (c_L_steps l E gg R hR _ h1 (8 + 8 * k) (by omega) (rg ρ k 2) (a k) (K k) ((rPs_o (by omega)).trans (hq.f2 hkk)) ((rPs_o (by omega)).trans (hq.f5 hkk)) ((rPs_o (by omega)).trans (hq.f6 hkk)) (by omega) (by omega) (by omega)) rfl rfl rfl (Nat.le_of_ble_eq_true rfl) ⟨Nat.le_of_ble_eq_true rfl, Nat.le_of_ble_eq_true rfl⟩ (pk_i ?_)
        rintro r_23 g_23 ⟨hr_23, hq_23⟩
        obtain rfl := hq_23.symm
        rw [hr_23]
        clear hr_23 r_23
        refine y_istore hC dL_passes_26 (Nat.le_of_ble_eq_true rfl) rfl (lo' := [some (rf E (R)), some (rf E (Z)), some (.int (nI (t))), some (.int (nI (sm k (mdS ρ t)))), some (.int (nI (8 + 8 * k))), some (.int (nI (a k / rg ρ k 2 + K k)))]) rfl ?_
        refine y_aload_n hC dL_passes_28 (i := 0) rfl rfl ?_
        refine y_iload hC dL_passes_29 rfl ?_
        refine y_iconst (v := nI 5) hC dL_passes_31 (by decide) ?_
        refine y_iadd_n hC dL_passes_32 ?_
        refine y_dup2 hC dL_passes_33 rfl rfl ?_
        refine y_iald hC dL_passes_34 (k := R) (j := (8 + 8 * k) + 5) hR h1 (rfl) (by omega) (by decide) ?_
        refine y_top (y := nI (a k)) ((rPs_o (by omega)).trans (hq.f5 hkk)) ?_
        refine y_aload_n hC dL_passes_35 (i := 0) rfl rfl ?_
        refine y_iload hC dL_passes_36 rfl ?_
        refine y_iconst (v := nI 4) hC dL_passes_38 (by decide) ?_
        refine y_iadd_n hC dL_passes_39 ?_
        refine y_iald hC dL_passes_40 (k := R) (j := (8 + 8 * k) + 4) hR h1 (rfl) (by omega) (by decide) ?_
        refine y_top (y := nI (rg ρ k 4)) ((rPs_o (by omega)).trans (hq.f4 hkk)) ?_
        refine y_iload_n hC dL_passes_41 (i := 2) rfl rfl ?_
        refine y_imul_n hC dL_passes_42 ?_
        refine y_iadd_n hC dL_passes_43 ?_
        refine y_iast hC dL_passes_44 (k := R) (j := (8 + 8 * k) + 5) hR h1 (rfl) (by omega) (by decide) ?_
        have hw_44 : (va_up gg (R) (aI E 0 56 (upd (rPs r ρ a t k) ((8 + 8 * k) + 5) (nI ((a k) + ((rg ρ k 4) * t)))))) (R) = aI E 0 56 (upd (rPs r ρ a t k) ((8 + 8 * k) + 5) (nI ((a k) + ((rg ρ k 4) * t)))) := va_up_self _ _ _
        have ho_44 : ∀ j, j ≠ R → (va_up gg (R) (aI E 0 56 (upd (rPs r ρ a t k) ((8 + 8 * k) + 5) (nI ((a k) + ((rg ρ k 4) * t)))))) j = gg j := fun j hj => va_up_ne _ _ hj
        have hx_44_0 := (ho_44 (Z) (fun e => hne e.symm)).trans (h2)
        generalize (va_up gg (R) (aI E 0 56 (upd (rPs r ρ a t k) ((8 + 8 * k) + 5) (nI ((a k) + ((rg ρ k 4) * t)))))) = g_44 at hw_44 ho_44 hx_44_0 ⊢
        rw [rPs_s] at hw_44
        refine y_iload_n hC dL_passes_45 (i := 3) rfl rfl ?_
        refine y_aload_n hC dL_passes_46 (i := 0) rfl rfl ?_
        refine y_iload hC dL_passes_47 rfl ?_
        refine y_callS hC mL_steps kXL_9 dL_passes_49 (As := [rf E (R), .int (nI (8 + 8 * k))]) (rest := [.int (nI (sm k (mdS ρ t)))]) (c_L_steps l E g_44 R hR _ hw_44 (8 + 8 * k) (by omega) (rg ρ k 2) (a k + rg ρ k 4 * t) (K k) ((rPs_o (by omega)).trans (hq.f2 hkk)) (rPs_5 (by omega)) ((rPs_o (by omega)).trans (hq.f6 hkk)) (by omega) (by omega) (by omega)) rfl rfl rfl (Nat.le_of_ble_eq_true rfl) ⟨Nat.le_of_ble_eq_true rfl, Nat.le_of_ble_eq_true rfl⟩ (pk_i ?_)
        rintro r_49 g_49 ⟨hr_49, hq_49⟩
        obtain rfl := hq_49.symm
        rw [hr_49]
        clear hr_49 r_49
        refine y_iload hC dL_passes_52 rfl ?_
        refine y_isub_n hC dL_passes_54 (by rw [hmd]; omega) ?_
        refine y_top (y := nI (mdS ρ t k)) (congrArg nI (by rw [hmd]; omega)) ?_
        refine y_iadd_n hC dL_passes_55 ?_
        refine y_top (y := nI (sm (k + 1) (mdS ρ t))) (rfl) ?_
        refine y_istore_n hC dL_passes_56 (i := 3) rfl (Nat.le_of_ble_eq_true rfl) rfl (lo' := [some (rf E (R)), some (rf E (Z)), some (.int (nI (t))), some (.int (nI (sm (k + 1) (mdS ρ t)))), some (.int (nI (8 + 8 * k))), some (.int (nI (a k / rg ρ k 2 + K k)))]) rfl ?_
        refine y_iinc_n hC dL_passes_57 (a := 8 + 8 * k) (k := 8) rfl (by decide) (Nat.le_of_ble_eq_true rfl) rfl (lo' := [some (rf E (R)), some (rf E (Z)), some (.int (nI (t))), some (.int (nI (sm (k + 1) (mdS ρ t)))), some (.int (nI (8 + 8 * k + 8))), some (.int (nI (a k / rg ρ k 2 + K k)))]) rfl ?_
        refine y_goto (tgt := 6) hC dL_passes_60 (by decide) ?_
        refine y_fg 5 (lo' := [some (rf E (R)), some (rf E (Z)), some (.int (nI (t))), some (.int (nI (sm (k + 1) (mdS ρ t)))), some (.int (nI (8 + 8 * k + 8))), none]) rfl ?_
        rw [show 8 + 8 * k + 8 = 8 + 8 * (k + 1) from by omega]
        exact ih_6 (k + 1) g_44 (by omega) (by omega) (hw_44) (hx_44_0) (fun j q1 q2 => (ho_44 j q1).trans (hf j q1 q2))
  exact L_6 (rc ρ + 1) 0 g (by omega) (by omega) (by rw [rPs_0]; exact hr) hh (fun _ _ _ => rfl)

