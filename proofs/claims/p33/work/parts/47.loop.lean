/-! ===== the law's loop, its first checks ===== -/
set_option maxHeartbeats 4000000 in
set_option maxRecDepth 100000 in
theorem w_end (l : Launch) (X : gX) (G : va_G) (T : Nat → ClassId) (b bs : Nat) (g : Mem) (hC : yC l (zE G T b 104) X RXL cL_law 11 (some .boolean) 11 440) : Y l (zE G T b 104) X (pI (fun z g' => z = nI 1)) 72 [some (.ref bs), some (rf (zE G T b 104) (0)), some (rf (zE G T b 104) (100)), some (rf (zE G T b 104) (101)), some (rf (zE G T b 104) (102)), some (rf (zE G T b 104) (103)), some (.int (nI (1))), some (.int (nI (30))), none, none, none] [] g := by
  refine y_iload hC dL_law_72 rfl ?_
  refine y_bipush (v := nI 30) hC dL_law_74 (by decide) ?_
  refine y_icmp_ge_n (tgt := 248) hC dL_law_76 (by decide) (by omega) (by omega) (fun c_76 => ?_) (fun c_76 => ?_)
  · refine y_iload hC dL_law_248 rfl ?_
    refine y_zret (hrt := rfl) (hn := rfl) (hC := hC) (hd := dL_law_250) (hq := ?_)
    exact rfl
  · exfalso
    omega

theorem w_loop (l : Launch) (G : va_G) (T : Nat → ClassId) (b bs L : Nat) (xs : Nat → Int32) (hLL : L ≤ 1000) : ∀ (d : Nat) (X : gX) (g : Mem) (S : AS) (c r h p : Nat → Int32) (i : Nat), (hi : i + d = 30) → (hL : LWP (zE G T b 100) (zE G T b 104) g S c r h p) → (hI : IV S c r h p (100000 * i) (1000 * i)) → (hXX : va_X bs L xs X.2.2.2.1 X.2.2.2.1.heap) → (hbl : bs < X.2.2.2.1.heap.size) → (hbA : ¬ X.2.2.2.2.2.2.2.2.2.2.2.2.2.2 bs) → (hXA : ∀ q, zA b q → X.2.2.2.2.2.2.2.2.2.2.2.2.2.2 q) →
    (hc1 : X.2.2.2.2.2.2.2.2.2.2.1 + 3 * d ≤ X.2.2.2.2.2.2.2.2.2.2.2.2.1) → (hc2 : X.2.2.2.2.2.2.2.2.2.2.2.1 + 140 * d ≤ X.2.2.2.2.2.2.2.2.2.2.2.2.2.1) → yC l (zE G T b 104) X RXL cL_law 11 (some .boolean) 11 440 → Y l (zE G T b 104) X (pI (fun z g' => z = nI 1)) 72 [some (.ref bs), some (rf (zE G T b 104) (0)), some (rf (zE G T b 104) (100)), some (rf (zE G T b 104) (101)), some (rf (zE G T b 104) (102)), some (rf (zE G T b 104) (103)), some (.int (nI (1))), some (.int (nI (i))), none, none, none] [] g := by
  intro d
  induction d with
  | zero =>
    intro X g S c r h p i hi hL hI hXX hbl hbA hXA hc1 hc2 hC
    obtain rfl : i = 30 := by omega
    exact w_end l X G T b bs g hC
  | succ d ih =>
    intro X g S c r h p i hi hL hI hXX hbl hbA hXA hc1 hc2 hC
    refine w_turn l X G T b bs L xs g S c r h p hL (100000 * i) (1000 * i) (by omega) (by omega) hI i (by omega) hXX hbl hbA hLL hXA ⟨by omega, by omega⟩ (fun g' S' c' r' h' p' hL' hI' hC' => ?_) hC
    refine ih (xbump (xbump X 1 64) 2 76) g' S' c' r' h' p' (i + 1) (by omega) hL' (hI'.le (by omega) (by omega)) hXX hbl hbA hXA ?_ ?_ hC'
    · show X.2.2.2.2.2.2.2.2.2.2.1 + 1 + 2 + 3 * d ≤ X.2.2.2.2.2.2.2.2.2.2.2.2.1
      omega
    · show X.2.2.2.2.2.2.2.2.2.2.2.1 + 64 + 76 + 140 * d ≤ X.2.2.2.2.2.2.2.2.2.2.2.2.2.1
      omega
set_option maxHeartbeats 4000000 in
set_option maxRecDepth 100000 in
theorem w_first (l : Launch) (X : gX) (G : va_G) (T : Nat → ClassId) (b bs : Nat) (g : Mem) (S : AS) (c r h p : Nat → Int32) (hL : LWP (zE G T b 100) (zE G T b 104) g S c r h p) (hI : IV S c r h p 0 0) (hft : ftN S.r = 1) (kk : ∀ g' : Mem, LWP (zE G T b 100) (zE G T b 104) g' S c r h p → Y l (zE G T b 104) X (pI (fun z g' => z = nI 1)) 72 [some (.ref bs), some (rf (zE G T b 104) (0)), some (rf (zE G T b 104) (100)), some (rf (zE G T b 104) (101)), some (rf (zE G T b 104) (102)), some (rf (zE G T b 104) (103)), some (.int (nI (1))), some (.int (nI (0))), none, none, none] [] g') (hC : yC l (zE G T b 104) X RXL cL_law 11 (some .boolean) 11 440) : Y l (zE G T b 104) X (pI (fun z g' => z = nI 1)) 30 [some (.ref bs), some (rf (zE G T b 104) (0)), some (rf (zE G T b 104) (100)), some (rf (zE G T b 104) (101)), some (rf (zE G T b 104) (102)), some (rf (zE G T b 104) (103)), none, none, none, none, none] [] g := by
  obtain ⟨ho, ⟨a, K, hq⟩, hg, hcl, hvc, hpi⟩ := id hI
  refine y_aload_n hC dL_law_30 (i := 1) rfl rfl ?_
  refine y_aload_n hC dL_law_31 (i := 3) rfl rfl ?_
  refine y_aload hC dL_law_32 rfl ?_
  refine y_callS hC mL_areRanges kXL_178 dL_law_34 (As := [rf (zE G T b 104) (0), rf (zE G T b 104) (101), rf (zE G T b 104) (102)]) (rest := []) (c_L_areRanges l (zE G T b 104) g (zE G T b 100) S c r h p hL 0 0 (by omega) (by omega) ho a K hq hg) rfl rfl rfl (Nat.le_of_ble_eq_true rfl) ⟨Nat.le_of_ble_eq_true rfl, Nat.le_of_ble_eq_true rfl⟩ (pk_i ?_)
  rintro r_34 g_34 ⟨hr_34, hL_34⟩
  rw [hr_34]
  clear hr_34 r_34
  refine y_if_eq_n (tgt := 66) hC dL_law_37 (by decide) (by omega) (fun c_37 => ?_) (fun c_37 => ?_)
  · exfalso
    omega
  · refine y_aload_n hC dL_law_40 (i := 1) rfl rfl ?_
    refine y_aload_n hC dL_law_41 (i := 2) rfl rfl ?_
    refine y_aload_n hC dL_law_42 (i := 3) rfl rfl ?_
    refine y_aload hC dL_law_43 rfl ?_
    refine y_aload hC dL_law_45 rfl ?_
    refine y_callS hC mL_isPicture kXL_182 dL_law_47 (As := [rf (zE G T b 104) (0), rf (zE G T b 104) (100), rf (zE G T b 104) (101), rf (zE G T b 104) (102), rf (zE G T b 104) (103)]) (rest := []) (c_L_isPicture l (zE G T b 104) g_34 (zE G T b 100) S c r h p hL_34 0 0 (by omega) (by omega) ho a K hq hg hcl hvc hpi) rfl rfl rfl (Nat.le_of_ble_eq_true rfl) ⟨Nat.le_of_ble_eq_true rfl, Nat.le_of_ble_eq_true rfl⟩ (pk_i ?_)
    rintro r_47 g_47 ⟨hr_47, hL_47⟩
    rw [hr_47]
    clear hr_47 r_47
    refine y_if_eq_n (tgt := 66) hC dL_law_50 (by decide) (by omega) (fun c_50 => ?_) (fun c_50 => ?_)
    · exfalso
      omega
    · refine y_aload_n hC dL_law_53 (i := 1) rfl rfl ?_
      refine y_callVF hC hL_47.s mX5_fullTurn kXL_85 dL_law_54 (b := 0) (As := []) (rest := []) (CPm hL_47.cp (fun sh mk wa hcq => c_X5_fullTurn l (zE G T b 100) g_47 S 0 (by omega) ho sh mk wa hcq)) hL_47.k0 hL_47.a0 rfl rfl rfl (Nat.le_of_ble_eq_true rfl) ⟨Nat.le_of_ble_eq_true rfl, Nat.le_of_ble_eq_true rfl⟩ (pkf_l ?_)
      rintro r_54 g_54 ⟨hr_54, hc_54⟩
      rw [hr_54]
      clear hr_54 r_54
      have hL_54 := hL_47.call hc_54
      generalize mrg (eK (zE G T b 100)) g_54 g_47 = G_54 at hL_54  ⊢
      refine y_topl (y := lN (1)) (congrArg lN hft) ?_
      refine y_lconst (v := lN 1) hC dL_law_57 (by decide) ?_
      refine y_lcmp hC dL_law_58 ?_
      refine y_top (y := nI (0)) (by decide) ?_
      refine y_if_ne_n (tgt := 66) hC dL_law_59 (by decide) (by omega) (fun c_59 => ?_) (fun c_59 => ?_)
      · exfalso
        omega
      · refine y_iconst (v := nI 1) hC dL_law_62 (by decide) ?_
        refine y_goto (tgt := 67) hC dL_law_63 (by decide) ?_
        refine y_istore hC dL_law_67 (Nat.le_of_ble_eq_true rfl) rfl (lo' := [some (.ref bs), some (rf (zE G T b 104) (0)), some (rf (zE G T b 104) (100)), some (rf (zE G T b 104) (101)), some (rf (zE G T b 104) (102)), some (rf (zE G T b 104) (103)), some (.int (nI (1))), none, none, none, none]) rfl ?_
        refine y_iconst (v := nI 0) hC dL_law_69 (by decide) ?_
        refine y_istore hC dL_law_70 (Nat.le_of_ble_eq_true rfl) rfl (lo' := [some (.ref bs), some (rf (zE G T b 104) (0)), some (rf (zE G T b 104) (100)), some (rf (zE G T b 104) (101)), some (rf (zE G T b 104) (102)), some (rf (zE G T b 104) (103)), some (.int (nI (1))), some (.int (nI (0))), none, none, none]) rfl ?_
        exact kk _ hL_54

theorem zS0_iv : IV zS0 (fun _ => 0) (fun _ => 0) (fun _ => 0) (fun _ => 0) 0 0 :=
  ⟨zS0_ok, ⟨fun _ => 0, fun _ => 0, rfl, fun k hk => absurd hk (Nat.not_lt_zero k)⟩, ⟨rfl, rfl, rfl, fun k hk => absurd hk (Nat.not_lt_zero k)⟩, fun k _ => rfl, ⟨fun k _ => ⟨0, by decide, rfl⟩, fun i hi => absurd hi (Nat.not_lt_zero i)⟩, fun k _ => rfl⟩
theorem zS0_ft : ftN zS0.r = 1 := rfl
