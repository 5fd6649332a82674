/-! ===== the model: what it reckons ===== -/
/-- no earlier pixel shows the colour of pixel p -/
def nwB (r : Row) (p : Nat) : Nat → Bool
  | 0 => true
  | n + 1 => nwB r p n && decide (¬ shd r (px r n) 0 = shd r (px r p) 0)
theorem nwB_iff {r : Row} {p : Nat} : ∀ {n : Nat}, nwB r p n = true ↔ ∀ o, o < n → ¬ shd r (px r o) 0 = shd r (px r p) 0
  | 0 => by simp [nwB]
  | n + 1 => by
    rw [nwB, Bool.and_eq_true, decide_eq_true_eq, nwB_iff]
    constructor
    · rintro ⟨h1, h2⟩ o ho
      by_cases e : o = n
      · rw [e]; exact h2
      · exact h1 o (by omega)
    · exact fun h => ⟨fun o ho => h o (by omega), h n (by omega)⟩
def dcM (r : Row) : Nat := cn 64 (fun p => nwB r p p)
theorem rAt_hld {r : Row} (p : Nat) : (rAt r p).isSome = hld r p (rc r) := by
  cases e : rAt r p with
  | none =>
    have h := fst_invn e
    cases e2 : hld r p (rc r) with
    | false => rfl
    | true =>
      obtain ⟨i, h1, h2, h3⟩ := hld_iff.mp e2
      have := h i h1
      rw [decide_eq_false_iff_not] at this
      exact absurd ⟨h2, h3⟩ this
  | some i =>
    obtain ⟨h1, h2, h3⟩ := rAt_in e
    exact (hld_iff.mpr ⟨i, h1, h2, h3⟩).symm
theorem plN {r : Row} {B : Nat} (hv : Vr r B) : cn 32 (fun p => (rAt r p).isSome) = sm (rc r) (fun i => nP r i) := by
  rw [← pl_sum hv (rc r) (Nat.le_refl _)]
  exact cn_cg (fun p _ => rAt_hld p)
theorem mvs_rw {r : Row} {p : Nat} : mvs r p = ((match rAt r p with | none => false | some i => decide (rg r i 4 = 1)) || (gAt r p).isSome) := rfl
theorem dX6_placesInRanges_0 : decode cX6_placesInRanges 0 = .ok (.iconst 0, 1) := by decide +kernel
theorem dX6_placesInRanges_1 : decode cX6_placesInRanges 1 = .ok (.istore_n 1, 1) := by decide +kernel
theorem dX6_placesInRanges_2 : decode cX6_placesInRanges 2 = .ok (.iconst 0, 1) := by decide +kernel
theorem dX6_placesInRanges_3 : decode cX6_placesInRanges 3 = .ok (.istore_n 2, 1) := by decide +kernel
theorem dX6_placesInRanges_4 : decode cX6_placesInRanges 4 = .ok (.iload_n 2, 1) := by decide +kernel
theorem dX6_placesInRanges_5 : decode cX6_placesInRanges 5 = .ok (.bipush 32, 2) := by decide +kernel
theorem dX6_placesInRanges_7 : decode cX6_placesInRanges 7 = .ok (.if_icmp .ge 27, 3) := by decide +kernel
theorem dX6_placesInRanges_10 : decode cX6_placesInRanges 10 = .ok (.iload_n 1, 1) := by decide +kernel
theorem dX6_placesInRanges_11 : decode cX6_placesInRanges 11 = .ok (.aload_n 0, 1) := by decide +kernel
theorem dX6_placesInRanges_12 : decode cX6_placesInRanges 12 = .ok (.iload_n 2, 1) := by decide +kernel
theorem dX6_placesInRanges_13 : decode cX6_placesInRanges 13 = .ok (.invokevirtual 71, 3) := by decide +kernel
theorem dX6_placesInRanges_16 : decode cX6_placesInRanges 16 = .ok (.bipush (-5), 2) := by decide +kernel
theorem dX6_placesInRanges_18 : decode cX6_placesInRanges 18 = .ok (.if_icmp .ne 7, 3) := by decide +kernel
theorem dX6_placesInRanges_21 : decode cX6_placesInRanges 21 = .ok (.iconst 0, 1) := by decide +kernel
theorem dX6_placesInRanges_22 : decode cX6_placesInRanges 22 = .ok (.goto 4, 3) := by decide +kernel
theorem dX6_placesInRanges_25 : decode cX6_placesInRanges 25 = .ok (.iconst 1, 1) := by decide +kernel
theorem dX6_placesInRanges_26 : decode cX6_placesInRanges 26 = .ok (.iadd, 1) := by decide +kernel
theorem dX6_placesInRanges_27 : decode cX6_placesInRanges 27 = .ok (.istore_n 1, 1) := by decide +kernel
theorem dX6_placesInRanges_28 : decode cX6_placesInRanges 28 = .ok (.iinc 2 1, 3) := by decide +kernel
theorem dX6_placesInRanges_31 : decode cX6_placesInRanges 31 = .ok (.goto (-27), 3) := by decide +kernel
theorem dX6_placesInRanges_34 : decode cX6_placesInRanges 34 = .ok (.iload_n 1, 1) := by decide +kernel
theorem dX6_placesInRanges_35 : decode cX6_placesInRanges 35 = .ok (.ireturn, 1) := by decide +kernel
set_option maxHeartbeats 4000000 in
set_option maxRecDepth 100000 in
theorem c_X6_placesInRanges (l : Launch) (E : gE) (g : Mem) (row : Nat → Int32) (B : GB) (C : GC) (D : GD) (P : GP) (hM : MX E g row B C D P) (r : Row) (Bd : Nat) (hB : Bd < 95000000) (hR : ∀ k, k < 158 → row k = r k) (hv : Vr r Bd) : Mt l E yX6_placesInRanges cX6_placesInRanges 3 (some .int) 2 45 [rf E (0)] g (pI (fun z g' => z = nI (sm (rc r) (fun i => nP r i)) ∧ g' = g)) := by
  have hK := hM.k
  have hrc : rc r ≤ 6 := hv.1.2
  have hgc : gc r ≤ 4 := hv.2.1.2
  refine mt_go (own := RX6) (by decide) rfl (lo := [some (rf E (0)), none, none]) rfl (Nat.le_of_ble_eq_true rfl) (fun X hC => ?_)
  refine y_iconst (v := nI 0) hC dX6_placesInRanges_0 (by decide) ?_
  refine y_istore_n hC dX6_placesInRanges_1 (i := 1) rfl (Nat.le_of_ble_eq_true rfl) rfl (lo' := [some (rf E (0)), some (.int (nI (0))), none]) rfl ?_
  refine y_iconst (v := nI 0) hC dX6_placesInRanges_2 (by decide) ?_
  refine y_istore_n hC dX6_placesInRanges_3 (i := 2) rfl (Nat.le_of_ble_eq_true rfl) rfl (lo' := [some (rf E (0)), some (.int (nI (0))), some (.int (nI (0)))]) rfl ?_
  have L_4 : ∀ (m : Nat) (i c : Nat), (hm : 32 - i < m) → (hi : i ≤ 32) → (hc : c = cn i (fun p => (rAt r p).isSome)) → Y l E X (pI (fun z g' => z = nI (sm (rc r) (fun i => nP r i)) ∧ g' = g)) 4 [some (rf E (0)), some (.int (nI (c))), some (.int (nI (i)))] [] g := by
    intro m
    induction m with
    | zero => intro i c hm hi hc; exact absurd hm (Nat.not_lt_zero _)
    | succ m ih_4 =>
      intro i c hm hi hc
      refine y_iload_n hC dX6_placesInRanges_4 (i := 2) rfl rfl ?_
      refine y_bipush (v := nI 32) hC dX6_placesInRanges_5 (by decide) ?_
      refine y_icmp_ge_n (tgt := 34) hC dX6_placesInRanges_7 (by decide) (by omega) (by omega) (fun c_7 => ?_) (fun c_7 => ?_)
      · refine y_iload_n hC dX6_placesInRanges_34 (i := 1) rfl rfl ?_
        refine y_iret (hC := hC) (hd := dX6_placesInRanges_35) (hq := ?_)
        exact ⟨congrArg nI (by rw [hc, show i = 32 by omega, plN hv]), rfl⟩
      · have hcl := cn_le i (fun p => (rAt r p).isSome)
        refine y_iload_n hC dX6_placesInRanges_10 (i := 1) rfl rfl ?_
        refine y_aload_n hC dX6_placesInRanges_11 (i := 0) rfl rfl ?_
        refine y_iload_n hC dX6_placesInRanges_12 (i := 2) rfl rfl ?_
        refine y_callV hC mX6_rangeAt kX6_71 dX6_placesInRanges_13 (b := 0) (As := [.int (nI (i))]) (rest := [.int (nI (c))]) (c_X6_rangeAt l E g row B C D P hM r Bd (by omega) hR hv i (by omega)) (by omega) hM.a0 rfl rfl rfl (Nat.le_of_ble_eq_true rfl) ⟨Nat.le_of_ble_eq_true rfl, Nat.le_of_ble_eq_true rfl⟩ (pk_i ?_)
        rintro r_13 g_13 ⟨hr_13, hq_13⟩
        obtain rfl := hq_13.symm
        rw [hr_13]
        clear hr_13 r_13
        rcases hra : rAt r i with _ | ri
        · refine y_top (y := -5) rfl ?_
          refine y_bipush (v := (-5)) hC dX6_placesInRanges_16 (by decide) ?_
          refine y_icmp_ne (tgt := 25) hC dX6_placesInRanges_18 (by decide) (fun c_18 => ?_) (fun c_18 => ?_)
          · exact absurd rfl c_18
          · refine y_iconst (v := nI 0) hC dX6_placesInRanges_21 (by decide) ?_
            refine y_goto (tgt := 26) hC dX6_placesInRanges_22 (by decide) ?_
            refine y_iadd_n hC dX6_placesInRanges_26 ?_
            refine y_istore_n hC dX6_placesInRanges_27 (i := 1) rfl (Nat.le_of_ble_eq_true rfl) rfl (lo' := [some (rf E (0)), some (.int (nI (c + 0))), some (.int (nI (i)))]) rfl ?_
            refine y_iinc_n hC dX6_placesInRanges_28 (a := i) (k := 1) rfl (by decide) (Nat.le_of_ble_eq_true rfl) rfl (lo' := [some (rf E (0)), some (.int (nI (c + 0))), some (.int (nI (i + 1)))]) rfl ?_
            refine y_goto (tgt := 4) hC dX6_placesInRanges_31 (by decide) ?_
            exact ih_4 (i + 1) _ (by omega) (by omega) (by rw [cn_s, ← hc, hra]; rfl)
        · obtain ⟨a1, a2, a3⟩ := rAt_in hra
          refine y_top (y := nI (ri)) rfl ?_
          refine y_bipush (v := (-5)) hC dX6_placesInRanges_16 (by decide) ?_
          refine y_icmp_ne (tgt := 25) hC dX6_placesInRanges_18 (by decide) (fun c_18 => ?_) (fun c_18 => ?_)
          · refine y_iconst (v := nI 1) hC dX6_placesInRanges_25 (by decide) ?_
            refine y_iadd_n hC dX6_placesInRanges_26 ?_
            refine y_istore_n hC dX6_placesInRanges_27 (i := 1) rfl (Nat.le_of_ble_eq_true rfl) rfl (lo' := [some (rf E (0)), some (.int (nI (c + 1))), some (.int (nI (i)))]) rfl ?_
            refine y_iinc_n hC dX6_placesInRanges_28 (a := i) (k := 1) rfl (by decide) (Nat.le_of_ble_eq_true rfl) rfl (lo' := [some (rf E (0)), some (.int (nI (c + 1))), some (.int (nI (i + 1)))]) rfl ?_
            refine y_goto (tgt := 4) hC dX6_placesInRanges_31 (by decide) ?_
            exact ih_4 (i + 1) _ (by omega) (by omega) (by rw [cn_s, ← hc, hra]; rfl)
          · exact absurd c_18 (nI_m5 (by omega))
  exact L_4 33 0 0 (by omega) (by omega) rfl

theorem dX6_coloursInPicture_0 : decode cX6_coloursInPicture 0 = .ok (.aload_n 0, 1) := by decide +kernel
theorem dX6_coloursInPicture_1 : decode cX6_coloursInPicture 1 = .ok (.invokevirtual 110, 3) := by decide +kernel
theorem dX6_coloursInPicture_4 : decode cX6_coloursInPicture 4 = .ok (.iconst 0, 1) := by decide +kernel
theorem dX6_coloursInPicture_5 : decode cX6_coloursInPicture 5 = .ok (.istore_n 1, 1) := by decide +kernel
theorem dX6_coloursInPicture_6 : decode cX6_coloursInPicture 6 = .ok (.iconst 0, 1) := by decide +kernel
theorem dX6_coloursInPicture_7 : decode cX6_coloursInPicture 7 = .ok (.istore_n 2, 1) := by decide +kernel
theorem dX6_coloursInPicture_8 : decode cX6_coloursInPicture 8 = .ok (.iload_n 2, 1) := by decide +kernel
theorem dX6_coloursInPicture_9 : decode cX6_coloursInPicture 9 = .ok (.bipush 64, 2) := by decide +kernel
theorem dX6_coloursInPicture_11 : decode cX6_coloursInPicture 11 = .ok (.if_icmp .ge 80, 3) := by decide +kernel
theorem dX6_coloursInPicture_14 : decode cX6_coloursInPicture 14 = .ok (.iconst 1, 1) := by decide +kernel
theorem dX6_coloursInPicture_15 : decode cX6_coloursInPicture 15 = .ok (.istore_n 3, 1) := by decide +kernel
theorem dX6_coloursInPicture_16 : decode cX6_coloursInPicture 16 = .ok (.iconst 0, 1) := by decide +kernel
theorem dX6_coloursInPicture_17 : decode cX6_coloursInPicture 17 = .ok (.istore 4, 2) := by decide +kernel
theorem dX6_coloursInPicture_19 : decode cX6_coloursInPicture 19 = .ok (.iload 4, 2) := by decide +kernel
theorem dX6_coloursInPicture_21 : decode cX6_coloursInPicture 21 = .ok (.iload_n 2, 1) := by decide +kernel
theorem dX6_coloursInPicture_22 : decode cX6_coloursInPicture 22 = .ok (.if_icmp .ge 51, 3) := by decide +kernel
theorem dX6_coloursInPicture_25 : decode cX6_coloursInPicture 25 = .ok (.iload_n 3, 1) := by decide +kernel
theorem dX6_coloursInPicture_26 : decode cX6_coloursInPicture 26 = .ok (.ifCond .eq 39, 3) := by decide +kernel
theorem dX6_coloursInPicture_29 : decode cX6_coloursInPicture 29 = .ok (.aload_n 0, 1) := by decide +kernel
theorem dX6_coloursInPicture_30 : decode cX6_coloursInPicture 30 = .ok (.getfield 22, 3) := by decide +kernel
theorem dX6_coloursInPicture_33 : decode cX6_coloursInPicture 33 = .ok (.aload_n 0, 1) := by decide +kernel
theorem dX6_coloursInPicture_34 : decode cX6_coloursInPicture 34 = .ok (.getfield 7, 3) := by decide +kernel
theorem dX6_coloursInPicture_37 : decode cX6_coloursInPicture 37 = .ok (.bipush 92, 2) := by decide +kernel
theorem dX6_coloursInPicture_39 : decode cX6_coloursInPicture 39 = .ok (.iload 4, 2) := by decide +kernel
theorem dX6_coloursInPicture_41 : decode cX6_coloursInPicture 41 = .ok (.iadd, 1) := by decide +kernel
theorem dX6_coloursInPicture_42 : decode cX6_coloursInPicture 42 = .ok (.iaload, 1) := by decide +kernel
theorem dX6_coloursInPicture_43 : decode cX6_coloursInPicture 43 = .ok (.iaload, 1) := by decide +kernel
theorem dX6_coloursInPicture_44 : decode cX6_coloursInPicture 44 = .ok (.aload_n 0, 1) := by decide +kernel
theorem dX6_coloursInPicture_45 : decode cX6_coloursInPicture 45 = .ok (.getfield 22, 3) := by decide +kernel
theorem dX6_coloursInPicture_48 : decode cX6_coloursInPicture 48 = .ok (.aload_n 0, 1) := by decide +kernel
theorem dX6_coloursInPicture_49 : decode cX6_coloursInPicture 49 = .ok (.getfield 7, 3) := by decide +kernel
theorem dX6_coloursInPicture_52 : decode cX6_coloursInPicture 52 = .ok (.bipush 92, 2) := by decide +kernel
theorem dX6_coloursInPicture_54 : decode cX6_coloursInPicture 54 = .ok (.iload_n 2, 1) := by decide +kernel
theorem dX6_coloursInPicture_55 : decode cX6_coloursInPicture 55 = .ok (.iadd, 1) := by decide +kernel
theorem dX6_coloursInPicture_56 : decode cX6_coloursInPicture 56 = .ok (.iaload, 1) := by decide +kernel
theorem dX6_coloursInPicture_57 : decode cX6_coloursInPicture 57 = .ok (.iaload, 1) := by decide +kernel
theorem dX6_coloursInPicture_58 : decode cX6_coloursInPicture 58 = .ok (.if_icmp .eq 7, 3) := by decide +kernel
theorem dX6_coloursInPicture_61 : decode cX6_coloursInPicture 61 = .ok (.iconst 1, 1) := by decide +kernel
theorem dX6_coloursInPicture_62 : decode cX6_coloursInPicture 62 = .ok (.goto 4, 3) := by decide +kernel
theorem dX6_coloursInPicture_65 : decode cX6_coloursInPicture 65 = .ok (.iconst 0, 1) := by decide +kernel
theorem dX6_coloursInPicture_66 : decode cX6_coloursInPicture 66 = .ok (.istore_n 3, 1) := by decide +kernel
theorem dX6_coloursInPicture_67 : decode cX6_coloursInPicture 67 = .ok (.iinc 4 1, 3) := by decide +kernel
theorem dX6_coloursInPicture_70 : decode cX6_coloursInPicture 70 = .ok (.goto (-51), 3) := by decide +kernel
theorem dX6_coloursInPicture_73 : decode cX6_coloursInPicture 73 = .ok (.iload_n 1, 1) := by decide +kernel
theorem dX6_coloursInPicture_74 : decode cX6_coloursInPicture 74 = .ok (.iload_n 3, 1) := by decide +kernel
theorem dX6_coloursInPicture_75 : decode cX6_coloursInPicture 75 = .ok (.ifCond .eq 7, 3) := by decide +kernel
theorem dX6_coloursInPicture_78 : decode cX6_coloursInPicture 78 = .ok (.iconst 1, 1) := by decide +kernel
theorem dX6_coloursInPicture_79 : decode cX6_coloursInPicture 79 = .ok (.goto 4, 3) := by decide +kernel
theorem dX6_coloursInPicture_82 : decode cX6_coloursInPicture 82 = .ok (.iconst 0, 1) := by decide +kernel
theorem dX6_coloursInPicture_83 : decode cX6_coloursInPicture 83 = .ok (.iadd, 1) := by decide +kernel
theorem dX6_coloursInPicture_84 : decode cX6_coloursInPicture 84 = .ok (.istore_n 1, 1) := by decide +kernel
theorem dX6_coloursInPicture_85 : decode cX6_coloursInPicture 85 = .ok (.iinc 2 1, 3) := by decide +kernel
theorem dX6_coloursInPicture_88 : decode cX6_coloursInPicture 88 = .ok (.goto (-80), 3) := by decide +kernel
theorem dX6_coloursInPicture_91 : decode cX6_coloursInPicture 91 = .ok (.iload_n 1, 1) := by decide +kernel
theorem dX6_coloursInPicture_92 : decode cX6_coloursInPicture 92 = .ok (.ireturn, 1) := by decide +kernel
set_option maxHeartbeats 4000000 in
set_option maxRecDepth 100000 in
theorem c_X6_coloursInPicture (l : Launch) (E : gE) (g : Mem) (row : Nat → Int32) (B : GB) (C : GC) (D : GD) (P : GP) (hM : MX E g row B C D P) (r : Row) (Bd : Nat) (hB : Bd < 95000000) (hR : ∀ k, k < 158 → row k = r k) (hv : Vr r Bd) : Mt l E yX6_coloursInPicture cX6_coloursInPicture 5 (some .int) 6 133 [rf E (0)] g (pI (fun z g' => z = nI (dcM r) ∧ ∃ co2, MX E g' row B (C.1, co2, C.2.2.1, C.2.2.2) D P)) := by
  have hK := hM.k
  have hrc : rc r ≤ 6 := hv.1.2
  have hgc : gc r ≤ 4 := hv.2.1.2
  refine mt_go (own := RX6) (by decide) rfl (lo := [some (rf E (0)), none, none, none, none]) rfl (Nat.le_of_ble_eq_true rfl) (fun X hC => ?_)
  refine y_aload_n hC dX6_coloursInPicture_0 (i := 0) rfl rfl ?_
  refine y_callV hC mX6_show kX6_110 dX6_coloursInPicture_1 (b := 0) (As := []) (rest := []) (c_X6_show l E g row B C D P hM r Bd (by omega) hR hv) (by omega) hM.a0 rfl rfl rfl (Nat.le_of_ble_eq_true rfl) ⟨Nat.le_of_ble_eq_true rfl, Nat.le_of_ble_eq_true rfl⟩ (pk_v ?_)
  rintro g_1 ⟨co_1, hco_1, hM_1⟩
  refine y_iconst (v := nI 0) hC dX6_coloursInPicture_4 (by decide) ?_
  refine y_istore_n hC dX6_coloursInPicture_5 (i := 1) rfl (Nat.le_of_ble_eq_true rfl) rfl (lo' := [some (rf E (0)), some (.int (nI (0))), none, none, none]) rfl ?_
  refine y_iconst (v := nI 0) hC dX6_coloursInPicture_6 (by decide) ?_
  refine y_istore_n hC dX6_coloursInPicture_7 (i := 2) rfl (Nat.le_of_ble_eq_true rfl) rfl (lo' := [some (rf E (0)), some (.int (nI (0))), some (.int (nI (0))), none, none]) rfl ?_
  have L_8 : ∀ (m : Nat) (i c : Nat), (hm : 64 - i < m) → (hi : i ≤ 64) → (hc : c = cn i (fun p => nwB r p p)) → Y l E X (pI (fun z g' => z = nI (dcM r) ∧ ∃ co2, MX E g' row B (C.1, co2, C.2.2.1, C.2.2.2) D P)) 8 [some (rf E (0)), some (.int (nI (c))), some (.int (nI (i))), none, none] [] g_1 := by
    intro m
    induction m with
    | zero => intro i c hm hi hc; exact absurd hm (Nat.not_lt_zero _)
    | succ m ih_8 =>
      intro i c hm hi hc
      refine y_iload_n hC dX6_coloursInPicture_8 (i := 2) rfl rfl ?_
      refine y_bipush (v := nI 64) hC dX6_coloursInPicture_9 (by decide) ?_
      refine y_icmp_ge_n (tgt := 91) hC dX6_coloursInPicture_11 (by decide) (by omega) (by omega) (fun c_11 => ?_) (fun c_11 => ?_)
      · refine y_iload_n hC dX6_coloursInPicture_91 (i := 1) rfl rfl ?_
        refine y_iret (hC := hC) (hd := dX6_coloursInPicture_92) (hq := ?_)
        exact ⟨congrArg nI (by rw [hc, show i = 64 by omega]; rfl), co_1, hM_1⟩
      · have hcl := cn_le i (fun p => nwB r p p)
        refine y_iconst (v := nI 1) hC dX6_coloursInPicture_14 (by decide) ?_
        refine y_top (y := bI (nwB r i 0 = true)) ((bI_t (by unfold nwB; decide)).symm) ?_
        refine y_istore_n hC dX6_coloursInPicture_15 (i := 3) rfl (Nat.le_of_ble_eq_true rfl) rfl (lo' := [some (rf E (0)), some (.int (nI (c))), some (.int (nI (i))), some (.int (bI (nwB r i 0 = true))), none]) rfl ?_
        refine y_iconst (v := nI 0) hC dX6_coloursInPicture_16 (by decide) ?_
        refine y_istore hC dX6_coloursInPicture_17 (Nat.le_of_ble_eq_true rfl) rfl (lo' := [some (rf E (0)), some (.int (nI (c))), some (.int (nI (i))), some (.int (bI (nwB r i 0 = true))), some (.int (nI (0)))]) rfl ?_
        have L_19 : ∀ (m : Nat) (j : Nat), (hm2 : i - j < m) → (hj : j ≤ i) → Y l E X (pI (fun z g' => z = nI (dcM r) ∧ ∃ co2, MX E g' row B (C.1, co2, C.2.2.1, C.2.2.2) D P)) 19 [some (rf E (0)), some (.int (nI (c))), some (.int (nI (i))), some (.int (bI (nwB r i j = true))), some (.int (nI (j)))] [] g_1 := by
          intro m
          induction m with
          | zero => intro j hm2 hj; exact absurd hm2 (Nat.not_lt_zero _)
          | succ m ih_19 =>
            intro j hm2 hj
            refine y_iload hC dX6_coloursInPicture_19 rfl ?_
            refine y_iload_n hC dX6_coloursInPicture_21 (i := 2) rfl rfl ?_
            refine y_icmp_ge_n (tgt := 73) hC dX6_coloursInPicture_22 (by decide) (by omega) (by omega) (fun c_22 => ?_) (fun c_22 => ?_)
            · have hij : nwB r i j = nwB r i i := by rw [show j = i by omega]
              refine y_iload_n hC dX6_coloursInPicture_73 (i := 1) rfl rfl ?_
              refine y_iload_n hC dX6_coloursInPicture_74 (i := 3) rfl rfl ?_
              refine y_if_eq_b (tgt := 82) hC dX6_coloursInPicture_75 (by decide) (fun c_75 => ?_) (fun c_75 => ?_)
              · refine y_iconst (v := nI 0) hC dX6_coloursInPicture_82 (by decide) ?_
                refine y_iadd_n hC dX6_coloursInPicture_83 ?_
                refine y_istore_n hC dX6_coloursInPicture_84 (i := 1) rfl (Nat.le_of_ble_eq_true rfl) rfl (lo' := [some (rf E (0)), some (.int (nI (c + 0))), some (.int (nI (i))), some (.int (bI (nwB r i j = true))), some (.int (nI (j)))]) rfl ?_
                refine y_iinc_n hC dX6_coloursInPicture_85 (a := i) (k := 1) rfl (by decide) (Nat.le_of_ble_eq_true rfl) rfl (lo' := [some (rf E (0)), some (.int (nI (c + 0))), some (.int (nI (i + 1))), some (.int (bI (nwB r i j = true))), some (.int (nI (j)))]) rfl ?_
                refine y_goto (tgt := 8) hC dX6_coloursInPicture_88 (by decide) ?_
                refine y_fg 3 (lo' := [some (rf E (0)), some (.int (nI (c + 0))), some (.int (nI (i + 1))), none, some (.int (nI (j)))]) rfl ?_
                refine y_fg 4 (lo' := [some (rf E (0)), some (.int (nI (c + 0))), some (.int (nI (i + 1))), none, none]) rfl ?_
                exact ih_8 (i + 1) _ (by omega) (by omega) (by rw [cn_s, ← hc, ← hij]; first | rw [if_pos c_75] | rw [if_neg c_75])
              · refine y_iconst (v := nI 1) hC dX6_coloursInPicture_78 (by decide) ?_
                refine y_goto (tgt := 83) hC dX6_coloursInPicture_79 (by decide) ?_
                refine y_iadd_n hC dX6_coloursInPicture_83 ?_
                refine y_istore_n hC dX6_coloursInPicture_84 (i := 1) rfl (Nat.le_of_ble_eq_true rfl) rfl (lo' := [some (rf E (0)), some (.int (nI (c + 1))), some (.int (nI (i))), some (.int (bI (nwB r i j = true))), some (.int (nI (j)))]) rfl ?_
                refine y_iinc_n hC dX6_coloursInPicture_85 (a := i) (k := 1) rfl (by decide) (Nat.le_of_ble_eq_true rfl) rfl (lo' := [some (rf E (0)), some (.int (nI (c + 1))), some (.int (nI (i + 1))), some (.int (bI (nwB r i j = true))), some (.int (nI (j)))]) rfl ?_
                refine y_goto (tgt := 8) hC dX6_coloursInPicture_88 (by decide) ?_
                refine y_fg 3 (lo' := [some (rf E (0)), some (.int (nI (c + 1))), some (.int (nI (i + 1))), none, some (.int (nI (j)))]) rfl ?_
                refine y_fg 4 (lo' := [some (rf E (0)), some (.int (nI (c + 1))), some (.int (nI (i + 1))), none, none]) rfl ?_
                exact ih_8 (i + 1) _ (by omega) (by omega) (by rw [cn_s, ← hc, ← hij]; first | rw [if_pos c_75] | rw [if_neg c_75])
            · refine y_iload_n hC dX6_coloursInPicture_25 (i := 3) rfl rfl ?_
              refine y_if_eq_b (tgt := 65) hC dX6_coloursInPicture_26 (by decide) (fun c_26 => ?_) (fun c_26 => ?_)
              · refine y_iconst (v := nI 0) hC dX6_coloursInPicture_65 (by decide) ?_
                refine y_top (y := bI (nwB r i (j + 1) = true)) (by first | exact (bI_t (by rw [nwB, c_26, decide_eq_true c_58]; rfl)).symm | exact (bI_f (by rw [nwB, Bool.and_eq_true, decide_eq_true_eq]; exact fun q => q.2 c_58)).symm | exact (bI_f (by rw [nwB, Bool.and_eq_true]; exact fun q => c_26 q.1)).symm) ?_
                refine y_istore_n hC dX6_coloursInPicture_66 (i := 3) rfl (Nat.le_of_ble_eq_true rfl) rfl (lo' := [some (rf E (0)), some (.int (nI (c))), some (.int (nI (i))), some (.int (bI (nwB r i (j + 1) = true))), some (.int (nI (j)))]) rfl ?_
                refine y_iinc_n hC dX6_coloursInPicture_67 (a := j) (k := 1) rfl (by decide) (Nat.le_of_ble_eq_true rfl) rfl (lo' := [some (rf E (0)), some (.int (nI (c))), some (.int (nI (i))), some (.int (bI (nwB r i (j + 1) = true))), some (.int (nI (j + 1)))]) rfl ?_
                refine y_goto (tgt := 19) hC dX6_coloursInPicture_70 (by decide) ?_
                exact ih_19 (j + 1) (by omega) (by omega)
              · refine y_aload_n hC dX6_coloursInPicture_29 (i := 0) rfl rfl ?_
                refine y_get hC fX6_22 dX6_coloursInPicture_30 (k := 0) (by omega) hM_1.a0 rfl ?_
                refine y_aload_n hC dX6_coloursInPicture_33 (i := 0) rfl rfl ?_
                refine y_get hC fX6_7 dX6_coloursInPicture_34 (k := 0) (by omega) hM_1.a0 rfl ?_
                refine y_bipush (v := nI 92) hC dX6_coloursInPicture_37 (by decide) ?_
                refine y_iload hC dX6_coloursInPicture_39 rfl ?_
                refine y_iadd_n hC dX6_coloursInPicture_41 ?_
                refine y_iald hC dX6_coloursInPicture_42 (k := 1) (j := 92 + j) (by omega) hM_1.a1 (rfl) (by omega) (by decide) ?_
                have hpb_43 := (hv.2.2.2.2.2.2.1 (j) (by omega)).2
                refine y_top (y := nI (px r (j))) ((hR (92 + j) (by omega)).trans (hv.2.2.2.2.2.2.1 (j) (by omega)).1) ?_
                refine y_iald hC dX6_coloursInPicture_43 (k := 5) (j := px r (j)) (by omega) hM_1.a5 (rfl) (by omega) (by decide) ?_
                refine y_top (y := (shd r (px r (j)) 0)) (hco_1 _ (by omega)) ?_
                refine y_aload_n hC dX6_coloursInPicture_44 (i := 0) rfl rfl ?_
                refine y_get hC fX6_22 dX6_coloursInPicture_45 (k := 0) (by omega) hM_1.a0 rfl ?_
                refine y_aload_n hC dX6_coloursInPicture_48 (i := 0) rfl rfl ?_
                refine y_get hC fX6_7 dX6_coloursInPicture_49 (k := 0) (by omega) hM_1.a0 rfl ?_
                refine y_bipush (v := nI 92) hC dX6_coloursInPicture_52 (by decide) ?_
                refine y_iload_n hC dX6_coloursInPicture_54 (i := 2) rfl rfl ?_
                refine y_iadd_n hC dX6_coloursInPicture_55 ?_
                refine y_iald hC dX6_coloursInPicture_56 (k := 1) (j := 92 + i) (by omega) hM_1.a1 (rfl) (by omega) (by decide) ?_
                have hpb_57 := (hv.2.2.2.2.2.2.1 (i) (by omega)).2
                refine y_top (y := nI (px r (i))) ((hR (92 + i) (by omega)).trans (hv.2.2.2.2.2.2.1 (i) (by omega)).1) ?_
                refine y_iald hC dX6_coloursInPicture_57 (k := 5) (j := px r (i)) (by omega) hM_1.a5 (rfl) (by omega) (by decide) ?_
                refine y_top (y := (shd r (px r (i)) 0)) (hco_1 _ (by omega)) ?_
                refine y_icmp_eq (tgt := 65) hC dX6_coloursInPicture_58 (by decide) (fun c_58 => ?_) (fun c_58 => ?_)
                · refine y_iconst (v := nI 0) hC dX6_coloursInPicture_65 (by decide) ?_
                  refine y_top (y := bI (nwB r i (j + 1) = true)) (by first | exact (bI_t (by rw [nwB, c_26, decide_eq_true c_58]; rfl)).symm | exact (bI_f (by rw [nwB, Bool.and_eq_true, decide_eq_true_eq]; exact fun q => q.2 c_58)).symm | exact (bI_f (by rw [nwB, Bool.and_eq_true]; exact fun q => c_26 q.1)).symm) ?_
                  refine y_istore_n hC dX6_coloursInPicture_66 (i := 3) rfl (Nat.le_of_ble_eq_true rfl) rfl (lo' := [some (rf E (0)), some (.int (nI (c))), some (.int (nI (i))), some (.int (bI (nwB r i (j + 1) = true))), some (.int (nI (j)))]) rfl ?_
                  refine y_iinc_n hC dX6_coloursInPicture_67 (a := j) (k := 1) rfl (by decide) (Nat.le_of_ble_eq_true rfl) rfl (lo' := [some (rf E (0)), some (.int (nI (c))), some (.int (nI (i))), some (.int (bI (nwB r i (j + 1) = true))), some (.int (nI (j + 1)))]) rfl ?_
                  refine y_goto (tgt := 19) hC dX6_coloursInPicture_70 (by decide) ?_
                  exact ih_19 (j + 1) (by omega) (by omega)
                · refine y_iconst (v := nI 1) hC dX6_coloursInPicture_61 (by decide) ?_
                  refine y_goto (tgt := 66) hC dX6_coloursInPicture_62 (by decide) ?_
                  refine y_top (y := bI (nwB r i (j + 1) = true)) (by first | exact (bI_t (by rw [nwB, c_26, decide_eq_true c_58]; rfl)).symm | exact (bI_f (by rw [nwB, Bool.and_eq_true, decide_eq_true_eq]; exact fun q => q.2 c_58)).symm | exact (bI_f (by rw [nwB, Bool.and_eq_true]; exact fun q => c_26 q.1)).symm) ?_
                  refine y_istore_n hC dX6_coloursInPicture_66 (i := 3) rfl (Nat.le_of_ble_eq_true rfl) rfl (lo' := [some (rf E (0)), some (.int (nI (c))), some (.int (nI (i))), some (.int (bI (nwB r i (j + 1) = true))), some (.int (nI (j)))]) rfl ?_
                  refine y_iinc_n hC dX6_coloursInPicture_67 (a := j) (k := 1) rfl (by decide) (Nat.le_of_ble_eq_true rfl) rfl (lo' := [some (rf E (0)), some (.int (nI (c))), some (.int (nI (i))), some (.int (bI (nwB r i (j + 1) = true))), some (.int (nI (j + 1)))]) rfl ?_
                  refine y_goto (tgt := 19) hC dX6_coloursInPicture_70 (by decide) ?_
                  exact ih_19 (j + 1) (by omega) (by omega)
        exact L_19 (i + 1) 0 (by omega) (by omega)
  exact L_8 65 0 0 (by omega) (by omega) rfl

theorem dX6_livelyPixels_0 : decode cX6_livelyPixels 0 = .ok (.iconst 0, 1) := by decide +kernel
theorem dX6_livelyPixels_1 : decode cX6_livelyPixels 1 = .ok (.istore_n 1, 1) := by decide +kernel
theorem dX6_livelyPixels_2 : decode cX6_livelyPixels 2 = .ok (.iconst 0, 1) := by decide +kernel
theorem dX6_livelyPixels_3 : decode cX6_livelyPixels 3 = .ok (.istore_n 2, 1) := by decide +kernel
theorem dX6_livelyPixels_4 : decode cX6_livelyPixels 4 = .ok (.iload_n 2, 1) := by decide +kernel
theorem dX6_livelyPixels_5 : decode cX6_livelyPixels 5 = .ok (.bipush 64, 2) := by decide +kernel
theorem dX6_livelyPixels_7 : decode cX6_livelyPixels 7 = .ok (.if_icmp .ge 77, 3) := by decide +kernel
theorem dX6_livelyPixels_10 : decode cX6_livelyPixels 10 = .ok (.aload_n 0, 1) := by decide +kernel
theorem dX6_livelyPixels_11 : decode cX6_livelyPixels 11 = .ok (.aload_n 0, 1) := by decide +kernel
theorem dX6_livelyPixels_12 : decode cX6_livelyPixels 12 = .ok (.getfield 7, 3) := by decide +kernel
theorem dX6_livelyPixels_15 : decode cX6_livelyPixels 15 = .ok (.bipush 92, 2) := by decide +kernel
theorem dX6_livelyPixels_17 : decode cX6_livelyPixels 17 = .ok (.iload_n 2, 1) := by decide +kernel
theorem dX6_livelyPixels_18 : decode cX6_livelyPixels 18 = .ok (.iadd, 1) := by decide +kernel
theorem dX6_livelyPixels_19 : decode cX6_livelyPixels 19 = .ok (.iaload, 1) := by decide +kernel
theorem dX6_livelyPixels_20 : decode cX6_livelyPixels 20 = .ok (.invokevirtual 71, 3) := by decide +kernel
theorem dX6_livelyPixels_23 : decode cX6_livelyPixels 23 = .ok (.istore_n 3, 1) := by decide +kernel
theorem dX6_livelyPixels_24 : decode cX6_livelyPixels 24 = .ok (.iload_n 3, 1) := by decide +kernel
theorem dX6_livelyPixels_25 : decode cX6_livelyPixels 25 = .ok (.bipush (-5), 2) := by decide +kernel
theorem dX6_livelyPixels_27 : decode cX6_livelyPixels 27 = .ok (.if_icmp .eq 17, 3) := by decide +kernel
theorem dX6_livelyPixels_30 : decode cX6_livelyPixels 30 = .ok (.aload_n 0, 1) := by decide +kernel
theorem dX6_livelyPixels_31 : decode cX6_livelyPixels 31 = .ok (.iload_n 3, 1) := by decide +kernel
theorem dX6_livelyPixels_32 : decode cX6_livelyPixels 32 = .ok (.iconst 4, 1) := by decide +kernel
theorem dX6_livelyPixels_33 : decode cX6_livelyPixels 33 = .ok (.invokevirtual 60, 3) := by decide +kernel
theorem dX6_livelyPixels_36 : decode cX6_livelyPixels 36 = .ok (.iconst 1, 1) := by decide +kernel
theorem dX6_livelyPixels_37 : decode cX6_livelyPixels 37 = .ok (.if_icmp .ne 7, 3) := by decide +kernel
theorem dX6_livelyPixels_40 : decode cX6_livelyPixels 40 = .ok (.iconst 1, 1) := by decide +kernel
theorem dX6_livelyPixels_41 : decode cX6_livelyPixels 41 = .ok (.goto 4, 3) := by decide +kernel
theorem dX6_livelyPixels_44 : decode cX6_livelyPixels 44 = .ok (.iconst 0, 1) := by decide +kernel
theorem dX6_livelyPixels_45 : decode cX6_livelyPixels 45 = .ok (.istore 4, 2) := by decide +kernel
theorem dX6_livelyPixels_47 : decode cX6_livelyPixels 47 = .ok (.iload_n 1, 1) := by decide +kernel
theorem dX6_livelyPixels_48 : decode cX6_livelyPixels 48 = .ok (.iload 4, 2) := by decide +kernel
theorem dX6_livelyPixels_50 : decode cX6_livelyPixels 50 = .ok (.ifCond .ne 21, 3) := by decide +kernel
theorem dX6_livelyPixels_53 : decode cX6_livelyPixels 53 = .ok (.aload_n 0, 1) := by decide +kernel
theorem dX6_livelyPixels_54 : decode cX6_livelyPixels 54 = .ok (.aload_n 0, 1) := by decide +kernel
theorem dX6_livelyPixels_55 : decode cX6_livelyPixels 55 = .ok (.getfield 7, 3) := by decide +kernel
theorem dX6_livelyPixels_58 : decode cX6_livelyPixels 58 = .ok (.bipush 92, 2) := by decide +kernel
theorem dX6_livelyPixels_60 : decode cX6_livelyPixels 60 = .ok (.iload_n 2, 1) := by decide +kernel
theorem dX6_livelyPixels_61 : decode cX6_livelyPixels 61 = .ok (.iadd, 1) := by decide +kernel
theorem dX6_livelyPixels_62 : decode cX6_livelyPixels 62 = .ok (.iaload, 1) := by decide +kernel
theorem dX6_livelyPixels_63 : decode cX6_livelyPixels 63 = .ok (.invokevirtual 83, 3) := by decide +kernel
theorem dX6_livelyPixels_66 : decode cX6_livelyPixels 66 = .ok (.bipush (-5), 2) := by decide +kernel
theorem dX6_livelyPixels_68 : decode cX6_livelyPixels 68 = .ok (.if_icmp .eq 7, 3) := by decide +kernel
theorem dX6_livelyPixels_71 : decode cX6_livelyPixels 71 = .ok (.iconst 1, 1) := by decide +kernel
theorem dX6_livelyPixels_72 : decode cX6_livelyPixels 72 = .ok (.goto 4, 3) := by decide +kernel
theorem dX6_livelyPixels_75 : decode cX6_livelyPixels 75 = .ok (.iconst 0, 1) := by decide +kernel
theorem dX6_livelyPixels_76 : decode cX6_livelyPixels 76 = .ok (.iadd, 1) := by decide +kernel
theorem dX6_livelyPixels_77 : decode cX6_livelyPixels 77 = .ok (.istore_n 1, 1) := by decide +kernel
theorem dX6_livelyPixels_78 : decode cX6_livelyPixels 78 = .ok (.iinc 2 1, 3) := by decide +kernel
theorem dX6_livelyPixels_81 : decode cX6_livelyPixels 81 = .ok (.goto (-77), 3) := by decide +kernel
theorem dX6_livelyPixels_84 : decode cX6_livelyPixels 84 = .ok (.iload_n 1, 1) := by decide +kernel
theorem dX6_livelyPixels_85 : decode cX6_livelyPixels 85 = .ok (.ireturn, 1) := by decide +kernel
set_option maxHeartbeats 4000000 in
set_option maxRecDepth 100000 in
theorem c_X6_livelyPixels (l : Launch) (E : gE) (g : Mem) (row : Nat → Int32) (B : GB) (C : GC) (D : GD) (P : GP) (hM : MX E g row B C D P) (r : Row) (Bd : Nat) (hB : Bd < 95000000) (hR : ∀ k, k < 158 → row k = r k) (hv : Vr r Bd) : Mt l E yX6_livelyPixels cX6_livelyPixels 5 (some .int) 2 45 [rf E (0)] g (pI (fun z g' => z = nI (mvC r) ∧ g' = g)) := by
  have hK := hM.k
  have hrc : rc r ≤ 6 := hv.1.2
  have hgc : gc r ≤ 4 := hv.2.1.2
  refine mt_go (own := RX6) (by decide) rfl (lo := [some (rf E (0)), none, none, none, none]) rfl (Nat.le_of_ble_eq_true rfl) (fun X hC => ?_)
  refine y_iconst (v := nI 0) hC dX6_livelyPixels_0 (by decide) ?_
  refine y_istore_n hC dX6_livelyPixels_1 (i := 1) rfl (Nat.le_of_ble_eq_true rfl) rfl (lo' := [some (rf E (0)), some (.int (nI (0))), none, none, none]) rfl ?_
  refine y_iconst (v := nI 0) hC dX6_livelyPixels_2 (by decide) ?_
  refine y_istore_n hC dX6_livelyPixels_3 (i := 2) rfl (Nat.le_of_ble_eq_true rfl) rfl (lo' := [some (rf E (0)), some (.int (nI (0))), some (.int (nI (0))), none, none]) rfl ?_
  have L_4 : ∀ (m : Nat) (i c : Nat), (hm : 64 - i < m) → (hi : i ≤ 64) → (hc : c = cn i (fun p => mvs r (px r p))) → Y l E X (pI (fun z g' => z = nI (mvC r) ∧ g' = g)) 4 [some (rf E (0)), some (.int (nI (c))), some (.int (nI (i))), none, none] [] g := by
    intro m
    induction m with
    | zero => intro i c hm hi hc; exact absurd hm (Nat.not_lt_zero _)
    | succ m ih_4 =>
      intro i c hm hi hc
      refine y_iload_n hC dX6_livelyPixels_4 (i := 2) rfl rfl ?_
      refine y_bipush (v := nI 64) hC dX6_livelyPixels_5 (by decide) ?_
      refine y_icmp_ge_n (tgt := 84) hC dX6_livelyPixels_7 (by decide) (by omega) (by omega) (fun c_7 => ?_) (fun c_7 => ?_)
      · refine y_iload_n hC dX6_livelyPixels_84 (i := 1) rfl rfl ?_
        refine y_iret (hC := hC) (hd := dX6_livelyPixels_85) (hq := ?_)
        exact ⟨congrArg nI (by rw [hc, show i = 64 by omega]; rfl), rfl⟩
      · have hcl := cn_le i (fun p => mvs r (px r p))
        refine y_aload_n hC dX6_livelyPixels_10 (i := 0) rfl rfl ?_
        refine y_aload_n hC dX6_livelyPixels_11 (i := 0) rfl rfl ?_
        refine y_get hC fX6_7 dX6_livelyPixels_12 (k := 0) (by omega) hM.a0 rfl ?_
        refine y_bipush (v := nI 92) hC dX6_livelyPixels_15 (by decide) ?_
        refine y_iload_n hC dX6_livelyPixels_17 (i := 2) rfl rfl ?_
        refine y_iadd_n hC dX6_livelyPixels_18 ?_
        refine y_iald hC dX6_livelyPixels_19 (k := 1) (j := 92 + i) (by omega) hM.a1 (rfl) (by omega) (by decide) ?_
        have hpb_20 := (hv.2.2.2.2.2.2.1 (i) (by omega)).2
        refine y_top (y := nI (px r (i))) ((hR (92 + i) (by omega)).trans (hv.2.2.2.2.2.2.1 (i) (by omega)).1) ?_
        refine y_callV hC mX6_rangeAt kX6_71 dX6_livelyPixels_20 (b := 0) (As := [.int (nI (px r (i)))]) (rest := []) (c_X6_rangeAt l E g row B C D P hM r Bd (by omega) hR hv (px r (i)) (by omega)) (by omega) hM.a0 rfl rfl rfl (Nat.le_of_ble_eq_true rfl) ⟨Nat.le_of_ble_eq_true rfl, Nat.le_of_ble_eq_true rfl⟩ (pk_i ?_)
        rintro r_20 g_20 ⟨hr_20, hq_20⟩
        obtain rfl := hq_20.symm
        rw [hr_20]
        clear hr_20 r_20
        rcases hra : rAt r (px r (i)) with _ | ri
        · refine y_top (y := -5) rfl ?_
          refine y_istore_n hC dX6_livelyPixels_23 (i := 3) rfl (Nat.le_of_ble_eq_true rfl) rfl (lo' := [some (rf E (0)), some (.int (nI (c))), some (.int (nI (i))), some (.int ((-5))), none]) rfl ?_
          refine y_iload_n hC dX6_livelyPixels_24 (i := 3) rfl rfl ?_
          refine y_bipush (v := (-5)) hC dX6_livelyPixels_25 (by decide) ?_
          refine y_icmp_eq (tgt := 44) hC dX6_livelyPixels_27 (by decide) (fun c_27 => ?_) (fun c_27 => ?_)
          · refine y_iconst (v := nI 0) hC dX6_livelyPixels_44 (by decide) ?_
            refine y_istore hC dX6_livelyPixels_45 (Nat.le_of_ble_eq_true rfl) rfl (lo' := [some (rf E (0)), some (.int (nI (c))), some (.int (nI (i))), some (.int ((-5))), some (.int (nI (0)))]) rfl ?_
            refine y_iload_n hC dX6_livelyPixels_47 (i := 1) rfl rfl ?_
            refine y_iload hC dX6_livelyPixels_48 rfl ?_
            refine y_if_ne_n (tgt := 71) hC dX6_livelyPixels_50 (by decide) (by omega) (fun c_50 => ?_) (fun c_50 => ?_)
            · refine y_iconst (v := nI 1) hC dX6_livelyPixels_71 (by decide) ?_
              refine y_goto (tgt := 76) hC dX6_livelyPixels_72 (by decide) ?_
              refine y_iadd_n hC dX6_livelyPixels_76 ?_
              refine y_istore_n hC dX6_livelyPixels_77 (i := 1) rfl (Nat.le_of_ble_eq_true rfl) rfl (lo' := [some (rf E (0)), some (.int (nI (c + 1))), some (.int (nI (i))), some (.int ((-5))), some (.int (nI (0)))]) rfl ?_
              refine y_iinc_n hC dX6_livelyPixels_78 (a := i) (k := 1) rfl (by decide) (Nat.le_of_ble_eq_true rfl) rfl (lo' := [some (rf E (0)), some (.int (nI (c + 1))), some (.int (nI (i + 1))), some (.int ((-5))), some (.int (nI (0)))]) rfl ?_
              refine y_goto (tgt := 4) hC dX6_livelyPixels_81 (by decide) ?_
              refine y_fg 3 (lo' := [some (rf E (0)), some (.int (nI (c + 1))), some (.int (nI (i + 1))), none, some (.int (nI (0)))]) rfl ?_
              refine y_fg 4 (lo' := [some (rf E (0)), some (.int (nI (c + 1))), some (.int (nI (i + 1))), none, none]) rfl ?_
              have hmv : mvs r (px r i) = true := by
                rw [mvs_rw, hra]
                first
                  | (exfalso; omega)
                  | (show (decide (rg r ri 4 = 1) || _) = _; simp [*]; done)
                  | (show (false || _) = _; simp [*]; done)
              exact ih_4 (i + 1) _ (by omega) (by omega) (by rw [cn_s, ← hc, hmv]; rfl)
            · refine y_aload_n hC dX6_livelyPixels_53 (i := 0) rfl rfl ?_
              refine y_aload_n hC dX6_livelyPixels_54 (i := 0) rfl rfl ?_
              refine y_get hC fX6_7 dX6_livelyPixels_55 (k := 0) (by omega) hM.a0 rfl ?_
              refine y_bipush (v := nI 92) hC dX6_livelyPixels_58 (by decide) ?_
              refine y_iload_n hC dX6_livelyPixels_60 (i := 2) rfl rfl ?_
              refine y_iadd_n hC dX6_livelyPixels_61 ?_
              refine y_iald hC dX6_livelyPixels_62 (k := 1) (j := 92 + i) (by omega) hM.a1 (rfl) (by omega) (by decide) ?_
              have hpb_63 := (hv.2.2.2.2.2.2.1 (i) (by omega)).2
              refine y_top (y := nI (px r (i))) ((hR (92 + i) (by omega)).trans (hv.2.2.2.2.2.2.1 (i) (by omega)).1) ?_
              refine y_callV hC mX6_glowAt kX6_83 dX6_livelyPixels_63 (b := 0) (As := [.int (nI (px r (i)))]) (rest := [.int (nI (c))]) (c_X6_glowAt l E g row B C D P hM r Bd (by omega) hR hv (px r (i)) (by omega)) (by omega) hM.a0 rfl rfl rfl (Nat.le_of_ble_eq_true rfl) ⟨Nat.le_of_ble_eq_true rfl, Nat.le_of_ble_eq_true rfl⟩ (pk_i ?_)
              rintro r_63 g_63 ⟨hr_63, hq_63⟩
              obtain rfl := hq_63.symm
              rw [hr_63]
              clear hr_63 r_63
              rcases hga : gAt r (px r (i)) with _ | gi
              · refine y_top (y := -5) rfl ?_
                refine y_bipush (v := (-5)) hC dX6_livelyPixels_66 (by decide) ?_
                refine y_icmp_eq (tgt := 75) hC dX6_livelyPixels_68 (by decide) (fun c_68 => ?_) (fun c_68 => ?_)
                · refine y_iconst (v := nI 0) hC dX6_livelyPixels_75 (by decide) ?_
                  refine y_iadd_n hC dX6_livelyPixels_76 ?_
                  refine y_istore_n hC dX6_livelyPixels_77 (i := 1) rfl (Nat.le_of_ble_eq_true rfl) rfl (lo' := [some (rf E (0)), some (.int (nI (c + 0))), some (.int (nI (i))), some (.int ((-5))), some (.int (nI (0)))]) rfl ?_
                  refine y_iinc_n hC dX6_livelyPixels_78 (a := i) (k := 1) rfl (by decide) (Nat.le_of_ble_eq_true rfl) rfl (lo' := [some (rf E (0)), some (.int (nI (c + 0))), some (.int (nI (i + 1))), some (.int ((-5))), some (.int (nI (0)))]) rfl ?_
                  refine y_goto (tgt := 4) hC dX6_livelyPixels_81 (by decide) ?_
                  refine y_fg 3 (lo' := [some (rf E (0)), some (.int (nI (c + 0))), some (.int (nI (i + 1))), none, some (.int (nI (0)))]) rfl ?_
                  refine y_fg 4 (lo' := [some (rf E (0)), some (.int (nI (c + 0))), some (.int (nI (i + 1))), none, none]) rfl ?_
                  have hmv : mvs r (px r i) = false := by
                    rw [mvs_rw, hra]
                    first
                      | (exfalso; omega)
                      | (show (decide (rg r ri 4 = 1) || _) = _; simp [*]; done)
                      | (show (false || _) = _; simp [*]; done)
                  exact ih_4 (i + 1) _ (by omega) (by omega) (by rw [cn_s, ← hc, hmv]; rfl)
                · exact absurd rfl c_68
              · obtain ⟨a4, a5⟩ := gAt_in hga
                refine y_top (y := nI (gi)) rfl ?_
                refine y_bipush (v := (-5)) hC dX6_livelyPixels_66 (by decide) ?_
                refine y_icmp_eq (tgt := 75) hC dX6_livelyPixels_68 (by decide) (fun c_68 => ?_) (fun c_68 => ?_)
                · exact absurd c_68 (nI_m5 (by omega))
                · refine y_iconst (v := nI 1) hC dX6_livelyPixels_71 (by decide) ?_
                  refine y_goto (tgt := 76) hC dX6_livelyPixels_72 (by decide) ?_
                  refine y_iadd_n hC dX6_livelyPixels_76 ?_
                  refine y_istore_n hC dX6_livelyPixels_77 (i := 1) rfl (Nat.le_of_ble_eq_true rfl) rfl (lo' := [some (rf E (0)), some (.int (nI (c + 1))), some (.int (nI (i))), some (.int ((-5))), some (.int (nI (0)))]) rfl ?_
                  refine y_iinc_n hC dX6_livelyPixels_78 (a := i) (k := 1) rfl (by decide) (Nat.le_of_ble_eq_true rfl) rfl (lo' := [some (rf E (0)), some (.int (nI (c + 1))), some (.int (nI (i + 1))), some (.int ((-5))), some (.int (nI (0)))]) rfl ?_
                  refine y_goto (tgt := 4) hC dX6_livelyPixels_81 (by decide) ?_
                  refine y_fg 3 (lo' := [some (rf E (0)), some (.int (nI (c + 1))), some (.int (nI (i + 1))), none, some (.int (nI (0)))]) rfl ?_
                  refine y_fg 4 (lo' := [some (rf E (0)), some (.int (nI (c + 1))), some (.int (nI (i + 1))), none, none]) rfl ?_
                  have hmv : mvs r (px r i) = true := by
                    rw [mvs_rw, hra]
                    first
                      | (exfalso; omega)
                      | (show (decide (rg r ri 4 = 1) || _) = _; simp [*]; done)
                      | (show (false || _) = _; simp [*]; done)
                  exact ih_4 (i + 1) _ (by omega) (by omega) (by rw [cn_s, ← hc, hmv]; rfl)
          · exact absurd rfl c_27
        · obtain ⟨a1, a2, a3⟩ := rAt_in hra
          obtain ⟨q1, q2, q3, q4, q5, q6, q7, q8, q9⟩ := hv.rg a1
          refine y_top (y := nI (ri)) rfl ?_
          refine y_istore_n hC dX6_livelyPixels_23 (i := 3) rfl (Nat.le_of_ble_eq_true rfl) rfl (lo' := [some (rf E (0)), some (.int (nI (c))), some (.int (nI (i))), some (.int (nI (ri))), none]) rfl ?_
          refine y_iload_n hC dX6_livelyPixels_24 (i := 3) rfl rfl ?_
          refine y_bipush (v := (-5)) hC dX6_livelyPixels_25 (by decide) ?_
          refine y_icmp_eq (tgt := 44) hC dX6_livelyPixels_27 (by decide) (fun c_27 => ?_) (fun c_27 => ?_)
          · exact absurd c_27 (nI_m5 (by omega))
          · refine y_aload_n hC dX6_livelyPixels_30 (i := 0) rfl rfl ?_
            refine y_iload_n hC dX6_livelyPixels_31 (i := 3) rfl rfl ?_
            refine y_iconst (v := nI 4) hC dX6_livelyPixels_32 (by decide) ?_
            refine y_callV hC mX6_of kX6_60 dX6_livelyPixels_33 (b := 0) (As := [.int (nI (ri)), .int (nI (4))]) (rest := []) (c_X6_of l E g row B C D P hM r Bd (by omega) hR hv (ri) 4 (by omega) (by decide)) (by omega) hM.a0 rfl rfl rfl (Nat.le_of_ble_eq_true rfl) ⟨Nat.le_of_ble_eq_true rfl, Nat.le_of_ble_eq_true rfl⟩ (pk_i ?_)
            rintro r_33 g_33 ⟨hr_33, hq_33⟩
            obtain rfl := hq_33.symm
            rw [hr_33]
            clear hr_33 r_33
            refine y_iconst (v := nI 1) hC dX6_livelyPixels_36 (by decide) ?_
            refine y_icmp_ne_n (tgt := 44) hC dX6_livelyPixels_37 (by decide) (by omega) (by omega) (fun c_37 => ?_) (fun c_37 => ?_)
            · refine y_iconst (v := nI 0) hC dX6_livelyPixels_44 (by decide) ?_
              refine y_istore hC dX6_livelyPixels_45 (Nat.le_of_ble_eq_true rfl) rfl (lo' := [some (rf E (0)), some (.int (nI (c))), some (.int (nI (i))), some (.int (nI (ri))), some (.int (nI (0)))]) rfl ?_
              refine y_iload_n hC dX6_livelyPixels_47 (i := 1) rfl rfl ?_
              refine y_iload hC dX6_livelyPixels_48 rfl ?_
              refine y_if_ne_n (tgt := 71) hC dX6_livelyPixels_50 (by decide) (by omega) (fun c_50 => ?_) (fun c_50 => ?_)
              · refine y_iconst (v := nI 1) hC dX6_livelyPixels_71 (by decide) ?_
                refine y_goto (tgt := 76) hC dX6_livelyPixels_72 (by decide) ?_
                refine y_iadd_n hC dX6_livelyPixels_76 ?_
                refine y_istore_n hC dX6_livelyPixels_77 (i := 1) rfl (Nat.le_of_ble_eq_true rfl) rfl (lo' := [some (rf E (0)), some (.int (nI (c + 1))), some (.int (nI (i))), some (.int (nI (ri))), some (.int (nI (0)))]) rfl ?_
                refine y_iinc_n hC dX6_livelyPixels_78 (a := i) (k := 1) rfl (by decide) (Nat.le_of_ble_eq_true rfl) rfl (lo' := [some (rf E (0)), some (.int (nI (c + 1))), some (.int (nI (i + 1))), some (.int (nI (ri))), some (.int (nI (0)))]) rfl ?_
                refine y_goto (tgt := 4) hC dX6_livelyPixels_81 (by decide) ?_
                refine y_fg 3 (lo' := [some (rf E (0)), some (.int (nI (c + 1))), some (.int (nI (i + 1))), none, some (.int (nI (0)))]) rfl ?_
                refine y_fg 4 (lo' := [some (rf E (0)), some (.int (nI (c + 1))), some (.int (nI (i + 1))), none, none]) rfl ?_
                have hmv : mvs r (px r i) = true := by
                  rw [mvs_rw, hra]
                  first
                    | (exfalso; omega)
                    | (show (decide (rg r ri 4 = 1) || _) = _; simp [*]; done)
                    | (show (false || _) = _; simp [*]; done)
                exact ih_4 (i + 1) _ (by omega) (by omega) (by rw [cn_s, ← hc, hmv]; rfl)
              · refine y_aload_n hC dX6_livelyPixels_53 (i := 0) rfl rfl ?_
                refine y_aload_n hC dX6_livelyPixels_54 (i := 0) rfl rfl ?_
                refine y_get hC fX6_7 dX6_livelyPixels_55 (k := 0) (by omega) hM.a0 rfl ?_
                refine y_bipush (v := nI 92) hC dX6_livelyPixels_58 (by decide) ?_
                refine y_iload_n hC dX6_livelyPixels_60 (i := 2) rfl rfl ?_
                refine y_iadd_n hC dX6_livelyPixels_61 ?_
                refine y_iald hC dX6_livelyPixels_62 (k := 1) (j := 92 + i) (by omega) hM.a1 (rfl) (by omega) (by decide) ?_
                have hpb_63 := (hv.2.2.2.2.2.2.1 (i) (by omega)).2
                refine y_top (y := nI (px r (i))) ((hR (92 + i) (by omega)).trans (hv.2.2.2.2.2.2.1 (i) (by omega)).1) ?_
                refine y_callV hC mX6_glowAt kX6_83 dX6_livelyPixels_63 (b := 0) (As := [.int (nI (px r (i)))]) (rest := [.int (nI (c))]) (c_X6_glowAt l E g row B C D P hM r Bd (by omega) hR hv (px r (i)) (by omega)) (by omega) hM.a0 rfl rfl rfl (Nat.le_of_ble_eq_true rfl) ⟨Nat.le_of_ble_eq_true rfl, Nat.le_of_ble_eq_true rfl⟩ (pk_i ?_)
                rintro r_63 g_63 ⟨hr_63, hq_63⟩
                obtain rfl := hq_63.symm
                rw [hr_63]
                clear hr_63 r_63
                rcases hga : gAt r (px r (i)) with _ | gi
                · refine y_top (y := -5) rfl ?_
                  refine y_bipush (v := (-5)) hC dX6_livelyPixels_66 (by decide) ?_
                  refine y_icmp_eq (tgt := 75) hC dX6_livelyPixels_68 (by decide) (fun c_68 => ?_) (fun c_68 => ?_)
                  · refine y_iconst (v := nI 0) hC dX6_livelyPixels_75 (by decide) ?_
                    refine y_iadd_n hC dX6_livelyPixels_76 ?_
                    refine y_istore_n hC dX6_livelyPixels_77 (i := 1) rfl (Nat.le_of_ble_eq_true rfl) rfl (lo' := [some (rf E (0)), some (.int (nI (c + 0))), some (.int (nI (i))), some (.int (nI (ri))), some (.int (nI (0)))]) rfl ?_
                    refine y_iinc_n hC dX6_livelyPixels_78 (a := i) (k := 1) rfl (by decide) (Nat.le_of_ble_eq_true rfl) rfl (lo' := [some (rf E (0)), some (.int (nI (c + 0))), some (.int (nI (i + 1))), some (.int (nI (ri))), some (.int (nI (0)))]) rfl ?_
                    refine y_goto (tgt := 4) hC dX6_livelyPixels_81 (by decide) ?_
                    refine y_fg 3 (lo' := [some (rf E (0)), some (.int (nI (c + 0))), some (.int (nI (i + 1))), none, some (.int (nI (0)))]) rfl ?_
                    refine y_fg 4 (lo' := [some (rf E (0)), some (.int (nI (c + 0))), some (.int (nI (i + 1))), none, none]) rfl ?_
                    have hmv : mvs r (px r i) = false := by
                      rw [mvs_rw, hra]
                      first
                        | (exfalso; omega)
                        | (show (decide (rg r ri 4 = 1) || _) = _; simp [*]; done)
                        | (show (false || _) = _; simp [*]; done)
                    exact ih_4 (i + 1) _ (by omega) (by omega) (by rw [cn_s, ← hc, hmv]; rfl)
                  · exact absurd rfl c_68
                · obtain ⟨a4, a5⟩ := gAt_in hga
                  refine y_top (y := nI (gi)) rfl ?_
                  refine y_bipush (v := (-5)) hC dX6_livelyPixels_66 (by decide) ?_
                  refine y_icmp_eq (tgt := 75) hC dX6_livelyPixels_68 (by decide) (fun c_68 => ?_) (fun c_68 => ?_)
                  · exact absurd c_68 (nI_m5 (by omega))
                  · refine y_iconst (v := nI 1) hC dX6_livelyPixels_71 (by decide) ?_
                    refine y_goto (tgt := 76) hC dX6_livelyPixels_72 (by decide) ?_
                    refine y_iadd_n hC dX6_livelyPixels_76 ?_
                    refine y_istore_n hC dX6_livelyPixels_77 (i := 1) rfl (Nat.le_of_ble_eq_true rfl) rfl (lo' := [some (rf E (0)), some (.int (nI (c + 1))), some (.int (nI (i))), some (.int (nI (ri))), some (.int (nI (0)))]) rfl ?_
                    refine y_iinc_n hC dX6_livelyPixels_78 (a := i) (k := 1) rfl (by decide) (Nat.le_of_ble_eq_true rfl) rfl (lo' := [some (rf E (0)), some (.int (nI (c + 1))), some (.int (nI (i + 1))), some (.int (nI (ri))), some (.int (nI (0)))]) rfl ?_
                    refine y_goto (tgt := 4) hC dX6_livelyPixels_81 (by decide) ?_
                    refine y_fg 3 (lo' := [some (rf E (0)), some (.int (nI (c + 1))), some (.int (nI (i + 1))), none, some (.int (nI (0)))]) rfl ?_
                    refine y_fg 4 (lo' := [some (rf E (0)), some (.int (nI (c + 1))), some (.int (nI (i + 1))), none, none]) rfl ?_
                    have hmv : mvs r (px r i) = true := by
                      rw [mvs_rw, hra]
                      first
                        | (exfalso; omega)
                        | (show (decide (rg r ri 4 = 1) || _) = _; simp [*]; done)
                        | (show (false || _) = _; simp [*]; done)
                    exact ih_4 (i + 1) _ (by omega) (by omega) (by rw [cn_s, ← hc, hmv]; rfl)
            · refine y_iconst (v := nI 1) hC dX6_livelyPixels_40 (by decide) ?_
              refine y_goto (tgt := 45) hC dX6_livelyPixels_41 (by decide) ?_
              refine y_istore hC dX6_livelyPixels_45 (Nat.le_of_ble_eq_true rfl) rfl (lo' := [some (rf E (0)), some (.int (nI (c))), some (.int (nI (i))), some (.int (nI (ri))), some (.int (nI (1)))]) rfl ?_
              refine y_iload_n hC dX6_livelyPixels_47 (i := 1) rfl rfl ?_
              refine y_iload hC dX6_livelyPixels_48 rfl ?_
              refine y_if_ne_n (tgt := 71) hC dX6_livelyPixels_50 (by decide) (by omega) (fun c_50 => ?_) (fun c_50 => ?_)
              · refine y_iconst (v := nI 1) hC dX6_livelyPixels_71 (by decide) ?_
                refine y_goto (tgt := 76) hC dX6_livelyPixels_72 (by decide) ?_
                refine y_iadd_n hC dX6_livelyPixels_76 ?_
                refine y_istore_n hC dX6_livelyPixels_77 (i := 1) rfl (Nat.le_of_ble_eq_true rfl) rfl (lo' := [some (rf E (0)), some (.int (nI (c + 1))), some (.int (nI (i))), some (.int (nI (ri))), some (.int (nI (1)))]) rfl ?_
                refine y_iinc_n hC dX6_livelyPixels_78 (a := i) (k := 1) rfl (by decide) (Nat.le_of_ble_eq_true rfl) rfl (lo' := [some (rf E (0)), some (.int (nI (c + 1))), some (.int (nI (i + 1))), some (.int (nI (ri))), some (.int (nI (1)))]) rfl ?_
                refine y_goto (tgt := 4) hC dX6_livelyPixels_81 (by decide) ?_
                refine y_fg 3 (lo' := [some (rf E (0)), some (.int (nI (c + 1))), some (.int (nI (i + 1))), none, some (.int (nI (1)))]) rfl ?_
                refine y_fg 4 (lo' := [some (rf E (0)), some (.int (nI (c + 1))), some (.int (nI (i + 1))), none, none]) rfl ?_
                have hmv : mvs r (px r i) = true := by
                  rw [mvs_rw, hra]
                  first
                    | (exfalso; omega)
                    | (show (decide (rg r ri 4 = 1) || _) = _; simp [*]; done)
                    | (show (false || _) = _; simp [*]; done)
                exact ih_4 (i + 1) _ (by omega) (by omega) (by rw [cn_s, ← hc, hmv]; rfl)
              · refine y_aload_n hC dX6_livelyPixels_53 (i := 0) rfl rfl ?_
                refine y_aload_n hC dX6_livelyPixels_54 (i := 0) rfl rfl ?_
                refine y_get hC fX6_7 dX6_livelyPixels_55 (k := 0) (by omega) hM.a0 rfl ?_
                refine y_bipush (v := nI 92) hC dX6_livelyPixels_58 (by decide) ?_
                refine y_iload_n hC dX6_livelyPixels_60 (i := 2) rfl rfl ?_
                refine y_iadd_n hC dX6_livelyPixels_61 ?_
                refine y_iald hC dX6_livelyPixels_62 (k := 1) (j := 92 + i) (by omega) hM.a1 (rfl) (by omega) (by decide) ?_
                have hpb_63 := (hv.2.2.2.2.2.2.1 (i) (by omega)).2
                refine y_top (y := nI (px r (i))) ((hR (92 + i) (by omega)).trans (hv.2.2.2.2.2.2.1 (i) (by omega)).1) ?_
                refine y_callV hC mX6_glowAt kX6_83 dX6_livelyPixels_63 (b := 0) (As := [.int (nI (px r (i)))]) (rest := [.int (nI (c))]) (c_X6_glowAt l E g row B C D P hM r Bd (by omega) hR hv (px r (i)) (by omega)) (by omega) hM.a0 rfl rfl rfl (Nat.le_of_ble_eq_true rfl) ⟨Nat.le_of_ble_eq_true rfl, Nat.le_of_ble_eq_true rfl⟩ (pk_i ?_)
                rintro r_63 g_63 ⟨hr_63, hq_63⟩
                obtain rfl := hq_63.symm
                rw [hr_63]
                clear hr_63 r_63
                rcases hga : gAt r (px r (i)) with _ | gi
                · refine y_top (y := -5) rfl ?_
                  refine y_bipush (v := (-5)) hC dX6_livelyPixels_66 (by decide) ?_
                  refine y_icmp_eq (tgt := 75) hC dX6_livelyPixels_68 (by decide) (fun c_68 => ?_) (fun c_68 => ?_)
                  · refine y_iconst (v := nI 0) hC dX6_livelyPixels_75 (by decide) ?_
                    refine y_iadd_n hC dX6_livelyPixels_76 ?_
                    refine y_istore_n hC dX6_livelyPixels_77 (i := 1) rfl (Nat.le_of_ble_eq_true rfl) rfl (lo' := [some (rf E (0)), some (.int (nI (c + 0))), some (.int (nI (i))), some (.int (nI (ri))), some (.int (nI (1)))]) rfl ?_
                    refine y_iinc_n hC dX6_livelyPixels_78 (a := i) (k := 1) rfl (by decide) (Nat.le_of_ble_eq_true rfl) rfl (lo' := [some (rf E (0)), some (.int (nI (c + 0))), some (.int (nI (i + 1))), some (.int (nI (ri))), some (.int (nI (1)))]) rfl ?_
                    refine y_goto (tgt := 4) hC dX6_livelyPixels_81 (by decide) ?_
                    refine y_fg 3 (lo' := [some (rf E (0)), some (.int (nI (c + 0))), some (.int (nI (i + 1))), none, some (.int (nI (1)))]) rfl ?_
                    refine y_fg 4 (lo' := [some (rf E (0)), some (.int (nI (c + 0))), some (.int (nI (i + 1))), none, none]) rfl ?_
                    have hmv : mvs r (px r i) = false := by
                      rw [mvs_rw, hra]
                      first
                        | (exfalso; omega)
                        | (show (decide (rg r ri 4 = 1) || _) = _; simp [*]; done)
                        | (show (false || _) = _; simp [*]; done)
                    exact ih_4 (i + 1) _ (by omega) (by omega) (by rw [cn_s, ← hc, hmv]; rfl)
                  · exact absurd rfl c_68
                · obtain ⟨a4, a5⟩ := gAt_in hga
                  refine y_top (y := nI (gi)) rfl ?_
                  refine y_bipush (v := (-5)) hC dX6_livelyPixels_66 (by decide) ?_
                  refine y_icmp_eq (tgt := 75) hC dX6_livelyPixels_68 (by decide) (fun c_68 => ?_) (fun c_68 => ?_)
                  · exact absurd c_68 (nI_m5 (by omega))
                  · refine y_iconst (v := nI 1) hC dX6_livelyPixels_71 (by decide) ?_
                    refine y_goto (tgt := 76) hC dX6_livelyPixels_72 (by decide) ?_
                    refine y_iadd_n hC dX6_livelyPixels_76 ?_
                    refine y_istore_n hC dX6_livelyPixels_77 (i := 1) rfl (Nat.le_of_ble_eq_true rfl) rfl (lo' := [some (rf E (0)), some (.int (nI (c + 1))), some (.int (nI (i))), some (.int (nI (ri))), some (.int (nI (1)))]) rfl ?_
                    refine y_iinc_n hC dX6_livelyPixels_78 (a := i) (k := 1) rfl (by decide) (Nat.le_of_ble_eq_true rfl) rfl (lo' := [some (rf E (0)), some (.int (nI (c + 1))), some (.int (nI (i + 1))), some (.int (nI (ri))), some (.int (nI (1)))]) rfl ?_
                    refine y_goto (tgt := 4) hC dX6_livelyPixels_81 (by decide) ?_
                    refine y_fg 3 (lo' := [some (rf E (0)), some (.int (nI (c + 1))), some (.int (nI (i + 1))), none, some (.int (nI (1)))]) rfl ?_
                    refine y_fg 4 (lo' := [some (rf E (0)), some (.int (nI (c + 1))), some (.int (nI (i + 1))), none, none]) rfl ?_
                    have hmv : mvs r (px r i) = true := by
                      rw [mvs_rw, hra]
                      first
                        | (exfalso; omega)
                        | (show (decide (rg r ri 4 = 1) || _) = _; simp [*]; done)
                        | (show (false || _) = _; simp [*]; done)
                    exact ih_4 (i + 1) _ (by omega) (by omega) (by rw [cn_s, ← hc, hmv]; rfl)
  exact L_4 65 0 0 (by omega) (by omega) rfl

theorem dX6_notePicture_0 : decode cX6_notePicture 0 = .ok (.aload_n 0, 1) := by decide +kernel
theorem dX6_notePicture_1 : decode cX6_notePicture 1 = .ok (.invokevirtual 110, 3) := by decide +kernel
theorem dX6_notePicture_4 : decode cX6_notePicture 4 = .ok (.iconst 0, 1) := by decide +kernel
theorem dX6_notePicture_5 : decode cX6_notePicture 5 = .ok (.istore_n 1, 1) := by decide +kernel
theorem dX6_notePicture_6 : decode cX6_notePicture 6 = .ok (.iload_n 1, 1) := by decide +kernel
theorem dX6_notePicture_7 : decode cX6_notePicture 7 = .ok (.bipush 64, 2) := by decide +kernel
theorem dX6_notePicture_9 : decode cX6_notePicture 9 = .ok (.if_icmp .ge 29, 3) := by decide +kernel
theorem dX6_notePicture_12 : decode cX6_notePicture 12 = .ok (.aload_n 0, 1) := by decide +kernel
theorem dX6_notePicture_13 : decode cX6_notePicture 13 = .ok (.getfield 41, 3) := by decide +kernel
theorem dX6_notePicture_16 : decode cX6_notePicture 16 = .ok (.iload_n 1, 1) := by decide +kernel
theorem dX6_notePicture_17 : decode cX6_notePicture 17 = .ok (.aload_n 0, 1) := by decide +kernel
theorem dX6_notePicture_18 : decode cX6_notePicture 18 = .ok (.getfield 22, 3) := by decide +kernel
theorem dX6_notePicture_21 : decode cX6_notePicture 21 = .ok (.aload_n 0, 1) := by decide +kernel
theorem dX6_notePicture_22 : decode cX6_notePicture 22 = .ok (.getfield 7, 3) := by decide +kernel
theorem dX6_notePicture_25 : decode cX6_notePicture 25 = .ok (.bipush 92, 2) := by decide +kernel
theorem dX6_notePicture_27 : decode cX6_notePicture 27 = .ok (.iload_n 1, 1) := by decide +kernel
theorem dX6_notePicture_28 : decode cX6_notePicture 28 = .ok (.iadd, 1) := by decide +kernel
theorem dX6_notePicture_29 : decode cX6_notePicture 29 = .ok (.iaload, 1) := by decide +kernel
theorem dX6_notePicture_30 : decode cX6_notePicture 30 = .ok (.iaload, 1) := by decide +kernel
theorem dX6_notePicture_31 : decode cX6_notePicture 31 = .ok (.iastore, 1) := by decide +kernel
theorem dX6_notePicture_32 : decode cX6_notePicture 32 = .ok (.iinc 1 1, 3) := by decide +kernel
theorem dX6_notePicture_35 : decode cX6_notePicture 35 = .ok (.goto (-29), 3) := by decide +kernel
theorem dX6_notePicture_38 : decode cX6_notePicture 38 = .ok (.return_, 1) := by decide +kernel
set_option maxHeartbeats 4000000 in
set_option maxRecDepth 100000 in
theorem c_X6_notePicture (l : Launch) (E : gE) (g : Mem) (row : Nat → Int32) (B : GB) (C : GC) (D : GD) (P : GP) (hM : MX E g row B C D P) (r : Row) (Bd : Nat) (hB : Bd < 95000000) (hR : ∀ k, k < 158 → row k = r k) (hv : Vr r Bd) : Mt l E yX6_notePicture cX6_notePicture 2 none 6 133 [rf E (0)] g (pV (fun g' => ∃ co2 bf2, (∀ p, p < 64 → bf2 p = shd r (px r p) 0) ∧ MX E g' row B (C.1, co2, C.2.2.1, bf2) D P)) := by
  have hK := hM.k
  have hrc : rc r ≤ 6 := hv.1.2
  have hgc : gc r ≤ 4 := hv.2.1.2
  refine mt_go (own := RX6) (by decide) rfl (lo := [some (rf E (0)), none]) rfl (Nat.le_of_ble_eq_true rfl) (fun X hC => ?_)
  refine y_aload_n hC dX6_notePicture_0 (i := 0) rfl rfl ?_
  refine y_callV hC mX6_show kX6_110 dX6_notePicture_1 (b := 0) (As := []) (rest := []) (c_X6_show l E g row B C D P hM r Bd (by omega) hR hv) (by omega) hM.a0 rfl rfl rfl (Nat.le_of_ble_eq_true rfl) ⟨Nat.le_of_ble_eq_true rfl, Nat.le_of_ble_eq_true rfl⟩ (pk_v ?_)
  rintro g_1 ⟨co_1, hco_1, hM_1⟩
  refine y_iconst (v := nI 0) hC dX6_notePicture_4 (by decide) ?_
  refine y_istore_n hC dX6_notePicture_5 (i := 1) rfl (Nat.le_of_ble_eq_true rfl) rfl (lo' := [some (rf E (0)), some (.int (nI (0)))]) rfl ?_
  have L_6 : ∀ (m : Nat) (i : Nat) (g2 : Mem) (bf2 : Nat → Int32), (hm : 64 - i < m) → (hi : i ≤ 64) → (hM2 : MX E g2 row B (C.1, co_1, C.2.2.1, bf2) D P) → (hk : ∀ p, p < i → bf2 p = shd r (px r p) 0) → Y l E X (pV (fun g' => ∃ co2 bf2, (∀ p, p < 64 → bf2 p = shd r (px r p) 0) ∧ MX E g' row B (C.1, co2, C.2.2.1, bf2) D P)) 6 [some (rf E (0)), some (.int (nI (i)))] [] g2 := by
    intro m
    induction m with
    | zero => intro i g2 bf2 hm hi hM2 hk; exact absurd hm (Nat.not_lt_zero _)
    | succ m ih_6 =>
      intro i g2 bf2 hm hi hM2 hk
      refine y_iload_n hC dX6_notePicture_6 (i := 1) rfl rfl ?_
      refine y_bipush (v := nI 64) hC dX6_notePicture_7 (by decide) ?_
      refine y_icmp_ge_n (tgt := 38) hC dX6_notePicture_9 (by decide) (by omega) (by omega) (fun c_9 => ?_) (fun c_9 => ?_)
      · refine y_vret (hC := hC) (hd := dX6_notePicture_38) (hq := ?_)
        exact ⟨co_1, bf2, fun p hp => hk p (by omega), hM2⟩
      · refine y_aload_n hC dX6_notePicture_12 (i := 0) rfl rfl ?_
        refine y_get hC fX6_41 dX6_notePicture_13 (k := 0) (by omega) hM2.a0 rfl ?_
        refine y_iload_n hC dX6_notePicture_16 (i := 1) rfl rfl ?_
        refine y_aload_n hC dX6_notePicture_17 (i := 0) rfl rfl ?_
        refine y_get hC fX6_22 dX6_notePicture_18 (k := 0) (by omega) hM2.a0 rfl ?_
        refine y_aload_n hC dX6_notePicture_21 (i := 0) rfl rfl ?_
        refine y_get hC fX6_7 dX6_notePicture_22 (k := 0) (by omega) hM2.a0 rfl ?_
        refine y_bipush (v := nI 92) hC dX6_notePicture_25 (by decide) ?_
        refine y_iload_n hC dX6_notePicture_27 (i := 1) rfl rfl ?_
        refine y_iadd_n hC dX6_notePicture_28 ?_
        refine y_iald hC dX6_notePicture_29 (k := 1) (j := 92 + i) (by omega) hM2.a1 (rfl) (by omega) (by decide) ?_
        have hpb_30 := (hv.2.2.2.2.2.2.1 (i) (by omega)).2
        refine y_top (y := nI (px r (i))) ((hR (92 + i) (by omega)).trans (hv.2.2.2.2.2.2.1 (i) (by omega)).1) ?_
        refine y_iald hC dX6_notePicture_30 (k := 5) (j := px r (i)) (by omega) hM2.a5 (rfl) (by omega) (by decide) ?_
        refine y_top (y := (shd r (px r (i)) 0)) (hco_1 _ (by omega)) ?_
        refine y_iast hC dX6_notePicture_31 (k := 11) (j := i) (by omega) hM2.a11 (rfl) (by omega) (by decide) ?_
        have hM_31 : MX E (va_up g2 (11) (aI E 0 64 (upd bf2 (i) ((shd r (px r (i)) 0))))) row B (C.1, co_1, C.2.2.1, (upd bf2 (i) ((shd r (px r (i)) 0)))) D P := hM2.u11 _
        generalize (va_up g2 (11) (aI E 0 64 (upd bf2 (i) ((shd r (px r (i)) 0))))) = g_31 at hM_31 ⊢
        refine y_iinc_n hC dX6_notePicture_32 (a := i) (k := 1) rfl (by decide) (Nat.le_of_ble_eq_true rfl) rfl (lo' := [some (rf E (0)), some (.int (nI (i + 1)))]) rfl ?_
        refine y_goto (tgt := 6) hC dX6_notePicture_35 (by decide) ?_
        exact ih_6 (i + 1) g_31 _ (by omega) (by omega) hM_31 (fun k hk2 => by
            by_cases e : k = i
            · rw [e, pk_us]
            · rw [pk_un e]; exact hk k (by omega))
  exact L_6 65 0 g_1 C.2.2.2 (by omega) (by omega) hM_1 (fun k hk => absurd hk (Nat.not_lt_zero k))

theorem dX6_otherPixels_0 : decode cX6_otherPixels 0 = .ok (.aload_n 0, 1) := by decide +kernel
theorem dX6_otherPixels_1 : decode cX6_otherPixels 1 = .ok (.invokevirtual 110, 3) := by decide +kernel
theorem dX6_otherPixels_4 : decode cX6_otherPixels 4 = .ok (.iconst 0, 1) := by decide +kernel
theorem dX6_otherPixels_5 : decode cX6_otherPixels 5 = .ok (.istore_n 1, 1) := by decide +kernel
theorem dX6_otherPixels_6 : decode cX6_otherPixels 6 = .ok (.iconst 0, 1) := by decide +kernel
theorem dX6_otherPixels_7 : decode cX6_otherPixels 7 = .ok (.istore_n 2, 1) := by decide +kernel
theorem dX6_otherPixels_8 : decode cX6_otherPixels 8 = .ok (.iload_n 2, 1) := by decide +kernel
theorem dX6_otherPixels_9 : decode cX6_otherPixels 9 = .ok (.bipush 64, 2) := by decide +kernel
theorem dX6_otherPixels_11 : decode cX6_otherPixels 11 = .ok (.if_icmp .ge 40, 3) := by decide +kernel
theorem dX6_otherPixels_14 : decode cX6_otherPixels 14 = .ok (.iload_n 1, 1) := by decide +kernel
theorem dX6_otherPixels_15 : decode cX6_otherPixels 15 = .ok (.aload_n 0, 1) := by decide +kernel
theorem dX6_otherPixels_16 : decode cX6_otherPixels 16 = .ok (.getfield 41, 3) := by decide +kernel
theorem dX6_otherPixels_19 : decode cX6_otherPixels 19 = .ok (.iload_n 2, 1) := by decide +kernel
theorem dX6_otherPixels_20 : decode cX6_otherPixels 20 = .ok (.iaload, 1) := by decide +kernel
theorem dX6_otherPixels_21 : decode cX6_otherPixels 21 = .ok (.aload_n 0, 1) := by decide +kernel
theorem dX6_otherPixels_22 : decode cX6_otherPixels 22 = .ok (.getfield 22, 3) := by decide +kernel
theorem dX6_otherPixels_25 : decode cX6_otherPixels 25 = .ok (.aload_n 0, 1) := by decide +kernel
theorem dX6_otherPixels_26 : decode cX6_otherPixels 26 = .ok (.getfield 7, 3) := by decide +kernel
theorem dX6_otherPixels_29 : decode cX6_otherPixels 29 = .ok (.bipush 92, 2) := by decide +kernel
theorem dX6_otherPixels_31 : decode cX6_otherPixels 31 = .ok (.iload_n 2, 1) := by decide +kernel
theorem dX6_otherPixels_32 : decode cX6_otherPixels 32 = .ok (.iadd, 1) := by decide +kernel
theorem dX6_otherPixels_33 : decode cX6_otherPixels 33 = .ok (.iaload, 1) := by decide +kernel
theorem dX6_otherPixels_34 : decode cX6_otherPixels 34 = .ok (.iaload, 1) := by decide +kernel
theorem dX6_otherPixels_35 : decode cX6_otherPixels 35 = .ok (.if_icmp .eq 7, 3) := by decide +kernel
theorem dX6_otherPixels_38 : decode cX6_otherPixels 38 = .ok (.iconst 1, 1) := by decide +kernel
theorem dX6_otherPixels_39 : decode cX6_otherPixels 39 = .ok (.goto 4, 3) := by decide +kernel
theorem dX6_otherPixels_42 : decode cX6_otherPixels 42 = .ok (.iconst 0, 1) := by decide +kernel
theorem dX6_otherPixels_43 : decode cX6_otherPixels 43 = .ok (.iadd, 1) := by decide +kernel
theorem dX6_otherPixels_44 : decode cX6_otherPixels 44 = .ok (.istore_n 1, 1) := by decide +kernel
theorem dX6_otherPixels_45 : decode cX6_otherPixels 45 = .ok (.iinc 2 1, 3) := by decide +kernel
theorem dX6_otherPixels_48 : decode cX6_otherPixels 48 = .ok (.goto (-40), 3) := by decide +kernel
theorem dX6_otherPixels_51 : decode cX6_otherPixels 51 = .ok (.iload_n 1, 1) := by decide +kernel
theorem dX6_otherPixels_52 : decode cX6_otherPixels 52 = .ok (.ireturn, 1) := by decide +kernel
set_option maxHeartbeats 4000000 in
set_option maxRecDepth 100000 in
theorem c_X6_otherPixels (l : Launch) (E : gE) (g : Mem) (row : Nat → Int32) (B : GB) (C : GC) (D : GD) (P : GP) (hM : MX E g row B C D P) (r : Row) (Bd : Nat) (hB : Bd < 95000000) (hR : ∀ k, k < 158 → row k = r k) (hv : Vr r Bd) (F : Nat → Int32) (hF : ∀ p, p < 64 → C.2.2.2 p = F p) : Mt l E yX6_otherPixels cX6_otherPixels 3 (some .int) 6 133 [rf E (0)] g (pI (fun z g' => z = nI (cn 64 (fun p => decide (¬ F p = shd r (px r p) 0))) ∧ ∃ co2, MX E g' row B (C.1, co2, C.2.2.1, C.2.2.2) D P)) := by
  have hK := hM.k
  have hrc : rc r ≤ 6 := hv.1.2
  have hgc : gc r ≤ 4 := hv.2.1.2
  refine mt_go (own := RX6) (by decide) rfl (lo := [some (rf E (0)), none, none]) rfl (Nat.le_of_ble_eq_true rfl) (fun X hC => ?_)
  refine y_aload_n hC dX6_otherPixels_0 (i := 0) rfl rfl ?_
  refine y_callV hC mX6_show kX6_110 dX6_otherPixels_1 (b := 0) (As := []) (rest := []) (c_X6_show l E g row B C D P hM r Bd (by omega) hR hv) (by omega) hM.a0 rfl rfl rfl (Nat.le_of_ble_eq_true rfl) ⟨Nat.le_of_ble_eq_true rfl, Nat.le_of_ble_eq_true rfl⟩ (pk_v ?_)
  rintro g_1 ⟨co_1, hco_1, hM_1⟩
  refine y_iconst (v := nI 0) hC dX6_otherPixels_4 (by decide) ?_
  refine y_istore_n hC dX6_otherPixels_5 (i := 1) rfl (Nat.le_of_ble_eq_true rfl) rfl (lo' := [some (rf E (0)), some (.int (nI (0))), none]) rfl ?_
  refine y_iconst (v := nI 0) hC dX6_otherPixels_6 (by decide) ?_
  refine y_istore_n hC dX6_otherPixels_7 (i := 2) rfl (Nat.le_of_ble_eq_true rfl) rfl (lo' := [some (rf E (0)), some (.int (nI (0))), some (.int (nI (0)))]) rfl ?_
  have L_8 : ∀ (m : Nat) (i c : Nat), (hm : 64 - i < m) → (hi : i ≤ 64) → (hc : c = cn i (fun p => decide (¬ F p = shd r (px r p) 0))) → Y l E X (pI (fun z g' => z = nI (cn 64 (fun p => decide (¬ F p = shd r (px r p) 0))) ∧ ∃ co2, MX E g' row B (C.1, co2, C.2.2.1, C.2.2.2) D P)) 8 [some (rf E (0)), some (.int (nI (c))), some (.int (nI (i)))] [] g_1 := by
    intro m
    induction m with
    | zero => intro i c hm hi hc; exact absurd hm (Nat.not_lt_zero _)
    | succ m ih_8 =>
      intro i c hm hi hc
      refine y_iload_n hC dX6_otherPixels_8 (i := 2) rfl rfl ?_
      refine y_bipush (v := nI 64) hC dX6_otherPixels_9 (by decide) ?_
      refine y_icmp_ge_n (tgt := 51) hC dX6_otherPixels_11 (by decide) (by omega) (by omega) (fun c_11 => ?_) (fun c_11 => ?_)
      · refine y_iload_n hC dX6_otherPixels_51 (i := 1) rfl rfl ?_
        refine y_iret (hC := hC) (hd := dX6_otherPixels_52) (hq := ?_)
        exact ⟨congrArg nI (by rw [hc, show i = 64 by omega]), co_1, hM_1⟩
      · have hcl := cn_le i (fun p => decide (¬ F p = shd r (px r p) 0))
        refine y_iload_n hC dX6_otherPixels_14 (i := 1) rfl rfl ?_
        refine y_aload_n hC dX6_otherPixels_15 (i := 0) rfl rfl ?_
        refine y_get hC fX6_41 dX6_otherPixels_16 (k := 0) (by omega) hM_1.a0 rfl ?_
        refine y_iload_n hC dX6_otherPixels_19 (i := 2) rfl rfl ?_
        refine y_iald hC dX6_otherPixels_20 (k := 11) (j := i) (by omega) hM_1.a11 (rfl) (by omega) (by decide) ?_
        refine y_top (y := (F (i))) (hF i (by omega)) ?_
        refine y_aload_n hC dX6_otherPixels_21 (i := 0) rfl rfl ?_
        refine y_get hC fX6_22 dX6_otherPixels_22 (k := 0) (by omega) hM_1.a0 rfl ?_
        refine y_aload_n hC dX6_otherPixels_25 (i := 0) rfl rfl ?_
        refine y_get hC fX6_7 dX6_otherPixels_26 (k := 0) (by omega) hM_1.a0 rfl ?_
        refine y_bipush (v := nI 92) hC dX6_otherPixels_29 (by decide) ?_
        refine y_iload_n hC dX6_otherPixels_31 (i := 2) rfl rfl ?_
        refine y_iadd_n hC dX6_otherPixels_32 ?_
        refine y_iald hC dX6_otherPixels_33 (k := 1) (j := 92 + i) (by omega) hM_1.a1 (rfl) (by omega) (by decide) ?_
        have hpb_34 := (hv.2.2.2.2.2.2.1 (i) (by omega)).2
        refine y_top (y := nI (px r (i))) ((hR (92 + i) (by omega)).trans (hv.2.2.2.2.2.2.1 (i) (by omega)).1) ?_
        refine y_iald hC dX6_otherPixels_34 (k := 5) (j := px r (i)) (by omega) hM_1.a5 (rfl) (by omega) (by decide) ?_
        refine y_top (y := (shd r (px r (i)) 0)) (hco_1 _ (by omega)) ?_
        refine y_icmp_eq (tgt := 42) hC dX6_otherPixels_35 (by decide) (fun c_35 => ?_) (fun c_35 => ?_)
        · refine y_iconst (v := nI 0) hC dX6_otherPixels_42 (by decide) ?_
          refine y_iadd_n hC dX6_otherPixels_43 ?_
          refine y_istore_n hC dX6_otherPixels_44 (i := 1) rfl (Nat.le_of_ble_eq_true rfl) rfl (lo' := [some (rf E (0)), some (.int (nI (c + 0))), some (.int (nI (i)))]) rfl ?_
          refine y_iinc_n hC dX6_otherPixels_45 (a := i) (k := 1) rfl (by decide) (Nat.le_of_ble_eq_true rfl) rfl (lo' := [some (rf E (0)), some (.int (nI (c + 0))), some (.int (nI (i + 1)))]) rfl ?_
          refine y_goto (tgt := 8) hC dX6_otherPixels_48 (by decide) ?_
          exact ih_8 (i + 1) _ (by omega) (by omega) (by rw [cn_s, ← hc]; simp only [decide_eq_true_eq]; first | rw [if_pos c_35] | rw [if_neg (fun z => z c_35)])
        · refine y_iconst (v := nI 1) hC dX6_otherPixels_38 (by decide) ?_
          refine y_goto (tgt := 43) hC dX6_otherPixels_39 (by decide) ?_
          refine y_iadd_n hC dX6_otherPixels_43 ?_
          refine y_istore_n hC dX6_otherPixels_44 (i := 1) rfl (Nat.le_of_ble_eq_true rfl) rfl (lo' := [some (rf E (0)), some (.int (nI (c + 1))), some (.int (nI (i)))]) rfl ?_
          refine y_iinc_n hC dX6_otherPixels_45 (a := i) (k := 1) rfl (by decide) (Nat.le_of_ble_eq_true rfl) rfl (lo' := [some (rf E (0)), some (.int (nI (c + 1))), some (.int (nI (i + 1)))]) rfl ?_
          refine y_goto (tgt := 8) hC dX6_otherPixels_48 (by decide) ?_
          exact ih_8 (i + 1) _ (by omega) (by omega) (by rw [cn_s, ← hc]; simp only [decide_eq_true_eq]; first | rw [if_pos c_35] | rw [if_neg (fun z => z c_35)])
  exact L_8 65 0 0 (by omega) (by omega) rfl

theorem dX6_nearest_0 : decode cX6_nearest 0 = .ok (.iload_n 1, 1) := by decide +kernel
theorem dX6_nearest_1 : decode cX6_nearest 1 = .ok (.invokestatic 103, 3) := by decide +kernel
theorem dX6_nearest_4 : decode cX6_nearest 4 = .ok (.ifCond .ne 6, 3) := by decide +kernel
theorem dX6_nearest_7 : decode cX6_nearest 7 = .ok (.bipush (-2), 2) := by decide +kernel
theorem dX6_nearest_9 : decode cX6_nearest 9 = .ok (.ireturn, 1) := by decide +kernel
theorem dX6_nearest_10 : decode cX6_nearest 10 = .ok (.aload_n 0, 1) := by decide +kernel
theorem dX6_nearest_11 : decode cX6_nearest 11 = .ok (.invokevirtual 110, 3) := by decide +kernel
theorem dX6_nearest_14 : decode cX6_nearest 14 = .ok (.iconst 0, 1) := by decide +kernel
theorem dX6_nearest_15 : decode cX6_nearest 15 = .ok (.istore_n 2, 1) := by decide +kernel
theorem dX6_nearest_16 : decode cX6_nearest 16 = .ok (.iconst 1, 1) := by decide +kernel
theorem dX6_nearest_17 : decode cX6_nearest 17 = .ok (.istore_n 3, 1) := by decide +kernel
theorem dX6_nearest_18 : decode cX6_nearest 18 = .ok (.iload_n 3, 1) := by decide +kernel
theorem dX6_nearest_19 : decode cX6_nearest 19 = .ok (.bipush 32, 2) := by decide +kernel
theorem dX6_nearest_21 : decode cX6_nearest 21 = .ok (.if_icmp .ge 38, 3) := by decide +kernel
theorem dX6_nearest_24 : decode cX6_nearest 24 = .ok (.aload_n 0, 1) := by decide +kernel
theorem dX6_nearest_25 : decode cX6_nearest 25 = .ok (.getfield 22, 3) := by decide +kernel
theorem dX6_nearest_28 : decode cX6_nearest 28 = .ok (.iload_n 3, 1) := by decide +kernel
theorem dX6_nearest_29 : decode cX6_nearest 29 = .ok (.iaload, 1) := by decide +kernel
theorem dX6_nearest_30 : decode cX6_nearest 30 = .ok (.iload_n 1, 1) := by decide +kernel
theorem dX6_nearest_31 : decode cX6_nearest 31 = .ok (.invokestatic 226, 3) := by decide +kernel
theorem dX6_nearest_34 : decode cX6_nearest 34 = .ok (.aload_n 0, 1) := by decide +kernel
theorem dX6_nearest_35 : decode cX6_nearest 35 = .ok (.getfield 22, 3) := by decide +kernel
theorem dX6_nearest_38 : decode cX6_nearest 38 = .ok (.iload_n 2, 1) := by decide +kernel
theorem dX6_nearest_39 : decode cX6_nearest 39 = .ok (.iaload, 1) := by decide +kernel
theorem dX6_nearest_40 : decode cX6_nearest 40 = .ok (.iload_n 1, 1) := by decide +kernel
theorem dX6_nearest_41 : decode cX6_nearest 41 = .ok (.invokestatic 226, 3) := by decide +kernel
theorem dX6_nearest_44 : decode cX6_nearest 44 = .ok (.if_icmp .ge 7, 3) := by decide +kernel
theorem dX6_nearest_47 : decode cX6_nearest 47 = .ok (.iload_n 3, 1) := by decide +kernel
theorem dX6_nearest_48 : decode cX6_nearest 48 = .ok (.goto 4, 3) := by decide +kernel
theorem dX6_nearest_51 : decode cX6_nearest 51 = .ok (.iload_n 2, 1) := by decide +kernel
theorem dX6_nearest_52 : decode cX6_nearest 52 = .ok (.istore_n 2, 1) := by decide +kernel
theorem dX6_nearest_53 : decode cX6_nearest 53 = .ok (.iinc 3 1, 3) := by decide +kernel
theorem dX6_nearest_56 : decode cX6_nearest 56 = .ok (.goto (-38), 3) := by decide +kernel
theorem dX6_nearest_59 : decode cX6_nearest 59 = .ok (.iload_n 2, 1) := by decide +kernel
theorem dX6_nearest_60 : decode cX6_nearest 60 = .ok (.ireturn, 1) := by decide +kernel
set_option maxHeartbeats 4000000 in
set_option maxRecDepth 100000 in
theorem c_X6_nearest (l : Launch) (E : gE) (g : Mem) (S : AS) (Bd : Nat) (hB : Bd < 90000000) (ho : OK S Bd) (hZ : MZ E g S) (xa : Int32) : Mt l E yX6_nearest cX6_nearest 4 (some .int) 6 133 [rf E (0), .int (xa)] g (pI (fun zz g' => zz = nrQ S xa ∧ MZ E g' S)) := by
  have hv := ho.v
  have hrc : rc S.r ≤ 6 := hv.1.2
  have hgc : gc S.r ≤ 4 := hv.2.1.2
  have hc4 := ho.c4
  have hkp1 := ho.2.2.1
  have hl60 : S.ln ≤ 60 := ho.2.2.2.2.2.1
  refine mt_go (own := RX6) (by decide) rfl (lo := [some (rf E (0)), some (.int (xa)), none, none]) rfl (Nat.le_of_ble_eq_true rfl) (fun X hC => ?_)
  obtain ⟨row, hi, sn, tx, C, P, hM, hR, hH, hS, hT⟩ := hZ
  have hK := hM.k
  refine y_iload_n hC dX6_nearest_0 (i := 1) rfl rfl ?_
  refine y_callS hC mX6_isColour kX6_103 dX6_nearest_1 (As := [.int (xa)]) (rest := []) (c_X6_isColour l E g ((xa))) rfl rfl rfl (Nat.le_of_ble_eq_true rfl) ⟨Nat.le_of_ble_eq_true rfl, Nat.le_of_ble_eq_true rfl⟩ (pk_i ?_)
  rintro r_1 g_1 ⟨hr_1, hq_1⟩
  obtain rfl := hq_1.symm
  rw [hr_1]
  clear hr_1 r_1
  refine y_if_ne_b (tgt := 10) hC dX6_nearest_4 (by decide) (fun c_4 => ?_) (fun c_4 => ?_)
  · refine y_aload_n hC dX6_nearest_10 (i := 0) rfl rfl ?_
    refine y_callV hC mX6_show kX6_110 dX6_nearest_11 (b := 0) (As := []) (rest := []) (c_X6_show l E g row (hi, nI (S.c), sn, nI (S.kp)) C (tx, nI (S.ln)) P hM S.r Bd (by omega) hR hv) (by omega) hM.a0 rfl rfl rfl (Nat.le_of_ble_eq_true rfl) ⟨Nat.le_of_ble_eq_true rfl, Nat.le_of_ble_eq_true rfl⟩ (pk_v ?_)
    rintro g_11 ⟨co_11, hco_11, hM_11⟩
    refine y_iconst (v := nI 0) hC dX6_nearest_14 (by decide) ?_
    refine y_istore_n hC dX6_nearest_15 (i := 2) rfl (Nat.le_of_ble_eq_true rfl) rfl (lo' := [some (rf E (0)), some (.int (xa)), some (.int (nI (0))), none]) rfl ?_
    refine y_iconst (v := nI 1) hC dX6_nearest_16 (by decide) ?_
    refine y_istore_n hC dX6_nearest_17 (i := 3) rfl (Nat.le_of_ble_eq_true rfl) rfl (lo' := [some (rf E (0)), some (.int (xa)), some (.int (nI (0))), some (.int (nI (1)))]) rfl ?_
    have L_18 : ∀ (m : Nat) (i b : Nat), (hm : 31 - i < m) → (hil : i ≤ 31) → (hb : b = nrN (shS S.r) xa i) → Y l E X (pI (fun zz g' => zz = nrQ S xa ∧ MZ E g' S)) 18 [some (rf E (0)), some (.int (xa)), some (.int (nI (b))), some (.int (nI (i + 1)))] [] g_11 := by
      intro m
      induction m with
      | zero => intro i b hm hil hb; exact absurd hm (Nat.not_lt_zero _)
      | succ m ih_18 =>
        intro i b hm hil hb
        refine y_iload_n hC dX6_nearest_18 (i := 3) rfl rfl ?_
        refine y_bipush (v := nI 32) hC dX6_nearest_19 (by decide) ?_
        refine y_icmp_ge_n (tgt := 59) hC dX6_nearest_21 (by decide) (by omega) (by omega) (fun c_21 => ?_) (fun c_21 => ?_)
        · refine y_iload_n hC dX6_nearest_59 (i := 2) rfl rfl ?_
          refine y_iret (hC := hC) (hd := dX6_nearest_60) (hq := ?_)
          have hqq : nrQ S xa = nI (nrN (shS S.r) xa 31) := by simp only [nrQ, if_pos c_4]
          rw [hqq]
          exact ⟨congrArg nI (by rw [hb, show i = 31 by omega]), ⟨row, hi, sn, tx, (C.1, co_11, C.2.2.1, C.2.2.2), P, hM_11, hR, hH, hS, hT⟩⟩
        · have hbl := nrN_le (shS S.r) xa i
          refine y_aload_n hC dX6_nearest_24 (i := 0) rfl rfl ?_
          refine y_get hC fX6_22 dX6_nearest_25 (k := 0) (by omega) hM_11.a0 rfl ?_
          refine y_iload_n hC dX6_nearest_28 (i := 3) rfl rfl ?_
          refine y_iald hC dX6_nearest_29 (k := 5) (j := i + 1) (by omega) hM_11.a5 (rfl) (by omega) (by decide) ?_
          refine y_top (y := (shS S.r (i + 1))) (hco_11 (i + 1) (by omega)) ?_
          refine y_iload_n hC dX6_nearest_30 (i := 1) rfl rfl ?_
          refine y_callS hC mX6_distance kX6_226 dX6_nearest_31 (As := [.int (shS S.r (i + 1)), .int (xa)]) (rest := []) (c_X6_distance l E g_11 ((shS S.r (i + 1))) ((xa))) rfl rfl rfl (Nat.le_of_ble_eq_true rfl) ⟨Nat.le_of_ble_eq_true rfl, Nat.le_of_ble_eq_true rfl⟩ (pk_i ?_)
          rintro r_31 g_31 ⟨hr_31, hq_31⟩
          obtain rfl := hq_31.symm
          rw [hr_31]
          clear hr_31 r_31
          refine y_aload_n hC dX6_nearest_34 (i := 0) rfl rfl ?_
          refine y_get hC fX6_22 dX6_nearest_35 (k := 0) (by omega) hM_11.a0 rfl ?_
          refine y_iload_n hC dX6_nearest_38 (i := 2) rfl rfl ?_
          refine y_iald hC dX6_nearest_39 (k := 5) (j := b) (by omega) hM_11.a5 (rfl) (by omega) (by decide) ?_
          refine y_top (y := (shS S.r (b))) (hco_11 b (by omega)) ?_
          refine y_iload_n hC dX6_nearest_40 (i := 1) rfl rfl ?_
          refine y_callS hC mX6_distance kX6_226 dX6_nearest_41 (As := [.int (shS S.r (b)), .int (xa)]) (rest := [.int (cDist ((shS S.r (i + 1))) ((xa)))]) (c_X6_distance l E g_11 ((shS S.r (b))) ((xa))) rfl rfl rfl (Nat.le_of_ble_eq_true rfl) ⟨Nat.le_of_ble_eq_true rfl, Nat.le_of_ble_eq_true rfl⟩ (pk_i ?_)
          rintro r_41 g_41 ⟨hr_41, hq_41⟩
          obtain rfl := hq_41.symm
          rw [hr_41]
          clear hr_41 r_41
          refine y_icmp_ge (tgt := 51) hC dX6_nearest_44 (by decide) (fun c_44 => ?_) (fun c_44 => ?_)
          · refine y_iload_n hC dX6_nearest_51 (i := 2) rfl rfl ?_
            refine y_istore_n hC dX6_nearest_52 (i := 2) rfl (Nat.le_of_ble_eq_true rfl) rfl (lo' := [some (rf E (0)), some (.int (xa)), some (.int (nI (b))), some (.int (nI (i + 1)))]) rfl ?_
            refine y_iinc_n hC dX6_nearest_53 (a := i + 1) (k := 1) rfl (by decide) (Nat.le_of_ble_eq_true rfl) rfl (lo' := [some (rf E (0)), some (.int (xa)), some (.int (nI (b))), some (.int (nI (i + 1 + 1)))]) rfl ?_
            refine y_goto (tgt := 18) hC dX6_nearest_56 (by decide) ?_
            exact ih_18 (i + 1) _ (by omega) (by omega) (by rw [nrN, ← hb]; first | rw [if_pos (by exact Int32.not_le.mp c_44)] | rw [if_neg (by exact Int32.not_lt.mpr c_44)])
          · refine y_iload_n hC dX6_nearest_47 (i := 3) rfl rfl ?_
            refine y_goto (tgt := 52) hC dX6_nearest_48 (by decide) ?_
            refine y_istore_n hC dX6_nearest_52 (i := 2) rfl (Nat.le_of_ble_eq_true rfl) rfl (lo' := [some (rf E (0)), some (.int (xa)), some (.int (nI (i + 1))), some (.int (nI (i + 1)))]) rfl ?_
            refine y_iinc_n hC dX6_nearest_53 (a := i + 1) (k := 1) rfl (by decide) (Nat.le_of_ble_eq_true rfl) rfl (lo' := [some (rf E (0)), some (.int (xa)), some (.int (nI (i + 1))), some (.int (nI (i + 1 + 1)))]) rfl ?_
            refine y_goto (tgt := 18) hC dX6_nearest_56 (by decide) ?_
            exact ih_18 (i + 1) _ (by omega) (by omega) (by rw [nrN, ← hb]; first | rw [if_pos (by exact Int32.not_le.mp c_44)] | rw [if_neg (by exact Int32.not_lt.mpr c_44)])
    exact L_18 32 0 0 (by omega) (by omega) rfl
  · refine y_bipush (v := (-2)) hC dX6_nearest_7 (by decide) ?_
    refine y_iret (hC := hC) (hd := dX6_nearest_9) (hq := ?_)
    have hqq : nrQ S xa = -2 := by simp only [nrQ, if_neg c_4]
    rw [hqq]
    exact ⟨rfl, ⟨row, hi, sn, tx, C, P, hM, hR, hH, hS, hT⟩⟩

theorem px_tk {r : Row} {B t p : Nat} (hv : Vr r B) (hp : p < 64) : px (tkR r t) p = px r p := px_of (tkR_px hv.1.2 hv.2.1.2 hp)
theorem ch_tk {r : Row} {B t : Nat} (hv : Vr r B) (hB : B < 90000000) (ht : t ≤ 5000) : cn 64 (fun p => decide (¬ shd r (px r p) 0 = shd (tkR r t) (px (tkR r t) p) 0)) = chC r t := cn_cg (fun p hp => by
  rw [px_tk hv hp, shd_tk hv hB ht (hv.2.2.2.2.2.2.1 p hp).2])
theorem cn_z {n : Nat} {P : Nat → Bool} : cn n P = 0 ↔ ∀ k, k < n → P k = false := by
  induction n with
  | zero => exact ⟨fun _ k hk => absurd hk (Nat.not_lt_zero k), fun _ => rfl⟩
  | succ n ih =>
    rw [cn_s]
    constructor
    · intro h k hk
      have h1 : cn n P = 0 := by omega
      by_cases e : k = n
      · subst e
        cases q : P k with
        | false => rfl
        | true => rw [q] at h; simp at h
      · exact ih.mp h1 k (by omega)
    · intro h
      rw [ih.mpr (fun k hk => h k (by omega)), h n (by omega)]
      rfl
theorem pb_ch {r : Row} {k : Nat} : chC r (k + 1) = 0 ↔ pbP r k = true := by
  unfold chC
  rw [cn_z, pbP_iff]
  constructor
  · intro h p hp
    have := h p hp
    rw [decide_eq_false_iff_not, Decidable.not_not] at this
    exact this.symm
  · intro h p hp
    rw [decide_eq_false_iff_not, Decidable.not_not]
    exact (h p hp).symm
theorem dX6_changes_0 : decode cX6_changes 0 = .ok (.iload_n 1, 1) := by decide +kernel
theorem dX6_changes_1 : decode cX6_changes 1 = .ok (.iconst 0, 1) := by decide +kernel
theorem dX6_changes_2 : decode cX6_changes 2 = .ok (.sipush 1000, 3) := by decide +kernel
theorem dX6_changes_5 : decode cX6_changes 5 = .ok (.invokestatic 44, 3) := by decide +kernel
theorem dX6_changes_8 : decode cX6_changes 8 = .ok (.ifCond .ne 6, 3) := by decide +kernel
theorem dX6_changes_11 : decode cX6_changes 11 = .ok (.bipush (-2), 2) := by decide +kernel
theorem dX6_changes_13 : decode cX6_changes 13 = .ok (.ireturn, 1) := by decide +kernel
theorem dX6_changes_14 : decode cX6_changes 14 = .ok (.aload_n 0, 1) := by decide +kernel
theorem dX6_changes_15 : decode cX6_changes 15 = .ok (.invokevirtual 213, 3) := by decide +kernel
theorem dX6_changes_18 : decode cX6_changes 18 = .ok (.aload_n 0, 1) := by decide +kernel
theorem dX6_changes_19 : decode cX6_changes 19 = .ok (.invokevirtual 229, 3) := by decide +kernel
theorem dX6_changes_22 : decode cX6_changes 22 = .ok (.aload_n 0, 1) := by decide +kernel
theorem dX6_changes_23 : decode cX6_changes 23 = .ok (.iload_n 1, 1) := by decide +kernel
theorem dX6_changes_24 : decode cX6_changes 24 = .ok (.invokevirtual 137, 3) := by decide +kernel
theorem dX6_changes_27 : decode cX6_changes 27 = .ok (.aload_n 0, 1) := by decide +kernel
theorem dX6_changes_28 : decode cX6_changes 28 = .ok (.invokevirtual 232, 3) := by decide +kernel
theorem dX6_changes_31 : decode cX6_changes 31 = .ok (.istore_n 2, 1) := by decide +kernel
theorem dX6_changes_32 : decode cX6_changes 32 = .ok (.aload_n 0, 1) := by decide +kernel
theorem dX6_changes_33 : decode cX6_changes 33 = .ok (.invokevirtual 216, 3) := by decide +kernel
theorem dX6_changes_36 : decode cX6_changes 36 = .ok (.iload_n 2, 1) := by decide +kernel
theorem dX6_changes_37 : decode cX6_changes 37 = .ok (.ireturn, 1) := by decide +kernel
set_option maxHeartbeats 4000000 in
set_option maxRecDepth 100000 in
theorem c_X6_changes (l : Launch) (E : gE) (g : Mem) (S : AS) (Bd : Nat) (hB : Bd < 90000000) (ho : OK S Bd) (hZ : MZ E g S) (hB8 : Bd < 80000000) (xa : Int32) : Mt l E yX6_changes cX6_changes 3 (some .int) 7 155 [rf E (0), .int (xa)] g (pI (fun zz g' => zz = qChanges S xa ∧ MZ E g' S)) := by
  have hv := ho.v
  have hrc : rc S.r ≤ 6 := hv.1.2
  have hgc : gc S.r ≤ 4 := hv.2.1.2
  have hc4 := ho.c4
  have hkp1 := ho.2.2.1
  have hl60 : S.ln ≤ 60 := ho.2.2.2.2.2.1
  refine mt_go (own := RX6) (by decide) rfl (lo := [some (rf E (0)), some (.int (xa)), none]) rfl (Nat.le_of_ble_eq_true rfl) (fun X hC => ?_)
  obtain ⟨row, hi, sn, tx, C, P, hM, hR, hH, hS, hT⟩ := hZ
  have hK := hM.k
  refine y_iload_n hC dX6_changes_0 (i := 1) rfl rfl ?_
  refine y_iconst (v := nI 0) hC dX6_changes_1 (by decide) ?_
  refine y_sipush (v := nI 1000) hC dX6_changes_2 (by decide) ?_
  refine y_callS hC mX6_in kX6_44 dX6_changes_5 (As := [.int (xa), .int (nI (0)), .int (nI (1000))]) (rest := []) (c_X6_inN l E g (xa) (0) (1000) (by omega) (by omega)) rfl rfl rfl (Nat.le_of_ble_eq_true rfl) ⟨Nat.le_of_ble_eq_true rfl, Nat.le_of_ble_eq_true rfl⟩ (pk_i ?_)
  rintro r_5 g_5 ⟨hr_5, hq_5⟩
  obtain rfl := hq_5.symm
  rw [hr_5]
  clear hr_5 r_5
  refine y_if_ne_b (tgt := 14) hC dX6_changes_8 (by decide) (fun c_8 => ?_) (fun c_8 => ?_)
  · obtain ⟨t, ht, htx⟩ := zN (m := 1000) (show 0 ≤ xa.toInt ∧ xa.toInt ≤ ((1000 : Nat) : Int) from c_8)
    have hcc : 0 ≤ xa.toInt ∧ xa.toInt ≤ 1000 := c_8
    subst htx
    refine y_aload_n hC dX6_changes_14 (i := 0) rfl rfl ?_
    refine y_callV hC mX6_putAside kX6_213 dX6_changes_15 (b := 0) (As := []) (rest := []) (c_X6_putAside l E g row (hi, nI (S.c), sn, nI (S.kp)) C (tx, nI (S.ln)) P hM) (by omega) hM.a0 rfl rfl rfl (Nat.le_of_ble_eq_true rfl) ⟨Nat.le_of_ble_eq_true rfl, Nat.le_of_ble_eq_true rfl⟩ (pk_v ?_)
    rintro g_15 ⟨as_15, has_15, hM_15a⟩
    refine y_aload_n hC dX6_changes_18 (i := 0) rfl rfl ?_
    refine y_callV hC mX6_notePicture kX6_229 dX6_changes_19 (b := 0) (As := []) (rest := []) (c_X6_notePicture l E g_15 row (hi, nI (S.c), sn, nI (S.kp)) (as_15, C.2.1, C.2.2.1, C.2.2.2) (tx, nI (S.ln)) P hM_15a S.r Bd (by omega) hR hv) (by omega) hM_15a.a0 rfl rfl rfl (Nat.le_of_ble_eq_true rfl) ⟨Nat.le_of_ble_eq_true rfl, Nat.le_of_ble_eq_true rfl⟩ (pk_v ?_)
    rintro g_19 ⟨co_19, bf_19, hbf_19, hM_19n⟩
    refine y_aload_n hC dX6_changes_22 (i := 0) rfl rfl ?_
    refine y_iload_n hC dX6_changes_23 (i := 1) rfl rfl ?_
    refine y_callV hC mX6_ticks kX6_137 dX6_changes_24 (b := 0) (As := [.int (nI (t))]) (rest := []) (c_X6_ticks l E g_19 row (hi, nI (S.c), sn, nI (S.kp)) (as_15, co_19, C.2.2.1, bf_19) (tx, nI (S.ln)) P hM_19n S.r Bd (by omega) hR hv (t) (by omega)) (by omega) hM_19n.a0 rfl rfl rfl (Nat.le_of_ble_eq_true rfl) ⟨Nat.le_of_ble_eq_true rfl, Nat.le_of_ble_eq_true rfl⟩ (pk_v ?_)
    rintro g_24 ⟨row_24t, hM_24t, hR_24t⟩
    refine y_aload_n hC dX6_changes_27 (i := 0) rfl rfl ?_
    refine y_callV hC mX6_otherPixels kX6_232 dX6_changes_28 (b := 0) (As := []) (rest := []) (c_X6_otherPixels l E g_24 row_24t (hi, nI (S.c), sn, nI (S.kp)) (as_15, co_19, C.2.2.1, bf_19) (tx, nI (S.ln)) P hM_24t (tkR S.r t) (Bd + 5000) (by omega) hR_24t ((vr_tk hv hB (by omega)).le (by omega)) (fun p => shd S.r (px S.r p) 0) hbf_19) (by omega) hM_24t.a0 rfl rfl rfl (Nat.le_of_ble_eq_true rfl) ⟨Nat.le_of_ble_eq_true rfl, Nat.le_of_ble_eq_true rfl⟩ (pk_i ?_)
    rintro r_28 g_28 ⟨hr_28, co_28, hM_28⟩
    rw [hr_28, ch_tk hv hB (by omega)]
    clear hr_28 r_28
    refine y_istore_n hC dX6_changes_31 (i := 2) rfl (Nat.le_of_ble_eq_true rfl) rfl (lo' := [some (rf E (0)), some (.int (nI (t))), some (.int (nI (chC S.r t)))]) rfl ?_
    refine y_aload_n hC dX6_changes_32 (i := 0) rfl rfl ?_
    refine y_callV hC mX6_putBack kX6_216 dX6_changes_33 (b := 0) (As := []) (rest := []) (c_X6_putBack l E g_28 row_24t (hi, nI (S.c), sn, nI (S.kp)) (as_15, co_28, C.2.2.1, bf_19) (tx, nI (S.ln)) P hM_28) (by omega) hM_28.a0 rfl rfl rfl (Nat.le_of_ble_eq_true rfl) ⟨Nat.le_of_ble_eq_true rfl, Nat.le_of_ble_eq_true rfl⟩ (pk_v ?_)
    rintro g_33 ⟨row_33b, hrow_33, hM_33b⟩
    refine y_iload_n hC dX6_changes_36 (i := 2) rfl rfl ?_
    refine y_iret (hC := hC) (hd := dX6_changes_37) (hq := ?_)
    have hqq : qChanges S (nI t) = nI (chC S.r t) := by simp only [qChanges, nn_I (show t < 2147483648 by omega), if_pos hcc]
    rw [hqq]
    exact ⟨rfl, ⟨row_33b, hi, sn, tx, (as_15, co_28, C.2.2.1, bf_19), P, hM_33b, (fun k hk => (hrow_33 k hk).trans ((has_15 k hk).trans (hR k hk))), hH, hS, hT⟩⟩
  · refine y_bipush (v := (-2)) hC dX6_changes_11 (by decide) ?_
    refine y_iret (hC := hC) (hd := dX6_changes_13) (hq := ?_)
    have hqq : qChanges S xa = -2 := by simp only [qChanges]; exact if_neg (fun q => c_8 q)
    rw [hqq]
    exact ⟨rfl, ⟨row, hi, sn, tx, C, P, hM, hR, hH, hS, hT⟩⟩

def foI (o : Option Nat) : Int32 := match o with
  | none => -5
  | some i => nI (i + 1)
theorem dX6_pictureBack_0 : decode cX6_pictureBack 0 = .ok (.aload_n 0, 1) := by decide +kernel
theorem dX6_pictureBack_1 : decode cX6_pictureBack 1 = .ok (.invokevirtual 213, 3) := by decide +kernel
theorem dX6_pictureBack_4 : decode cX6_pictureBack 4 = .ok (.aload_n 0, 1) := by decide +kernel
theorem dX6_pictureBack_5 : decode cX6_pictureBack 5 = .ok (.invokevirtual 229, 3) := by decide +kernel
theorem dX6_pictureBack_8 : decode cX6_pictureBack 8 = .ok (.bipush (-5), 2) := by decide +kernel
theorem dX6_pictureBack_10 : decode cX6_pictureBack 10 = .ok (.istore_n 1, 1) := by decide +kernel
theorem dX6_pictureBack_11 : decode cX6_pictureBack 11 = .ok (.iconst 1, 1) := by decide +kernel
theorem dX6_pictureBack_12 : decode cX6_pictureBack 12 = .ok (.istore_n 2, 1) := by decide +kernel
theorem dX6_pictureBack_13 : decode cX6_pictureBack 13 = .ok (.iload_n 2, 1) := by decide +kernel
theorem dX6_pictureBack_14 : decode cX6_pictureBack 14 = .ok (.sipush 2000, 3) := by decide +kernel
theorem dX6_pictureBack_17 : decode cX6_pictureBack 17 = .ok (.if_icmp .gt 33, 3) := by decide +kernel
theorem dX6_pictureBack_20 : decode cX6_pictureBack 20 = .ok (.iload_n 1, 1) := by decide +kernel
theorem dX6_pictureBack_21 : decode cX6_pictureBack 21 = .ok (.bipush (-5), 2) := by decide +kernel
theorem dX6_pictureBack_23 : decode cX6_pictureBack 23 = .ok (.if_icmp .ne 27, 3) := by decide +kernel
theorem dX6_pictureBack_26 : decode cX6_pictureBack 26 = .ok (.aload_n 0, 1) := by decide +kernel
theorem dX6_pictureBack_27 : decode cX6_pictureBack 27 = .ok (.invokevirtual 134, 3) := by decide +kernel
theorem dX6_pictureBack_30 : decode cX6_pictureBack 30 = .ok (.aload_n 0, 1) := by decide +kernel
theorem dX6_pictureBack_31 : decode cX6_pictureBack 31 = .ok (.invokevirtual 232, 3) := by decide +kernel
theorem dX6_pictureBack_34 : decode cX6_pictureBack 34 = .ok (.ifCond .ne 7, 3) := by decide +kernel
theorem dX6_pictureBack_37 : decode cX6_pictureBack 37 = .ok (.iload_n 2, 1) := by decide +kernel
theorem dX6_pictureBack_38 : decode cX6_pictureBack 38 = .ok (.goto 5, 3) := by decide +kernel
theorem dX6_pictureBack_41 : decode cX6_pictureBack 41 = .ok (.bipush (-5), 2) := by decide +kernel
theorem dX6_pictureBack_43 : decode cX6_pictureBack 43 = .ok (.istore_n 1, 1) := by decide +kernel
theorem dX6_pictureBack_44 : decode cX6_pictureBack 44 = .ok (.iinc 2 1, 3) := by decide +kernel
theorem dX6_pictureBack_47 : decode cX6_pictureBack 47 = .ok (.goto (-34), 3) := by decide +kernel
theorem dX6_pictureBack_50 : decode cX6_pictureBack 50 = .ok (.aload_n 0, 1) := by decide +kernel
theorem dX6_pictureBack_51 : decode cX6_pictureBack 51 = .ok (.invokevirtual 216, 3) := by decide +kernel
theorem dX6_pictureBack_54 : decode cX6_pictureBack 54 = .ok (.iload_n 1, 1) := by decide +kernel
theorem dX6_pictureBack_55 : decode cX6_pictureBack 55 = .ok (.ireturn, 1) := by decide +kernel
set_option maxHeartbeats 4000000 in
set_option maxRecDepth 100000 in
theorem c_X6_pictureBack (l : Launch) (E : gE) (g : Mem) (S : AS) (Bd : Nat) (hB : Bd < 90000000) (ho : OK S Bd) (hZ : MZ E g S) (hB8 : Bd < 80000000) : Mt l E yX6_pictureBack cX6_pictureBack 3 (some .int) 7 155 [rf E (0)] g (pI (fun zz g' => zz = qPictureBack S  ∧ MZ E g' S)) := by
  have hv := ho.v
  have hrc : rc S.r ≤ 6 := hv.1.2
  have hgc : gc S.r ≤ 4 := hv.2.1.2
  have hc4 := ho.c4
  have hkp1 := ho.2.2.1
  have hl60 : S.ln ≤ 60 := ho.2.2.2.2.2.1
  refine mt_go (own := RX6) (by decide) rfl (lo := [some (rf E (0)), none, none]) rfl (Nat.le_of_ble_eq_true rfl) (fun X hC => ?_)
  obtain ⟨row, hi, sn, tx, C, P, hM, hR, hH, hS, hT⟩ := hZ
  have hK := hM.k
  refine y_aload_n hC dX6_pictureBack_0 (i := 0) rfl rfl ?_
  refine y_callV hC mX6_putAside kX6_213 dX6_pictureBack_1 (b := 0) (As := []) (rest := []) (c_X6_putAside l E g row (hi, nI (S.c), sn, nI (S.kp)) C (tx, nI (S.ln)) P hM) (by omega) hM.a0 rfl rfl rfl (Nat.le_of_ble_eq_true rfl) ⟨Nat.le_of_ble_eq_true rfl, Nat.le_of_ble_eq_true rfl⟩ (pk_v ?_)
  rintro g_1 ⟨as_1, has_1, hM_1a⟩
  refine y_aload_n hC dX6_pictureBack_4 (i := 0) rfl rfl ?_
  refine y_callV hC mX6_notePicture kX6_229 dX6_pictureBack_5 (b := 0) (As := []) (rest := []) (c_X6_notePicture l E g_1 row (hi, nI (S.c), sn, nI (S.kp)) (as_1, C.2.1, C.2.2.1, C.2.2.2) (tx, nI (S.ln)) P hM_1a S.r Bd (by omega) hR hv) (by omega) hM_1a.a0 rfl rfl rfl (Nat.le_of_ble_eq_true rfl) ⟨Nat.le_of_ble_eq_true rfl, Nat.le_of_ble_eq_true rfl⟩ (pk_v ?_)
  rintro g_5 ⟨co_5, bf_5, hbf_5, hM_5n⟩
  refine y_bipush (v := (-5)) hC dX6_pictureBack_8 (by decide) ?_
  refine y_top (y := (foI none)) ((rfl : (-5 : Int32) = foI none)) ?_
  refine y_istore_n hC dX6_pictureBack_10 (i := 1) rfl (Nat.le_of_ble_eq_true rfl) rfl (lo' := [some (rf E (0)), some (.int (foI none)), none]) rfl ?_
  refine y_iconst (v := nI 1) hC dX6_pictureBack_11 (by decide) ?_
  refine y_istore_n hC dX6_pictureBack_12 (i := 2) rfl (Nat.le_of_ble_eq_true rfl) rfl (lo' := [some (rf E (0)), some (.int (foI none)), some (.int (nI (1)))]) rfl ?_
  have L_13 : ∀ (m : Nat) (i : Nat) (fo : Option Nat) (g1 : Mem) (row1 co1 : Nat → Int32), (hm : 2000 - i < m) → (hil : i ≤ 2000) → (hM1 : MX E g1 row1 (hi, nI S.c, sn, nI S.kp) (as_1, co1, C.2.2.1, bf_5) (tx, nI S.ln) P) → (hA : ∀ k, k < 158 → row1 k = tkR S.r i k) → (hk0 : fo = none → ∀ k, k < i → pbP S.r k = false) → (hk1 : ∀ j, fo = some j → j < 2000 ∧ pbP S.r j = true ∧ ∀ k, k < j → pbP S.r k = false) → Y l E X (pI (fun zz g' => zz = qPictureBack S  ∧ MZ E g' S)) 13 [some (rf E (0)), some (.int (foI fo)), some (.int (nI (i + 1)))] [] g1 := by
    intro m
    induction m with
    | zero => intro i fo g1 row1 co1 hm hil hM1 hA hk0 hk1; exact absurd hm (Nat.not_lt_zero _)
    | succ m ih_13 =>
      intro i fo g1 row1 co1 hm hil hM1 hA hk0 hk1
      refine y_iload_n hC dX6_pictureBack_13 (i := 2) rfl rfl ?_
      refine y_sipush (v := nI 2000) hC dX6_pictureBack_14 (by decide) ?_
      refine y_icmp_gt_n (tgt := 50) hC dX6_pictureBack_17 (by decide) (by omega) (by omega) (fun c_17 => ?_) (fun c_17 => ?_)
      · refine y_aload_n hC dX6_pictureBack_50 (i := 0) rfl rfl ?_
        refine y_callV hC mX6_putBack kX6_216 dX6_pictureBack_51 (b := 0) (As := []) (rest := []) (c_X6_putBack l E g1 row1 (hi, nI (S.c), sn, nI (S.kp)) (as_1, co1, C.2.2.1, bf_5) (tx, nI (S.ln)) P hM1) (by omega) hM1.a0 rfl rfl rfl (Nat.le_of_ble_eq_true rfl) ⟨Nat.le_of_ble_eq_true rfl, Nat.le_of_ble_eq_true rfl⟩ (pk_v ?_)
        rintro g_51 ⟨row_51b, hrow_51, hM_51b⟩
        refine y_iload_n hC dX6_pictureBack_54 (i := 1) rfl rfl ?_
        refine y_iret (hC := hC) (hd := dX6_pictureBack_55) (hq := ?_)
        have hfin : foI fo = qPictureBack S := by
          unfold qPictureBack
          cases fo with
          | none => rw [fst_none (fun k hk => hk0 rfl k (by omega))]; rfl
          | some j =>
            obtain ⟨h1, h2, h3⟩ := hk1 j rfl
            rw [fst_some h1 h2 h3]; rfl
        exact ⟨hfin, ⟨row_51b, hi, sn, tx, (as_1, co1, C.2.2.1, bf_5), P, hM_51b, (fun k hk => (hrow_51 k hk).trans ((has_1 k hk).trans (hR k hk))), hH, hS, hT⟩⟩
      · refine y_iload_n hC dX6_pictureBack_20 (i := 1) rfl rfl ?_
        rcases fo with _ | fi
        · refine y_top (y := -5) rfl ?_
          refine y_bipush (v := (-5)) hC dX6_pictureBack_21 (by decide) ?_
          refine y_icmp_ne (tgt := 50) hC dX6_pictureBack_23 (by decide) (fun c_23 => ?_) (fun c_23 => ?_)
          · exact absurd rfl c_23
          · refine y_aload_n hC dX6_pictureBack_26 (i := 0) rfl rfl ?_
            refine y_callV hC mX6_tick kX6_134 dX6_pictureBack_27 (b := 0) (As := []) (rest := []) (c_X6_tick l E g1 row1 (hi, nI (S.c), sn, nI (S.kp)) (as_1, co1, C.2.2.1, bf_5) (tx, nI (S.ln)) P hM1 (tkR S.r i) (Bd + 5000) (by omega) hA ((vr_tk hv hB (by omega)).le (by omega))) (by omega) hM1.a0 rfl rfl rfl (Nat.le_of_ble_eq_true rfl) ⟨Nat.le_of_ble_eq_true rfl, Nat.le_of_ble_eq_true rfl⟩ (pk_v ?_)
            rintro g_27 h27
            obtain ⟨row2, hM2, h2⟩ := h27
            have hA2 : ∀ k, k < 158 → row2 k = tkR S.r (i + 1) k := fun k hk => (h2 k hk).trans (tk_add hv hB (by omega) (by decide) k)
            refine y_aload_n hC dX6_pictureBack_30 (i := 0) rfl rfl ?_
            refine y_callV hC mX6_otherPixels kX6_232 dX6_pictureBack_31 (b := 0) (As := []) (rest := []) (c_X6_otherPixels l E g_27 row2 (hi, nI (S.c), sn, nI (S.kp)) (as_1, co1, C.2.2.1, bf_5) (tx, nI (S.ln)) P hM2 (tkR S.r (i + 1)) (Bd + 5000) (by omega) hA2 ((vr_tk hv hB (by omega)).le (by omega)) (fun p => shd S.r (px S.r p) 0) hbf_5) (by omega) hM2.a0 rfl rfl rfl (Nat.le_of_ble_eq_true rfl) ⟨Nat.le_of_ble_eq_true rfl, Nat.le_of_ble_eq_true rfl⟩ (pk_i ?_)
            rintro r_31 g_31 ⟨hr_31, co_31, hM_31⟩
            rw [hr_31, ch_tk hv hB (by omega)]
            clear hr_31 r_31
            have hch : chC S.r (i + 1) ≤ 64 := cn_le _ _
            refine y_if_ne_n (tgt := 41) hC dX6_pictureBack_34 (by decide) (by omega) (fun c_34 => ?_) (fun c_34 => ?_)
            · refine y_bipush (v := (-5)) hC dX6_pictureBack_41 (by decide) ?_
              refine y_top (y := foI none) rfl ?_
              refine y_istore_n hC dX6_pictureBack_43 (i := 1) rfl (Nat.le_of_ble_eq_true rfl) rfl (lo' := [some (rf E (0)), some (.int (foI none)), some (.int (nI (i + 1)))]) rfl ?_
              refine y_iinc_n hC dX6_pictureBack_44 (a := i + 1) (k := 1) rfl (by decide) (Nat.le_of_ble_eq_true rfl) rfl (lo' := [some (rf E (0)), some (.int (foI none)), some (.int (nI (i + 1 + 1)))]) rfl ?_
              refine y_goto (tgt := 13) hC dX6_pictureBack_47 (by decide) ?_
              have hpf : pbP S.r i = false := Bool.eq_false_iff.mpr (fun q => c_34 (pb_ch.mpr q))
              exact ih_13 (i + 1) none g_31 row2 co_31 (by omega) (by omega) hM_31 hA2 (fun _ k hk => by
                  by_cases e : k = i
                  · rw [e]; exact hpf
                  · exact hk0 rfl k (by omega)) (fun j hj => by cases hj)
            · refine y_iload_n hC dX6_pictureBack_37 (i := 2) rfl rfl ?_
              refine y_goto (tgt := 43) hC dX6_pictureBack_38 (by decide) ?_
              refine y_top (y := foI (some i)) rfl ?_
              refine y_istore_n hC dX6_pictureBack_43 (i := 1) rfl (Nat.le_of_ble_eq_true rfl) rfl (lo' := [some (rf E (0)), some (.int (foI (some i))), some (.int (nI (i + 1)))]) rfl ?_
              refine y_iinc_n hC dX6_pictureBack_44 (a := i + 1) (k := 1) rfl (by decide) (Nat.le_of_ble_eq_true rfl) rfl (lo' := [some (rf E (0)), some (.int (foI (some i))), some (.int (nI (i + 1 + 1)))]) rfl ?_
              refine y_goto (tgt := 13) hC dX6_pictureBack_47 (by decide) ?_
              have hpf : pbP S.r i = true := pb_ch.mp c_34
              exact ih_13 (i + 1) (some i) g_31 row2 co_31 (by omega) (by omega) hM_31 hA2 (fun hj => by cases hj) (fun j hj => by cases hj; exact ⟨by omega, hpf, fun k hk => hk0 rfl k hk⟩)
        · obtain ⟨hfi, hfp, hfm⟩ := hk1 fi rfl
          refine y_top (y := nI (fi + 1)) rfl ?_
          refine y_bipush (v := (-5)) hC dX6_pictureBack_21 (by decide) ?_
          refine y_icmp_ne (tgt := 50) hC dX6_pictureBack_23 (by decide) (fun c_23 => ?_) (fun c_23 => ?_)
          · refine y_aload_n hC dX6_pictureBack_50 (i := 0) rfl rfl ?_
            refine y_callV hC mX6_putBack kX6_216 dX6_pictureBack_51 (b := 0) (As := []) (rest := []) (c_X6_putBack l E g1 row1 (hi, nI (S.c), sn, nI (S.kp)) (as_1, co1, C.2.2.1, bf_5) (tx, nI (S.ln)) P hM1) (by omega) hM1.a0 rfl rfl rfl (Nat.le_of_ble_eq_true rfl) ⟨Nat.le_of_ble_eq_true rfl, Nat.le_of_ble_eq_true rfl⟩ (pk_v ?_)
            rintro g_51 ⟨row_51b, hrow_51, hM_51b⟩
            refine y_iload_n hC dX6_pictureBack_54 (i := 1) rfl rfl ?_
            refine y_iret (hC := hC) (hd := dX6_pictureBack_55) (hq := ?_)
            have hfin : foI (some fi) = qPictureBack S := by
              unfold qPictureBack
              rw [fst_some hfi hfp hfm]; rfl
            exact ⟨hfin, ⟨row_51b, hi, sn, tx, (as_1, co1, C.2.2.1, bf_5), P, hM_51b, (fun k hk => (hrow_51 k hk).trans ((has_1 k hk).trans (hR k hk))), hH, hS, hT⟩⟩
          · exact absurd c_23 (nI_m5 (by omega))
  exact L_13 2001 0 none g_5 row co_5 (by omega) (by omega) hM_5n (fun k hk => (hR k hk).trans (tk_0 hv k).symm) (fun _ k hk => absurd hk (Nat.not_lt_zero k)) (fun j hj => by cases hj)

