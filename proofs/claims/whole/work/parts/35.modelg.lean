/-! ===== the model: the fill ===== -/
/-- a marked pixel stands beside -/
def nbB (A : Nat → Bool) (j : Nat) : Bool := ((decide (0 < j / 8) && A (j - 8)) || (decide (j / 8 < 7) && A (j + 8))) || (decide (0 < j % 8) && A (j - 1)) || (decide (j % 8 < 7) && A (j + 1))
theorem nbB_iff {A : Nat → Bool} {j : Nat} : nbB A j = true ↔ ((0 < j / 8 ∧ A (j - 8) = true) ∨ (j / 8 < 7 ∧ A (j + 8) = true)) ∨ (0 < j % 8 ∧ A (j - 1) = true) ∨ (j % 8 < 7 ∧ A (j + 1) = true) := by
  unfold nbB
  simp only [Bool.or_eq_true, Bool.and_eq_true, decide_eq_true_eq, or_assoc]
theorem nbB_cg {A A2 : Nat → Bool} {j : Nat} (hj : j < 64) (h : ∀ p, p < 64 → A p = A2 p) : nbB A j = nbB A2 j := by
  have e : ∀ {a b : Bool}, (a = true ↔ b = true) → a = b := fun {a b} h => by cases a <;> cases b <;> simp_all
  apply e
  rw [nbB_iff, nbB_iff]
  constructor
  · rintro ((⟨q, w⟩ | ⟨q, w⟩) | ⟨q, w⟩ | ⟨q, w⟩)
    · exact Or.inl (Or.inl ⟨q, by rw [← h _ (by omega)]; exact w⟩)
    · exact Or.inl (Or.inr ⟨q, by rw [← h _ (by omega)]; exact w⟩)
    · exact Or.inr (Or.inl ⟨q, by rw [← h _ (by omega)]; exact w⟩)
    · exact Or.inr (Or.inr ⟨q, by rw [← h _ (by omega)]; exact w⟩)
  · rintro ((⟨q, w⟩ | ⟨q, w⟩) | ⟨q, w⟩ | ⟨q, w⟩)
    · exact Or.inl (Or.inl ⟨q, by rw [h _ (by omega)]; exact w⟩)
    · exact Or.inl (Or.inr ⟨q, by rw [h _ (by omega)]; exact w⟩)
    · exact Or.inr (Or.inl ⟨q, by rw [h _ (by omega)]; exact w⟩)
    · exact Or.inr (Or.inr ⟨q, by rw [h _ (by omega)]; exact w⟩)
def clA (r : Row) (s : Nat) (A : Nat → Bool) : Prop := ∀ j, j < 64 → A j = false → px r j = px r s → nbB A j = false
theorem clA_R {r : Row} {s : Nat} {A : Nat → Bool} (hs : s < 64) (hA : A s = true) (h1 : ∀ p, p < 64 → A p = true → Rch r s p) (h2 : clA r s A) : ∀ p, p < 64 → A p = rcB r s p := by
  have h3 : ∀ p, Rch r s p → p < 64 ∧ A p = true := fun p q => q.i (P := fun p => p < 64 ∧ A p = true) ⟨hs, hA⟩ (fun p q hp ha he => by
    obtain ⟨hp1, hp2⟩ := hp
    unfold adj at ha
    have hq : q < 64 := by omega
    refine ⟨hq, ?_⟩
    cases e : A q with
    | true => rfl
    | false =>
      have h4 := h2 q hq e he
      have h5 : nbB A q = true := nbB_iff.mpr (by
        rcases ha with ⟨a1, a2⟩ | ⟨a1, a2⟩ | ⟨a1, a2⟩ | ⟨a1, a2⟩
        · exact Or.inr (Or.inr ⟨by omega, by rw [a2]; exact hp2⟩)
        · exact Or.inr (Or.inl ⟨by omega, by rw [show q - 1 = p by omega]; exact hp2⟩)
        · exact Or.inl (Or.inr ⟨by omega, by rw [a2]; exact hp2⟩)
        · exact Or.inl (Or.inl ⟨by omega, by rw [show q - 8 = p by omega]; exact hp2⟩))
      rw [h4] at h5
      cases h5)
  intro p hp
  cases e : A p with
  | true => exact (rcB_iff.mpr (h1 p hp e)).symm
  | false =>
    cases e2 : rcB r s p with
    | false => rfl
    | true =>
      have := (h3 p (rcB_iff.mp e2)).2
      rw [e] at this
      cases this
theorem cn_add1 {n i : Nat} {A : Nat → Bool} (hi : i < n) (h : A i = false) : cn n (va_up A i true) = cn n A + 1 := by
  rw [cn_rem hi (va_up_self _ _ _)]
  congr 1
  refine cn_cg (fun k _ => ?_)
  by_cases e : k = i
  · subst e; simp [h]
  · rw [va_up_ne _ _ e]; simp [e]
theorem nb_Rch {r : Row} {s j : Nat} {A : Nat → Bool} (hj : j < 64) (h1 : ∀ p, p < 64 → A p = true → Rch r s p) (hp : px r j = px r s) (h : nbB A j = true) : Rch r s j := by
  rcases nbB_iff.mp h with (⟨q, w⟩ | ⟨q, w⟩) | ⟨q, w⟩ | ⟨q, w⟩
  · exact (h1 _ (by omega) w).st (show adj (j - 8) j from Or.inr (Or.inr (Or.inr ⟨by omega, by omega⟩))) hp
  · exact (h1 _ (by omega) w).st (show adj (j + 8) j from Or.inr (Or.inr (Or.inl ⟨by omega, rfl⟩))) hp
  · exact (h1 _ (by omega) w).st (show adj (j - 1) j from Or.inr (Or.inl ⟨by omega, by omega⟩)) hp
  · exact (h1 _ (by omega) w).st (show adj (j + 1) j from Or.inl ⟨by omega, rfl⟩) hp
theorem dX6_hasMarkedNeighbour_0 : decode cX6_hasMarkedNeighbour 0 = .ok (.iload_n 1, 1) := by decide +kernel
theorem dX6_hasMarkedNeighbour_1 : decode cX6_hasMarkedNeighbour 1 = .ok (.bipush 8, 2) := by decide +kernel
theorem dX6_hasMarkedNeighbour_3 : decode cX6_hasMarkedNeighbour 3 = .ok (.idiv, 1) := by decide +kernel
theorem dX6_hasMarkedNeighbour_4 : decode cX6_hasMarkedNeighbour 4 = .ok (.istore_n 2, 1) := by decide +kernel
theorem dX6_hasMarkedNeighbour_5 : decode cX6_hasMarkedNeighbour 5 = .ok (.iload_n 1, 1) := by decide +kernel
theorem dX6_hasMarkedNeighbour_6 : decode cX6_hasMarkedNeighbour 6 = .ok (.bipush 8, 2) := by decide +kernel
theorem dX6_hasMarkedNeighbour_8 : decode cX6_hasMarkedNeighbour 8 = .ok (.irem, 1) := by decide +kernel
theorem dX6_hasMarkedNeighbour_9 : decode cX6_hasMarkedNeighbour 9 = .ok (.istore_n 3, 1) := by decide +kernel
theorem dX6_hasMarkedNeighbour_10 : decode cX6_hasMarkedNeighbour 10 = .ok (.iload_n 2, 1) := by decide +kernel
theorem dX6_hasMarkedNeighbour_11 : decode cX6_hasMarkedNeighbour 11 = .ok (.ifCond .le 15, 3) := by decide +kernel
theorem dX6_hasMarkedNeighbour_14 : decode cX6_hasMarkedNeighbour 14 = .ok (.aload_n 0, 1) := by decide +kernel
theorem dX6_hasMarkedNeighbour_15 : decode cX6_hasMarkedNeighbour 15 = .ok (.getfield 38, 3) := by decide +kernel
theorem dX6_hasMarkedNeighbour_18 : decode cX6_hasMarkedNeighbour 18 = .ok (.iload_n 1, 1) := by decide +kernel
theorem dX6_hasMarkedNeighbour_19 : decode cX6_hasMarkedNeighbour 19 = .ok (.bipush 8, 2) := by decide +kernel
theorem dX6_hasMarkedNeighbour_21 : decode cX6_hasMarkedNeighbour 21 = .ok (.isub, 1) := by decide +kernel
theorem dX6_hasMarkedNeighbour_22 : decode cX6_hasMarkedNeighbour 22 = .ok (.baload, 1) := by decide +kernel
theorem dX6_hasMarkedNeighbour_23 : decode cX6_hasMarkedNeighbour 23 = .ok (.ifCond .ne 21, 3) := by decide +kernel
theorem dX6_hasMarkedNeighbour_26 : decode cX6_hasMarkedNeighbour 26 = .ok (.iload_n 2, 1) := by decide +kernel
theorem dX6_hasMarkedNeighbour_27 : decode cX6_hasMarkedNeighbour 27 = .ok (.bipush 7, 2) := by decide +kernel
theorem dX6_hasMarkedNeighbour_29 : decode cX6_hasMarkedNeighbour 29 = .ok (.if_icmp .ge 19, 3) := by decide +kernel
theorem dX6_hasMarkedNeighbour_32 : decode cX6_hasMarkedNeighbour 32 = .ok (.aload_n 0, 1) := by decide +kernel
theorem dX6_hasMarkedNeighbour_33 : decode cX6_hasMarkedNeighbour 33 = .ok (.getfield 38, 3) := by decide +kernel
theorem dX6_hasMarkedNeighbour_36 : decode cX6_hasMarkedNeighbour 36 = .ok (.iload_n 1, 1) := by decide +kernel
theorem dX6_hasMarkedNeighbour_37 : decode cX6_hasMarkedNeighbour 37 = .ok (.bipush 8, 2) := by decide +kernel
theorem dX6_hasMarkedNeighbour_39 : decode cX6_hasMarkedNeighbour 39 = .ok (.iadd, 1) := by decide +kernel
theorem dX6_hasMarkedNeighbour_40 : decode cX6_hasMarkedNeighbour 40 = .ok (.baload, 1) := by decide +kernel
theorem dX6_hasMarkedNeighbour_41 : decode cX6_hasMarkedNeighbour 41 = .ok (.ifCond .eq 7, 3) := by decide +kernel
theorem dX6_hasMarkedNeighbour_44 : decode cX6_hasMarkedNeighbour 44 = .ok (.iconst 1, 1) := by decide +kernel
theorem dX6_hasMarkedNeighbour_45 : decode cX6_hasMarkedNeighbour 45 = .ok (.goto 4, 3) := by decide +kernel
theorem dX6_hasMarkedNeighbour_48 : decode cX6_hasMarkedNeighbour 48 = .ok (.iconst 0, 1) := by decide +kernel
theorem dX6_hasMarkedNeighbour_49 : decode cX6_hasMarkedNeighbour 49 = .ok (.istore 4, 2) := by decide +kernel
theorem dX6_hasMarkedNeighbour_51 : decode cX6_hasMarkedNeighbour 51 = .ok (.iload 4, 2) := by decide +kernel
theorem dX6_hasMarkedNeighbour_53 : decode cX6_hasMarkedNeighbour 53 = .ok (.ifCond .ne 35, 3) := by decide +kernel
theorem dX6_hasMarkedNeighbour_56 : decode cX6_hasMarkedNeighbour 56 = .ok (.iload_n 3, 1) := by decide +kernel
theorem dX6_hasMarkedNeighbour_57 : decode cX6_hasMarkedNeighbour 57 = .ok (.ifCond .le 14, 3) := by decide +kernel
theorem dX6_hasMarkedNeighbour_60 : decode cX6_hasMarkedNeighbour 60 = .ok (.aload_n 0, 1) := by decide +kernel
theorem dX6_hasMarkedNeighbour_61 : decode cX6_hasMarkedNeighbour 61 = .ok (.getfield 38, 3) := by decide +kernel
theorem dX6_hasMarkedNeighbour_64 : decode cX6_hasMarkedNeighbour 64 = .ok (.iload_n 1, 1) := by decide +kernel
theorem dX6_hasMarkedNeighbour_65 : decode cX6_hasMarkedNeighbour 65 = .ok (.iconst 1, 1) := by decide +kernel
theorem dX6_hasMarkedNeighbour_66 : decode cX6_hasMarkedNeighbour 66 = .ok (.isub, 1) := by decide +kernel
theorem dX6_hasMarkedNeighbour_67 : decode cX6_hasMarkedNeighbour 67 = .ok (.baload, 1) := by decide +kernel
theorem dX6_hasMarkedNeighbour_68 : decode cX6_hasMarkedNeighbour 68 = .ok (.ifCond .ne 20, 3) := by decide +kernel
theorem dX6_hasMarkedNeighbour_71 : decode cX6_hasMarkedNeighbour 71 = .ok (.iload_n 3, 1) := by decide +kernel
theorem dX6_hasMarkedNeighbour_72 : decode cX6_hasMarkedNeighbour 72 = .ok (.bipush 7, 2) := by decide +kernel
theorem dX6_hasMarkedNeighbour_74 : decode cX6_hasMarkedNeighbour 74 = .ok (.if_icmp .ge 18, 3) := by decide +kernel
theorem dX6_hasMarkedNeighbour_77 : decode cX6_hasMarkedNeighbour 77 = .ok (.aload_n 0, 1) := by decide +kernel
theorem dX6_hasMarkedNeighbour_78 : decode cX6_hasMarkedNeighbour 78 = .ok (.getfield 38, 3) := by decide +kernel
theorem dX6_hasMarkedNeighbour_81 : decode cX6_hasMarkedNeighbour 81 = .ok (.iload_n 1, 1) := by decide +kernel
theorem dX6_hasMarkedNeighbour_82 : decode cX6_hasMarkedNeighbour 82 = .ok (.iconst 1, 1) := by decide +kernel
theorem dX6_hasMarkedNeighbour_83 : decode cX6_hasMarkedNeighbour 83 = .ok (.iadd, 1) := by decide +kernel
theorem dX6_hasMarkedNeighbour_84 : decode cX6_hasMarkedNeighbour 84 = .ok (.baload, 1) := by decide +kernel
theorem dX6_hasMarkedNeighbour_85 : decode cX6_hasMarkedNeighbour 85 = .ok (.ifCond .eq 7, 3) := by decide +kernel
theorem dX6_hasMarkedNeighbour_88 : decode cX6_hasMarkedNeighbour 88 = .ok (.iconst 1, 1) := by decide +kernel
theorem dX6_hasMarkedNeighbour_89 : decode cX6_hasMarkedNeighbour 89 = .ok (.goto 4, 3) := by decide +kernel
theorem dX6_hasMarkedNeighbour_92 : decode cX6_hasMarkedNeighbour 92 = .ok (.iconst 0, 1) := by decide +kernel
theorem dX6_hasMarkedNeighbour_93 : decode cX6_hasMarkedNeighbour 93 = .ok (.ireturn, 1) := by decide +kernel
set_option maxHeartbeats 4000000 in
set_option maxRecDepth 100000 in
theorem c_X6_hasMarkedNeighbour (l : Launch) (E : gE) (g : Mem) (row : Nat → Int32) (B : GB) (C : GC) (D : GD) (P : GP) (hM : MX E g row B C D P) (A : Nat → Bool) (hI : ∀ p, p < 64 → C.2.2.1 p = bI (A p = true)) (j : Nat) (hj : j < 64) : Mt l E yX6_hasMarkedNeighbour cX6_hasMarkedNeighbour 5 (some .boolean) 0 0 [rf E (0), .int (nI (j))] g (pI (fun z g' => z = bI (nbB A j = true) ∧ g' = g)) := by
  have hK := hM.k
  refine mt_go (own := RX6) (by decide) rfl (lo := [some (rf E (0)), some (.int (nI (j))), none, none, none]) rfl (Nat.le_of_ble_eq_true rfl) (fun X hC => ?_)
  refine y_iload_n hC dX6_hasMarkedNeighbour_0 (i := 1) rfl rfl ?_
  refine y_bipush (v := nI 8) hC dX6_hasMarkedNeighbour_1 (by decide) ?_
  refine y_idiv_n hC dX6_hasMarkedNeighbour_3 (by omega) (by omega) (by omega) ?_
  refine y_istore_n hC dX6_hasMarkedNeighbour_4 (i := 2) rfl (Nat.le_of_ble_eq_true rfl) rfl (lo' := [some (rf E (0)), some (.int (nI (j))), some (.int (nI ((j) / (8)))), none, none]) rfl ?_
  refine y_iload_n hC dX6_hasMarkedNeighbour_5 (i := 1) rfl rfl ?_
  refine y_bipush (v := nI 8) hC dX6_hasMarkedNeighbour_6 (by decide) ?_
  refine y_irem_n hC dX6_hasMarkedNeighbour_8 (by omega) (by omega) (by omega) ?_
  refine y_istore_n hC dX6_hasMarkedNeighbour_9 (i := 3) rfl (Nat.le_of_ble_eq_true rfl) rfl (lo' := [some (rf E (0)), some (.int (nI (j))), some (.int (nI ((j) / (8)))), some (.int (nI ((j) % (8)))), none]) rfl ?_
  refine y_iload_n hC dX6_hasMarkedNeighbour_10 (i := 2) rfl rfl ?_
  refine y_if_le_n (tgt := 26) hC dX6_hasMarkedNeighbour_11 (by decide) (by omega) (fun c_11 => ?_) (fun c_11 => ?_)
  · refine y_iload_n hC dX6_hasMarkedNeighbour_26 (i := 2) rfl rfl ?_
    refine y_bipush (v := nI 7) hC dX6_hasMarkedNeighbour_27 (by decide) ?_
    refine y_icmp_ge_n (tgt := 48) hC dX6_hasMarkedNeighbour_29 (by decide) (by omega) (by omega) (fun c_29 => ?_) (fun c_29 => ?_)
    · refine y_iconst (v := nI 0) hC dX6_hasMarkedNeighbour_48 (by decide) ?_
      refine y_istore hC dX6_hasMarkedNeighbour_49 (Nat.le_of_ble_eq_true rfl) rfl (lo' := [some (rf E (0)), some (.int (nI (j))), some (.int (nI ((j) / (8)))), some (.int (nI ((j) % (8)))), some (.int (nI (0)))]) rfl ?_
      refine y_iload hC dX6_hasMarkedNeighbour_51 rfl ?_
      refine y_if_ne_n (tgt := 88) hC dX6_hasMarkedNeighbour_53 (by decide) (by omega) (fun c_53 => ?_) (fun c_53 => ?_)
      · refine y_iconst (v := nI 1) hC dX6_hasMarkedNeighbour_88 (by decide) ?_
        refine y_goto (tgt := 93) hC dX6_hasMarkedNeighbour_89 (by decide) ?_
        refine y_zret (hrt := rfl) (hn := rfl) (hC := hC) (hd := dX6_hasMarkedNeighbour_93) (hq := ?_)
        refine ⟨?_, rfl⟩
        first
          | (exfalso; omega)
          | (refine (bI_t (nbB_iff.mpr ?_)).symm
             first | exact Or.inl (Or.inl ⟨by omega, by assumption⟩) | exact Or.inl (Or.inr ⟨by omega, by assumption⟩) | exact Or.inr (Or.inl ⟨by omega, by assumption⟩) | exact Or.inr (Or.inr ⟨by omega, by assumption⟩))
          | (refine (bI_f (fun q => ?_)).symm
             rcases nbB_iff.mp q with (⟨q, w⟩ | ⟨q, w⟩) | ⟨q, w⟩ | ⟨q, w⟩ <;> first | omega | exact absurd w (by assumption))
      · refine y_iload_n hC dX6_hasMarkedNeighbour_56 (i := 3) rfl rfl ?_
        refine y_if_le_n (tgt := 71) hC dX6_hasMarkedNeighbour_57 (by decide) (by omega) (fun c_57 => ?_) (fun c_57 => ?_)
        · refine y_iload_n hC dX6_hasMarkedNeighbour_71 (i := 3) rfl rfl ?_
          refine y_bipush (v := nI 7) hC dX6_hasMarkedNeighbour_72 (by decide) ?_
          refine y_icmp_ge_n (tgt := 92) hC dX6_hasMarkedNeighbour_74 (by decide) (by omega) (by omega) (fun c_74 => ?_) (fun c_74 => ?_)
          · refine y_iconst (v := nI 0) hC dX6_hasMarkedNeighbour_92 (by decide) ?_
            refine y_zret (hrt := rfl) (hn := rfl) (hC := hC) (hd := dX6_hasMarkedNeighbour_93) (hq := ?_)
            refine ⟨?_, rfl⟩
            first
              | (exfalso; omega)
              | (refine (bI_t (nbB_iff.mpr ?_)).symm
                 first | exact Or.inl (Or.inl ⟨by omega, by assumption⟩) | exact Or.inl (Or.inr ⟨by omega, by assumption⟩) | exact Or.inr (Or.inl ⟨by omega, by assumption⟩) | exact Or.inr (Or.inr ⟨by omega, by assumption⟩))
              | (refine (bI_f (fun q => ?_)).symm
                 rcases nbB_iff.mp q with (⟨q, w⟩ | ⟨q, w⟩) | ⟨q, w⟩ | ⟨q, w⟩ <;> first | omega | exact absurd w (by assumption))
          · refine y_aload_n hC dX6_hasMarkedNeighbour_77 (i := 0) rfl rfl ?_
            refine y_get hC fX6_38 dX6_hasMarkedNeighbour_78 (k := 0) (by omega) hM.a0 rfl ?_
            refine y_iload_n hC dX6_hasMarkedNeighbour_81 (i := 1) rfl rfl ?_
            refine y_iconst (v := nI 1) hC dX6_hasMarkedNeighbour_82 (by decide) ?_
            refine y_iadd_n hC dX6_hasMarkedNeighbour_83 ?_
            refine y_zald hC dX6_hasMarkedNeighbour_84 (k := 10) (j := j + 1) (by omega) hM.a10 (rfl) (by omega) (by decide) ?_
            refine y_top (y := bI (A (j + 1) = true)) (hI (j + 1) (by omega)) ?_
            refine y_if_eq_b (tgt := 92) hC dX6_hasMarkedNeighbour_85 (by decide) (fun c_85 => ?_) (fun c_85 => ?_)
            · refine y_iconst (v := nI 0) hC dX6_hasMarkedNeighbour_92 (by decide) ?_
              refine y_zret (hrt := rfl) (hn := rfl) (hC := hC) (hd := dX6_hasMarkedNeighbour_93) (hq := ?_)
              refine ⟨?_, rfl⟩
              first
                | (exfalso; omega)
                | (refine (bI_t (nbB_iff.mpr ?_)).symm
                   first | exact Or.inl (Or.inl ⟨by omega, by assumption⟩) | exact Or.inl (Or.inr ⟨by omega, by assumption⟩) | exact Or.inr (Or.inl ⟨by omega, by assumption⟩) | exact Or.inr (Or.inr ⟨by omega, by assumption⟩))
                | (refine (bI_f (fun q => ?_)).symm
                   rcases nbB_iff.mp q with (⟨q, w⟩ | ⟨q, w⟩) | ⟨q, w⟩ | ⟨q, w⟩ <;> first | omega | exact absurd w (by assumption))
            · refine y_iconst (v := nI 1) hC dX6_hasMarkedNeighbour_88 (by decide) ?_
              refine y_goto (tgt := 93) hC dX6_hasMarkedNeighbour_89 (by decide) ?_
              refine y_zret (hrt := rfl) (hn := rfl) (hC := hC) (hd := dX6_hasMarkedNeighbour_93) (hq := ?_)
              refine ⟨?_, rfl⟩
              first
                | (exfalso; omega)
                | (refine (bI_t (nbB_iff.mpr ?_)).symm
                   first | exact Or.inl (Or.inl ⟨by omega, by assumption⟩) | exact Or.inl (Or.inr ⟨by omega, by assumption⟩) | exact Or.inr (Or.inl ⟨by omega, by assumption⟩) | exact Or.inr (Or.inr ⟨by omega, by assumption⟩))
                | (refine (bI_f (fun q => ?_)).symm
                   rcases nbB_iff.mp q with (⟨q, w⟩ | ⟨q, w⟩) | ⟨q, w⟩ | ⟨q, w⟩ <;> first | omega | exact absurd w (by assumption))
        · refine y_aload_n hC dX6_hasMarkedNeighbour_60 (i := 0) rfl rfl ?_
          refine y_get hC fX6_38 dX6_hasMarkedNeighbour_61 (k := 0) (by omega) hM.a0 rfl ?_
          refine y_iload_n hC dX6_hasMarkedNeighbour_64 (i := 1) rfl rfl ?_
          refine y_iconst (v := nI 1) hC dX6_hasMarkedNeighbour_65 (by decide) ?_
          refine y_isub_n hC dX6_hasMarkedNeighbour_66 (by omega) ?_
          refine y_zald hC dX6_hasMarkedNeighbour_67 (k := 10) (j := j - (1)) (by omega) hM.a10 (rfl) (by omega) (by decide) ?_
          refine y_top (y := bI (A (j - (1)) = true)) (hI (j - 1) (by omega)) ?_
          refine y_if_ne_b (tgt := 88) hC dX6_hasMarkedNeighbour_68 (by decide) (fun c_68 => ?_) (fun c_68 => ?_)
          · refine y_iconst (v := nI 1) hC dX6_hasMarkedNeighbour_88 (by decide) ?_
            refine y_goto (tgt := 93) hC dX6_hasMarkedNeighbour_89 (by decide) ?_
            refine y_zret (hrt := rfl) (hn := rfl) (hC := hC) (hd := dX6_hasMarkedNeighbour_93) (hq := ?_)
            refine ⟨?_, rfl⟩
            first
              | (exfalso; omega)
              | (refine (bI_t (nbB_iff.mpr ?_)).symm
                 first | exact Or.inl (Or.inl ⟨by omega, by assumption⟩) | exact Or.inl (Or.inr ⟨by omega, by assumption⟩) | exact Or.inr (Or.inl ⟨by omega, by assumption⟩) | exact Or.inr (Or.inr ⟨by omega, by assumption⟩))
              | (refine (bI_f (fun q => ?_)).symm
                 rcases nbB_iff.mp q with (⟨q, w⟩ | ⟨q, w⟩) | ⟨q, w⟩ | ⟨q, w⟩ <;> first | omega | exact absurd w (by assumption))
          · refine y_iload_n hC dX6_hasMarkedNeighbour_71 (i := 3) rfl rfl ?_
            refine y_bipush (v := nI 7) hC dX6_hasMarkedNeighbour_72 (by decide) ?_
            refine y_icmp_ge_n (tgt := 92) hC dX6_hasMarkedNeighbour_74 (by decide) (by omega) (by omega) (fun c_74 => ?_) (fun c_74 => ?_)
            · refine y_iconst (v := nI 0) hC dX6_hasMarkedNeighbour_92 (by decide) ?_
              refine y_zret (hrt := rfl) (hn := rfl) (hC := hC) (hd := dX6_hasMarkedNeighbour_93) (hq := ?_)
              refine ⟨?_, rfl⟩
              first
                | (exfalso; omega)
                | (refine (bI_t (nbB_iff.mpr ?_)).symm
                   first | exact Or.inl (Or.inl ⟨by omega, by assumption⟩) | exact Or.inl (Or.inr ⟨by omega, by assumption⟩) | exact Or.inr (Or.inl ⟨by omega, by assumption⟩) | exact Or.inr (Or.inr ⟨by omega, by assumption⟩))
                | (refine (bI_f (fun q => ?_)).symm
                   rcases nbB_iff.mp q with (⟨q, w⟩ | ⟨q, w⟩) | ⟨q, w⟩ | ⟨q, w⟩ <;> first | omega | exact absurd w (by assumption))
            · refine y_aload_n hC dX6_hasMarkedNeighbour_77 (i := 0) rfl rfl ?_
              refine y_get hC fX6_38 dX6_hasMarkedNeighbour_78 (k := 0) (by omega) hM.a0 rfl ?_
              refine y_iload_n hC dX6_hasMarkedNeighbour_81 (i := 1) rfl rfl ?_
              refine y_iconst (v := nI 1) hC dX6_hasMarkedNeighbour_82 (by decide) ?_
              refine y_iadd_n hC dX6_hasMarkedNeighbour_83 ?_
              refine y_zald hC dX6_hasMarkedNeighbour_84 (k := 10) (j := j + 1) (by omega) hM.a10 (rfl) (by omega) (by decide) ?_
              refine y_top (y := bI (A (j + 1) = true)) (hI (j + 1) (by omega)) ?_
              refine y_if_eq_b (tgt := 92) hC dX6_hasMarkedNeighbour_85 (by decide) (fun c_85 => ?_) (fun c_85 => ?_)
              · refine y_iconst (v := nI 0) hC dX6_hasMarkedNeighbour_92 (by decide) ?_
                refine y_zret (hrt := rfl) (hn := rfl) (hC := hC) (hd := dX6_hasMarkedNeighbour_93) (hq := ?_)
                refine ⟨?_, rfl⟩
                first
                  | (exfalso; omega)
                  | (refine (bI_t (nbB_iff.mpr ?_)).symm
                     first | exact Or.inl (Or.inl ⟨by omega, by assumption⟩) | exact Or.inl (Or.inr ⟨by omega, by assumption⟩) | exact Or.inr (Or.inl ⟨by omega, by assumption⟩) | exact Or.inr (Or.inr ⟨by omega, by assumption⟩))
                  | (refine (bI_f (fun q => ?_)).symm
                     rcases nbB_iff.mp q with (⟨q, w⟩ | ⟨q, w⟩) | ⟨q, w⟩ | ⟨q, w⟩ <;> first | omega | exact absurd w (by assumption))
              · refine y_iconst (v := nI 1) hC dX6_hasMarkedNeighbour_88 (by decide) ?_
                refine y_goto (tgt := 93) hC dX6_hasMarkedNeighbour_89 (by decide) ?_
                refine y_zret (hrt := rfl) (hn := rfl) (hC := hC) (hd := dX6_hasMarkedNeighbour_93) (hq := ?_)
                refine ⟨?_, rfl⟩
                first
                  | (exfalso; omega)
                  | (refine (bI_t (nbB_iff.mpr ?_)).symm
                     first | exact Or.inl (Or.inl ⟨by omega, by assumption⟩) | exact Or.inl (Or.inr ⟨by omega, by assumption⟩) | exact Or.inr (Or.inl ⟨by omega, by assumption⟩) | exact Or.inr (Or.inr ⟨by omega, by assumption⟩))
                  | (refine (bI_f (fun q => ?_)).symm
                     rcases nbB_iff.mp q with (⟨q, w⟩ | ⟨q, w⟩) | ⟨q, w⟩ | ⟨q, w⟩ <;> first | omega | exact absurd w (by assumption))
    · refine y_aload_n hC dX6_hasMarkedNeighbour_32 (i := 0) rfl rfl ?_
      refine y_get hC fX6_38 dX6_hasMarkedNeighbour_33 (k := 0) (by omega) hM.a0 rfl ?_
      refine y_iload_n hC dX6_hasMarkedNeighbour_36 (i := 1) rfl rfl ?_
      refine y_bipush (v := nI 8) hC dX6_hasMarkedNeighbour_37 (by decide) ?_
      refine y_iadd_n hC dX6_hasMarkedNeighbour_39 ?_
      refine y_zald hC dX6_hasMarkedNeighbour_40 (k := 10) (j := j + 8) (by omega) hM.a10 (rfl) (by omega) (by decide) ?_
      refine y_top (y := bI (A (j + 8) = true)) (hI (j + 8) (by omega)) ?_
      refine y_if_eq_b (tgt := 48) hC dX6_hasMarkedNeighbour_41 (by decide) (fun c_41 => ?_) (fun c_41 => ?_)
      · refine y_iconst (v := nI 0) hC dX6_hasMarkedNeighbour_48 (by decide) ?_
        refine y_istore hC dX6_hasMarkedNeighbour_49 (Nat.le_of_ble_eq_true rfl) rfl (lo' := [some (rf E (0)), some (.int (nI (j))), some (.int (nI ((j) / (8)))), some (.int (nI ((j) % (8)))), some (.int (nI (0)))]) rfl ?_
        refine y_iload hC dX6_hasMarkedNeighbour_51 rfl ?_
        refine y_if_ne_n (tgt := 88) hC dX6_hasMarkedNeighbour_53 (by decide) (by omega) (fun c_53 => ?_) (fun c_53 => ?_)
        · refine y_iconst (v := nI 1) hC dX6_hasMarkedNeighbour_88 (by decide) ?_
          refine y_goto (tgt := 93) hC dX6_hasMarkedNeighbour_89 (by decide) ?_
          refine y_zret (hrt := rfl) (hn := rfl) (hC := hC) (hd := dX6_hasMarkedNeighbour_93) (hq := ?_)
          refine ⟨?_, rfl⟩
          first
            | (exfalso; omega)
            | (refine (bI_t (nbB_iff.mpr ?_)).symm
               first | exact Or.inl (Or.inl ⟨by omega, by assumption⟩) | exact Or.inl (Or.inr ⟨by omega, by assumption⟩) | exact Or.inr (Or.inl ⟨by omega, by assumption⟩) | exact Or.inr (Or.inr ⟨by omega, by assumption⟩))
            | (refine (bI_f (fun q => ?_)).symm
               rcases nbB_iff.mp q with (⟨q, w⟩ | ⟨q, w⟩) | ⟨q, w⟩ | ⟨q, w⟩ <;> first | omega | exact absurd w (by assumption))
        · refine y_iload_n hC dX6_hasMarkedNeighbour_56 (i := 3) rfl rfl ?_
          refine y_if_le_n (tgt := 71) hC dX6_hasMarkedNeighbour_57 (by decide) (by omega) (fun c_57 => ?_) (fun c_57 => ?_)
          · refine y_iload_n hC dX6_hasMarkedNeighbour_71 (i := 3) rfl rfl ?_
            refine y_bipush (v := nI 7) hC dX6_hasMarkedNeighbour_72 (by decide) ?_
            refine y_icmp_ge_n (tgt := 92) hC dX6_hasMarkedNeighbour_74 (by decide) (by omega) (by omega) (fun c_74 => ?_) (fun c_74 => ?_)
            · refine y_iconst (v := nI 0) hC dX6_hasMarkedNeighbour_92 (by decide) ?_
              refine y_zret (hrt := rfl) (hn := rfl) (hC := hC) (hd := dX6_hasMarkedNeighbour_93) (hq := ?_)
              refine ⟨?_, rfl⟩
              first
                | (exfalso; omega)
                | (refine (bI_t (nbB_iff.mpr ?_)).symm
                   first | exact Or.inl (Or.inl ⟨by omega, by assumption⟩) | exact Or.inl (Or.inr ⟨by omega, by assumption⟩) | exact Or.inr (Or.inl ⟨by omega, by assumption⟩) | exact Or.inr (Or.inr ⟨by omega, by assumption⟩))
                | (refine (bI_f (fun q => ?_)).symm
                   rcases nbB_iff.mp q with (⟨q, w⟩ | ⟨q, w⟩) | ⟨q, w⟩ | ⟨q, w⟩ <;> first | omega | exact absurd w (by assumption))
            · refine y_aload_n hC dX6_hasMarkedNeighbour_77 (i := 0) rfl rfl ?_
              refine y_get hC fX6_38 dX6_hasMarkedNeighbour_78 (k := 0) (by omega) hM.a0 rfl ?_
              refine y_iload_n hC dX6_hasMarkedNeighbour_81 (i := 1) rfl rfl ?_
              refine y_iconst (v := nI 1) hC dX6_hasMarkedNeighbour_82 (by decide) ?_
              refine y_iadd_n hC dX6_hasMarkedNeighbour_83 ?_
              refine y_zald hC dX6_hasMarkedNeighbour_84 (k := 10) (j := j + 1) (by omega) hM.a10 (rfl) (by omega) (by decide) ?_
              refine y_top (y := bI (A (j + 1) = true)) (hI (j + 1) (by omega)) ?_
              refine y_if_eq_b (tgt := 92) hC dX6_hasMarkedNeighbour_85 (by decide) (fun c_85 => ?_) (fun c_85 => ?_)
              · refine y_iconst (v := nI 0) hC dX6_hasMarkedNeighbour_92 (by decide) ?_
                refine y_zret (hrt := rfl) (hn := rfl) (hC := hC) (hd := dX6_hasMarkedNeighbour_93) (hq := ?_)
                refine ⟨?_, rfl⟩
                first
                  | (exfalso; omega)
                  | (refine (bI_t (nbB_iff.mpr ?_)).symm
                     first | exact Or.inl (Or.inl ⟨by omega, by assumption⟩) | exact Or.inl (Or.inr ⟨by omega, by assumption⟩) | exact Or.inr (Or.inl ⟨by omega, by assumption⟩) | exact Or.inr (Or.inr ⟨by omega, by assumption⟩))
                  | (refine (bI_f (fun q => ?_)).symm
                     rcases nbB_iff.mp q with (⟨q, w⟩ | ⟨q, w⟩) | ⟨q, w⟩ | ⟨q, w⟩ <;> first | omega | exact absurd w (by assumption))
              · refine y_iconst (v := nI 1) hC dX6_hasMarkedNeighbour_88 (by decide) ?_
                refine y_goto (tgt := 93) hC dX6_hasMarkedNeighbour_89 (by decide) ?_
                refine y_zret (hrt := rfl) (hn := rfl) (hC := hC) (hd := dX6_hasMarkedNeighbour_93) (hq := ?_)
                refine ⟨?_, rfl⟩
                first
                  | (exfalso; omega)
                  | (refine (bI_t (nbB_iff.mpr ?_)).symm
                     first | exact Or.inl (Or.inl ⟨by omega, by assumption⟩) | exact Or.inl (Or.inr ⟨by omega, by assumption⟩) | exact Or.inr (Or.inl ⟨by omega, by assumption⟩) | exact Or.inr (Or.inr ⟨by omega, by assumption⟩))
                  | (refine (bI_f (fun q => ?_)).symm
                     rcases nbB_iff.mp q with (⟨q, w⟩ | ⟨q, w⟩) | ⟨q, w⟩ | ⟨q, w⟩ <;> first | omega | exact absurd w (by assumption))
          · refine y_aload_n hC dX6_hasMarkedNeighbour_60 (i := 0) rfl rfl ?_
            refine y_get hC fX6_38 dX6_hasMarkedNeighbour_61 (k := 0) (by omega) hM.a0 rfl ?_
            refine y_iload_n hC dX6_hasMarkedNeighbour_64 (i := 1) rfl rfl ?_
            refine y_iconst (v := nI 1) hC dX6_hasMarkedNeighbour_65 (by decide) ?_
            refine y_isub_n hC dX6_hasMarkedNeighbour_66 (by omega) ?_
            refine y_zald hC dX6_hasMarkedNeighbour_67 (k := 10) (j := j - (1)) (by omega) hM.a10 (rfl) (by omega) (by decide) ?_
            refine y_top (y := bI (A (j - (1)) = true)) (hI (j - 1) (by omega)) ?_
            refine y_if_ne_b (tgt := 88) hC dX6_hasMarkedNeighbour_68 (by decide) (fun c_68 => ?_) (fun c_68 => ?_)
            · refine y_iconst (v := nI 1) hC dX6_hasMarkedNeighbour_88 (by decide) ?_
              refine y_goto (tgt := 93) hC dX6_hasMarkedNeighbour_89 (by decide) ?_
              refine y_zret (hrt := rfl) (hn := rfl) (hC := hC) (hd := dX6_hasMarkedNeighbour_93) (hq := ?_)
              refine ⟨?_, rfl⟩
              first
                | (exfalso; omega)
                | (refine (bI_t (nbB_iff.mpr ?_)).symm
                   first | exact Or.inl (Or.inl ⟨by omega, by assumption⟩) | exact Or.inl (Or.inr ⟨by omega, by assumption⟩) | exact Or.inr (Or.inl ⟨by omega, by assumption⟩) | exact Or.inr (Or.inr ⟨by omega, by assumption⟩))
                | (refine (bI_f (fun q => ?_)).symm
                   rcases nbB_iff.mp q with (⟨q, w⟩ | ⟨q, w⟩) | ⟨q, w⟩ | ⟨q, w⟩ <;> first | omega | exact absurd w (by assumption))
            · refine y_iload_n hC dX6_hasMarkedNeighbour_71 (i := 3) rfl rfl ?_
              refine y_bipush (v := nI 7) hC dX6_hasMarkedNeighbour_72 (by decide) ?_
              refine y_icmp_ge_n (tgt := 92) hC dX6_hasMarkedNeighbour_74 (by decide) (by omega) (by omega) (fun c_74 => ?_) (fun c_74 => ?_)
              · refine y_iconst (v := nI 0) hC dX6_hasMarkedNeighbour_92 (by decide) ?_
                refine y_zret (hrt := rfl) (hn := rfl) (hC := hC) (hd := dX6_hasMarkedNeighbour_93) (hq := ?_)
                refine ⟨?_, rfl⟩
                first
                  | (exfalso; omega)
                  | (refine (bI_t (nbB_iff.mpr ?_)).symm
                     first | exact Or.inl (Or.inl ⟨by omega, by assumption⟩) | exact Or.inl (Or.inr ⟨by omega, by assumption⟩) | exact Or.inr (Or.inl ⟨by omega, by assumption⟩) | exact Or.inr (Or.inr ⟨by omega, by assumption⟩))
                  | (refine (bI_f (fun q => ?_)).symm
                     rcases nbB_iff.mp q with (⟨q, w⟩ | ⟨q, w⟩) | ⟨q, w⟩ | ⟨q, w⟩ <;> first | omega | exact absurd w (by assumption))
              · refine y_aload_n hC dX6_hasMarkedNeighbour_77 (i := 0) rfl rfl ?_
                refine y_get hC fX6_38 dX6_hasMarkedNeighbour_78 (k := 0) (by omega) hM.a0 rfl ?_
                refine y_iload_n hC dX6_hasMarkedNeighbour_81 (i := 1) rfl rfl ?_
                refine y_iconst (v := nI 1) hC dX6_hasMarkedNeighbour_82 (by decide) ?_
                refine y_iadd_n hC dX6_hasMarkedNeighbour_83 ?_
                refine y_zald hC dX6_hasMarkedNeighbour_84 (k := 10) (j := j + 1) (by omega) hM.a10 (rfl) (by omega) (by decide) ?_
                refine y_top (y := bI (A (j + 1) = true)) (hI (j + 1) (by omega)) ?_
                refine y_if_eq_b (tgt := 92) hC dX6_hasMarkedNeighbour_85 (by decide) (fun c_85 => ?_) (fun c_85 => ?_)
                · refine y_iconst (v := nI 0) hC dX6_hasMarkedNeighbour_92 (by decide) ?_
                  refine y_zret (hrt := rfl) (hn := rfl) (hC := hC) (hd := dX6_hasMarkedNeighbour_93) (hq := ?_)
                  refine ⟨?_, rfl⟩
                  first
                    | (exfalso; omega)
                    | (refine (bI_t (nbB_iff.mpr ?_)).symm
                       first | exact Or.inl (Or.inl ⟨by omega, by assumption⟩) | exact Or.inl (Or.inr ⟨by omega, by assumption⟩) | exact Or.inr (Or.inl ⟨by omega, by assumption⟩) | exact Or.inr (Or.inr ⟨by omega, by assumption⟩))
                    | (refine (bI_f (fun q => ?_)).symm
                       rcases nbB_iff.mp q with (⟨q, w⟩ | ⟨q, w⟩) | ⟨q, w⟩ | ⟨q, w⟩ <;> first | omega | exact absurd w (by assumption))
                · refine y_iconst (v := nI 1) hC dX6_hasMarkedNeighbour_88 (by decide) ?_
                  refine y_goto (tgt := 93) hC dX6_hasMarkedNeighbour_89 (by decide) ?_
                  refine y_zret (hrt := rfl) (hn := rfl) (hC := hC) (hd := dX6_hasMarkedNeighbour_93) (hq := ?_)
                  refine ⟨?_, rfl⟩
                  first
                    | (exfalso; omega)
                    | (refine (bI_t (nbB_iff.mpr ?_)).symm
                       first | exact Or.inl (Or.inl ⟨by omega, by assumption⟩) | exact Or.inl (Or.inr ⟨by omega, by assumption⟩) | exact Or.inr (Or.inl ⟨by omega, by assumption⟩) | exact Or.inr (Or.inr ⟨by omega, by assumption⟩))
                    | (refine (bI_f (fun q => ?_)).symm
                       rcases nbB_iff.mp q with (⟨q, w⟩ | ⟨q, w⟩) | ⟨q, w⟩ | ⟨q, w⟩ <;> first | omega | exact absurd w (by assumption))
      · refine y_iconst (v := nI 1) hC dX6_hasMarkedNeighbour_44 (by decide) ?_
        refine y_goto (tgt := 49) hC dX6_hasMarkedNeighbour_45 (by decide) ?_
        refine y_istore hC dX6_hasMarkedNeighbour_49 (Nat.le_of_ble_eq_true rfl) rfl (lo' := [some (rf E (0)), some (.int (nI (j))), some (.int (nI ((j) / (8)))), some (.int (nI ((j) % (8)))), some (.int (nI (1)))]) rfl ?_
        refine y_iload hC dX6_hasMarkedNeighbour_51 rfl ?_
        refine y_if_ne_n (tgt := 88) hC dX6_hasMarkedNeighbour_53 (by decide) (by omega) (fun c_53 => ?_) (fun c_53 => ?_)
        · refine y_iconst (v := nI 1) hC dX6_hasMarkedNeighbour_88 (by decide) ?_
          refine y_goto (tgt := 93) hC dX6_hasMarkedNeighbour_89 (by decide) ?_
          refine y_zret (hrt := rfl) (hn := rfl) (hC := hC) (hd := dX6_hasMarkedNeighbour_93) (hq := ?_)
          refine ⟨?_, rfl⟩
          first
            | (exfalso; omega)
            | (refine (bI_t (nbB_iff.mpr ?_)).symm
               first | exact Or.inl (Or.inl ⟨by omega, by assumption⟩) | exact Or.inl (Or.inr ⟨by omega, by assumption⟩) | exact Or.inr (Or.inl ⟨by omega, by assumption⟩) | exact Or.inr (Or.inr ⟨by omega, by assumption⟩))
            | (refine (bI_f (fun q => ?_)).symm
               rcases nbB_iff.mp q with (⟨q, w⟩ | ⟨q, w⟩) | ⟨q, w⟩ | ⟨q, w⟩ <;> first | omega | exact absurd w (by assumption))
        · refine y_iload_n hC dX6_hasMarkedNeighbour_56 (i := 3) rfl rfl ?_
          refine y_if_le_n (tgt := 71) hC dX6_hasMarkedNeighbour_57 (by decide) (by omega) (fun c_57 => ?_) (fun c_57 => ?_)
          · refine y_iload_n hC dX6_hasMarkedNeighbour_71 (i := 3) rfl rfl ?_
            refine y_bipush (v := nI 7) hC dX6_hasMarkedNeighbour_72 (by decide) ?_
            refine y_icmp_ge_n (tgt := 92) hC dX6_hasMarkedNeighbour_74 (by decide) (by omega) (by omega) (fun c_74 => ?_) (fun c_74 => ?_)
            · refine y_iconst (v := nI 0) hC dX6_hasMarkedNeighbour_92 (by decide) ?_
              refine y_zret (hrt := rfl) (hn := rfl) (hC := hC) (hd := dX6_hasMarkedNeighbour_93) (hq := ?_)
              refine ⟨?_, rfl⟩
              first
                | (exfalso; omega)
                | (refine (bI_t (nbB_iff.mpr ?_)).symm
                   first | exact Or.inl (Or.inl ⟨by omega, by assumption⟩) | exact Or.inl (Or.inr ⟨by omega, by assumption⟩) | exact Or.inr (Or.inl ⟨by omega, by assumption⟩) | exact Or.inr (Or.inr ⟨by omega, by assumption⟩))
                | (refine (bI_f (fun q => ?_)).symm
                   rcases nbB_iff.mp q with (⟨q, w⟩ | ⟨q, w⟩) | ⟨q, w⟩ | ⟨q, w⟩ <;> first | omega | exact absurd w (by assumption))
            · refine y_aload_n hC dX6_hasMarkedNeighbour_77 (i := 0) rfl rfl ?_
              refine y_get hC fX6_38 dX6_hasMarkedNeighbour_78 (k := 0) (by omega) hM.a0 rfl ?_
              refine y_iload_n hC dX6_hasMarkedNeighbour_81 (i := 1) rfl rfl ?_
              refine y_iconst (v := nI 1) hC dX6_hasMarkedNeighbour_82 (by decide) ?_
              refine y_iadd_n hC dX6_hasMarkedNeighbour_83 ?_
              refine y_zald hC dX6_hasMarkedNeighbour_84 (k := 10) (j := j + 1) (by omega) hM.a10 (rfl) (by omega) (by decide) ?_
              refine y_top (y := bI (A (j + 1) = true)) (hI (j + 1) (by omega)) ?_
              refine y_if_eq_b (tgt := 92) hC dX6_hasMarkedNeighbour_85 (by decide) (fun c_85 => ?_) (fun c_85 => ?_)
              · refine y_iconst (v := nI 0) hC dX6_hasMarkedNeighbour_92 (by decide) ?_
                refine y_zret (hrt := rfl) (hn := rfl) (hC := hC) (hd := dX6_hasMarkedNeighbour_93) (hq := ?_)
                refine ⟨?_, rfl⟩
                first
                  | (exfalso; omega)
                  | (refine (bI_t (nbB_iff.mpr ?_)).symm
                     first | exact Or.inl (Or.inl ⟨by omega, by assumption⟩) | exact Or.inl (Or.inr ⟨by omega, by assumption⟩) | exact Or.inr (Or.inl ⟨by omega, by assumption⟩) | exact Or.inr (Or.inr ⟨by omega, by assumption⟩))
                  | (refine (bI_f (fun q => ?_)).symm
                     rcases nbB_iff.mp q with (⟨q, w⟩ | ⟨q, w⟩) | ⟨q, w⟩ | ⟨q, w⟩ <;> first | omega | exact absurd w (by assumption))
              · refine y_iconst (v := nI 1) hC dX6_hasMarkedNeighbour_88 (by decide) ?_
                refine y_goto (tgt := 93) hC dX6_hasMarkedNeighbour_89 (by decide) ?_
                refine y_zret (hrt := rfl) (hn := rfl) (hC := hC) (hd := dX6_hasMarkedNeighbour_93) (hq := ?_)
                refine ⟨?_, rfl⟩
                first
                  | (exfalso; omega)
                  | (refine (bI_t (nbB_iff.mpr ?_)).symm
                     first | exact Or.inl (Or.inl ⟨by omega, by assumption⟩) | exact Or.inl (Or.inr ⟨by omega, by assumption⟩) | exact Or.inr (Or.inl ⟨by omega, by assumption⟩) | exact Or.inr (Or.inr ⟨by omega, by assumption⟩))
                  | (refine (bI_f (fun q => ?_)).symm
                     rcases nbB_iff.mp q with (⟨q, w⟩ | ⟨q, w⟩) | ⟨q, w⟩ | ⟨q, w⟩ <;> first | omega | exact absurd w (by assumption))
          · refine y_aload_n hC dX6_hasMarkedNeighbour_60 (i := 0) rfl rfl ?_
            refine y_get hC fX6_38 dX6_hasMarkedNeighbour_61 (k := 0) (by omega) hM.a0 rfl ?_
            refine y_iload_n hC dX6_hasMarkedNeighbour_64 (i := 1) rfl rfl ?_
            refine y_iconst (v := nI 1) hC dX6_hasMarkedNeighbour_65 (by decide) ?_
            refine y_isub_n hC dX6_hasMarkedNeighbour_66 (by omega) ?_
            refine y_zald hC dX6_hasMarkedNeighbour_67 (k := 10) (j := j - (1)) (by omega) hM.a10 (rfl) (by omega) (by decide) ?_
            refine y_top (y := bI (A (j - (1)) = true)) (hI (j - 1) (by omega)) ?_
            refine y_if_ne_b (tgt := 88) hC dX6_hasMarkedNeighbour_68 (by decide) (fun c_68 => ?_) (fun c_68 => ?_)
            · refine y_iconst (v := nI 1) hC dX6_hasMarkedNeighbour_88 (by decide) ?_
              refine y_goto (tgt := 93) hC dX6_hasMarkedNeighbour_89 (by decide) ?_
              refine y_zret (hrt := rfl) (hn := rfl) (hC := hC) (hd := dX6_hasMarkedNeighbour_93) (hq := ?_)
              refine ⟨?_, rfl⟩
              first
                | (exfalso; omega)
                | (refine (bI_t (nbB_iff.mpr ?_)).symm
                   first | exact Or.inl (Or.inl ⟨by omega, by assumption⟩) | exact Or.inl (Or.inr ⟨by omega, by assumption⟩) | exact Or.inr (Or.inl ⟨by omega, by assumption⟩) | exact Or.inr (Or.inr ⟨by omega, by assumption⟩))
                | (refine (bI_f (fun q => ?_)).symm
                   rcases nbB_iff.mp q with (⟨q, w⟩ | ⟨q, w⟩) | ⟨q, w⟩ | ⟨q, w⟩ <;> first | omega | exact absurd w (by assumption))
            · refine y_iload_n hC dX6_hasMarkedNeighbour_71 (i := 3) rfl rfl ?_
              refine y_bipush (v := nI 7) hC dX6_hasMarkedNeighbour_72 (by decide) ?_
              refine y_icmp_ge_n (tgt := 92) hC dX6_hasMarkedNeighbour_74 (by decide) (by omega) (by omega) (fun c_74 => ?_) (fun c_74 => ?_)
              · refine y_iconst (v := nI 0) hC dX6_hasMarkedNeighbour_92 (by decide) ?_
                refine y_zret (hrt := rfl) (hn := rfl) (hC := hC) (hd := dX6_hasMarkedNeighbour_93) (hq := ?_)
                refine ⟨?_, rfl⟩
                first
                  | (exfalso; omega)
                  | (refine (bI_t (nbB_iff.mpr ?_)).symm
                     first | exact Or.inl (Or.inl ⟨by omega, by assumption⟩) | exact Or.inl (Or.inr ⟨by omega, by assumption⟩) | exact Or.inr (Or.inl ⟨by omega, by assumption⟩) | exact Or.inr (Or.inr ⟨by omega, by assumption⟩))
                  | (refine (bI_f (fun q => ?_)).symm
                     rcases nbB_iff.mp q with (⟨q, w⟩ | ⟨q, w⟩) | ⟨q, w⟩ | ⟨q, w⟩ <;> first | omega | exact absurd w (by assumption))
              · refine y_aload_n hC dX6_hasMarkedNeighbour_77 (i := 0) rfl rfl ?_
                refine y_get hC fX6_38 dX6_hasMarkedNeighbour_78 (k := 0) (by omega) hM.a0 rfl ?_
                refine y_iload_n hC dX6_hasMarkedNeighbour_81 (i := 1) rfl rfl ?_
                refine y_iconst (v := nI 1) hC dX6_hasMarkedNeighbour_82 (by decide) ?_
                refine y_iadd_n hC dX6_hasMarkedNeighbour_83 ?_
                refine y_zald hC dX6_hasMarkedNeighbour_84 (k := 10) (j := j + 1) (by omega) hM.a10 (rfl) (by omega) (by decide) ?_
                refine y_top (y := bI (A (j + 1) = true)) (hI (j + 1) (by omega)) ?_
                refine y_if_eq_b (tgt := 92) hC dX6_hasMarkedNeighbour_85 (by decide) (fun c_85 => ?_) (fun c_85 => ?_)
                · refine y_iconst (v := nI 0) hC dX6_hasMarkedNeighbour_92 (by decide) ?_
                  refine y_zret (hrt := rfl) (hn := rfl) (hC := hC) (hd := dX6_hasMarkedNeighbour_93) (hq := ?_)
                  refine ⟨?_, rfl⟩
                  first
                    | (exfalso; omega)
                    | (refine (bI_t (nbB_iff.mpr ?_)).symm
                       first | exact Or.inl (Or.inl ⟨by omega, by assumption⟩) | exact Or.inl (Or.inr ⟨by omega, by assumption⟩) | exact Or.inr (Or.inl ⟨by omega, by assumption⟩) | exact Or.inr (Or.inr ⟨by omega, by assumption⟩))
                    | (refine (bI_f (fun q => ?_)).symm
                       rcases nbB_iff.mp q with (⟨q, w⟩ | ⟨q, w⟩) | ⟨q, w⟩ | ⟨q, w⟩ <;> first | omega | exact absurd w (by assumption))
                · refine y_iconst (v := nI 1) hC dX6_hasMarkedNeighbour_88 (by decide) ?_
                  refine y_goto (tgt := 93) hC dX6_hasMarkedNeighbour_89 (by decide) ?_
                  refine y_zret (hrt := rfl) (hn := rfl) (hC := hC) (hd := dX6_hasMarkedNeighbour_93) (hq := ?_)
                  refine ⟨?_, rfl⟩
                  first
                    | (exfalso; omega)
                    | (refine (bI_t (nbB_iff.mpr ?_)).symm
                       first | exact Or.inl (Or.inl ⟨by omega, by assumption⟩) | exact Or.inl (Or.inr ⟨by omega, by assumption⟩) | exact Or.inr (Or.inl ⟨by omega, by assumption⟩) | exact Or.inr (Or.inr ⟨by omega, by assumption⟩))
                    | (refine (bI_f (fun q => ?_)).symm
                       rcases nbB_iff.mp q with (⟨q, w⟩ | ⟨q, w⟩) | ⟨q, w⟩ | ⟨q, w⟩ <;> first | omega | exact absurd w (by assumption))
  · refine y_aload_n hC dX6_hasMarkedNeighbour_14 (i := 0) rfl rfl ?_
    refine y_get hC fX6_38 dX6_hasMarkedNeighbour_15 (k := 0) (by omega) hM.a0 rfl ?_
    refine y_iload_n hC dX6_hasMarkedNeighbour_18 (i := 1) rfl rfl ?_
    refine y_bipush (v := nI 8) hC dX6_hasMarkedNeighbour_19 (by decide) ?_
    refine y_isub_n hC dX6_hasMarkedNeighbour_21 (by omega) ?_
    refine y_zald hC dX6_hasMarkedNeighbour_22 (k := 10) (j := j - (8)) (by omega) hM.a10 (rfl) (by omega) (by decide) ?_
    refine y_top (y := bI (A (j - (8)) = true)) (hI (j - 8) (by omega)) ?_
    refine y_if_ne_b (tgt := 44) hC dX6_hasMarkedNeighbour_23 (by decide) (fun c_23 => ?_) (fun c_23 => ?_)
    · refine y_iconst (v := nI 1) hC dX6_hasMarkedNeighbour_44 (by decide) ?_
      refine y_goto (tgt := 49) hC dX6_hasMarkedNeighbour_45 (by decide) ?_
      refine y_istore hC dX6_hasMarkedNeighbour_49 (Nat.le_of_ble_eq_true rfl) rfl (lo' := [some (rf E (0)), some (.int (nI (j))), some (.int (nI ((j) / (8)))), some (.int (nI ((j) % (8)))), some (.int (nI (1)))]) rfl ?_
      refine y_iload hC dX6_hasMarkedNeighbour_51 rfl ?_
      refine y_if_ne_n (tgt := 88) hC dX6_hasMarkedNeighbour_53 (by decide) (by omega) (fun c_53 => ?_) (fun c_53 => ?_)
      · refine y_iconst (v := nI 1) hC dX6_hasMarkedNeighbour_88 (by decide) ?_
        refine y_goto (tgt := 93) hC dX6_hasMarkedNeighbour_89 (by decide) ?_
        refine y_zret (hrt := rfl) (hn := rfl) (hC := hC) (hd := dX6_hasMarkedNeighbour_93) (hq := ?_)
        refine ⟨?_, rfl⟩
        first
          | (exfalso; omega)
          | (refine (bI_t (nbB_iff.mpr ?_)).symm
             first | exact Or.inl (Or.inl ⟨by omega, by assumption⟩) | exact Or.inl (Or.inr ⟨by omega, by assumption⟩) | exact Or.inr (Or.inl ⟨by omega, by assumption⟩) | exact Or.inr (Or.inr ⟨by omega, by assumption⟩))
          | (refine (bI_f (fun q => ?_)).symm
             rcases nbB_iff.mp q with (⟨q, w⟩ | ⟨q, w⟩) | ⟨q, w⟩ | ⟨q, w⟩ <;> first | omega | exact absurd w (by assumption))
      · refine y_iload_n hC dX6_hasMarkedNeighbour_56 (i := 3) rfl rfl ?_
        refine y_if_le_n (tgt := 71) hC dX6_hasMarkedNeighbour_57 (by decide) (by omega) (fun c_57 => ?_) (fun c_57 => ?_)
        · refine y_iload_n hC dX6_hasMarkedNeighbour_71 (i := 3) rfl rfl ?_
          refine y_bipush (v := nI 7) hC dX6_hasMarkedNeighbour_72 (by decide) ?_
          refine y_icmp_ge_n (tgt := 92) hC dX6_hasMarkedNeighbour_74 (by decide) (by omega) (by omega) (fun c_74 => ?_) (fun c_74 => ?_)
          · refine y_iconst (v := nI 0) hC dX6_hasMarkedNeighbour_92 (by decide) ?_
            refine y_zret (hrt := rfl) (hn := rfl) (hC := hC) (hd := dX6_hasMarkedNeighbour_93) (hq := ?_)
            refine ⟨?_, rfl⟩
            first
              | (exfalso; omega)
              | (refine (bI_t (nbB_iff.mpr ?_)).symm
                 first | exact Or.inl (Or.inl ⟨by omega, by assumption⟩) | exact Or.inl (Or.inr ⟨by omega, by assumption⟩) | exact Or.inr (Or.inl ⟨by omega, by assumption⟩) | exact Or.inr (Or.inr ⟨by omega, by assumption⟩))
              | (refine (bI_f (fun q => ?_)).symm
                 rcases nbB_iff.mp q with (⟨q, w⟩ | ⟨q, w⟩) | ⟨q, w⟩ | ⟨q, w⟩ <;> first | omega | exact absurd w (by assumption))
          · refine y_aload_n hC dX6_hasMarkedNeighbour_77 (i := 0) rfl rfl ?_
            refine y_get hC fX6_38 dX6_hasMarkedNeighbour_78 (k := 0) (by omega) hM.a0 rfl ?_
            refine y_iload_n hC dX6_hasMarkedNeighbour_81 (i := 1) rfl rfl ?_
            refine y_iconst (v := nI 1) hC dX6_hasMarkedNeighbour_82 (by decide) ?_
            refine y_iadd_n hC dX6_hasMarkedNeighbour_83 ?_
            refine y_zald hC dX6_hasMarkedNeighbour_84 (k := 10) (j := j + 1) (by omega) hM.a10 (rfl) (by omega) (by decide) ?_
            refine y_top (y := bI (A (j + 1) = true)) (hI (j + 1) (by omega)) ?_
            refine y_if_eq_b (tgt := 92) hC dX6_hasMarkedNeighbour_85 (by decide) (fun c_85 => ?_) (fun c_85 => ?_)
            · refine y_iconst (v := nI 0) hC dX6_hasMarkedNeighbour_92 (by decide) ?_
              refine y_zret (hrt := rfl) (hn := rfl) (hC := hC) (hd := dX6_hasMarkedNeighbour_93) (hq := ?_)
              refine ⟨?_, rfl⟩
              first
                | (exfalso; omega)
                | (refine (bI_t (nbB_iff.mpr ?_)).symm
                   first | exact Or.inl (Or.inl ⟨by omega, by assumption⟩) | exact Or.inl (Or.inr ⟨by omega, by assumption⟩) | exact Or.inr (Or.inl ⟨by omega, by assumption⟩) | exact Or.inr (Or.inr ⟨by omega, by assumption⟩))
                | (refine (bI_f (fun q => ?_)).symm
                   rcases nbB_iff.mp q with (⟨q, w⟩ | ⟨q, w⟩) | ⟨q, w⟩ | ⟨q, w⟩ <;> first | omega | exact absurd w (by assumption))
            · refine y_iconst (v := nI 1) hC dX6_hasMarkedNeighbour_88 (by decide) ?_
              refine y_goto (tgt := 93) hC dX6_hasMarkedNeighbour_89 (by decide) ?_
              refine y_zret (hrt := rfl) (hn := rfl) (hC := hC) (hd := dX6_hasMarkedNeighbour_93) (hq := ?_)
              refine ⟨?_, rfl⟩
              first
                | (exfalso; omega)
                | (refine (bI_t (nbB_iff.mpr ?_)).symm
                   first | exact Or.inl (Or.inl ⟨by omega, by assumption⟩) | exact Or.inl (Or.inr ⟨by omega, by assumption⟩) | exact Or.inr (Or.inl ⟨by omega, by assumption⟩) | exact Or.inr (Or.inr ⟨by omega, by assumption⟩))
                | (refine (bI_f (fun q => ?_)).symm
                   rcases nbB_iff.mp q with (⟨q, w⟩ | ⟨q, w⟩) | ⟨q, w⟩ | ⟨q, w⟩ <;> first | omega | exact absurd w (by assumption))
        · refine y_aload_n hC dX6_hasMarkedNeighbour_60 (i := 0) rfl rfl ?_
          refine y_get hC fX6_38 dX6_hasMarkedNeighbour_61 (k := 0) (by omega) hM.a0 rfl ?_
          refine y_iload_n hC dX6_hasMarkedNeighbour_64 (i := 1) rfl rfl ?_
          refine y_iconst (v := nI 1) hC dX6_hasMarkedNeighbour_65 (by decide) ?_
          refine y_isub_n hC dX6_hasMarkedNeighbour_66 (by omega) ?_
          refine y_zald hC dX6_hasMarkedNeighbour_67 (k := 10) (j := j - (1)) (by omega) hM.a10 (rfl) (by omega) (by decide) ?_
          refine y_top (y := bI (A (j - (1)) = true)) (hI (j - 1) (by omega)) ?_
          refine y_if_ne_b (tgt := 88) hC dX6_hasMarkedNeighbour_68 (by decide) (fun c_68 => ?_) (fun c_68 => ?_)
          · refine y_iconst (v := nI 1) hC dX6_hasMarkedNeighbour_88 (by decide) ?_
            refine y_goto (tgt := 93) hC dX6_hasMarkedNeighbour_89 (by decide) ?_
            refine y_zret (hrt := rfl) (hn := rfl) (hC := hC) (hd := dX6_hasMarkedNeighbour_93) (hq := ?_)
            refine ⟨?_, rfl⟩
            first
              | (exfalso; omega)
              | (refine (bI_t (nbB_iff.mpr ?_)).symm
                 first | exact Or.inl (Or.inl ⟨by omega, by assumption⟩) | exact Or.inl (Or.inr ⟨by omega, by assumption⟩) | exact Or.inr (Or.inl ⟨by omega, by assumption⟩) | exact Or.inr (Or.inr ⟨by omega, by assumption⟩))
              | (refine (bI_f (fun q => ?_)).symm
                 rcases nbB_iff.mp q with (⟨q, w⟩ | ⟨q, w⟩) | ⟨q, w⟩ | ⟨q, w⟩ <;> first | omega | exact absurd w (by assumption))
          · refine y_iload_n hC dX6_hasMarkedNeighbour_71 (i := 3) rfl rfl ?_
            refine y_bipush (v := nI 7) hC dX6_hasMarkedNeighbour_72 (by decide) ?_
            refine y_icmp_ge_n (tgt := 92) hC dX6_hasMarkedNeighbour_74 (by decide) (by omega) (by omega) (fun c_74 => ?_) (fun c_74 => ?_)
            · refine y_iconst (v := nI 0) hC dX6_hasMarkedNeighbour_92 (by decide) ?_
              refine y_zret (hrt := rfl) (hn := rfl) (hC := hC) (hd := dX6_hasMarkedNeighbour_93) (hq := ?_)
              refine ⟨?_, rfl⟩
              first
                | (exfalso; omega)
                | (refine (bI_t (nbB_iff.mpr ?_)).symm
                   first | exact Or.inl (Or.inl ⟨by omega, by assumption⟩) | exact Or.inl (Or.inr ⟨by omega, by assumption⟩) | exact Or.inr (Or.inl ⟨by omega, by assumption⟩) | exact Or.inr (Or.inr ⟨by omega, by assumption⟩))
                | (refine (bI_f (fun q => ?_)).symm
                   rcases nbB_iff.mp q with (⟨q, w⟩ | ⟨q, w⟩) | ⟨q, w⟩ | ⟨q, w⟩ <;> first | omega | exact absurd w (by assumption))
            · refine y_aload_n hC dX6_hasMarkedNeighbour_77 (i := 0) rfl rfl ?_
              refine y_get hC fX6_38 dX6_hasMarkedNeighbour_78 (k := 0) (by omega) hM.a0 rfl ?_
              refine y_iload_n hC dX6_hasMarkedNeighbour_81 (i := 1) rfl rfl ?_
              refine y_iconst (v := nI 1) hC dX6_hasMarkedNeighbour_82 (by decide) ?_
              refine y_iadd_n hC dX6_hasMarkedNeighbour_83 ?_
              refine y_zald hC dX6_hasMarkedNeighbour_84 (k := 10) (j := j + 1) (by omega) hM.a10 (rfl) (by omega) (by decide) ?_
              refine y_top (y := bI (A (j + 1) = true)) (hI (j + 1) (by omega)) ?_
              refine y_if_eq_b (tgt := 92) hC dX6_hasMarkedNeighbour_85 (by decide) (fun c_85 => ?_) (fun c_85 => ?_)
              · refine y_iconst (v := nI 0) hC dX6_hasMarkedNeighbour_92 (by decide) ?_
                refine y_zret (hrt := rfl) (hn := rfl) (hC := hC) (hd := dX6_hasMarkedNeighbour_93) (hq := ?_)
                refine ⟨?_, rfl⟩
                first
                  | (exfalso; omega)
                  | (refine (bI_t (nbB_iff.mpr ?_)).symm
                     first | exact Or.inl (Or.inl ⟨by omega, by assumption⟩) | exact Or.inl (Or.inr ⟨by omega, by assumption⟩) | exact Or.inr (Or.inl ⟨by omega, by assumption⟩) | exact Or.inr (Or.inr ⟨by omega, by assumption⟩))
                  | (refine (bI_f (fun q => ?_)).symm
                     rcases nbB_iff.mp q with (⟨q, w⟩ | ⟨q, w⟩) | ⟨q, w⟩ | ⟨q, w⟩ <;> first | omega | exact absurd w (by assumption))
              · refine y_iconst (v := nI 1) hC dX6_hasMarkedNeighbour_88 (by decide) ?_
                refine y_goto (tgt := 93) hC dX6_hasMarkedNeighbour_89 (by decide) ?_
                refine y_zret (hrt := rfl) (hn := rfl) (hC := hC) (hd := dX6_hasMarkedNeighbour_93) (hq := ?_)
                refine ⟨?_, rfl⟩
                first
                  | (exfalso; omega)
                  | (refine (bI_t (nbB_iff.mpr ?_)).symm
                     first | exact Or.inl (Or.inl ⟨by omega, by assumption⟩) | exact Or.inl (Or.inr ⟨by omega, by assumption⟩) | exact Or.inr (Or.inl ⟨by omega, by assumption⟩) | exact Or.inr (Or.inr ⟨by omega, by assumption⟩))
                  | (refine (bI_f (fun q => ?_)).symm
                     rcases nbB_iff.mp q with (⟨q, w⟩ | ⟨q, w⟩) | ⟨q, w⟩ | ⟨q, w⟩ <;> first | omega | exact absurd w (by assumption))
    · refine y_iload_n hC dX6_hasMarkedNeighbour_26 (i := 2) rfl rfl ?_
      refine y_bipush (v := nI 7) hC dX6_hasMarkedNeighbour_27 (by decide) ?_
      refine y_icmp_ge_n (tgt := 48) hC dX6_hasMarkedNeighbour_29 (by decide) (by omega) (by omega) (fun c_29 => ?_) (fun c_29 => ?_)
      · refine y_iconst (v := nI 0) hC dX6_hasMarkedNeighbour_48 (by decide) ?_
        refine y_istore hC dX6_hasMarkedNeighbour_49 (Nat.le_of_ble_eq_true rfl) rfl (lo' := [some (rf E (0)), some (.int (nI (j))), some (.int (nI ((j) / (8)))), some (.int (nI ((j) % (8)))), some (.int (nI (0)))]) rfl ?_
        refine y_iload hC dX6_hasMarkedNeighbour_51 rfl ?_
        refine y_if_ne_n (tgt := 88) hC dX6_hasMarkedNeighbour_53 (by decide) (by omega) (fun c_53 => ?_) (fun c_53 => ?_)
        · refine y_iconst (v := nI 1) hC dX6_hasMarkedNeighbour_88 (by decide) ?_
          refine y_goto (tgt := 93) hC dX6_hasMarkedNeighbour_89 (by decide) ?_
          refine y_zret (hrt := rfl) (hn := rfl) (hC := hC) (hd := dX6_hasMarkedNeighbour_93) (hq := ?_)
          refine ⟨?_, rfl⟩
          first
            | (exfalso; omega)
            | (refine (bI_t (nbB_iff.mpr ?_)).symm
               first | exact Or.inl (Or.inl ⟨by omega, by assumption⟩) | exact Or.inl (Or.inr ⟨by omega, by assumption⟩) | exact Or.inr (Or.inl ⟨by omega, by assumption⟩) | exact Or.inr (Or.inr ⟨by omega, by assumption⟩))
            | (refine (bI_f (fun q => ?_)).symm
               rcases nbB_iff.mp q with (⟨q, w⟩ | ⟨q, w⟩) | ⟨q, w⟩ | ⟨q, w⟩ <;> first | omega | exact absurd w (by assumption))
        · refine y_iload_n hC dX6_hasMarkedNeighbour_56 (i := 3) rfl rfl ?_
          refine y_if_le_n (tgt := 71) hC dX6_hasMarkedNeighbour_57 (by decide) (by omega) (fun c_57 => ?_) (fun c_57 => ?_)
          · refine y_iload_n hC dX6_hasMarkedNeighbour_71 (i := 3) rfl rfl ?_
            refine y_bipush (v := nI 7) hC dX6_hasMarkedNeighbour_72 (by decide) ?_
            refine y_icmp_ge_n (tgt := 92) hC dX6_hasMarkedNeighbour_74 (by decide) (by omega) (by omega) (fun c_74 => ?_) (fun c_74 => ?_)
            · refine y_iconst (v := nI 0) hC dX6_hasMarkedNeighbour_92 (by decide) ?_
              refine y_zret (hrt := rfl) (hn := rfl) (hC := hC) (hd := dX6_hasMarkedNeighbour_93) (hq := ?_)
              refine ⟨?_, rfl⟩
              first
                | (exfalso; omega)
                | (refine (bI_t (nbB_iff.mpr ?_)).symm
                   first | exact Or.inl (Or.inl ⟨by omega, by assumption⟩) | exact Or.inl (Or.inr ⟨by omega, by assumption⟩) | exact Or.inr (Or.inl ⟨by omega, by assumption⟩) | exact Or.inr (Or.inr ⟨by omega, by assumption⟩))
                | (refine (bI_f (fun q => ?_)).symm
                   rcases nbB_iff.mp q with (⟨q, w⟩ | ⟨q, w⟩) | ⟨q, w⟩ | ⟨q, w⟩ <;> first | omega | exact absurd w (by assumption))
            · refine y_aload_n hC dX6_hasMarkedNeighbour_77 (i := 0) rfl rfl ?_
              refine y_get hC fX6_38 dX6_hasMarkedNeighbour_78 (k := 0) (by omega) hM.a0 rfl ?_
              refine y_iload_n hC dX6_hasMarkedNeighbour_81 (i := 1) rfl rfl ?_
              refine y_iconst (v := nI 1) hC dX6_hasMarkedNeighbour_82 (by decide) ?_
              refine y_iadd_n hC dX6_hasMarkedNeighbour_83 ?_
              refine y_zald hC dX6_hasMarkedNeighbour_84 (k := 10) (j := j + 1) (by omega) hM.a10 (rfl) (by omega) (by decide) ?_
              refine y_top (y := bI (A (j + 1) = true)) (hI (j + 1) (by omega)) ?_
              refine y_if_eq_b (tgt := 92) hC dX6_hasMarkedNeighbour_85 (by decide) (fun c_85 => ?_) (fun c_85 => ?_)
              · refine y_iconst (v := nI 0) hC dX6_hasMarkedNeighbour_92 (by decide) ?_
                refine y_zret (hrt := rfl) (hn := rfl) (hC := hC) (hd := dX6_hasMarkedNeighbour_93) (hq := ?_)
                refine ⟨?_, rfl⟩
                first
                  | (exfalso; omega)
                  | (refine (bI_t (nbB_iff.mpr ?_)).symm
                     first | exact Or.inl (Or.inl ⟨by omega, by assumption⟩) | exact Or.inl (Or.inr ⟨by omega, by assumption⟩) | exact Or.inr (Or.inl ⟨by omega, by assumption⟩) | exact Or.inr (Or.inr ⟨by omega, by assumption⟩))
                  | (refine (bI_f (fun q => ?_)).symm
                     rcases nbB_iff.mp q with (⟨q, w⟩ | ⟨q, w⟩) | ⟨q, w⟩ | ⟨q, w⟩ <;> first | omega | exact absurd w (by assumption))
              · refine y_iconst (v := nI 1) hC dX6_hasMarkedNeighbour_88 (by decide) ?_
                refine y_goto (tgt := 93) hC dX6_hasMarkedNeighbour_89 (by decide) ?_
                refine y_zret (hrt := rfl) (hn := rfl) (hC := hC) (hd := dX6_hasMarkedNeighbour_93) (hq := ?_)
                refine ⟨?_, rfl⟩
                first
                  | (exfalso; omega)
                  | (refine (bI_t (nbB_iff.mpr ?_)).symm
                     first | exact Or.inl (Or.inl ⟨by omega, by assumption⟩) | exact Or.inl (Or.inr ⟨by omega, by assumption⟩) | exact Or.inr (Or.inl ⟨by omega, by assumption⟩) | exact Or.inr (Or.inr ⟨by omega, by assumption⟩))
                  | (refine (bI_f (fun q => ?_)).symm
                     rcases nbB_iff.mp q with (⟨q, w⟩ | ⟨q, w⟩) | ⟨q, w⟩ | ⟨q, w⟩ <;> first | omega | exact absurd w (by assumption))
          · refine y_aload_n hC dX6_hasMarkedNeighbour_60 (i := 0) rfl rfl ?_
            refine y_get hC fX6_38 dX6_hasMarkedNeighbour_61 (k := 0) (by omega) hM.a0 rfl ?_
            refine y_iload_n hC dX6_hasMarkedNeighbour_64 (i := 1) rfl rfl ?_
            refine y_iconst (v := nI 1) hC dX6_hasMarkedNeighbour_65 (by decide) ?_
            refine y_isub_n hC dX6_hasMarkedNeighbour_66 (by omega) ?_
            refine y_zald hC dX6_hasMarkedNeighbour_67 (k := 10) (j := j - (1)) (by omega) hM.a10 (rfl) (by omega) (by decide) ?_
            refine y_top (y := bI (A (j - (1)) = true)) (hI (j - 1) (by omega)) ?_
            refine y_if_ne_b (tgt := 88) hC dX6_hasMarkedNeighbour_68 (by decide) (fun c_68 => ?_) (fun c_68 => ?_)
            · refine y_iconst (v := nI 1) hC dX6_hasMarkedNeighbour_88 (by decide) ?_
              refine y_goto (tgt := 93) hC dX6_hasMarkedNeighbour_89 (by decide) ?_
              refine y_zret (hrt := rfl) (hn := rfl) (hC := hC) (hd := dX6_hasMarkedNeighbour_93) (hq := ?_)
              refine ⟨?_, rfl⟩
              first
                | (exfalso; omega)
                | (refine (bI_t (nbB_iff.mpr ?_)).symm
                   first | exact Or.inl (Or.inl ⟨by omega, by assumption⟩) | exact Or.inl (Or.inr ⟨by omega, by assumption⟩) | exact Or.inr (Or.inl ⟨by omega, by assumption⟩) | exact Or.inr (Or.inr ⟨by omega, by assumption⟩))
                | (refine (bI_f (fun q => ?_)).symm
                   rcases nbB_iff.mp q with (⟨q, w⟩ | ⟨q, w⟩) | ⟨q, w⟩ | ⟨q, w⟩ <;> first | omega | exact absurd w (by assumption))
            · refine y_iload_n hC dX6_hasMarkedNeighbour_71 (i := 3) rfl rfl ?_
              refine y_bipush (v := nI 7) hC dX6_hasMarkedNeighbour_72 (by decide) ?_
              refine y_icmp_ge_n (tgt := 92) hC dX6_hasMarkedNeighbour_74 (by decide) (by omega) (by omega) (fun c_74 => ?_) (fun c_74 => ?_)
              · refine y_iconst (v := nI 0) hC dX6_hasMarkedNeighbour_92 (by decide) ?_
                refine y_zret (hrt := rfl) (hn := rfl) (hC := hC) (hd := dX6_hasMarkedNeighbour_93) (hq := ?_)
                refine ⟨?_, rfl⟩
                first
                  | (exfalso; omega)
                  | (refine (bI_t (nbB_iff.mpr ?_)).symm
                     first | exact Or.inl (Or.inl ⟨by omega, by assumption⟩) | exact Or.inl (Or.inr ⟨by omega, by assumption⟩) | exact Or.inr (Or.inl ⟨by omega, by assumption⟩) | exact Or.inr (Or.inr ⟨by omega, by assumption⟩))
                  | (refine (bI_f (fun q => ?_)).symm
                     rcases nbB_iff.mp q with (⟨q, w⟩ | ⟨q, w⟩) | ⟨q, w⟩ | ⟨q, w⟩ <;> first | omega | exact absurd w (by assumption))
              · refine y_aload_n hC dX6_hasMarkedNeighbour_77 (i := 0) rfl rfl ?_
                refine y_get hC fX6_38 dX6_hasMarkedNeighbour_78 (k := 0) (by omega) hM.a0 rfl ?_
                refine y_iload_n hC dX6_hasMarkedNeighbour_81 (i := 1) rfl rfl ?_
                refine y_iconst (v := nI 1) hC dX6_hasMarkedNeighbour_82 (by decide) ?_
                refine y_iadd_n hC dX6_hasMarkedNeighbour_83 ?_
                refine y_zald hC dX6_hasMarkedNeighbour_84 (k := 10) (j := j + 1) (by omega) hM.a10 (rfl) (by omega) (by decide) ?_
                refine y_top (y := bI (A (j + 1) = true)) (hI (j + 1) (by omega)) ?_
                refine y_if_eq_b (tgt := 92) hC dX6_hasMarkedNeighbour_85 (by decide) (fun c_85 => ?_) (fun c_85 => ?_)
                · refine y_iconst (v := nI 0) hC dX6_hasMarkedNeighbour_92 (by decide) ?_
                  refine y_zret (hrt := rfl) (hn := rfl) (hC := hC) (hd := dX6_hasMarkedNeighbour_93) (hq := ?_)
                  refine ⟨?_, rfl⟩
                  first
                    | (exfalso; omega)
                    | (refine (bI_t (nbB_iff.mpr ?_)).symm
                       first | exact Or.inl (Or.inl ⟨by omega, by assumption⟩) | exact Or.inl (Or.inr ⟨by omega, by assumption⟩) | exact Or.inr (Or.inl ⟨by omega, by assumption⟩) | exact Or.inr (Or.inr ⟨by omega, by assumption⟩))
                    | (refine (bI_f (fun q => ?_)).symm
                       rcases nbB_iff.mp q with (⟨q, w⟩ | ⟨q, w⟩) | ⟨q, w⟩ | ⟨q, w⟩ <;> first | omega | exact absurd w (by assumption))
                · refine y_iconst (v := nI 1) hC dX6_hasMarkedNeighbour_88 (by decide) ?_
                  refine y_goto (tgt := 93) hC dX6_hasMarkedNeighbour_89 (by decide) ?_
                  refine y_zret (hrt := rfl) (hn := rfl) (hC := hC) (hd := dX6_hasMarkedNeighbour_93) (hq := ?_)
                  refine ⟨?_, rfl⟩
                  first
                    | (exfalso; omega)
                    | (refine (bI_t (nbB_iff.mpr ?_)).symm
                       first | exact Or.inl (Or.inl ⟨by omega, by assumption⟩) | exact Or.inl (Or.inr ⟨by omega, by assumption⟩) | exact Or.inr (Or.inl ⟨by omega, by assumption⟩) | exact Or.inr (Or.inr ⟨by omega, by assumption⟩))
                    | (refine (bI_f (fun q => ?_)).symm
                       rcases nbB_iff.mp q with (⟨q, w⟩ | ⟨q, w⟩) | ⟨q, w⟩ | ⟨q, w⟩ <;> first | omega | exact absurd w (by assumption))
      · refine y_aload_n hC dX6_hasMarkedNeighbour_32 (i := 0) rfl rfl ?_
        refine y_get hC fX6_38 dX6_hasMarkedNeighbour_33 (k := 0) (by omega) hM.a0 rfl ?_
        refine y_iload_n hC dX6_hasMarkedNeighbour_36 (i := 1) rfl rfl ?_
        refine y_bipush (v := nI 8) hC dX6_hasMarkedNeighbour_37 (by decide) ?_
        refine y_iadd_n hC dX6_hasMarkedNeighbour_39 ?_
        refine y_zald hC dX6_hasMarkedNeighbour_40 (k := 10) (j := j + 8) (by omega) hM.a10 (rfl) (by omega) (by decide) ?_
        refine y_top (y := bI (A (j + 8) = true)) (hI (j + 8) (by omega)) ?_
        refine y_if_eq_b (tgt := 48) hC dX6_hasMarkedNeighbour_41 (by decide) (fun c_41 => ?_) (fun c_41 => ?_)
        · refine y_iconst (v := nI 0) hC dX6_hasMarkedNeighbour_48 (by decide) ?_
          refine y_istore hC dX6_hasMarkedNeighbour_49 (Nat.le_of_ble_eq_true rfl) rfl (lo' := [some (rf E (0)), some (.int (nI (j))), some (.int (nI ((j) / (8)))), some (.int (nI ((j) % (8)))), some (.int (nI (0)))]) rfl ?_
          refine y_iload hC dX6_hasMarkedNeighbour_51 rfl ?_
          refine y_if_ne_n (tgt := 88) hC dX6_hasMarkedNeighbour_53 (by decide) (by omega) (fun c_53 => ?_) (fun c_53 => ?_)
          · refine y_iconst (v := nI 1) hC dX6_hasMarkedNeighbour_88 (by decide) ?_
            refine y_goto (tgt := 93) hC dX6_hasMarkedNeighbour_89 (by decide) ?_
            refine y_zret (hrt := rfl) (hn := rfl) (hC := hC) (hd := dX6_hasMarkedNeighbour_93) (hq := ?_)
            refine ⟨?_, rfl⟩
            first
              | (exfalso; omega)
              | (refine (bI_t (nbB_iff.mpr ?_)).symm
                 first | exact Or.inl (Or.inl ⟨by omega, by assumption⟩) | exact Or.inl (Or.inr ⟨by omega, by assumption⟩) | exact Or.inr (Or.inl ⟨by omega, by assumption⟩) | exact Or.inr (Or.inr ⟨by omega, by assumption⟩))
              | (refine (bI_f (fun q => ?_)).symm
                 rcases nbB_iff.mp q with (⟨q, w⟩ | ⟨q, w⟩) | ⟨q, w⟩ | ⟨q, w⟩ <;> first | omega | exact absurd w (by assumption))
          · refine y_iload_n hC dX6_hasMarkedNeighbour_56 (i := 3) rfl rfl ?_
            refine y_if_le_n (tgt := 71) hC dX6_hasMarkedNeighbour_57 (by decide) (by omega) (fun c_57 => ?_) (fun c_57 => ?_)
            · refine y_iload_n hC dX6_hasMarkedNeighbour_71 (i := 3) rfl rfl ?_
              refine y_bipush (v := nI 7) hC dX6_hasMarkedNeighbour_72 (by decide) ?_
              refine y_icmp_ge_n (tgt := 92) hC dX6_hasMarkedNeighbour_74 (by decide) (by omega) (by omega) (fun c_74 => ?_) (fun c_74 => ?_)
              · refine y_iconst (v := nI 0) hC dX6_hasMarkedNeighbour_92 (by decide) ?_
                refine y_zret (hrt := rfl) (hn := rfl) (hC := hC) (hd := dX6_hasMarkedNeighbour_93) (hq := ?_)
                refine ⟨?_, rfl⟩
                first
                  | (exfalso; omega)
                  | (refine (bI_t (nbB_iff.mpr ?_)).symm
                     first | exact Or.inl (Or.inl ⟨by omega, by assumption⟩) | exact Or.inl (Or.inr ⟨by omega, by assumption⟩) | exact Or.inr (Or.inl ⟨by omega, by assumption⟩) | exact Or.inr (Or.inr ⟨by omega, by assumption⟩))
                  | (refine (bI_f (fun q => ?_)).symm
                     rcases nbB_iff.mp q with (⟨q, w⟩ | ⟨q, w⟩) | ⟨q, w⟩ | ⟨q, w⟩ <;> first | omega | exact absurd w (by assumption))
              · refine y_aload_n hC dX6_hasMarkedNeighbour_77 (i := 0) rfl rfl ?_
                refine y_get hC fX6_38 dX6_hasMarkedNeighbour_78 (k := 0) (by omega) hM.a0 rfl ?_
                refine y_iload_n hC dX6_hasMarkedNeighbour_81 (i := 1) rfl rfl ?_
                refine y_iconst (v := nI 1) hC dX6_hasMarkedNeighbour_82 (by decide) ?_
                refine y_iadd_n hC dX6_hasMarkedNeighbour_83 ?_
                refine y_zald hC dX6_hasMarkedNeighbour_84 (k := 10) (j := j + 1) (by omega) hM.a10 (rfl) (by omega) (by decide) ?_
                refine y_top (y := bI (A (j + 1) = true)) (hI (j + 1) (by omega)) ?_
                refine y_if_eq_b (tgt := 92) hC dX6_hasMarkedNeighbour_85 (by decide) (fun c_85 => ?_) (fun c_85 => ?_)
                · refine y_iconst (v := nI 0) hC dX6_hasMarkedNeighbour_92 (by decide) ?_
                  refine y_zret (hrt := rfl) (hn := rfl) (hC := hC) (hd := dX6_hasMarkedNeighbour_93) (hq := ?_)
                  refine ⟨?_, rfl⟩
                  first
                    | (exfalso; omega)
                    | (refine (bI_t (nbB_iff.mpr ?_)).symm
                       first | exact Or.inl (Or.inl ⟨by omega, by assumption⟩) | exact Or.inl (Or.inr ⟨by omega, by assumption⟩) | exact Or.inr (Or.inl ⟨by omega, by assumption⟩) | exact Or.inr (Or.inr ⟨by omega, by assumption⟩))
                    | (refine (bI_f (fun q => ?_)).symm
                       rcases nbB_iff.mp q with (⟨q, w⟩ | ⟨q, w⟩) | ⟨q, w⟩ | ⟨q, w⟩ <;> first | omega | exact absurd w (by assumption))
                · refine y_iconst (v := nI 1) hC dX6_hasMarkedNeighbour_88 (by decide) ?_
                  refine y_goto (tgt := 93) hC dX6_hasMarkedNeighbour_89 (by decide) ?_
                  refine y_zret (hrt := rfl) (hn := rfl) (hC := hC) (hd := dX6_hasMarkedNeighbour_93) (hq := ?_)
                  refine ⟨?_, rfl⟩
                  first
                    | (exfalso; omega)
                    | (refine (bI_t (nbB_iff.mpr ?_)).symm
                       first | exact Or.inl (Or.inl ⟨by omega, by assumption⟩) | exact Or.inl (Or.inr ⟨by omega, by assumption⟩) | exact Or.inr (Or.inl ⟨by omega, by assumption⟩) | exact Or.inr (Or.inr ⟨by omega, by assumption⟩))
                    | (refine (bI_f (fun q => ?_)).symm
                       rcases nbB_iff.mp q with (⟨q, w⟩ | ⟨q, w⟩) | ⟨q, w⟩ | ⟨q, w⟩ <;> first | omega | exact absurd w (by assumption))
            · refine y_aload_n hC dX6_hasMarkedNeighbour_60 (i := 0) rfl rfl ?_
              refine y_get hC fX6_38 dX6_hasMarkedNeighbour_61 (k := 0) (by omega) hM.a0 rfl ?_
              refine y_iload_n hC dX6_hasMarkedNeighbour_64 (i := 1) rfl rfl ?_
              refine y_iconst (v := nI 1) hC dX6_hasMarkedNeighbour_65 (by decide) ?_
              refine y_isub_n hC dX6_hasMarkedNeighbour_66 (by omega) ?_
              refine y_zald hC dX6_hasMarkedNeighbour_67 (k := 10) (j := j - (1)) (by omega) hM.a10 (rfl) (by omega) (by decide) ?_
              refine y_top (y := bI (A (j - (1)) = true)) (hI (j - 1) (by omega)) ?_
              refine y_if_ne_b (tgt := 88) hC dX6_hasMarkedNeighbour_68 (by decide) (fun c_68 => ?_) (fun c_68 => ?_)
              · refine y_iconst (v := nI 1) hC dX6_hasMarkedNeighbour_88 (by decide) ?_
                refine y_goto (tgt := 93) hC dX6_hasMarkedNeighbour_89 (by decide) ?_
                refine y_zret (hrt := rfl) (hn := rfl) (hC := hC) (hd := dX6_hasMarkedNeighbour_93) (hq := ?_)
                refine ⟨?_, rfl⟩
                first
                  | (exfalso; omega)
                  | (refine (bI_t (nbB_iff.mpr ?_)).symm
                     first | exact Or.inl (Or.inl ⟨by omega, by assumption⟩) | exact Or.inl (Or.inr ⟨by omega, by assumption⟩) | exact Or.inr (Or.inl ⟨by omega, by assumption⟩) | exact Or.inr (Or.inr ⟨by omega, by assumption⟩))
                  | (refine (bI_f (fun q => ?_)).symm
                     rcases nbB_iff.mp q with (⟨q, w⟩ | ⟨q, w⟩) | ⟨q, w⟩ | ⟨q, w⟩ <;> first | omega | exact absurd w (by assumption))
              · refine y_iload_n hC dX6_hasMarkedNeighbour_71 (i := 3) rfl rfl ?_
                refine y_bipush (v := nI 7) hC dX6_hasMarkedNeighbour_72 (by decide) ?_
                refine y_icmp_ge_n (tgt := 92) hC dX6_hasMarkedNeighbour_74 (by decide) (by omega) (by omega) (fun c_74 => ?_) (fun c_74 => ?_)
                · refine y_iconst (v := nI 0) hC dX6_hasMarkedNeighbour_92 (by decide) ?_
                  refine y_zret (hrt := rfl) (hn := rfl) (hC := hC) (hd := dX6_hasMarkedNeighbour_93) (hq := ?_)
                  refine ⟨?_, rfl⟩
                  first
                    | (exfalso; omega)
                    | (refine (bI_t (nbB_iff.mpr ?_)).symm
                       first | exact Or.inl (Or.inl ⟨by omega, by assumption⟩) | exact Or.inl (Or.inr ⟨by omega, by assumption⟩) | exact Or.inr (Or.inl ⟨by omega, by assumption⟩) | exact Or.inr (Or.inr ⟨by omega, by assumption⟩))
                    | (refine (bI_f (fun q => ?_)).symm
                       rcases nbB_iff.mp q with (⟨q, w⟩ | ⟨q, w⟩) | ⟨q, w⟩ | ⟨q, w⟩ <;> first | omega | exact absurd w (by assumption))
                · refine y_aload_n hC dX6_hasMarkedNeighbour_77 (i := 0) rfl rfl ?_
                  refine y_get hC fX6_38 dX6_hasMarkedNeighbour_78 (k := 0) (by omega) hM.a0 rfl ?_
                  refine y_iload_n hC dX6_hasMarkedNeighbour_81 (i := 1) rfl rfl ?_
                  refine y_iconst (v := nI 1) hC dX6_hasMarkedNeighbour_82 (by decide) ?_
                  refine y_iadd_n hC dX6_hasMarkedNeighbour_83 ?_
                  refine y_zald hC dX6_hasMarkedNeighbour_84 (k := 10) (j := j + 1) (by omega) hM.a10 (rfl) (by omega) (by decide) ?_
                  refine y_top (y := bI (A (j + 1) = true)) (hI (j + 1) (by omega)) ?_
                  refine y_if_eq_b (tgt := 92) hC dX6_hasMarkedNeighbour_85 (by decide) (fun c_85 => ?_) (fun c_85 => ?_)
                  · refine y_iconst (v := nI 0) hC dX6_hasMarkedNeighbour_92 (by decide) ?_
                    refine y_zret (hrt := rfl) (hn := rfl) (hC := hC) (hd := dX6_hasMarkedNeighbour_93) (hq := ?_)
                    refine ⟨?_, rfl⟩
                    first
                      | (exfalso; omega)
                      | (refine (bI_t (nbB_iff.mpr ?_)).symm
                         first | exact Or.inl (Or.inl ⟨by omega, by assumption⟩) | exact Or.inl (Or.inr ⟨by omega, by assumption⟩) | exact Or.inr (Or.inl ⟨by omega, by assumption⟩) | exact Or.inr (Or.inr ⟨by omega, by assumption⟩))
                      | (refine (bI_f (fun q => ?_)).symm
                         rcases nbB_iff.mp q with (⟨q, w⟩ | ⟨q, w⟩) | ⟨q, w⟩ | ⟨q, w⟩ <;> first | omega | exact absurd w (by assumption))
                  · refine y_iconst (v := nI 1) hC dX6_hasMarkedNeighbour_88 (by decide) ?_
                    refine y_goto (tgt := 93) hC dX6_hasMarkedNeighbour_89 (by decide) ?_
                    refine y_zret (hrt := rfl) (hn := rfl) (hC := hC) (hd := dX6_hasMarkedNeighbour_93) (hq := ?_)
                    refine ⟨?_, rfl⟩
                    first
                      | (exfalso; omega)
                      | (refine (bI_t (nbB_iff.mpr ?_)).symm
                         first | exact Or.inl (Or.inl ⟨by omega, by assumption⟩) | exact Or.inl (Or.inr ⟨by omega, by assumption⟩) | exact Or.inr (Or.inl ⟨by omega, by assumption⟩) | exact Or.inr (Or.inr ⟨by omega, by assumption⟩))
                      | (refine (bI_f (fun q => ?_)).symm
                         rcases nbB_iff.mp q with (⟨q, w⟩ | ⟨q, w⟩) | ⟨q, w⟩ | ⟨q, w⟩ <;> first | omega | exact absurd w (by assumption))
        · refine y_iconst (v := nI 1) hC dX6_hasMarkedNeighbour_44 (by decide) ?_
          refine y_goto (tgt := 49) hC dX6_hasMarkedNeighbour_45 (by decide) ?_
          refine y_istore hC dX6_hasMarkedNeighbour_49 (Nat.le_of_ble_eq_true rfl) rfl (lo' := [some (rf E (0)), some (.int (nI (j))), some (.int (nI ((j) / (8)))), some (.int (nI ((j) % (8)))), some (.int (nI (1)))]) rfl ?_
          refine y_iload hC dX6_hasMarkedNeighbour_51 rfl ?_
          refine y_if_ne_n (tgt := 88) hC dX6_hasMarkedNeighbour_53 (by decide) (by omega) (fun c_53 => ?_) (fun c_53 => ?_)
          · refine y_iconst (v := nI 1) hC dX6_hasMarkedNeighbour_88 (by decide) ?_
            refine y_goto (tgt := 93) hC dX6_hasMarkedNeighbour_89 (by decide) ?_
            refine y_zret (hrt := rfl) (hn := rfl) (hC := hC) (hd := dX6_hasMarkedNeighbour_93) (hq := ?_)
            refine ⟨?_, rfl⟩
            first
              | (exfalso; omega)
              | (refine (bI_t (nbB_iff.mpr ?_)).symm
                 first | exact Or.inl (Or.inl ⟨by omega, by assumption⟩) | exact Or.inl (Or.inr ⟨by omega, by assumption⟩) | exact Or.inr (Or.inl ⟨by omega, by assumption⟩) | exact Or.inr (Or.inr ⟨by omega, by assumption⟩))
              | (refine (bI_f (fun q => ?_)).symm
                 rcases nbB_iff.mp q with (⟨q, w⟩ | ⟨q, w⟩) | ⟨q, w⟩ | ⟨q, w⟩ <;> first | omega | exact absurd w (by assumption))
          · refine y_iload_n hC dX6_hasMarkedNeighbour_56 (i := 3) rfl rfl ?_
            refine y_if_le_n (tgt := 71) hC dX6_hasMarkedNeighbour_57 (by decide) (by omega) (fun c_57 => ?_) (fun c_57 => ?_)
            · refine y_iload_n hC dX6_hasMarkedNeighbour_71 (i := 3) rfl rfl ?_
              refine y_bipush (v := nI 7) hC dX6_hasMarkedNeighbour_72 (by decide) ?_
              refine y_icmp_ge_n (tgt := 92) hC dX6_hasMarkedNeighbour_74 (by decide) (by omega) (by omega) (fun c_74 => ?_) (fun c_74 => ?_)
              · refine y_iconst (v := nI 0) hC dX6_hasMarkedNeighbour_92 (by decide) ?_
                refine y_zret (hrt := rfl) (hn := rfl) (hC := hC) (hd := dX6_hasMarkedNeighbour_93) (hq := ?_)
                refine ⟨?_, rfl⟩
                first
                  | (exfalso; omega)
                  | (refine (bI_t (nbB_iff.mpr ?_)).symm
                     first | exact Or.inl (Or.inl ⟨by omega, by assumption⟩) | exact Or.inl (Or.inr ⟨by omega, by assumption⟩) | exact Or.inr (Or.inl ⟨by omega, by assumption⟩) | exact Or.inr (Or.inr ⟨by omega, by assumption⟩))
                  | (refine (bI_f (fun q => ?_)).symm
                     rcases nbB_iff.mp q with (⟨q, w⟩ | ⟨q, w⟩) | ⟨q, w⟩ | ⟨q, w⟩ <;> first | omega | exact absurd w (by assumption))
              · refine y_aload_n hC dX6_hasMarkedNeighbour_77 (i := 0) rfl rfl ?_
                refine y_get hC fX6_38 dX6_hasMarkedNeighbour_78 (k := 0) (by omega) hM.a0 rfl ?_
                refine y_iload_n hC dX6_hasMarkedNeighbour_81 (i := 1) rfl rfl ?_
                refine y_iconst (v := nI 1) hC dX6_hasMarkedNeighbour_82 (by decide) ?_
                refine y_iadd_n hC dX6_hasMarkedNeighbour_83 ?_
                refine y_zald hC dX6_hasMarkedNeighbour_84 (k := 10) (j := j + 1) (by omega) hM.a10 (rfl) (by omega) (by decide) ?_
                refine y_top (y := bI (A (j + 1) = true)) (hI (j + 1) (by omega)) ?_
                refine y_if_eq_b (tgt := 92) hC dX6_hasMarkedNeighbour_85 (by decide) (fun c_85 => ?_) (fun c_85 => ?_)
                · refine y_iconst (v := nI 0) hC dX6_hasMarkedNeighbour_92 (by decide) ?_
                  refine y_zret (hrt := rfl) (hn := rfl) (hC := hC) (hd := dX6_hasMarkedNeighbour_93) (hq := ?_)
                  refine ⟨?_, rfl⟩
                  first
                    | (exfalso; omega)
                    | (refine (bI_t (nbB_iff.mpr ?_)).symm
                       first | exact Or.inl (Or.inl ⟨by omega, by assumption⟩) | exact Or.inl (Or.inr ⟨by omega, by assumption⟩) | exact Or.inr (Or.inl ⟨by omega, by assumption⟩) | exact Or.inr (Or.inr ⟨by omega, by assumption⟩))
                    | (refine (bI_f (fun q => ?_)).symm
                       rcases nbB_iff.mp q with (⟨q, w⟩ | ⟨q, w⟩) | ⟨q, w⟩ | ⟨q, w⟩ <;> first | omega | exact absurd w (by assumption))
                · refine y_iconst (v := nI 1) hC dX6_hasMarkedNeighbour_88 (by decide) ?_
                  refine y_goto (tgt := 93) hC dX6_hasMarkedNeighbour_89 (by decide) ?_
                  refine y_zret (hrt := rfl) (hn := rfl) (hC := hC) (hd := dX6_hasMarkedNeighbour_93) (hq := ?_)
                  refine ⟨?_, rfl⟩
                  first
                    | (exfalso; omega)
                    | (refine (bI_t (nbB_iff.mpr ?_)).symm
                       first | exact Or.inl (Or.inl ⟨by omega, by assumption⟩) | exact Or.inl (Or.inr ⟨by omega, by assumption⟩) | exact Or.inr (Or.inl ⟨by omega, by assumption⟩) | exact Or.inr (Or.inr ⟨by omega, by assumption⟩))
                    | (refine (bI_f (fun q => ?_)).symm
                       rcases nbB_iff.mp q with (⟨q, w⟩ | ⟨q, w⟩) | ⟨q, w⟩ | ⟨q, w⟩ <;> first | omega | exact absurd w (by assumption))
            · refine y_aload_n hC dX6_hasMarkedNeighbour_60 (i := 0) rfl rfl ?_
              refine y_get hC fX6_38 dX6_hasMarkedNeighbour_61 (k := 0) (by omega) hM.a0 rfl ?_
              refine y_iload_n hC dX6_hasMarkedNeighbour_64 (i := 1) rfl rfl ?_
              refine y_iconst (v := nI 1) hC dX6_hasMarkedNeighbour_65 (by decide) ?_
              refine y_isub_n hC dX6_hasMarkedNeighbour_66 (by omega) ?_
              refine y_zald hC dX6_hasMarkedNeighbour_67 (k := 10) (j := j - (1)) (by omega) hM.a10 (rfl) (by omega) (by decide) ?_
              refine y_top (y := bI (A (j - (1)) = true)) (hI (j - 1) (by omega)) ?_
              refine y_if_ne_b (tgt := 88) hC dX6_hasMarkedNeighbour_68 (by decide) (fun c_68 => ?_) (fun c_68 => ?_)
              · refine y_iconst (v := nI 1) hC dX6_hasMarkedNeighbour_88 (by decide) ?_
                refine y_goto (tgt := 93) hC dX6_hasMarkedNeighbour_89 (by decide) ?_
                refine y_zret (hrt := rfl) (hn := rfl) (hC := hC) (hd := dX6_hasMarkedNeighbour_93) (hq := ?_)
                refine ⟨?_, rfl⟩
                first
                  | (exfalso; omega)
                  | (refine (bI_t (nbB_iff.mpr ?_)).symm
                     first | exact Or.inl (Or.inl ⟨by omega, by assumption⟩) | exact Or.inl (Or.inr ⟨by omega, by assumption⟩) | exact Or.inr (Or.inl ⟨by omega, by assumption⟩) | exact Or.inr (Or.inr ⟨by omega, by assumption⟩))
                  | (refine (bI_f (fun q => ?_)).symm
                     rcases nbB_iff.mp q with (⟨q, w⟩ | ⟨q, w⟩) | ⟨q, w⟩ | ⟨q, w⟩ <;> first | omega | exact absurd w (by assumption))
              · refine y_iload_n hC dX6_hasMarkedNeighbour_71 (i := 3) rfl rfl ?_
                refine y_bipush (v := nI 7) hC dX6_hasMarkedNeighbour_72 (by decide) ?_
                refine y_icmp_ge_n (tgt := 92) hC dX6_hasMarkedNeighbour_74 (by decide) (by omega) (by omega) (fun c_74 => ?_) (fun c_74 => ?_)
                · refine y_iconst (v := nI 0) hC dX6_hasMarkedNeighbour_92 (by decide) ?_
                  refine y_zret (hrt := rfl) (hn := rfl) (hC := hC) (hd := dX6_hasMarkedNeighbour_93) (hq := ?_)
                  refine ⟨?_, rfl⟩
                  first
                    | (exfalso; omega)
                    | (refine (bI_t (nbB_iff.mpr ?_)).symm
                       first | exact Or.inl (Or.inl ⟨by omega, by assumption⟩) | exact Or.inl (Or.inr ⟨by omega, by assumption⟩) | exact Or.inr (Or.inl ⟨by omega, by assumption⟩) | exact Or.inr (Or.inr ⟨by omega, by assumption⟩))
                    | (refine (bI_f (fun q => ?_)).symm
                       rcases nbB_iff.mp q with (⟨q, w⟩ | ⟨q, w⟩) | ⟨q, w⟩ | ⟨q, w⟩ <;> first | omega | exact absurd w (by assumption))
                · refine y_aload_n hC dX6_hasMarkedNeighbour_77 (i := 0) rfl rfl ?_
                  refine y_get hC fX6_38 dX6_hasMarkedNeighbour_78 (k := 0) (by omega) hM.a0 rfl ?_
                  refine y_iload_n hC dX6_hasMarkedNeighbour_81 (i := 1) rfl rfl ?_
                  refine y_iconst (v := nI 1) hC dX6_hasMarkedNeighbour_82 (by decide) ?_
                  refine y_iadd_n hC dX6_hasMarkedNeighbour_83 ?_
                  refine y_zald hC dX6_hasMarkedNeighbour_84 (k := 10) (j := j + 1) (by omega) hM.a10 (rfl) (by omega) (by decide) ?_
                  refine y_top (y := bI (A (j + 1) = true)) (hI (j + 1) (by omega)) ?_
                  refine y_if_eq_b (tgt := 92) hC dX6_hasMarkedNeighbour_85 (by decide) (fun c_85 => ?_) (fun c_85 => ?_)
                  · refine y_iconst (v := nI 0) hC dX6_hasMarkedNeighbour_92 (by decide) ?_
                    refine y_zret (hrt := rfl) (hn := rfl) (hC := hC) (hd := dX6_hasMarkedNeighbour_93) (hq := ?_)
                    refine ⟨?_, rfl⟩
                    first
                      | (exfalso; omega)
                      | (refine (bI_t (nbB_iff.mpr ?_)).symm
                         first | exact Or.inl (Or.inl ⟨by omega, by assumption⟩) | exact Or.inl (Or.inr ⟨by omega, by assumption⟩) | exact Or.inr (Or.inl ⟨by omega, by assumption⟩) | exact Or.inr (Or.inr ⟨by omega, by assumption⟩))
                      | (refine (bI_f (fun q => ?_)).symm
                         rcases nbB_iff.mp q with (⟨q, w⟩ | ⟨q, w⟩) | ⟨q, w⟩ | ⟨q, w⟩ <;> first | omega | exact absurd w (by assumption))
                  · refine y_iconst (v := nI 1) hC dX6_hasMarkedNeighbour_88 (by decide) ?_
                    refine y_goto (tgt := 93) hC dX6_hasMarkedNeighbour_89 (by decide) ?_
                    refine y_zret (hrt := rfl) (hn := rfl) (hC := hC) (hd := dX6_hasMarkedNeighbour_93) (hq := ?_)
                    refine ⟨?_, rfl⟩
                    first
                      | (exfalso; omega)
                      | (refine (bI_t (nbB_iff.mpr ?_)).symm
                         first | exact Or.inl (Or.inl ⟨by omega, by assumption⟩) | exact Or.inl (Or.inr ⟨by omega, by assumption⟩) | exact Or.inr (Or.inl ⟨by omega, by assumption⟩) | exact Or.inr (Or.inr ⟨by omega, by assumption⟩))
                      | (refine (bI_f (fun q => ?_)).symm
                         rcases nbB_iff.mp q with (⟨q, w⟩ | ⟨q, w⟩) | ⟨q, w⟩ | ⟨q, w⟩ <;> first | omega | exact absurd w (by assumption))

theorem dX6_mark_0 : decode cX6_mark 0 = .ok (.iconst 0, 1) := by decide +kernel
theorem dX6_mark_1 : decode cX6_mark 1 = .ok (.istore_n 2, 1) := by decide +kernel
theorem dX6_mark_2 : decode cX6_mark 2 = .ok (.iload_n 2, 1) := by decide +kernel
theorem dX6_mark_3 : decode cX6_mark 3 = .ok (.bipush 64, 2) := by decide +kernel
theorem dX6_mark_5 : decode cX6_mark 5 = .ok (.if_icmp .ge 25, 3) := by decide +kernel
theorem dX6_mark_8 : decode cX6_mark 8 = .ok (.aload_n 0, 1) := by decide +kernel
theorem dX6_mark_9 : decode cX6_mark 9 = .ok (.getfield 38, 3) := by decide +kernel
theorem dX6_mark_12 : decode cX6_mark 12 = .ok (.iload_n 2, 1) := by decide +kernel
theorem dX6_mark_13 : decode cX6_mark 13 = .ok (.iload_n 2, 1) := by decide +kernel
theorem dX6_mark_14 : decode cX6_mark 14 = .ok (.iload_n 1, 1) := by decide +kernel
theorem dX6_mark_15 : decode cX6_mark 15 = .ok (.if_icmp .ne 7, 3) := by decide +kernel
theorem dX6_mark_18 : decode cX6_mark 18 = .ok (.iconst 1, 1) := by decide +kernel
theorem dX6_mark_19 : decode cX6_mark 19 = .ok (.goto 4, 3) := by decide +kernel
theorem dX6_mark_22 : decode cX6_mark 22 = .ok (.iconst 0, 1) := by decide +kernel
theorem dX6_mark_23 : decode cX6_mark 23 = .ok (.bastore, 1) := by decide +kernel
theorem dX6_mark_24 : decode cX6_mark 24 = .ok (.iinc 2 1, 3) := by decide +kernel
theorem dX6_mark_27 : decode cX6_mark 27 = .ok (.goto (-25), 3) := by decide +kernel
theorem dX6_mark_30 : decode cX6_mark 30 = .ok (.iconst 1, 1) := by decide +kernel
theorem dX6_mark_31 : decode cX6_mark 31 = .ok (.istore_n 2, 1) := by decide +kernel
theorem dX6_mark_32 : decode cX6_mark 32 = .ok (.iconst 0, 1) := by decide +kernel
theorem dX6_mark_33 : decode cX6_mark 33 = .ok (.istore_n 3, 1) := by decide +kernel
theorem dX6_mark_34 : decode cX6_mark 34 = .ok (.iload_n 2, 1) := by decide +kernel
theorem dX6_mark_35 : decode cX6_mark 35 = .ok (.iload_n 3, 1) := by decide +kernel
theorem dX6_mark_36 : decode cX6_mark 36 = .ok (.if_icmp .le 112, 3) := by decide +kernel
theorem dX6_mark_39 : decode cX6_mark 39 = .ok (.iload_n 2, 1) := by decide +kernel
theorem dX6_mark_40 : decode cX6_mark 40 = .ok (.istore_n 3, 1) := by decide +kernel
theorem dX6_mark_41 : decode cX6_mark 41 = .ok (.iconst 0, 1) := by decide +kernel
theorem dX6_mark_42 : decode cX6_mark 42 = .ok (.istore 4, 2) := by decide +kernel
theorem dX6_mark_44 : decode cX6_mark 44 = .ok (.iload 4, 2) := by decide +kernel
theorem dX6_mark_46 : decode cX6_mark 46 = .ok (.bipush 64, 2) := by decide +kernel
theorem dX6_mark_48 : decode cX6_mark 48 = .ok (.if_icmp .ge 97, 3) := by decide +kernel
theorem dX6_mark_51 : decode cX6_mark 51 = .ok (.aload_n 0, 1) := by decide +kernel
theorem dX6_mark_52 : decode cX6_mark 52 = .ok (.getfield 38, 3) := by decide +kernel
theorem dX6_mark_55 : decode cX6_mark 55 = .ok (.iload 4, 2) := by decide +kernel
theorem dX6_mark_57 : decode cX6_mark 57 = .ok (.baload, 1) := by decide +kernel
theorem dX6_mark_58 : decode cX6_mark 58 = .ok (.ifCond .ne 38, 3) := by decide +kernel
theorem dX6_mark_61 : decode cX6_mark 61 = .ok (.aload_n 0, 1) := by decide +kernel
theorem dX6_mark_62 : decode cX6_mark 62 = .ok (.getfield 7, 3) := by decide +kernel
theorem dX6_mark_65 : decode cX6_mark 65 = .ok (.bipush 92, 2) := by decide +kernel
theorem dX6_mark_67 : decode cX6_mark 67 = .ok (.iload 4, 2) := by decide +kernel
theorem dX6_mark_69 : decode cX6_mark 69 = .ok (.iadd, 1) := by decide +kernel
theorem dX6_mark_70 : decode cX6_mark 70 = .ok (.iaload, 1) := by decide +kernel
theorem dX6_mark_71 : decode cX6_mark 71 = .ok (.aload_n 0, 1) := by decide +kernel
theorem dX6_mark_72 : decode cX6_mark 72 = .ok (.getfield 7, 3) := by decide +kernel
theorem dX6_mark_75 : decode cX6_mark 75 = .ok (.bipush 92, 2) := by decide +kernel
theorem dX6_mark_77 : decode cX6_mark 77 = .ok (.iload_n 1, 1) := by decide +kernel
theorem dX6_mark_78 : decode cX6_mark 78 = .ok (.iadd, 1) := by decide +kernel
theorem dX6_mark_79 : decode cX6_mark 79 = .ok (.iaload, 1) := by decide +kernel
theorem dX6_mark_80 : decode cX6_mark 80 = .ok (.if_icmp .ne 16, 3) := by decide +kernel
theorem dX6_mark_83 : decode cX6_mark 83 = .ok (.aload_n 0, 1) := by decide +kernel
theorem dX6_mark_84 : decode cX6_mark 84 = .ok (.iload 4, 2) := by decide +kernel
theorem dX6_mark_86 : decode cX6_mark 86 = .ok (.invokevirtual 198, 3) := by decide +kernel
theorem dX6_mark_89 : decode cX6_mark 89 = .ok (.ifCond .eq 7, 3) := by decide +kernel
theorem dX6_mark_92 : decode cX6_mark 92 = .ok (.iconst 1, 1) := by decide +kernel
theorem dX6_mark_93 : decode cX6_mark 93 = .ok (.goto 4, 3) := by decide +kernel
theorem dX6_mark_96 : decode cX6_mark 96 = .ok (.iconst 0, 1) := by decide +kernel
theorem dX6_mark_97 : decode cX6_mark 97 = .ok (.istore 5, 2) := by decide +kernel
theorem dX6_mark_99 : decode cX6_mark 99 = .ok (.aload_n 0, 1) := by decide +kernel
theorem dX6_mark_100 : decode cX6_mark 100 = .ok (.getfield 38, 3) := by decide +kernel
theorem dX6_mark_103 : decode cX6_mark 103 = .ok (.iload 4, 2) := by decide +kernel
theorem dX6_mark_105 : decode cX6_mark 105 = .ok (.aload_n 0, 1) := by decide +kernel
theorem dX6_mark_106 : decode cX6_mark 106 = .ok (.getfield 38, 3) := by decide +kernel
theorem dX6_mark_109 : decode cX6_mark 109 = .ok (.iload 4, 2) := by decide +kernel
theorem dX6_mark_111 : decode cX6_mark 111 = .ok (.baload, 1) := by decide +kernel
theorem dX6_mark_112 : decode cX6_mark 112 = .ok (.ifCond .ne 8, 3) := by decide +kernel
theorem dX6_mark_115 : decode cX6_mark 115 = .ok (.iload 5, 2) := by decide +kernel
theorem dX6_mark_117 : decode cX6_mark 117 = .ok (.ifCond .eq 7, 3) := by decide +kernel
theorem dX6_mark_120 : decode cX6_mark 120 = .ok (.iconst 1, 1) := by decide +kernel
theorem dX6_mark_121 : decode cX6_mark 121 = .ok (.goto 4, 3) := by decide +kernel
theorem dX6_mark_124 : decode cX6_mark 124 = .ok (.iconst 0, 1) := by decide +kernel
theorem dX6_mark_125 : decode cX6_mark 125 = .ok (.bastore, 1) := by decide +kernel
theorem dX6_mark_126 : decode cX6_mark 126 = .ok (.iload_n 2, 1) := by decide +kernel
theorem dX6_mark_127 : decode cX6_mark 127 = .ok (.iload 5, 2) := by decide +kernel
theorem dX6_mark_129 : decode cX6_mark 129 = .ok (.ifCond .eq 7, 3) := by decide +kernel
theorem dX6_mark_132 : decode cX6_mark 132 = .ok (.iconst 1, 1) := by decide +kernel
theorem dX6_mark_133 : decode cX6_mark 133 = .ok (.goto 4, 3) := by decide +kernel
theorem dX6_mark_136 : decode cX6_mark 136 = .ok (.iconst 0, 1) := by decide +kernel
theorem dX6_mark_137 : decode cX6_mark 137 = .ok (.iadd, 1) := by decide +kernel
theorem dX6_mark_138 : decode cX6_mark 138 = .ok (.istore_n 2, 1) := by decide +kernel
theorem dX6_mark_139 : decode cX6_mark 139 = .ok (.iinc 4 1, 3) := by decide +kernel
theorem dX6_mark_142 : decode cX6_mark 142 = .ok (.goto (-98), 3) := by decide +kernel
theorem dX6_mark_145 : decode cX6_mark 145 = .ok (.goto (-111), 3) := by decide +kernel
theorem dX6_mark_148 : decode cX6_mark 148 = .ok (.iload_n 2, 1) := by decide +kernel
theorem dX6_mark_149 : decode cX6_mark 149 = .ok (.ireturn, 1) := by decide +kernel
set_option maxHeartbeats 4000000 in
set_option maxRecDepth 100000 in
theorem c_X6_mark (l : Launch) (E : gE) (g : Mem) (row : Nat → Int32) (B : GB) (C : GC) (D : GD) (P : GP) (hM : MX E g row B C D P) (r : Row) (Bd : Nat) (hB : Bd < 95000000) (hR : ∀ k, k < 158 → row k = r k) (hv : Vr r Bd) (s : Nat) (hs : s < 64) : Mt l E yX6_mark cX6_mark 6 (some .int) 1 24 [rf E (0), .int (nI (s))] g (pI (fun z g' => z = nI (cn 64 (rcB r s)) ∧ ∃ im2, (∀ p, p < 64 → im2 p = bI (rcB r s p = true)) ∧ MX E g' row B (C.1, C.2.1, im2, C.2.2.2) D P)) := by
  have hK := hM.k
  have hrc : rc r ≤ 6 := hv.1.2
  have hgc : gc r ≤ 4 := hv.2.1.2
  refine mt_go (own := RX6) (by decide) rfl (lo := [some (rf E (0)), some (.int (nI (s))), none, none, none, none]) rfl (Nat.le_of_ble_eq_true rfl) (fun X hC => ?_)
  refine y_iconst (v := nI 0) hC dX6_mark_0 (by decide) ?_
  refine y_istore_n hC dX6_mark_1 (i := 2) rfl (Nat.le_of_ble_eq_true rfl) rfl (lo' := [some (rf E (0)), some (.int (nI (s))), some (.int (nI (0))), none, none, none]) rfl ?_
  have L_2 : ∀ (m : Nat) (i : Nat) (g1 : Mem) (im1 : Nat → Int32), (hm : 64 - i < m) → (hi : i ≤ 64) → (hM1 : MX E g1 row B (C.1, C.2.1, im1, C.2.2.2) D P) → (hI : ∀ p, p < i → im1 p = bI (decide (p = s) = true)) → Y l E X (pI (fun z g' => z = nI (cn 64 (rcB r s)) ∧ ∃ im2, (∀ p, p < 64 → im2 p = bI (rcB r s p = true)) ∧ MX E g' row B (C.1, C.2.1, im2, C.2.2.2) D P)) 2 [some (rf E (0)), some (.int (nI (s))), some (.int (nI (i))), none, none, none] [] g1 := by
    intro m
    induction m with
    | zero => intro i g1 im1 hm hi hM1 hI; exact absurd hm (Nat.not_lt_zero _)
    | succ m ih_2 =>
      intro i g1 im1 hm hi hM1 hI
      refine y_iload_n hC dX6_mark_2 (i := 2) rfl rfl ?_
      refine y_bipush (v := nI 64) hC dX6_mark_3 (by decide) ?_
      refine y_icmp_ge_n (tgt := 30) hC dX6_mark_5 (by decide) (by omega) (by omega) (fun c_5 => ?_) (fun c_5 => ?_)
      · refine y_iconst (v := nI 1) hC dX6_mark_30 (by decide) ?_
        refine y_istore_n hC dX6_mark_31 (i := 2) rfl (Nat.le_of_ble_eq_true rfl) rfl (lo' := [some (rf E (0)), some (.int (nI (s))), some (.int (nI (1))), none, none, none]) rfl ?_
        refine y_iconst (v := nI 0) hC dX6_mark_32 (by decide) ?_
        refine y_istore_n hC dX6_mark_33 (i := 3) rfl (Nat.le_of_ble_eq_true rfl) rfl (lo' := [some (rf E (0)), some (.int (nI (s))), some (.int (nI (1))), some (.int (nI (0))), none, none]) rfl ?_
        have hc0 : 1 = cn 64 (fun p => decide (p = s)) := by
          have h1 := cn_seg (n := 64) (a := s) (c := s) hs (Nat.le_refl s)
          rw [Nat.sub_self] at h1
          exact (show 1 = 0 + 1 from rfl).trans (h1.symm.trans (cn_cg (fun k _ => decide_eq_decide.mpr (by omega))))
        have L_34 : ∀ (m : Nat) (A : Nat → Bool) (b c : Nat) (g1 : Mem) (im1 : Nat → Int32), (hm : 65 - b < m) → (hM1 : MX E g1 row B (C.1, C.2.1, im1, C.2.2.2) D P) → (hI : ∀ p, p < 64 → im1 p = bI (A p = true)) → (hc : c = cn 64 A) → (hbc : b ≤ c) → (hcl : c = b → clA r s A) → (hsub : ∀ p, p < 64 → A p = true → Rch r s p) → (hAs : A s = true) → Y l E X (pI (fun z g' => z = nI (cn 64 (rcB r s)) ∧ ∃ im2, (∀ p, p < 64 → im2 p = bI (rcB r s p = true)) ∧ MX E g' row B (C.1, C.2.1, im2, C.2.2.2) D P)) 34 [some (rf E (0)), some (.int (nI (s))), some (.int (nI (c))), some (.int (nI (b))), none, none] [] g1 := by
          intro m
          induction m with
          | zero => intro A b c g1 im1 hm hM1 hI hc hbc hcl hsub hAs; exact absurd hm (Nat.not_lt_zero _)
          | succ m ih_34 =>
            intro A b c g1 im1 hm hM1 hI hc hbc hcl hsub hAs
            refine y_iload_n hC dX6_mark_34 (i := 2) rfl rfl ?_
            refine y_iload_n hC dX6_mark_35 (i := 3) rfl rfl ?_
            have hcA0 := cn_le 64 A
            refine y_icmp_le_n (tgt := 148) hC dX6_mark_36 (by decide) (by omega) (by omega) (fun c_36 => ?_) (fun c_36 => ?_)
            · refine y_iload_n hC dX6_mark_148 (i := 2) rfl rfl ?_
              refine y_iret (hC := hC) (hd := dX6_mark_149) (hq := ?_)
              have hR2 := clA_R hs hAs hsub (hcl (by omega))
              refine ⟨congrArg nI (hc.trans (cn_cg hR2)), im1, fun p hp => ?_, hM1⟩
              rw [hI p hp, hR2 p hp]
            · refine y_iload_n hC dX6_mark_39 (i := 2) rfl rfl ?_
              refine y_istore_n hC dX6_mark_40 (i := 3) rfl (Nat.le_of_ble_eq_true rfl) rfl (lo' := [some (rf E (0)), some (.int (nI (s))), some (.int (nI (c))), some (.int (nI (c))), none, none]) rfl ?_
              refine y_iconst (v := nI 0) hC dX6_mark_41 (by decide) ?_
              refine y_istore hC dX6_mark_42 (Nat.le_of_ble_eq_true rfl) rfl (lo' := [some (rf E (0)), some (.int (nI (s))), some (.int (nI (c))), some (.int (nI (c))), some (.int (nI (0))), none]) rfl ?_
              have L_44 : ∀ (m : Nat) (i : Nat) (A1 : Nat → Bool) (c1 : Nat) (im2 : Nat → Int32) (g2 : Mem), (hm2 : 64 - i < m) → (hi2 : i ≤ 64) → (hM2 : MX E g2 row B (C.1, C.2.1, im2, C.2.2.2) D P) → (hI : ∀ p, p < 64 → im2 p = bI (A1 p = true)) → (hc1 : c1 = cn 64 A1) → (hge : c ≤ c1) → (hmon : ∀ p, p < 64 → A p = true → A1 p = true) → (hsub1 : ∀ p, p < 64 → A1 p = true → Rch r s p) → (hcl1 : c1 = c → (∀ p, p < 64 → A1 p = A p) ∧ ∀ j, j < i → A j = false → px r j = px r s → nbB A j = false) → Y l E X (pI (fun z g' => z = nI (cn 64 (rcB r s)) ∧ ∃ im2, (∀ p, p < 64 → im2 p = bI (rcB r s p = true)) ∧ MX E g' row B (C.1, C.2.1, im2, C.2.2.2) D P)) 44 [some (rf E (0)), some (.int (nI (s))), some (.int (nI (c1))), some (.int (nI (c))), some (.int (nI (i))), none] [] g2 := by
                intro m
                induction m with
                | zero => intro i A1 c1 im2 g2 hm2 hi2 hM2 hI hc1 hge hmon hsub1 hcl1; exact absurd hm2 (Nat.not_lt_zero _)
                | succ m ih_44 =>
                  intro i A1 c1 im2 g2 hm2 hi2 hM2 hI hc1 hge hmon hsub1 hcl1
                  refine y_iload hC dX6_mark_44 rfl ?_
                  refine y_bipush (v := nI 64) hC dX6_mark_46 (by decide) ?_
                  refine y_icmp_ge_n (tgt := 145) hC dX6_mark_48 (by decide) (by omega) (by omega) (fun c_48 => ?_) (fun c_48 => ?_)
                  · refine y_goto (tgt := 34) hC dX6_mark_145 (by decide) ?_
                    refine y_fg 4 (lo' := [some (rf E (0)), some (.int (nI (s))), some (.int (nI (c1))), some (.int (nI (c))), none, none]) rfl ?_
                    have hcA := cn_le 64 A
                    have hcl2 : c1 = c → clA r s A1 := fun q j hj q1 q2 => by
                      obtain ⟨hA, hB2⟩ := hcl1 q
                      rw [nbB_cg hj hA]
                      exact hB2 j (by omega) (by rw [← hA j hj]; exact q1) q2
                    exact ih_34 A1 c c1 g2 im2 (by omega) hM2 hI hc1 hge hcl2 hsub1 (hmon s hs hAs)
                  · have hcl_ := cn_le 64 A1
                    refine y_aload_n hC dX6_mark_51 (i := 0) rfl rfl ?_
                    refine y_get hC fX6_38 dX6_mark_52 (k := 0) (by omega) hM2.a0 rfl ?_
                    refine y_iload hC dX6_mark_55 rfl ?_
                    refine y_zald hC dX6_mark_57 (k := 10) (j := i) (by omega) hM2.a10 (rfl) (by omega) (by decide) ?_
                    refine y_top (y := bI (A1 (i) = true)) (hI i (by omega)) ?_
                    refine y_if_ne_b (tgt := 96) hC dX6_mark_58 (by decide) (fun c_58 => ?_) (fun c_58 => ?_)
                    · refine y_iconst (v := nI 0) hC dX6_mark_96 (by decide) ?_
                      refine y_istore hC dX6_mark_97 (Nat.le_of_ble_eq_true rfl) rfl (lo' := [some (rf E (0)), some (.int (nI (s))), some (.int (nI (c1))), some (.int (nI (c))), some (.int (nI (i))), some (.int (nI (0)))]) rfl ?_
                      refine y_aload_n hC dX6_mark_99 (i := 0) rfl rfl ?_
                      refine y_get hC fX6_38 dX6_mark_100 (k := 0) (by omega) hM2.a0 rfl ?_
                      refine y_iload hC dX6_mark_103 rfl ?_
                      refine y_aload_n hC dX6_mark_105 (i := 0) rfl rfl ?_
                      refine y_get hC fX6_38 dX6_mark_106 (k := 0) (by omega) hM2.a0 rfl ?_
                      refine y_iload hC dX6_mark_109 rfl ?_
                      refine y_zald hC dX6_mark_111 (k := 10) (j := i) (by omega) hM2.a10 (rfl) (by omega) (by decide) ?_
                      refine y_top (y := bI (A1 (i) = true)) (hI i (by omega)) ?_
                      refine y_if_ne_b (tgt := 120) hC dX6_mark_112 (by decide) (fun c_112 => ?_) (fun c_112 => ?_)
                      · refine y_iconst (v := nI 1) hC dX6_mark_120 (by decide) ?_
                        refine y_goto (tgt := 125) hC dX6_mark_121 (by decide) ?_
                        refine y_zast hC dX6_mark_125 (k := 10) (j := i) (by omega) hM2.a10 (rfl) (by omega) (by decide) (by decide) ?_
                        have hM_125 : MX E (va_up g2 (10) (aI E 2 64 (upd im2 (i) (nI (1))))) row B (C.1, C.2.1, (upd im2 (i) (nI (1))), C.2.2.2) D P := hM2.u10 _
                        generalize (va_up g2 (10) (aI E 2 64 (upd im2 (i) (nI (1))))) = g_125 at hM_125 ⊢
                        refine y_iload_n hC dX6_mark_126 (i := 2) rfl rfl ?_
                        refine y_iload hC dX6_mark_127 rfl ?_
                        refine y_if_eq_n (tgt := 136) hC dX6_mark_129 (by decide) (by omega) (fun c_129 => ?_) (fun c_129 => ?_)
                        · refine y_iconst (v := nI 0) hC dX6_mark_136 (by decide) ?_
                          refine y_iadd_n hC dX6_mark_137 ?_
                          refine y_istore_n hC dX6_mark_138 (i := 2) rfl (Nat.le_of_ble_eq_true rfl) rfl (lo' := [some (rf E (0)), some (.int (nI (s))), some (.int (nI (c1 + 0))), some (.int (nI (c))), some (.int (nI (i))), some (.int (nI (0)))]) rfl ?_
                          refine y_iinc_n hC dX6_mark_139 (a := i) (k := 1) rfl (by decide) (Nat.le_of_ble_eq_true rfl) rfl (lo' := [some (rf E (0)), some (.int (nI (s))), some (.int (nI (c1 + 0))), some (.int (nI (c))), some (.int (nI (i + 1))), some (.int (nI (0)))]) rfl ?_
                          refine y_goto (tgt := 44) hC dX6_mark_142 (by decide) ?_
                          refine y_fg 5 (lo' := [some (rf E (0)), some (.int (nI (s))), some (.int (nI (c1 + 0))), some (.int (nI (c))), some (.int (nI (i + 1))), none]) rfl ?_
                          exact ih_44 (i + 1) A1 (c1 + 0) (upd im2 (i) (nI (1))) g_125 (by omega) (by omega) hM_125 (fun p hp => by
                              by_cases e : p = i
                              · subst e; rw [pk_us]; first | exact (bI_t c_112).symm | exact (bI_f c_112).symm
                              · rw [pk_un e]; exact hI p hp) hc1 hge hmon hsub1 (fun q0 => by
                              obtain ⟨hA, hB2⟩ := hcl1 q0
                              refine ⟨hA, fun j hj q q2 => ?_⟩
                              by_cases e : j = i
                              · subst e; first | exact absurd q (by rw [← hA j (by omega)]; simpa using c_58) | exact absurd q2 c_80 | (rw [← nbB_cg (by omega) hA]; simpa using c_89)
                              · exact hB2 j (by omega) q q2)
                        · exfalso; omega
                      · exact absurd c_58 c_112
                    · refine y_aload_n hC dX6_mark_61 (i := 0) rfl rfl ?_
                      refine y_get hC fX6_7 dX6_mark_62 (k := 0) (by omega) hM2.a0 rfl ?_
                      refine y_bipush (v := nI 92) hC dX6_mark_65 (by decide) ?_
                      refine y_iload hC dX6_mark_67 rfl ?_
                      refine y_iadd_n hC dX6_mark_69 ?_
                      refine y_iald hC dX6_mark_70 (k := 1) (j := 92 + i) (by omega) hM2.a1 (rfl) (by omega) (by decide) ?_
                      have hpb_71 := (hv.2.2.2.2.2.2.1 (i) (by omega)).2
                      refine y_top (y := nI (px r (i))) ((hR (92 + i) (by omega)).trans (hv.2.2.2.2.2.2.1 (i) (by omega)).1) ?_
                      refine y_aload_n hC dX6_mark_71 (i := 0) rfl rfl ?_
                      refine y_get hC fX6_7 dX6_mark_72 (k := 0) (by omega) hM2.a0 rfl ?_
                      refine y_bipush (v := nI 92) hC dX6_mark_75 (by decide) ?_
                      refine y_iload_n hC dX6_mark_77 (i := 1) rfl rfl ?_
                      refine y_iadd_n hC dX6_mark_78 ?_
                      refine y_iald hC dX6_mark_79 (k := 1) (j := 92 + s) (by omega) hM2.a1 (rfl) (by omega) (by decide) ?_
                      have hpb_80 := (hv.2.2.2.2.2.2.1 (s) (by omega)).2
                      refine y_top (y := nI (px r (s))) ((hR (92 + s) (by omega)).trans (hv.2.2.2.2.2.2.1 (s) (by omega)).1) ?_
                      refine y_icmp_ne_n (tgt := 96) hC dX6_mark_80 (by decide) (by omega) (by omega) (fun c_80 => ?_) (fun c_80 => ?_)
                      · refine y_iconst (v := nI 0) hC dX6_mark_96 (by decide) ?_
                        refine y_istore hC dX6_mark_97 (Nat.le_of_ble_eq_true rfl) rfl (lo' := [some (rf E (0)), some (.int (nI (s))), some (.int (nI (c1))), some (.int (nI (c))), some (.int (nI (i))), some (.int (nI (0)))]) rfl ?_
                        refine y_aload_n hC dX6_mark_99 (i := 0) rfl rfl ?_
                        refine y_get hC fX6_38 dX6_mark_100 (k := 0) (by omega) hM2.a0 rfl ?_
                        refine y_iload hC dX6_mark_103 rfl ?_
                        refine y_aload_n hC dX6_mark_105 (i := 0) rfl rfl ?_
                        refine y_get hC fX6_38 dX6_mark_106 (k := 0) (by omega) hM2.a0 rfl ?_
                        refine y_iload hC dX6_mark_109 rfl ?_
                        refine y_zald hC dX6_mark_111 (k := 10) (j := i) (by omega) hM2.a10 (rfl) (by omega) (by decide) ?_
                        refine y_top (y := bI (A1 (i) = true)) (hI i (by omega)) ?_
                        refine y_if_ne_b (tgt := 120) hC dX6_mark_112 (by decide) (fun c_112 => ?_) (fun c_112 => ?_)
                        · exact absurd c_112 c_58
                        · refine y_iload hC dX6_mark_115 rfl ?_
                          refine y_if_eq_n (tgt := 124) hC dX6_mark_117 (by decide) (by omega) (fun c_117 => ?_) (fun c_117 => ?_)
                          · refine y_iconst (v := nI 0) hC dX6_mark_124 (by decide) ?_
                            refine y_zast hC dX6_mark_125 (k := 10) (j := i) (by omega) hM2.a10 (rfl) (by omega) (by decide) (by decide) ?_
                            have hM_125 : MX E (va_up g2 (10) (aI E 2 64 (upd im2 (i) (nI (0))))) row B (C.1, C.2.1, (upd im2 (i) (nI (0))), C.2.2.2) D P := hM2.u10 _
                            generalize (va_up g2 (10) (aI E 2 64 (upd im2 (i) (nI (0))))) = g_125 at hM_125 ⊢
                            refine y_iload_n hC dX6_mark_126 (i := 2) rfl rfl ?_
                            refine y_iload hC dX6_mark_127 rfl ?_
                            refine y_if_eq_n (tgt := 136) hC dX6_mark_129 (by decide) (by omega) (fun c_129 => ?_) (fun c_129 => ?_)
                            · refine y_iconst (v := nI 0) hC dX6_mark_136 (by decide) ?_
                              refine y_iadd_n hC dX6_mark_137 ?_
                              refine y_istore_n hC dX6_mark_138 (i := 2) rfl (Nat.le_of_ble_eq_true rfl) rfl (lo' := [some (rf E (0)), some (.int (nI (s))), some (.int (nI (c1 + 0))), some (.int (nI (c))), some (.int (nI (i))), some (.int (nI (0)))]) rfl ?_
                              refine y_iinc_n hC dX6_mark_139 (a := i) (k := 1) rfl (by decide) (Nat.le_of_ble_eq_true rfl) rfl (lo' := [some (rf E (0)), some (.int (nI (s))), some (.int (nI (c1 + 0))), some (.int (nI (c))), some (.int (nI (i + 1))), some (.int (nI (0)))]) rfl ?_
                              refine y_goto (tgt := 44) hC dX6_mark_142 (by decide) ?_
                              refine y_fg 5 (lo' := [some (rf E (0)), some (.int (nI (s))), some (.int (nI (c1 + 0))), some (.int (nI (c))), some (.int (nI (i + 1))), none]) rfl ?_
                              exact ih_44 (i + 1) A1 (c1 + 0) (upd im2 (i) (nI (0))) g_125 (by omega) (by omega) hM_125 (fun p hp => by
                                  by_cases e : p = i
                                  · subst e; rw [pk_us]; first | exact (bI_t c_112).symm | exact (bI_f c_112).symm
                                  · rw [pk_un e]; exact hI p hp) hc1 hge hmon hsub1 (fun q0 => by
                                  obtain ⟨hA, hB2⟩ := hcl1 q0
                                  refine ⟨hA, fun j hj q q2 => ?_⟩
                                  by_cases e : j = i
                                  · subst e; first | exact absurd q (by rw [← hA j (by omega)]; simpa using c_58) | exact absurd q2 c_80 | (rw [← nbB_cg (by omega) hA]; simpa using c_89)
                                  · exact hB2 j (by omega) q q2)
                            · exfalso; omega
                          · exfalso; omega
                      · refine y_aload_n hC dX6_mark_83 (i := 0) rfl rfl ?_
                        refine y_iload hC dX6_mark_84 rfl ?_
                        refine y_callV hC mX6_hasMarkedNeighbour kX6_198 dX6_mark_86 (b := 0) (As := [.int (nI (i))]) (rest := []) (c_X6_hasMarkedNeighbour l E g2 row B (C.1, C.2.1, im2, C.2.2.2) D P hM2 A1 hI i (by omega)) (by omega) hM2.a0 rfl rfl rfl (Nat.le_of_ble_eq_true rfl) ⟨Nat.le_of_ble_eq_true rfl, Nat.le_of_ble_eq_true rfl⟩ (pk_i ?_)
                        rintro r_86 g_86 ⟨hr_86, hq_86⟩
                        obtain rfl := hq_86.symm
                        rw [hr_86]
                        clear hr_86 r_86
                        refine y_if_eq_b (tgt := 96) hC dX6_mark_89 (by decide) (fun c_89 => ?_) (fun c_89 => ?_)
                        · refine y_iconst (v := nI 0) hC dX6_mark_96 (by decide) ?_
                          refine y_istore hC dX6_mark_97 (Nat.le_of_ble_eq_true rfl) rfl (lo' := [some (rf E (0)), some (.int (nI (s))), some (.int (nI (c1))), some (.int (nI (c))), some (.int (nI (i))), some (.int (nI (0)))]) rfl ?_
                          refine y_aload_n hC dX6_mark_99 (i := 0) rfl rfl ?_
                          refine y_get hC fX6_38 dX6_mark_100 (k := 0) (by omega) hM2.a0 rfl ?_
                          refine y_iload hC dX6_mark_103 rfl ?_
                          refine y_aload_n hC dX6_mark_105 (i := 0) rfl rfl ?_
                          refine y_get hC fX6_38 dX6_mark_106 (k := 0) (by omega) hM2.a0 rfl ?_
                          refine y_iload hC dX6_mark_109 rfl ?_
                          refine y_zald hC dX6_mark_111 (k := 10) (j := i) (by omega) hM2.a10 (rfl) (by omega) (by decide) ?_
                          refine y_top (y := bI (A1 (i) = true)) (hI i (by omega)) ?_
                          refine y_if_ne_b (tgt := 120) hC dX6_mark_112 (by decide) (fun c_112 => ?_) (fun c_112 => ?_)
                          · exact absurd c_112 c_58
                          · refine y_iload hC dX6_mark_115 rfl ?_
                            refine y_if_eq_n (tgt := 124) hC dX6_mark_117 (by decide) (by omega) (fun c_117 => ?_) (fun c_117 => ?_)
                            · refine y_iconst (v := nI 0) hC dX6_mark_124 (by decide) ?_
                              refine y_zast hC dX6_mark_125 (k := 10) (j := i) (by omega) hM2.a10 (rfl) (by omega) (by decide) (by decide) ?_
                              have hM_125 : MX E (va_up g2 (10) (aI E 2 64 (upd im2 (i) (nI (0))))) row B (C.1, C.2.1, (upd im2 (i) (nI (0))), C.2.2.2) D P := hM2.u10 _
                              generalize (va_up g2 (10) (aI E 2 64 (upd im2 (i) (nI (0))))) = g_125 at hM_125 ⊢
                              refine y_iload_n hC dX6_mark_126 (i := 2) rfl rfl ?_
                              refine y_iload hC dX6_mark_127 rfl ?_
                              refine y_if_eq_n (tgt := 136) hC dX6_mark_129 (by decide) (by omega) (fun c_129 => ?_) (fun c_129 => ?_)
                              · refine y_iconst (v := nI 0) hC dX6_mark_136 (by decide) ?_
                                refine y_iadd_n hC dX6_mark_137 ?_
                                refine y_istore_n hC dX6_mark_138 (i := 2) rfl (Nat.le_of_ble_eq_true rfl) rfl (lo' := [some (rf E (0)), some (.int (nI (s))), some (.int (nI (c1 + 0))), some (.int (nI (c))), some (.int (nI (i))), some (.int (nI (0)))]) rfl ?_
                                refine y_iinc_n hC dX6_mark_139 (a := i) (k := 1) rfl (by decide) (Nat.le_of_ble_eq_true rfl) rfl (lo' := [some (rf E (0)), some (.int (nI (s))), some (.int (nI (c1 + 0))), some (.int (nI (c))), some (.int (nI (i + 1))), some (.int (nI (0)))]) rfl ?_
                                refine y_goto (tgt := 44) hC dX6_mark_142 (by decide) ?_
                                refine y_fg 5 (lo' := [some (rf E (0)), some (.int (nI (s))), some (.int (nI (c1 + 0))), some (.int (nI (c))), some (.int (nI (i + 1))), none]) rfl ?_
                                exact ih_44 (i + 1) A1 (c1 + 0) (upd im2 (i) (nI (0))) g_125 (by omega) (by omega) hM_125 (fun p hp => by
                                    by_cases e : p = i
                                    · subst e; rw [pk_us]; first | exact (bI_t c_112).symm | exact (bI_f c_112).symm
                                    · rw [pk_un e]; exact hI p hp) hc1 hge hmon hsub1 (fun q0 => by
                                    obtain ⟨hA, hB2⟩ := hcl1 q0
                                    refine ⟨hA, fun j hj q q2 => ?_⟩
                                    by_cases e : j = i
                                    · subst e; first | exact absurd q (by rw [← hA j (by omega)]; simpa using c_58) | exact absurd q2 c_80 | (rw [← nbB_cg (by omega) hA]; simpa using c_89)
                                    · exact hB2 j (by omega) q q2)
                              · exfalso; omega
                            · exfalso; omega
                        · refine y_iconst (v := nI 1) hC dX6_mark_92 (by decide) ?_
                          refine y_goto (tgt := 97) hC dX6_mark_93 (by decide) ?_
                          refine y_istore hC dX6_mark_97 (Nat.le_of_ble_eq_true rfl) rfl (lo' := [some (rf E (0)), some (.int (nI (s))), some (.int (nI (c1))), some (.int (nI (c))), some (.int (nI (i))), some (.int (nI (1)))]) rfl ?_
                          refine y_aload_n hC dX6_mark_99 (i := 0) rfl rfl ?_
                          refine y_get hC fX6_38 dX6_mark_100 (k := 0) (by omega) hM2.a0 rfl ?_
                          refine y_iload hC dX6_mark_103 rfl ?_
                          refine y_aload_n hC dX6_mark_105 (i := 0) rfl rfl ?_
                          refine y_get hC fX6_38 dX6_mark_106 (k := 0) (by omega) hM2.a0 rfl ?_
                          refine y_iload hC dX6_mark_109 rfl ?_
                          refine y_zald hC dX6_mark_111 (k := 10) (j := i) (by omega) hM2.a10 (rfl) (by omega) (by decide) ?_
                          refine y_top (y := bI (A1 (i) = true)) (hI i (by omega)) ?_
                          refine y_if_ne_b (tgt := 120) hC dX6_mark_112 (by decide) (fun c_112 => ?_) (fun c_112 => ?_)
                          · exact absurd c_112 c_58
                          · refine y_iload hC dX6_mark_115 rfl ?_
                            refine y_if_eq_n (tgt := 124) hC dX6_mark_117 (by decide) (by omega) (fun c_117 => ?_) (fun c_117 => ?_)
                            · exfalso; omega
                            · refine y_iconst (v := nI 1) hC dX6_mark_120 (by decide) ?_
                              refine y_goto (tgt := 125) hC dX6_mark_121 (by decide) ?_
                              refine y_zast hC dX6_mark_125 (k := 10) (j := i) (by omega) hM2.a10 (rfl) (by omega) (by decide) (by decide) ?_
                              have hM_125 : MX E (va_up g2 (10) (aI E 2 64 (upd im2 (i) (nI (1))))) row B (C.1, C.2.1, (upd im2 (i) (nI (1))), C.2.2.2) D P := hM2.u10 _
                              generalize (va_up g2 (10) (aI E 2 64 (upd im2 (i) (nI (1))))) = g_125 at hM_125 ⊢
                              refine y_iload_n hC dX6_mark_126 (i := 2) rfl rfl ?_
                              refine y_iload hC dX6_mark_127 rfl ?_
                              refine y_if_eq_n (tgt := 136) hC dX6_mark_129 (by decide) (by omega) (fun c_129 => ?_) (fun c_129 => ?_)
                              · exfalso; omega
                              · refine y_iconst (v := nI 1) hC dX6_mark_132 (by decide) ?_
                                refine y_goto (tgt := 137) hC dX6_mark_133 (by decide) ?_
                                refine y_iadd_n hC dX6_mark_137 ?_
                                refine y_istore_n hC dX6_mark_138 (i := 2) rfl (Nat.le_of_ble_eq_true rfl) rfl (lo' := [some (rf E (0)), some (.int (nI (s))), some (.int (nI (c1 + 1))), some (.int (nI (c))), some (.int (nI (i))), some (.int (nI (1)))]) rfl ?_
                                refine y_iinc_n hC dX6_mark_139 (a := i) (k := 1) rfl (by decide) (Nat.le_of_ble_eq_true rfl) rfl (lo' := [some (rf E (0)), some (.int (nI (s))), some (.int (nI (c1 + 1))), some (.int (nI (c))), some (.int (nI (i + 1))), some (.int (nI (1)))]) rfl ?_
                                refine y_goto (tgt := 44) hC dX6_mark_142 (by decide) ?_
                                refine y_fg 5 (lo' := [some (rf E (0)), some (.int (nI (s))), some (.int (nI (c1 + 1))), some (.int (nI (c))), some (.int (nI (i + 1))), none]) rfl ?_
                                have hAi : A1 i = false := by simpa using c_58
                                have hcn := cn_add1 (n := 64) (i := i) (A := A1) (by omega) hAi
                                exact ih_44 (i + 1) (va_up A1 i true) (c1 + 1) (upd im2 (i) (nI (1))) g_125 (by omega) (by omega) hM_125 (fun p hp => by
                                    by_cases e : p = i
                                    · rw [e, pk_us, va_up_self]; rfl
                                    · rw [pk_un e, va_up_ne _ _ e]; exact hI p hp) (by rw [hcn, hc1]) (by omega) (fun p hp q => by
                                    by_cases e : p = i
                                    · rw [e, va_up_self]
                                    · rw [va_up_ne _ _ e]; exact hmon p hp q) (fun p hp q => by
                                    by_cases e : p = i
                                    · rw [e]; exact nb_Rch (by omega) hsub1 c_80 c_89
                                    · rw [va_up_ne _ _ e] at q; exact hsub1 p hp q) (fun q => absurd q (by omega))
              exact L_44 65 0 A c im1 g1 (by omega) (by omega) hM1 hI hc (Nat.le_refl _) (fun _ _ h => h) hsub (fun _ => ⟨fun _ _ => rfl, fun j hj => absurd hj (Nat.not_lt_zero j)⟩)
        exact L_34 66 (fun p => decide (p = s)) 0 1 g1 im1 (by omega) hM1 (fun p hp => hI p (by omega)) hc0 (by omega) (fun q => absurd q (by decide)) (fun p _ q => by rw [of_decide_eq_true q]; exact Rch.b s) (decide_eq_true rfl)
      · refine y_aload_n hC dX6_mark_8 (i := 0) rfl rfl ?_
        refine y_get hC fX6_38 dX6_mark_9 (k := 0) (by omega) hM1.a0 rfl ?_
        refine y_iload_n hC dX6_mark_12 (i := 2) rfl rfl ?_
        refine y_iload_n hC dX6_mark_13 (i := 2) rfl rfl ?_
        refine y_iload_n hC dX6_mark_14 (i := 1) rfl rfl ?_
        refine y_icmp_ne_n (tgt := 22) hC dX6_mark_15 (by decide) (by omega) (by omega) (fun c_15 => ?_) (fun c_15 => ?_)
        · refine y_iconst (v := nI 0) hC dX6_mark_22 (by decide) ?_
          refine y_zast hC dX6_mark_23 (k := 10) (j := i) (by omega) hM1.a10 (rfl) (by omega) (by decide) (by decide) ?_
          have hM_23 : MX E (va_up g1 (10) (aI E 2 64 (upd im1 (i) (nI (0))))) row B (C.1, C.2.1, (upd im1 (i) (nI (0))), C.2.2.2) D P := hM1.u10 _
          generalize (va_up g1 (10) (aI E 2 64 (upd im1 (i) (nI (0))))) = g_23 at hM_23 ⊢
          refine y_iinc_n hC dX6_mark_24 (a := i) (k := 1) rfl (by decide) (Nat.le_of_ble_eq_true rfl) rfl (lo' := [some (rf E (0)), some (.int (nI (s))), some (.int (nI (i + 1))), none, none, none]) rfl ?_
          refine y_goto (tgt := 2) hC dX6_mark_27 (by decide) ?_
          exact ih_2 (i + 1) g_23 _ (by omega) (by omega) hM_23 (fun p hp => by
              by_cases e : p = i
              · subst e; rw [pk_us]; first | exact (bI_t (decide_eq_true c_15)).symm | exact (bI_f (by rw [decide_eq_true_eq]; exact c_15)).symm
              · rw [pk_un e]; exact hI p (by omega))
        · refine y_iconst (v := nI 1) hC dX6_mark_18 (by decide) ?_
          refine y_goto (tgt := 23) hC dX6_mark_19 (by decide) ?_
          refine y_zast hC dX6_mark_23 (k := 10) (j := i) (by omega) hM1.a10 (rfl) (by omega) (by decide) (by decide) ?_
          have hM_23 : MX E (va_up g1 (10) (aI E 2 64 (upd im1 (i) (nI (1))))) row B (C.1, C.2.1, (upd im1 (i) (nI (1))), C.2.2.2) D P := hM1.u10 _
          generalize (va_up g1 (10) (aI E 2 64 (upd im1 (i) (nI (1))))) = g_23 at hM_23 ⊢
          refine y_iinc_n hC dX6_mark_24 (a := i) (k := 1) rfl (by decide) (Nat.le_of_ble_eq_true rfl) rfl (lo' := [some (rf E (0)), some (.int (nI (s))), some (.int (nI (i + 1))), none, none, none]) rfl ?_
          refine y_goto (tgt := 2) hC dX6_mark_27 (by decide) ?_
          exact ih_2 (i + 1) g_23 _ (by omega) (by omega) hM_23 (fun p hp => by
              by_cases e : p = i
              · subst e; rw [pk_us]; first | exact (bI_t (decide_eq_true c_15)).symm | exact (bI_f (by rw [decide_eq_true_eq]; exact c_15)).symm
              · rw [pk_un e]; exact hI p (by omega))
  exact L_2 65 0 g C.2.2.1 (by omega) (by omega) hM (fun k hk => absurd hk (Nat.not_lt_zero k))

theorem dX6_fill_0 : decode cX6_fill 0 = .ok (.iload_n 1, 1) := by decide +kernel
theorem dX6_fill_1 : decode cX6_fill 1 = .ok (.iload_n 2, 1) := by decide +kernel
theorem dX6_fill_2 : decode cX6_fill 2 = .ok (.invokestatic 192, 3) := by decide +kernel
theorem dX6_fill_5 : decode cX6_fill 5 = .ok (.ifCond .ne 5, 3) := by decide +kernel
theorem dX6_fill_8 : decode cX6_fill 8 = .ok (.iconst (-1), 1) := by decide +kernel
theorem dX6_fill_9 : decode cX6_fill 9 = .ok (.ireturn, 1) := by decide +kernel
theorem dX6_fill_10 : decode cX6_fill 10 = .ok (.iload_n 3, 1) := by decide +kernel
theorem dX6_fill_11 : decode cX6_fill 11 = .ok (.invokestatic 99, 3) := by decide +kernel
theorem dX6_fill_14 : decode cX6_fill 14 = .ok (.ifCond .ne 6, 3) := by decide +kernel
theorem dX6_fill_17 : decode cX6_fill 17 = .ok (.bipush (-2), 2) := by decide +kernel
theorem dX6_fill_19 : decode cX6_fill 19 = .ok (.ireturn, 1) := by decide +kernel
theorem dX6_fill_20 : decode cX6_fill 20 = .ok (.aload_n 0, 1) := by decide +kernel
theorem dX6_fill_21 : decode cX6_fill 21 = .ok (.iload_n 1, 1) := by decide +kernel
theorem dX6_fill_22 : decode cX6_fill 22 = .ok (.iload_n 2, 1) := by decide +kernel
theorem dX6_fill_23 : decode cX6_fill 23 = .ok (.invokevirtual 195, 3) := by decide +kernel
theorem dX6_fill_26 : decode cX6_fill 26 = .ok (.iload_n 3, 1) := by decide +kernel
theorem dX6_fill_27 : decode cX6_fill 27 = .ok (.if_icmp .ne 6, 3) := by decide +kernel
theorem dX6_fill_30 : decode cX6_fill 30 = .ok (.bipush (-5), 2) := by decide +kernel
theorem dX6_fill_32 : decode cX6_fill 32 = .ok (.ireturn, 1) := by decide +kernel
theorem dX6_fill_33 : decode cX6_fill 33 = .ok (.aload_n 0, 1) := by decide +kernel
theorem dX6_fill_34 : decode cX6_fill 34 = .ok (.invokevirtual 57, 3) := by decide +kernel
theorem dX6_fill_37 : decode cX6_fill 37 = .ok (.aload_n 0, 1) := by decide +kernel
theorem dX6_fill_38 : decode cX6_fill 38 = .ok (.bipush 8, 2) := by decide +kernel
theorem dX6_fill_40 : decode cX6_fill 40 = .ok (.iload_n 1, 1) := by decide +kernel
theorem dX6_fill_41 : decode cX6_fill 41 = .ok (.imul, 1) := by decide +kernel
theorem dX6_fill_42 : decode cX6_fill 42 = .ok (.iload_n 2, 1) := by decide +kernel
theorem dX6_fill_43 : decode cX6_fill 43 = .ok (.iadd, 1) := by decide +kernel
theorem dX6_fill_44 : decode cX6_fill 44 = .ok (.invokevirtual 201, 3) := by decide +kernel
theorem dX6_fill_47 : decode cX6_fill 47 = .ok (.istore 4, 2) := by decide +kernel
theorem dX6_fill_49 : decode cX6_fill 49 = .ok (.iconst 0, 1) := by decide +kernel
theorem dX6_fill_50 : decode cX6_fill 50 = .ok (.istore 5, 2) := by decide +kernel
theorem dX6_fill_52 : decode cX6_fill 52 = .ok (.iload 5, 2) := by decide +kernel
theorem dX6_fill_54 : decode cX6_fill 54 = .ok (.bipush 64, 2) := by decide +kernel
theorem dX6_fill_56 : decode cX6_fill 56 = .ok (.if_icmp .ge 43, 3) := by decide +kernel
theorem dX6_fill_59 : decode cX6_fill 59 = .ok (.aload_n 0, 1) := by decide +kernel
theorem dX6_fill_60 : decode cX6_fill 60 = .ok (.getfield 7, 3) := by decide +kernel
theorem dX6_fill_63 : decode cX6_fill 63 = .ok (.bipush 92, 2) := by decide +kernel
theorem dX6_fill_65 : decode cX6_fill 65 = .ok (.iload 5, 2) := by decide +kernel
theorem dX6_fill_67 : decode cX6_fill 67 = .ok (.iadd, 1) := by decide +kernel
theorem dX6_fill_68 : decode cX6_fill 68 = .ok (.aload_n 0, 1) := by decide +kernel
theorem dX6_fill_69 : decode cX6_fill 69 = .ok (.getfield 38, 3) := by decide +kernel
theorem dX6_fill_72 : decode cX6_fill 72 = .ok (.iload 5, 2) := by decide +kernel
theorem dX6_fill_74 : decode cX6_fill 74 = .ok (.baload, 1) := by decide +kernel
theorem dX6_fill_75 : decode cX6_fill 75 = .ok (.ifCond .eq 7, 3) := by decide +kernel
theorem dX6_fill_78 : decode cX6_fill 78 = .ok (.iload_n 3, 1) := by decide +kernel
theorem dX6_fill_79 : decode cX6_fill 79 = .ok (.goto 13, 3) := by decide +kernel
theorem dX6_fill_82 : decode cX6_fill 82 = .ok (.aload_n 0, 1) := by decide +kernel
theorem dX6_fill_83 : decode cX6_fill 83 = .ok (.getfield 7, 3) := by decide +kernel
theorem dX6_fill_86 : decode cX6_fill 86 = .ok (.bipush 92, 2) := by decide +kernel
theorem dX6_fill_88 : decode cX6_fill 88 = .ok (.iload 5, 2) := by decide +kernel
theorem dX6_fill_90 : decode cX6_fill 90 = .ok (.iadd, 1) := by decide +kernel
theorem dX6_fill_91 : decode cX6_fill 91 = .ok (.iaload, 1) := by decide +kernel
theorem dX6_fill_92 : decode cX6_fill 92 = .ok (.iastore, 1) := by decide +kernel
theorem dX6_fill_93 : decode cX6_fill 93 = .ok (.iinc 5 1, 3) := by decide +kernel
theorem dX6_fill_96 : decode cX6_fill 96 = .ok (.goto (-44), 3) := by decide +kernel
theorem dX6_fill_99 : decode cX6_fill 99 = .ok (.iload 4, 2) := by decide +kernel
theorem dX6_fill_101 : decode cX6_fill 101 = .ok (.ireturn, 1) := by decide +kernel
set_option maxHeartbeats 4000000 in
set_option maxRecDepth 100000 in
theorem c_X6_fill (l : Launch) (E : gE) (g : Mem) (S : AS) (Bd : Nat) (hB : Bd < 90000000) (ho : OK S Bd) (hZ : MZ E g S) (xa xb xc : Int32) : Mt l E yX6_fill cX6_fill 6 (some .int) 2 49 [rf E (0), .int (xa), .int (xb), .int (xc)] g (pI (fun z g' => z = (qFill S xa xb xc).1 ∧ MZ E g' (qFill S xa xb xc).2)) := by
  have hv := ho.v
  have hrc : rc S.r ≤ 6 := hv.1.2
  have hgc : gc S.r ≤ 4 := hv.2.1.2
  have hc4 := ho.c4
  have hkp1 := ho.2.2.1
  have hl60 : S.ln ≤ 60 := ho.2.2.2.2.2.1
  refine mt_go (own := RX6) (by decide) rfl (lo := [some (rf E (0)), some (.int (xa)), some (.int (xb)), some (.int (xc)), none, none]) rfl (Nat.le_of_ble_eq_true rfl) (fun X hC => ?_)
  obtain ⟨row, hi, sn, tx, C, P, hM, hR, hH, hS, hT⟩ := hZ
  have hK := hM.k
  refine y_iload_n hC dX6_fill_0 (i := 1) rfl rfl ?_
  refine y_iload_n hC dX6_fill_1 (i := 2) rfl rfl ?_
  refine y_callS hC mX6_isPixel kX6_192 dX6_fill_2 (As := [.int (xa), .int (xb)]) (rest := []) (c_X6_isPixel l E g ((xa)) ((xb))) rfl rfl rfl (Nat.le_of_ble_eq_true rfl) ⟨Nat.le_of_ble_eq_true rfl, Nat.le_of_ble_eq_true rfl⟩ (pk_i ?_)
  rintro r_2 g_2 ⟨hr_2, hq_2⟩
  obtain rfl := hq_2.symm
  rw [hr_2]
  clear hr_2 r_2
  refine y_if_ne_b (tgt := 10) hC dX6_fill_5 (by decide) (fun c_5 => ?_) (fun c_5 => ?_)
  · obtain ⟨p, hp, hpx⟩ := zN (m := 7) c_5.1
    subst hpx
    obtain ⟨q, hq, hqx⟩ := zN (m := 7) c_5.2
    subst hqx
    refine y_iload_n hC dX6_fill_10 (i := 3) rfl rfl ?_
    refine y_callS hC mX6_isPlace kX6_99 dX6_fill_11 (As := [.int (xc)]) (rest := []) (c_X6_isPlace l E g ((xc))) rfl rfl rfl (Nat.le_of_ble_eq_true rfl) ⟨Nat.le_of_ble_eq_true rfl, Nat.le_of_ble_eq_true rfl⟩ (pk_i ?_)
    rintro r_11 g_11 ⟨hr_11, hq_11⟩
    obtain rfl := hq_11.symm
    rw [hr_11]
    clear hr_11 r_11
    refine y_if_ne_b (tgt := 20) hC dX6_fill_14 (by decide) (fun c_14 => ?_) (fun c_14 => ?_)
    · obtain ⟨c, hc, hcx⟩ := zN (m := 31) c_14
      subst hcx
      refine y_aload_n hC dX6_fill_20 (i := 0) rfl rfl ?_
      refine y_iload_n hC dX6_fill_21 (i := 1) rfl rfl ?_
      refine y_iload_n hC dX6_fill_22 (i := 2) rfl rfl ?_
      refine y_callV hC mX6_pixelAt kX6_195 dX6_fill_23 (b := 0) (As := [.int (nI (p)), .int (nI (q))]) (rest := []) (c_X6_pixelAt l E g row (hi, nI (S.c), sn, nI (S.kp)) C (tx, nI (S.ln)) P hM S.r Bd (by omega) hR hv p q (by omega) (by omega)) (by omega) hM.a0 rfl rfl rfl (Nat.le_of_ble_eq_true rfl) ⟨Nat.le_of_ble_eq_true rfl, Nat.le_of_ble_eq_true rfl⟩ (pk_i ?_)
      rintro r_23 g_23 ⟨hr_23, hq_23⟩
      obtain rfl := hq_23.symm
      rw [hr_23]
      clear hr_23 r_23
      have hpb_23 := (hv.2.2.2.2.2.2.1 (8 * p + q) (by omega)).2
      refine y_iload_n hC dX6_fill_26 (i := 3) rfl rfl ?_
      refine y_icmp_ne_n (tgt := 33) hC dX6_fill_27 (by decide) (by omega) (by omega) (fun c_27 => ?_) (fun c_27 => ?_)
      · refine y_aload_n hC dX6_fill_33 (i := 0) rfl rfl ?_
        refine y_callV hC mX6_record kX6_57 dX6_fill_34 (b := 0) (As := []) (rest := []) (c_X6_record l E g S Bd hB ho ⟨row, hi, sn, tx, C, P, hM, hR, hH, hS, hT⟩) (by omega) hM.a0 rfl rfl rfl (Nat.le_of_ble_eq_true rfl) ⟨Nat.le_of_ble_eq_true rfl, Nat.le_of_ble_eq_true rfl⟩ (pk_v ?_)
        rintro g_34 hz_34
        obtain ⟨row_34, hi_34, sn_34, tx_34, C_34, P_34, hM_34, hR_34, hH_34, hS_34, hT_34⟩ := hz_34
        have hK_34 := hM_34.k
        refine y_aload_n hC dX6_fill_37 (i := 0) rfl rfl ?_
        refine y_bipush (v := nI 8) hC dX6_fill_38 (by decide) ?_
        refine y_iload_n hC dX6_fill_40 (i := 1) rfl rfl ?_
        refine y_imul_n hC dX6_fill_41 ?_
        refine y_iload_n hC dX6_fill_42 (i := 2) rfl rfl ?_
        refine y_iadd_n hC dX6_fill_43 ?_
        refine y_callV hC mX6_mark kX6_201 dX6_fill_44 (b := 0) (As := [.int (nI ((8 * p) + q))]) (rest := []) (c_X6_mark l E g_34 row_34 (hi_34, nI (S.rec.c), sn_34, nI (S.rec.kp)) C_34 (tx_34, nI (S.rec.ln)) P_34 hM_34 S.r Bd (by omega) hR_34 hv (8 * p + q) (by omega)) (by omega) hM_34.a0 rfl rfl rfl (Nat.le_of_ble_eq_true rfl) ⟨Nat.le_of_ble_eq_true rfl, Nat.le_of_ble_eq_true rfl⟩ (pk_i ?_)
        rintro r_44 g_44 ⟨hr_44, im_44, him_44, hM_44⟩
        rw [hr_44]
        clear hr_44 r_44
        refine y_istore hC dX6_fill_47 (Nat.le_of_ble_eq_true rfl) rfl (lo' := [some (rf E (0)), some (.int (nI (p))), some (.int (nI (q))), some (.int (nI (c))), some (.int (nI (cn 64 (rcB S.r (8 * p + q))))), none]) rfl ?_
        refine y_iconst (v := nI 0) hC dX6_fill_49 (by decide) ?_
        refine y_istore hC dX6_fill_50 (Nat.le_of_ble_eq_true rfl) rfl (lo' := [some (rf E (0)), some (.int (nI (p))), some (.int (nI (q))), some (.int (nI (c))), some (.int (nI (cn 64 (rcB S.r (8 * p + q))))), some (.int (nI (0)))]) rfl ?_
        have L_52 : ∀ (m : Nat) (i : Nat) (g1 : Mem) (row1 : Nat → Int32), (hm : 64 - i < m) → (hil : i ≤ 64) → (hM1 : MX E g1 row1 (hi_34, nI S.rec.c, sn_34, nI S.rec.kp) (C_34.1, C_34.2.1, im_44, C_34.2.2.2) (tx_34, nI S.rec.ln) P_34) → (hk0 : ∀ k, k < 158 → row1 k = if 92 ≤ k ∧ k < 92 + i ∧ rcB S.r (8 * p + q) (k - 92) = true then nI c else S.r k) → Y l E X (pI (fun z g' => z = (qFill S (nI p) (nI q) (nI c)).1 ∧ MZ E g' (qFill S (nI p) (nI q) (nI c)).2)) 52 [some (rf E (0)), some (.int (nI (p))), some (.int (nI (q))), some (.int (nI (c))), some (.int (nI (cn 64 (rcB S.r (8 * p + q))))), some (.int (nI (i)))] [] g1 := by
          intro m
          induction m with
          | zero => intro i g1 row1 hm hil hM1 hk0; exact absurd hm (Nat.not_lt_zero _)
          | succ m ih_52 =>
            intro i g1 row1 hm hil hM1 hk0
            refine y_iload hC dX6_fill_52 rfl ?_
            refine y_bipush (v := nI 64) hC dX6_fill_54 (by decide) ?_
            refine y_icmp_ge_n (tgt := 99) hC dX6_fill_56 (by decide) (by omega) (by omega) (fun c_56 => ?_) (fun c_56 => ?_)
            · refine y_iload hC dX6_fill_99 rfl ?_
              refine y_iret (hC := hC) (hd := dX6_fill_101) (hq := ?_)
              have hqq : qFill S (nI p) (nI q) (nI c) = (nI (cn 64 (rcB S.r (8 * p + q))), S.rec.row (flR S.r (rcB S.r (8 * p + q)) c)) := by simp only [qFill, nn_I (show p < 2147483648 by omega), nn_I (show q < 2147483648 by omega), nn_I (show c < 2147483648 by omega), if_pos c_5, if_pos c_14, if_neg c_27]
              rw [hqq]
              exact ⟨rfl, ⟨row1, hi_34, sn_34, tx_34, (C_34.1, C_34.2.1, im_44, C_34.2.2.2), P_34, hM1, (fun k hk => by
                rw [hk0 k hk]
                show _ = flR S.r (rcB S.r (8 * p + q)) c k
                unfold flR
                by_cases z : 92 ≤ k ∧ k < 156 ∧ rcB S.r (8 * p + q) (k - 92) = true
                · rw [if_pos z, if_pos ⟨z.1, by omega, z.2.2⟩]
                · rw [if_neg z, if_neg (fun z2 => z ⟨z2.1, by omega, z2.2.2⟩)]), hH_34, hS_34, hT_34⟩⟩
            · refine y_aload_n hC dX6_fill_59 (i := 0) rfl rfl ?_
              refine y_get hC fX6_7 dX6_fill_60 (k := 0) (by omega) hM1.a0 rfl ?_
              refine y_bipush (v := nI 92) hC dX6_fill_63 (by decide) ?_
              refine y_iload hC dX6_fill_65 rfl ?_
              refine y_iadd_n hC dX6_fill_67 ?_
              refine y_aload_n hC dX6_fill_68 (i := 0) rfl rfl ?_
              refine y_get hC fX6_38 dX6_fill_69 (k := 0) (by omega) hM1.a0 rfl ?_
              refine y_iload hC dX6_fill_72 rfl ?_
              refine y_zald hC dX6_fill_74 (k := 10) (j := i) (by omega) hM1.a10 (rfl) (by omega) (by decide) ?_
              refine y_top (y := bI (rcB S.r (8 * p + q) i = true)) (him_44 i (by omega)) ?_
              refine y_if_eq_b (tgt := 82) hC dX6_fill_75 (by decide) (fun c_75 => ?_) (fun c_75 => ?_)
              · refine y_aload_n hC dX6_fill_82 (i := 0) rfl rfl ?_
                refine y_get hC fX6_7 dX6_fill_83 (k := 0) (by omega) hM1.a0 rfl ?_
                refine y_bipush (v := nI 92) hC dX6_fill_86 (by decide) ?_
                refine y_iload hC dX6_fill_88 rfl ?_
                refine y_iadd_n hC dX6_fill_90 ?_
                refine y_iald hC dX6_fill_91 (k := 1) (j := 92 + i) (by omega) hM1.a1 (rfl) (by omega) (by decide) ?_
                refine y_iast hC dX6_fill_92 (k := 1) (j := 92 + i) (by omega) hM1.a1 (rfl) (by omega) (by decide) ?_
                have hM_92 : MX E (va_up g1 (1) (aI E 0 158 (upd row1 (92 + i) ((row1 (92 + i)))))) ((upd row1 (92 + i) ((row1 (92 + i))))) (hi_34, nI (S.rec.c), sn_34, nI (S.rec.kp)) (C_34.1, C_34.2.1, im_44, C_34.2.2.2) (tx_34, nI (S.rec.ln)) P_34 := hM1.u1 _
                generalize (va_up g1 (1) (aI E 0 158 (upd row1 (92 + i) ((row1 (92 + i)))))) = g_92 at hM_92 ⊢
                refine y_iinc_n hC dX6_fill_93 (a := i) (k := 1) rfl (by decide) (Nat.le_of_ble_eq_true rfl) rfl (lo' := [some (rf E (0)), some (.int (nI (p))), some (.int (nI (q))), some (.int (nI (c))), some (.int (nI (cn 64 (rcB S.r (8 * p + q))))), some (.int (nI (i + 1)))]) rfl ?_
                refine y_goto (tgt := 52) hC dX6_fill_96 (by decide) ?_
                exact ih_52 (i + 1) g_92 _ (by omega) (by omega) hM_92 (fun k hk => by
                    by_cases e : k = 92 + i
                    · subst e; rw [pk_us, show 92 + i - 92 = i by omega]; first | (rw [if_pos ⟨by omega, by omega, c_75⟩]; done) | (rw [hk0 _ hk, if_neg (by omega), if_neg (fun z => c_75 z.2.2)]; done)
                    · rw [pk_un e, hk0 k hk]
                      by_cases z : 92 ≤ k ∧ k < 92 + i ∧ rcB S.r (8 * p + q) (k - 92) = true
                      · rw [if_pos z, if_pos ⟨z.1, by omega, z.2.2⟩]
                      · rw [if_neg z, if_neg (fun z2 => z ⟨z2.1, by omega, z2.2.2⟩)])
              · refine y_iload_n hC dX6_fill_78 (i := 3) rfl rfl ?_
                refine y_goto (tgt := 92) hC dX6_fill_79 (by decide) ?_
                refine y_iast hC dX6_fill_92 (k := 1) (j := 92 + i) (by omega) hM1.a1 (rfl) (by omega) (by decide) ?_
                have hM_92 : MX E (va_up g1 (1) (aI E 0 158 (upd row1 (92 + i) (nI (c))))) ((upd row1 (92 + i) (nI (c)))) (hi_34, nI (S.rec.c), sn_34, nI (S.rec.kp)) (C_34.1, C_34.2.1, im_44, C_34.2.2.2) (tx_34, nI (S.rec.ln)) P_34 := hM1.u1 _
                generalize (va_up g1 (1) (aI E 0 158 (upd row1 (92 + i) (nI (c))))) = g_92 at hM_92 ⊢
                refine y_iinc_n hC dX6_fill_93 (a := i) (k := 1) rfl (by decide) (Nat.le_of_ble_eq_true rfl) rfl (lo' := [some (rf E (0)), some (.int (nI (p))), some (.int (nI (q))), some (.int (nI (c))), some (.int (nI (cn 64 (rcB S.r (8 * p + q))))), some (.int (nI (i + 1)))]) rfl ?_
                refine y_goto (tgt := 52) hC dX6_fill_96 (by decide) ?_
                exact ih_52 (i + 1) g_92 _ (by omega) (by omega) hM_92 (fun k hk => by
                    by_cases e : k = 92 + i
                    · subst e; rw [pk_us, show 92 + i - 92 = i by omega]; first | (rw [if_pos ⟨by omega, by omega, c_75⟩]; done) | (rw [hk0 _ hk, if_neg (by omega), if_neg (fun z => c_75 z.2.2)]; done)
                    · rw [pk_un e, hk0 k hk]
                      by_cases z : 92 ≤ k ∧ k < 92 + i ∧ rcB S.r (8 * p + q) (k - 92) = true
                      · rw [if_pos z, if_pos ⟨z.1, by omega, z.2.2⟩]
                      · rw [if_neg z, if_neg (fun z2 => z ⟨z2.1, by omega, z2.2.2⟩)])
        exact L_52 65 0 g_44 row_34 (by omega) (by omega) hM_44 (fun k hk => by rw [if_neg (by omega)]; exact hR_34 k hk)
      · refine y_bipush (v := (-5)) hC dX6_fill_30 (by decide) ?_
        refine y_iret (hC := hC) (hd := dX6_fill_32) (hq := ?_)
        have hqq : qFill S (nI p) (nI q) (nI c) = (-5, S) := by simp only [qFill, nn_I (show p < 2147483648 by omega), nn_I (show q < 2147483648 by omega), nn_I (show c < 2147483648 by omega), if_pos c_5, if_pos c_14, if_pos c_27]
        rw [hqq]
        exact ⟨rfl, ⟨row, hi, sn, tx, C, P, hM, hR, hH, hS, hT⟩⟩
    · refine y_bipush (v := (-2)) hC dX6_fill_17 (by decide) ?_
      refine y_iret (hC := hC) (hd := dX6_fill_19) (hq := ?_)
      have hqq : qFill S (nI p) (nI q) xc = (-2, S) := by simp only [qFill, nn_I (show p < 2147483648 by omega), nn_I (show q < 2147483648 by omega), if_pos c_5, if_neg c_14]
      rw [hqq]
      exact ⟨rfl, ⟨row, hi, sn, tx, C, P, hM, hR, hH, hS, hT⟩⟩
  · refine y_iconst (v := (-1)) hC dX6_fill_8 (by decide) ?_
    refine y_iret (hC := hC) (hd := dX6_fill_9) (hq := ?_)
    have hqq : qFill S xa xb xc = (-1, S) := by simp only [qFill, if_neg c_5]
    rw [hqq]
    exact ⟨rfl, ⟨row, hi, sn, tx, C, P, hM, hR, hH, hS, hT⟩⟩

