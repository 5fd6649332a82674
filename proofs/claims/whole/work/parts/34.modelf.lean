/-! ===== the model: contrast, the full turn, totals, the fill ===== -/
theorem mxI_ge (a b : Int32) : a.toInt ≤ (mxI a b).toInt := by
  unfold mxI
  split
  · rename_i h
    rw [Int32.lt_iff_toInt_lt] at h
    omega
  · exact Int.le_refl _
theorem ctN_0 (D : Nat → Nat → Int32) : ∀ n, 0 ≤ (ctN D n).toInt
  | 0 => by
    show 0 ≤ (nI 0).toInt
    decide
  | n + 1 => by
    have ih := ctN_0 D n
    have h1 : 0 ≤ (if n % 8 + 1 < 8 then mxI (ctN D n) (D n (n + 1)) else ctN D n).toInt := by
      split
      · have := mxI_ge (ctN D n) (D n (n + 1)); omega
      · exact ih
    rw [ctN]
    show 0 ≤ (if n + 8 < 64 then mxI _ (D n (n + 8)) else _).toInt
    split
    · have := mxI_ge (if n % 8 + 1 < 8 then mxI (ctN D n) (D n (n + 1)) else ctN D n) (D n (n + 8)); omega
    · exact h1
theorem mxI_0 {a : Int32} (h : 0 ≤ a.toInt) : mxI a (nI 0) = a := by
  unfold mxI
  rw [if_neg]
  rw [Int32.lt_iff_toInt_lt, show (nI 0).toInt = 0 from by decide]
  omega
theorem ctN_s (D : Nat → Nat → Int32) (k : Nat) : ctN D (k + 1) = mxI (mxI (ctN D k) (if k % 8 < 7 then D k (k + 1) else nI 0)) (if k < 56 then D k (k + 8) else nI 0) := by
  have h0 := ctN_0 D k
  have e1 : mxI (ctN D k) (if k % 8 < 7 then D k (k + 1) else nI 0) = if k % 8 + 1 < 8 then mxI (ctN D k) (D k (k + 1)) else ctN D k := by
    by_cases q : k % 8 < 7
    · rw [if_pos q, if_pos (by omega)]
    · rw [if_neg q, if_neg (by omega), mxI_0 h0]
  have h1 : 0 ≤ (mxI (ctN D k) (if k % 8 < 7 then D k (k + 1) else nI 0)).toInt := Int.le_trans h0 (mxI_ge _ _)
  rw [ctN, ← e1]
  show (if k + 8 < 64 then mxI _ (D k (k + 8)) else _) = _
  by_cases q : k < 56
  · rw [if_pos q, if_pos (by omega)]
  · rw [if_neg q, if_neg (by omega), mxI_0 h1]
/-- different colours, by pixels and by places -/
theorem dc_eq {r : Row} {B : Nat} (hv : Vr r B) : dcM r = dcK r := by
  have hp : ∀ p, p < 64 → px r p < 32 := fun p hp => (hv.2.2.2.2.2.2.1 p hp).2
  -- the first place of the picture that shows a colour; the first pixel that does
  have hF : ∀ p, p < 64 → ∃ k, k < 32 ∧ (inU r 64 k && !mbB (inU r 64) (shS r) k k) = true ∧ shS r k = shS r (px r p) := by
    intro p hp0
    have h1 : ∃ k, fst 32 (fun k => inU r 64 k && decide (shS r k = shS r (px r p))) = some k := by
      cases e : fst 32 (fun k => inU r 64 k && decide (shS r k = shS r (px r p))) with
      | some k => exact ⟨k, rfl⟩
      | none =>
        have := fst_invn e (px r p) (hp p hp0)
        rw [inU_iff.mpr ⟨p, hp0, rfl⟩] at this
        simp at this
    obtain ⟨k, hk⟩ := h1
    obtain ⟨k1, k2, k3⟩ := fst_inv hk
    rw [Bool.and_eq_true, decide_eq_true_eq] at k2
    refine ⟨k, k1, ?_, k2.2⟩
    rw [Bool.and_eq_true, Bool.not_eq_true', Bool.eq_false_iff]
    refine ⟨k2.1, fun q => ?_⟩
    obtain ⟨e, e1, e2, e3⟩ := mbB_iff.mp q
    have := k3 e e1
    rw [e2, Bool.true_and, decide_eq_false_iff_not] at this
    exact this (e3.trans k2.2)
  have hG : ∀ k, k < 32 → inU r 64 k = true → ∃ p, p < 64 ∧ nwB r p p = true ∧ shS r (px r p) = shS r k := by
    intro k hk hu
    obtain ⟨p0, h1, h2⟩ := inU_iff.mp hu
    have h3 : ∃ p, fst 64 (fun p => decide (shS r (px r p) = shS r k)) = some p := by
      cases e : fst 64 (fun p => decide (shS r (px r p) = shS r k)) with
      | some p => exact ⟨p, rfl⟩
      | none =>
        have := fst_invn e p0 h1
        rw [decide_eq_false_iff_not, h2] at this
        exact absurd rfl this
    obtain ⟨p, hp1⟩ := h3
    obtain ⟨k1, k2, k3⟩ := fst_inv hp1
    have k4 := of_decide_eq_true k2
    refine ⟨p, k1, nwB_iff.mpr (fun o ho q => ?_), k4⟩
    have := k3 o ho
    rw [decide_eq_false_iff_not] at this
    exact this ((show shS r (px r o) = shS r (px r p) from q).trans k4)
  apply Nat.le_antisymm
  · refine cn_inj (fun p => if h : p < 64 then (hF p h).choose else 0) (fun p h1 h2 => ?_) (fun p q h1 h2 n1 n2 e => ?_)
    · rw [dif_pos h1]
      exact ⟨(hF p h1).choose_spec.1, (hF p h1).choose_spec.2.1⟩
    · rw [dif_pos h1, dif_pos h2] at e
      have e1 := (hF p h1).choose_spec.2.2
      have e2 := (hF q h2).choose_spec.2.2
      rw [e] at e1
      have e3 : shS r (px r p) = shS r (px r q) := e1.symm.trans e2
      by_cases c : p = q
      · exact c
      · rcases Nat.lt_or_gt_of_ne c with c | c
        · exact absurd e3 (nwB_iff.mp n2 p c)
        · exact absurd e3.symm (nwB_iff.mp n1 q c)
  · refine cn_inj (fun k => if h : k < 32 ∧ inU r 64 k = true then (hG k h.1 h.2).choose else 0) (fun k h1 h2 => ?_) (fun k q h1 h2 n1 n2 e => ?_)
    · rw [Bool.and_eq_true] at h2
      rw [dif_pos ⟨h1, h2.1⟩]
      exact ⟨(hG k h1 h2.1).choose_spec.1, (hG k h1 h2.1).choose_spec.2.1⟩
    · rw [Bool.and_eq_true, Bool.not_eq_true', Bool.eq_false_iff] at n1 n2
      rw [dif_pos ⟨h1, n1.1⟩, dif_pos ⟨h2, n2.1⟩] at e
      have e1 := (hG k h1 n1.1).choose_spec.2.2
      have e2 := (hG q h2 n2.1).choose_spec.2.2
      rw [e] at e1
      have e3 : shS r k = shS r q := e1.symm.trans e2
      by_cases c : k = q
      · exact c
      · rcases Nat.lt_or_gt_of_ne c with c | c
        · exact absurd (mbB_iff.mpr ⟨k, c, n1.1, e3⟩) n2.2
        · exact absurd (mbB_iff.mpr ⟨q, c, n2.1, e3.symm⟩) n1.2
theorem dX6_contrast_0 : decode cX6_contrast 0 = .ok (.aload_n 0, 1) := by decide +kernel
theorem dX6_contrast_1 : decode cX6_contrast 1 = .ok (.invokevirtual 229, 3) := by decide +kernel
theorem dX6_contrast_4 : decode cX6_contrast 4 = .ok (.iconst 0, 1) := by decide +kernel
theorem dX6_contrast_5 : decode cX6_contrast 5 = .ok (.istore_n 1, 1) := by decide +kernel
theorem dX6_contrast_6 : decode cX6_contrast 6 = .ok (.iconst 0, 1) := by decide +kernel
theorem dX6_contrast_7 : decode cX6_contrast 7 = .ok (.istore_n 2, 1) := by decide +kernel
theorem dX6_contrast_8 : decode cX6_contrast 8 = .ok (.iload_n 2, 1) := by decide +kernel
theorem dX6_contrast_9 : decode cX6_contrast 9 = .ok (.bipush 64, 2) := by decide +kernel
theorem dX6_contrast_11 : decode cX6_contrast 11 = .ok (.if_icmp .ge 94, 3) := by decide +kernel
theorem dX6_contrast_14 : decode cX6_contrast 14 = .ok (.iload_n 2, 1) := by decide +kernel
theorem dX6_contrast_15 : decode cX6_contrast 15 = .ok (.bipush 8, 2) := by decide +kernel
theorem dX6_contrast_17 : decode cX6_contrast 17 = .ok (.irem, 1) := by decide +kernel
theorem dX6_contrast_18 : decode cX6_contrast 18 = .ok (.bipush 7, 2) := by decide +kernel
theorem dX6_contrast_20 : decode cX6_contrast 20 = .ok (.if_icmp .ge 23, 3) := by decide +kernel
theorem dX6_contrast_23 : decode cX6_contrast 23 = .ok (.aload_n 0, 1) := by decide +kernel
theorem dX6_contrast_24 : decode cX6_contrast 24 = .ok (.getfield 41, 3) := by decide +kernel
theorem dX6_contrast_27 : decode cX6_contrast 27 = .ok (.iload_n 2, 1) := by decide +kernel
theorem dX6_contrast_28 : decode cX6_contrast 28 = .ok (.iaload, 1) := by decide +kernel
theorem dX6_contrast_29 : decode cX6_contrast 29 = .ok (.aload_n 0, 1) := by decide +kernel
theorem dX6_contrast_30 : decode cX6_contrast 30 = .ok (.getfield 41, 3) := by decide +kernel
theorem dX6_contrast_33 : decode cX6_contrast 33 = .ok (.iload_n 2, 1) := by decide +kernel
theorem dX6_contrast_34 : decode cX6_contrast 34 = .ok (.iconst 1, 1) := by decide +kernel
theorem dX6_contrast_35 : decode cX6_contrast 35 = .ok (.iadd, 1) := by decide +kernel
theorem dX6_contrast_36 : decode cX6_contrast 36 = .ok (.iaload, 1) := by decide +kernel
theorem dX6_contrast_37 : decode cX6_contrast 37 = .ok (.invokestatic 226, 3) := by decide +kernel
theorem dX6_contrast_40 : decode cX6_contrast 40 = .ok (.goto 4, 3) := by decide +kernel
theorem dX6_contrast_43 : decode cX6_contrast 43 = .ok (.iconst 0, 1) := by decide +kernel
theorem dX6_contrast_44 : decode cX6_contrast 44 = .ok (.istore_n 3, 1) := by decide +kernel
theorem dX6_contrast_45 : decode cX6_contrast 45 = .ok (.iload_n 2, 1) := by decide +kernel
theorem dX6_contrast_46 : decode cX6_contrast 46 = .ok (.bipush 56, 2) := by decide +kernel
theorem dX6_contrast_48 : decode cX6_contrast 48 = .ok (.if_icmp .ge 24, 3) := by decide +kernel
theorem dX6_contrast_51 : decode cX6_contrast 51 = .ok (.aload_n 0, 1) := by decide +kernel
theorem dX6_contrast_52 : decode cX6_contrast 52 = .ok (.getfield 41, 3) := by decide +kernel
theorem dX6_contrast_55 : decode cX6_contrast 55 = .ok (.iload_n 2, 1) := by decide +kernel
theorem dX6_contrast_56 : decode cX6_contrast 56 = .ok (.iaload, 1) := by decide +kernel
theorem dX6_contrast_57 : decode cX6_contrast 57 = .ok (.aload_n 0, 1) := by decide +kernel
theorem dX6_contrast_58 : decode cX6_contrast 58 = .ok (.getfield 41, 3) := by decide +kernel
theorem dX6_contrast_61 : decode cX6_contrast 61 = .ok (.iload_n 2, 1) := by decide +kernel
theorem dX6_contrast_62 : decode cX6_contrast 62 = .ok (.bipush 8, 2) := by decide +kernel
theorem dX6_contrast_64 : decode cX6_contrast 64 = .ok (.iadd, 1) := by decide +kernel
theorem dX6_contrast_65 : decode cX6_contrast 65 = .ok (.iaload, 1) := by decide +kernel
theorem dX6_contrast_66 : decode cX6_contrast 66 = .ok (.invokestatic 226, 3) := by decide +kernel
theorem dX6_contrast_69 : decode cX6_contrast 69 = .ok (.goto 4, 3) := by decide +kernel
theorem dX6_contrast_72 : decode cX6_contrast 72 = .ok (.iconst 0, 1) := by decide +kernel
theorem dX6_contrast_73 : decode cX6_contrast 73 = .ok (.istore 4, 2) := by decide +kernel
theorem dX6_contrast_75 : decode cX6_contrast 75 = .ok (.iload_n 3, 1) := by decide +kernel
theorem dX6_contrast_76 : decode cX6_contrast 76 = .ok (.iload_n 1, 1) := by decide +kernel
theorem dX6_contrast_77 : decode cX6_contrast 77 = .ok (.if_icmp .le 7, 3) := by decide +kernel
theorem dX6_contrast_80 : decode cX6_contrast 80 = .ok (.iload_n 3, 1) := by decide +kernel
theorem dX6_contrast_81 : decode cX6_contrast 81 = .ok (.goto 4, 3) := by decide +kernel
theorem dX6_contrast_84 : decode cX6_contrast 84 = .ok (.iload_n 1, 1) := by decide +kernel
theorem dX6_contrast_85 : decode cX6_contrast 85 = .ok (.istore_n 1, 1) := by decide +kernel
theorem dX6_contrast_86 : decode cX6_contrast 86 = .ok (.iload 4, 2) := by decide +kernel
theorem dX6_contrast_88 : decode cX6_contrast 88 = .ok (.iload_n 1, 1) := by decide +kernel
theorem dX6_contrast_89 : decode cX6_contrast 89 = .ok (.if_icmp .le 8, 3) := by decide +kernel
theorem dX6_contrast_92 : decode cX6_contrast 92 = .ok (.iload 4, 2) := by decide +kernel
theorem dX6_contrast_94 : decode cX6_contrast 94 = .ok (.goto 4, 3) := by decide +kernel
theorem dX6_contrast_97 : decode cX6_contrast 97 = .ok (.iload_n 1, 1) := by decide +kernel
theorem dX6_contrast_98 : decode cX6_contrast 98 = .ok (.istore_n 1, 1) := by decide +kernel
theorem dX6_contrast_99 : decode cX6_contrast 99 = .ok (.iinc 2 1, 3) := by decide +kernel
theorem dX6_contrast_102 : decode cX6_contrast 102 = .ok (.goto (-94), 3) := by decide +kernel
theorem dX6_contrast_105 : decode cX6_contrast 105 = .ok (.iload_n 1, 1) := by decide +kernel
theorem dX6_contrast_106 : decode cX6_contrast 106 = .ok (.ireturn, 1) := by decide +kernel
set_option maxHeartbeats 4000000 in
set_option maxRecDepth 100000 in
theorem c_X6_contrast (l : Launch) (E : gE) (g : Mem) (S : AS) (Bd : Nat) (hB : Bd < 90000000) (ho : OK S Bd) (hZ : MZ E g S) : Mt l E yX6_contrast cX6_contrast 5 (some .int) 7 154 [rf E (0)] g (pI (fun zz g' => zz = qContrast S  ∧ MZ E g' S)) := by
  have hv := ho.v
  have hrc : rc S.r ≤ 6 := hv.1.2
  have hgc : gc S.r ≤ 4 := hv.2.1.2
  have hc4 := ho.c4
  have hkp1 := ho.2.2.1
  have hl60 : S.ln ≤ 60 := ho.2.2.2.2.2.1
  refine mt_go (own := RX6) (by decide) rfl (lo := [some (rf E (0)), none, none, none, none]) rfl (Nat.le_of_ble_eq_true rfl) (fun X hC => ?_)
  obtain ⟨row, hi, sn, tx, C, P, hM, hR, hH, hS, hT⟩ := hZ
  have hK := hM.k
  refine y_aload_n hC dX6_contrast_0 (i := 0) rfl rfl ?_
  refine y_callV hC mX6_notePicture kX6_229 dX6_contrast_1 (b := 0) (As := []) (rest := []) (c_X6_notePicture l E g row (hi, nI (S.c), sn, nI (S.kp)) C (tx, nI (S.ln)) P hM S.r Bd (by omega) hR hv) (by omega) hM.a0 rfl rfl rfl (Nat.le_of_ble_eq_true rfl) ⟨Nat.le_of_ble_eq_true rfl, Nat.le_of_ble_eq_true rfl⟩ (pk_v ?_)
  rintro g_1 ⟨co_1, bf_1, hbf_1, hM_1n⟩
  refine y_iconst (v := nI 0) hC dX6_contrast_4 (by decide) ?_
  refine y_istore_n hC dX6_contrast_5 (i := 1) rfl (Nat.le_of_ble_eq_true rfl) rfl (lo' := [some (rf E (0)), some (.int (nI (0))), none, none, none]) rfl ?_
  refine y_iconst (v := nI 0) hC dX6_contrast_6 (by decide) ?_
  refine y_istore_n hC dX6_contrast_7 (i := 2) rfl (Nat.le_of_ble_eq_true rfl) rfl (lo' := [some (rf E (0)), some (.int (nI (0))), some (.int (nI (0))), none, none]) rfl ?_
  have L_8 : ∀ (m : Nat) (i : Nat), (hm : 64 - i < m) → (hil : i ≤ 64) → Y l E X (pI (fun zz g' => zz = qContrast S  ∧ MZ E g' S)) 8 [some (rf E (0)), some (.int (ctN (pxD S.r) i)), some (.int (nI (i))), none, none] [] g_1 := by
    intro m
    induction m with
    | zero => intro i hm hil; exact absurd hm (Nat.not_lt_zero _)
    | succ m ih_8 =>
      intro i hm hil
      refine y_iload_n hC dX6_contrast_8 (i := 2) rfl rfl ?_
      refine y_bipush (v := nI 64) hC dX6_contrast_9 (by decide) ?_
      refine y_icmp_ge_n (tgt := 105) hC dX6_contrast_11 (by decide) (by omega) (by omega) (fun c_11 => ?_) (fun c_11 => ?_)
      · refine y_iload_n hC dX6_contrast_105 (i := 1) rfl rfl ?_
        refine y_iret (hC := hC) (hd := dX6_contrast_106) (hq := ?_)
        exact ⟨by unfold qContrast ctQ; rw [show i = 64 by omega], ⟨row, hi, sn, tx, (C.1, co_1, C.2.2.1, bf_1), P, hM_1n, hR, hH, hS, hT⟩⟩
      · refine y_iload_n hC dX6_contrast_14 (i := 2) rfl rfl ?_
        refine y_bipush (v := nI 8) hC dX6_contrast_15 (by decide) ?_
        refine y_irem_n hC dX6_contrast_17 (by omega) (by omega) (by omega) ?_
        refine y_bipush (v := nI 7) hC dX6_contrast_18 (by decide) ?_
        refine y_icmp_ge_n (tgt := 43) hC dX6_contrast_20 (by decide) (by omega) (by omega) (fun c_20 => ?_) (fun c_20 => ?_)
        · have h7 : ¬ i % 8 < 7 := by omega
          refine y_iconst (v := nI 0) hC dX6_contrast_43 (by decide) ?_
          refine y_istore_n hC dX6_contrast_44 (i := 3) rfl (Nat.le_of_ble_eq_true rfl) rfl (lo' := [some (rf E (0)), some (.int (ctN (pxD S.r) i)), some (.int (nI (i))), some (.int (nI (0))), none]) rfl ?_
          refine y_iload_n hC dX6_contrast_45 (i := 2) rfl rfl ?_
          refine y_bipush (v := nI 56) hC dX6_contrast_46 (by decide) ?_
          refine y_icmp_ge_n (tgt := 72) hC dX6_contrast_48 (by decide) (by omega) (by omega) (fun c_48 => ?_) (fun c_48 => ?_)
          · have h56 : ¬ i < 56 := by omega
            refine y_iconst (v := nI 0) hC dX6_contrast_72 (by decide) ?_
            refine y_istore hC dX6_contrast_73 (Nat.le_of_ble_eq_true rfl) rfl (lo' := [some (rf E (0)), some (.int (ctN (pxD S.r) i)), some (.int (nI (i))), some (.int (nI (0))), some (.int (nI (0)))]) rfl ?_
            refine y_iload_n hC dX6_contrast_75 (i := 3) rfl rfl ?_
            refine y_iload_n hC dX6_contrast_76 (i := 1) rfl rfl ?_
            refine y_icmp_le (tgt := 84) hC dX6_contrast_77 (by decide) (fun c_77 => ?_) (fun c_77 => ?_)
            · refine y_iload_n hC dX6_contrast_84 (i := 1) rfl rfl ?_
              have e84 : mxI (ctN (pxD S.r) i) (nI (0)) = (ctN (pxD S.r) i) := by unfold mxI; first | (exact if_neg (Int32.not_lt.mpr c_77)) | (exact if_pos (Int32.not_le.mp c_77)) | (exact ite_self _)
              refine y_istore_n hC dX6_contrast_85 (i := 1) rfl (Nat.le_of_ble_eq_true rfl) rfl (lo' := [some (rf E (0)), some (.int (ctN (pxD S.r) i)), some (.int (nI (i))), some (.int (nI (0))), some (.int (nI (0)))]) rfl ?_
              refine y_iload hC dX6_contrast_86 rfl ?_
              refine y_iload_n hC dX6_contrast_88 (i := 1) rfl rfl ?_
              refine y_icmp_le (tgt := 97) hC dX6_contrast_89 (by decide) (fun c_89 => ?_) (fun c_89 => ?_)
              · refine y_iload_n hC dX6_contrast_97 (i := 1) rfl rfl ?_
                have e97 : mxI ((ctN (pxD S.r) i)) (nI (0)) = (ctN (pxD S.r) i) := by unfold mxI; first | (exact if_neg (Int32.not_lt.mpr c_89)) | (exact if_pos (Int32.not_le.mp c_89)) | (exact ite_self _)
                refine y_istore_n hC dX6_contrast_98 (i := 1) rfl (Nat.le_of_ble_eq_true rfl) rfl (lo' := [some (rf E (0)), some (.int (ctN (pxD S.r) i)), some (.int (nI (i))), some (.int (nI (0))), some (.int (nI (0)))]) rfl ?_
                refine y_iinc_n hC dX6_contrast_99 (a := i) (k := 1) rfl (by decide) (Nat.le_of_ble_eq_true rfl) rfl (lo' := [some (rf E (0)), some (.int (ctN (pxD S.r) i)), some (.int (nI (i + 1))), some (.int (nI (0))), some (.int (nI (0)))]) rfl ?_
                refine y_goto (tgt := 8) hC dX6_contrast_102 (by decide) ?_
                refine y_fg 3 (lo' := [some (rf E (0)), some (.int (ctN (pxD S.r) i)), some (.int (nI (i + 1))), none, some (.int (nI (0)))]) rfl ?_
                refine y_fg 4 (lo' := [some (rf E (0)), some (.int (ctN (pxD S.r) i)), some (.int (nI (i + 1))), none, none]) rfl ?_
                have hst : ctN (pxD S.r) (i + 1) = (ctN (pxD S.r) i) := by
                  rw [ctN_s]
                  first | rw [if_pos h7] | rw [if_neg h7]
                  first | rw [if_pos h56] | rw [if_neg h56]
                  rw [e84, e97]
                rw [← hst]
                exact ih_8 (i + 1) (by omega) (by omega)
              · refine y_iload hC dX6_contrast_92 rfl ?_
                refine y_goto (tgt := 98) hC dX6_contrast_94 (by decide) ?_
                have e97 : mxI ((ctN (pxD S.r) i)) (nI (0)) = nI (0) := by unfold mxI; first | (exact if_neg (Int32.not_lt.mpr c_89)) | (exact if_pos (Int32.not_le.mp c_89)) | (exact ite_self _)
                refine y_istore_n hC dX6_contrast_98 (i := 1) rfl (Nat.le_of_ble_eq_true rfl) rfl (lo' := [some (rf E (0)), some (.int (nI (0))), some (.int (nI (i))), some (.int (nI (0))), some (.int (nI (0)))]) rfl ?_
                refine y_iinc_n hC dX6_contrast_99 (a := i) (k := 1) rfl (by decide) (Nat.le_of_ble_eq_true rfl) rfl (lo' := [some (rf E (0)), some (.int (nI (0))), some (.int (nI (i + 1))), some (.int (nI (0))), some (.int (nI (0)))]) rfl ?_
                refine y_goto (tgt := 8) hC dX6_contrast_102 (by decide) ?_
                refine y_fg 3 (lo' := [some (rf E (0)), some (.int (nI (0))), some (.int (nI (i + 1))), none, some (.int (nI (0)))]) rfl ?_
                refine y_fg 4 (lo' := [some (rf E (0)), some (.int (nI (0))), some (.int (nI (i + 1))), none, none]) rfl ?_
                have hst : ctN (pxD S.r) (i + 1) = nI (0) := by
                  rw [ctN_s]
                  first | rw [if_pos h7] | rw [if_neg h7]
                  first | rw [if_pos h56] | rw [if_neg h56]
                  rw [e84, e97]
                rw [← hst]
                exact ih_8 (i + 1) (by omega) (by omega)
            · refine y_iload_n hC dX6_contrast_80 (i := 3) rfl rfl ?_
              refine y_goto (tgt := 85) hC dX6_contrast_81 (by decide) ?_
              have e84 : mxI (ctN (pxD S.r) i) (nI (0)) = nI (0) := by unfold mxI; first | (exact if_neg (Int32.not_lt.mpr c_77)) | (exact if_pos (Int32.not_le.mp c_77)) | (exact ite_self _)
              refine y_istore_n hC dX6_contrast_85 (i := 1) rfl (Nat.le_of_ble_eq_true rfl) rfl (lo' := [some (rf E (0)), some (.int (nI (0))), some (.int (nI (i))), some (.int (nI (0))), some (.int (nI (0)))]) rfl ?_
              refine y_iload hC dX6_contrast_86 rfl ?_
              refine y_iload_n hC dX6_contrast_88 (i := 1) rfl rfl ?_
              refine y_icmp_le_n (tgt := 97) hC dX6_contrast_89 (by decide) (by omega) (by omega) (fun c_89 => ?_) (fun c_89 => ?_)
              · refine y_iload_n hC dX6_contrast_97 (i := 1) rfl rfl ?_
                have e97 : mxI (nI (0)) (nI (0)) = nI (0) := by unfold mxI; first | (exact if_neg (Int32.not_lt.mpr c_89)) | (exact if_pos (Int32.not_le.mp c_89)) | (exact ite_self _)
                refine y_istore_n hC dX6_contrast_98 (i := 1) rfl (Nat.le_of_ble_eq_true rfl) rfl (lo' := [some (rf E (0)), some (.int (nI (0))), some (.int (nI (i))), some (.int (nI (0))), some (.int (nI (0)))]) rfl ?_
                refine y_iinc_n hC dX6_contrast_99 (a := i) (k := 1) rfl (by decide) (Nat.le_of_ble_eq_true rfl) rfl (lo' := [some (rf E (0)), some (.int (nI (0))), some (.int (nI (i + 1))), some (.int (nI (0))), some (.int (nI (0)))]) rfl ?_
                refine y_goto (tgt := 8) hC dX6_contrast_102 (by decide) ?_
                refine y_fg 3 (lo' := [some (rf E (0)), some (.int (nI (0))), some (.int (nI (i + 1))), none, some (.int (nI (0)))]) rfl ?_
                refine y_fg 4 (lo' := [some (rf E (0)), some (.int (nI (0))), some (.int (nI (i + 1))), none, none]) rfl ?_
                have hst : ctN (pxD S.r) (i + 1) = nI (0) := by
                  rw [ctN_s]
                  first | rw [if_pos h7] | rw [if_neg h7]
                  first | rw [if_pos h56] | rw [if_neg h56]
                  rw [e84, e97]
                rw [← hst]
                exact ih_8 (i + 1) (by omega) (by omega)
              · refine y_iload hC dX6_contrast_92 rfl ?_
                refine y_goto (tgt := 98) hC dX6_contrast_94 (by decide) ?_
                have e97 : mxI (nI (0)) (nI (0)) = nI (0) := by unfold mxI; first | (exact if_neg (Int32.not_lt.mpr c_89)) | (exact if_pos (Int32.not_le.mp c_89)) | (exact ite_self _)
                refine y_istore_n hC dX6_contrast_98 (i := 1) rfl (Nat.le_of_ble_eq_true rfl) rfl (lo' := [some (rf E (0)), some (.int (nI (0))), some (.int (nI (i))), some (.int (nI (0))), some (.int (nI (0)))]) rfl ?_
                refine y_iinc_n hC dX6_contrast_99 (a := i) (k := 1) rfl (by decide) (Nat.le_of_ble_eq_true rfl) rfl (lo' := [some (rf E (0)), some (.int (nI (0))), some (.int (nI (i + 1))), some (.int (nI (0))), some (.int (nI (0)))]) rfl ?_
                refine y_goto (tgt := 8) hC dX6_contrast_102 (by decide) ?_
                refine y_fg 3 (lo' := [some (rf E (0)), some (.int (nI (0))), some (.int (nI (i + 1))), none, some (.int (nI (0)))]) rfl ?_
                refine y_fg 4 (lo' := [some (rf E (0)), some (.int (nI (0))), some (.int (nI (i + 1))), none, none]) rfl ?_
                have hst : ctN (pxD S.r) (i + 1) = nI (0) := by
                  rw [ctN_s]
                  first | rw [if_pos h7] | rw [if_neg h7]
                  first | rw [if_pos h56] | rw [if_neg h56]
                  rw [e84, e97]
                rw [← hst]
                exact ih_8 (i + 1) (by omega) (by omega)
          · have h56 : i < 56 := by omega
            refine y_aload_n hC dX6_contrast_51 (i := 0) rfl rfl ?_
            refine y_get hC fX6_41 dX6_contrast_52 (k := 0) (by omega) hM_1n.a0 rfl ?_
            refine y_iload_n hC dX6_contrast_55 (i := 2) rfl rfl ?_
            refine y_iald hC dX6_contrast_56 (k := 11) (j := i) (by omega) hM_1n.a11 (rfl) (by omega) (by decide) ?_
            refine y_top (y := (shd S.r (px S.r i) 0)) (hbf_1 i (by omega)) ?_
            refine y_aload_n hC dX6_contrast_57 (i := 0) rfl rfl ?_
            refine y_get hC fX6_41 dX6_contrast_58 (k := 0) (by omega) hM_1n.a0 rfl ?_
            refine y_iload_n hC dX6_contrast_61 (i := 2) rfl rfl ?_
            refine y_bipush (v := nI 8) hC dX6_contrast_62 (by decide) ?_
            refine y_iadd_n hC dX6_contrast_64 ?_
            refine y_iald hC dX6_contrast_65 (k := 11) (j := i + 8) (by omega) hM_1n.a11 (rfl) (by omega) (by decide) ?_
            refine y_top (y := (shd S.r (px S.r (i + 8)) 0)) (hbf_1 (i + 8) (by omega)) ?_
            refine y_callS hC mX6_distance kX6_226 dX6_contrast_66 (As := [.int (shd S.r (px S.r i) 0), .int (shd S.r (px S.r (i + 8)) 0)]) (rest := []) (c_X6_distance l E g_1 ((shd S.r (px S.r i) 0)) ((shd S.r (px S.r (i + 8)) 0))) rfl rfl rfl (Nat.le_of_ble_eq_true rfl) ⟨Nat.le_of_ble_eq_true rfl, Nat.le_of_ble_eq_true rfl⟩ (pk_i ?_)
            rintro r_66 g_66 ⟨hr_66, hq_66⟩
            obtain rfl := hq_66.symm
            rw [hr_66]
            clear hr_66 r_66
            refine y_top (y := (pxD S.r i (i + 8))) rfl ?_
            refine y_goto (tgt := 73) hC dX6_contrast_69 (by decide) ?_
            refine y_istore hC dX6_contrast_73 (Nat.le_of_ble_eq_true rfl) rfl (lo' := [some (rf E (0)), some (.int (ctN (pxD S.r) i)), some (.int (nI (i))), some (.int (nI (0))), some (.int (pxD S.r i (i + 8)))]) rfl ?_
            refine y_iload_n hC dX6_contrast_75 (i := 3) rfl rfl ?_
            refine y_iload_n hC dX6_contrast_76 (i := 1) rfl rfl ?_
            refine y_icmp_le (tgt := 84) hC dX6_contrast_77 (by decide) (fun c_77 => ?_) (fun c_77 => ?_)
            · refine y_iload_n hC dX6_contrast_84 (i := 1) rfl rfl ?_
              have e84 : mxI (ctN (pxD S.r) i) (nI (0)) = (ctN (pxD S.r) i) := by unfold mxI; first | (exact if_neg (Int32.not_lt.mpr c_77)) | (exact if_pos (Int32.not_le.mp c_77)) | (exact ite_self _)
              refine y_istore_n hC dX6_contrast_85 (i := 1) rfl (Nat.le_of_ble_eq_true rfl) rfl (lo' := [some (rf E (0)), some (.int (ctN (pxD S.r) i)), some (.int (nI (i))), some (.int (nI (0))), some (.int (pxD S.r i (i + 8)))]) rfl ?_
              refine y_iload hC dX6_contrast_86 rfl ?_
              refine y_iload_n hC dX6_contrast_88 (i := 1) rfl rfl ?_
              refine y_icmp_le (tgt := 97) hC dX6_contrast_89 (by decide) (fun c_89 => ?_) (fun c_89 => ?_)
              · refine y_iload_n hC dX6_contrast_97 (i := 1) rfl rfl ?_
                have e97 : mxI ((ctN (pxD S.r) i)) ((pxD S.r i (i + 8))) = (ctN (pxD S.r) i) := by unfold mxI; first | (exact if_neg (Int32.not_lt.mpr c_89)) | (exact if_pos (Int32.not_le.mp c_89)) | (exact ite_self _)
                refine y_istore_n hC dX6_contrast_98 (i := 1) rfl (Nat.le_of_ble_eq_true rfl) rfl (lo' := [some (rf E (0)), some (.int (ctN (pxD S.r) i)), some (.int (nI (i))), some (.int (nI (0))), some (.int (pxD S.r i (i + 8)))]) rfl ?_
                refine y_iinc_n hC dX6_contrast_99 (a := i) (k := 1) rfl (by decide) (Nat.le_of_ble_eq_true rfl) rfl (lo' := [some (rf E (0)), some (.int (ctN (pxD S.r) i)), some (.int (nI (i + 1))), some (.int (nI (0))), some (.int (pxD S.r i (i + 8)))]) rfl ?_
                refine y_goto (tgt := 8) hC dX6_contrast_102 (by decide) ?_
                refine y_fg 3 (lo' := [some (rf E (0)), some (.int (ctN (pxD S.r) i)), some (.int (nI (i + 1))), none, some (.int (pxD S.r i (i + 8)))]) rfl ?_
                refine y_fg 4 (lo' := [some (rf E (0)), some (.int (ctN (pxD S.r) i)), some (.int (nI (i + 1))), none, none]) rfl ?_
                have hst : ctN (pxD S.r) (i + 1) = (ctN (pxD S.r) i) := by
                  rw [ctN_s]
                  first | rw [if_pos h7] | rw [if_neg h7]
                  first | rw [if_pos h56] | rw [if_neg h56]
                  rw [e84, e97]
                rw [← hst]
                exact ih_8 (i + 1) (by omega) (by omega)
              · refine y_iload hC dX6_contrast_92 rfl ?_
                refine y_goto (tgt := 98) hC dX6_contrast_94 (by decide) ?_
                have e97 : mxI ((ctN (pxD S.r) i)) ((pxD S.r i (i + 8))) = (pxD S.r i (i + 8)) := by unfold mxI; first | (exact if_neg (Int32.not_lt.mpr c_89)) | (exact if_pos (Int32.not_le.mp c_89)) | (exact ite_self _)
                refine y_istore_n hC dX6_contrast_98 (i := 1) rfl (Nat.le_of_ble_eq_true rfl) rfl (lo' := [some (rf E (0)), some (.int (pxD S.r i (i + 8))), some (.int (nI (i))), some (.int (nI (0))), some (.int (pxD S.r i (i + 8)))]) rfl ?_
                refine y_iinc_n hC dX6_contrast_99 (a := i) (k := 1) rfl (by decide) (Nat.le_of_ble_eq_true rfl) rfl (lo' := [some (rf E (0)), some (.int (pxD S.r i (i + 8))), some (.int (nI (i + 1))), some (.int (nI (0))), some (.int (pxD S.r i (i + 8)))]) rfl ?_
                refine y_goto (tgt := 8) hC dX6_contrast_102 (by decide) ?_
                refine y_fg 3 (lo' := [some (rf E (0)), some (.int (pxD S.r i (i + 8))), some (.int (nI (i + 1))), none, some (.int (pxD S.r i (i + 8)))]) rfl ?_
                refine y_fg 4 (lo' := [some (rf E (0)), some (.int (pxD S.r i (i + 8))), some (.int (nI (i + 1))), none, none]) rfl ?_
                have hst : ctN (pxD S.r) (i + 1) = (pxD S.r i (i + 8)) := by
                  rw [ctN_s]
                  first | rw [if_pos h7] | rw [if_neg h7]
                  first | rw [if_pos h56] | rw [if_neg h56]
                  rw [e84, e97]
                rw [← hst]
                exact ih_8 (i + 1) (by omega) (by omega)
            · refine y_iload_n hC dX6_contrast_80 (i := 3) rfl rfl ?_
              refine y_goto (tgt := 85) hC dX6_contrast_81 (by decide) ?_
              have e84 : mxI (ctN (pxD S.r) i) (nI (0)) = nI (0) := by unfold mxI; first | (exact if_neg (Int32.not_lt.mpr c_77)) | (exact if_pos (Int32.not_le.mp c_77)) | (exact ite_self _)
              refine y_istore_n hC dX6_contrast_85 (i := 1) rfl (Nat.le_of_ble_eq_true rfl) rfl (lo' := [some (rf E (0)), some (.int (nI (0))), some (.int (nI (i))), some (.int (nI (0))), some (.int (pxD S.r i (i + 8)))]) rfl ?_
              refine y_iload hC dX6_contrast_86 rfl ?_
              refine y_iload_n hC dX6_contrast_88 (i := 1) rfl rfl ?_
              refine y_icmp_le (tgt := 97) hC dX6_contrast_89 (by decide) (fun c_89 => ?_) (fun c_89 => ?_)
              · refine y_iload_n hC dX6_contrast_97 (i := 1) rfl rfl ?_
                have e97 : mxI (nI (0)) ((pxD S.r i (i + 8))) = nI (0) := by unfold mxI; first | (exact if_neg (Int32.not_lt.mpr c_89)) | (exact if_pos (Int32.not_le.mp c_89)) | (exact ite_self _)
                refine y_istore_n hC dX6_contrast_98 (i := 1) rfl (Nat.le_of_ble_eq_true rfl) rfl (lo' := [some (rf E (0)), some (.int (nI (0))), some (.int (nI (i))), some (.int (nI (0))), some (.int (pxD S.r i (i + 8)))]) rfl ?_
                refine y_iinc_n hC dX6_contrast_99 (a := i) (k := 1) rfl (by decide) (Nat.le_of_ble_eq_true rfl) rfl (lo' := [some (rf E (0)), some (.int (nI (0))), some (.int (nI (i + 1))), some (.int (nI (0))), some (.int (pxD S.r i (i + 8)))]) rfl ?_
                refine y_goto (tgt := 8) hC dX6_contrast_102 (by decide) ?_
                refine y_fg 3 (lo' := [some (rf E (0)), some (.int (nI (0))), some (.int (nI (i + 1))), none, some (.int (pxD S.r i (i + 8)))]) rfl ?_
                refine y_fg 4 (lo' := [some (rf E (0)), some (.int (nI (0))), some (.int (nI (i + 1))), none, none]) rfl ?_
                have hst : ctN (pxD S.r) (i + 1) = nI (0) := by
                  rw [ctN_s]
                  first | rw [if_pos h7] | rw [if_neg h7]
                  first | rw [if_pos h56] | rw [if_neg h56]
                  rw [e84, e97]
                rw [← hst]
                exact ih_8 (i + 1) (by omega) (by omega)
              · refine y_iload hC dX6_contrast_92 rfl ?_
                refine y_goto (tgt := 98) hC dX6_contrast_94 (by decide) ?_
                have e97 : mxI (nI (0)) ((pxD S.r i (i + 8))) = (pxD S.r i (i + 8)) := by unfold mxI; first | (exact if_neg (Int32.not_lt.mpr c_89)) | (exact if_pos (Int32.not_le.mp c_89)) | (exact ite_self _)
                refine y_istore_n hC dX6_contrast_98 (i := 1) rfl (Nat.le_of_ble_eq_true rfl) rfl (lo' := [some (rf E (0)), some (.int (pxD S.r i (i + 8))), some (.int (nI (i))), some (.int (nI (0))), some (.int (pxD S.r i (i + 8)))]) rfl ?_
                refine y_iinc_n hC dX6_contrast_99 (a := i) (k := 1) rfl (by decide) (Nat.le_of_ble_eq_true rfl) rfl (lo' := [some (rf E (0)), some (.int (pxD S.r i (i + 8))), some (.int (nI (i + 1))), some (.int (nI (0))), some (.int (pxD S.r i (i + 8)))]) rfl ?_
                refine y_goto (tgt := 8) hC dX6_contrast_102 (by decide) ?_
                refine y_fg 3 (lo' := [some (rf E (0)), some (.int (pxD S.r i (i + 8))), some (.int (nI (i + 1))), none, some (.int (pxD S.r i (i + 8)))]) rfl ?_
                refine y_fg 4 (lo' := [some (rf E (0)), some (.int (pxD S.r i (i + 8))), some (.int (nI (i + 1))), none, none]) rfl ?_
                have hst : ctN (pxD S.r) (i + 1) = (pxD S.r i (i + 8)) := by
                  rw [ctN_s]
                  first | rw [if_pos h7] | rw [if_neg h7]
                  first | rw [if_pos h56] | rw [if_neg h56]
                  rw [e84, e97]
                rw [← hst]
                exact ih_8 (i + 1) (by omega) (by omega)
        · have h7 : i % 8 < 7 := by omega
          refine y_aload_n hC dX6_contrast_23 (i := 0) rfl rfl ?_
          refine y_get hC fX6_41 dX6_contrast_24 (k := 0) (by omega) hM_1n.a0 rfl ?_
          refine y_iload_n hC dX6_contrast_27 (i := 2) rfl rfl ?_
          refine y_iald hC dX6_contrast_28 (k := 11) (j := i) (by omega) hM_1n.a11 (rfl) (by omega) (by decide) ?_
          refine y_top (y := (shd S.r (px S.r i) 0)) (hbf_1 i (by omega)) ?_
          refine y_aload_n hC dX6_contrast_29 (i := 0) rfl rfl ?_
          refine y_get hC fX6_41 dX6_contrast_30 (k := 0) (by omega) hM_1n.a0 rfl ?_
          refine y_iload_n hC dX6_contrast_33 (i := 2) rfl rfl ?_
          refine y_iconst (v := nI 1) hC dX6_contrast_34 (by decide) ?_
          refine y_iadd_n hC dX6_contrast_35 ?_
          refine y_iald hC dX6_contrast_36 (k := 11) (j := i + 1) (by omega) hM_1n.a11 (rfl) (by omega) (by decide) ?_
          refine y_top (y := (shd S.r (px S.r (i + 1)) 0)) (hbf_1 (i + 1) (by omega)) ?_
          refine y_callS hC mX6_distance kX6_226 dX6_contrast_37 (As := [.int (shd S.r (px S.r i) 0), .int (shd S.r (px S.r (i + 1)) 0)]) (rest := []) (c_X6_distance l E g_1 ((shd S.r (px S.r i) 0)) ((shd S.r (px S.r (i + 1)) 0))) rfl rfl rfl (Nat.le_of_ble_eq_true rfl) ⟨Nat.le_of_ble_eq_true rfl, Nat.le_of_ble_eq_true rfl⟩ (pk_i ?_)
          rintro r_37 g_37 ⟨hr_37, hq_37⟩
          obtain rfl := hq_37.symm
          rw [hr_37]
          clear hr_37 r_37
          refine y_top (y := (pxD S.r i (i + 1))) rfl ?_
          refine y_goto (tgt := 44) hC dX6_contrast_40 (by decide) ?_
          refine y_istore_n hC dX6_contrast_44 (i := 3) rfl (Nat.le_of_ble_eq_true rfl) rfl (lo' := [some (rf E (0)), some (.int (ctN (pxD S.r) i)), some (.int (nI (i))), some (.int (pxD S.r i (i + 1))), none]) rfl ?_
          refine y_iload_n hC dX6_contrast_45 (i := 2) rfl rfl ?_
          refine y_bipush (v := nI 56) hC dX6_contrast_46 (by decide) ?_
          refine y_icmp_ge_n (tgt := 72) hC dX6_contrast_48 (by decide) (by omega) (by omega) (fun c_48 => ?_) (fun c_48 => ?_)
          · have h56 : ¬ i < 56 := by omega
            refine y_iconst (v := nI 0) hC dX6_contrast_72 (by decide) ?_
            refine y_istore hC dX6_contrast_73 (Nat.le_of_ble_eq_true rfl) rfl (lo' := [some (rf E (0)), some (.int (ctN (pxD S.r) i)), some (.int (nI (i))), some (.int (pxD S.r i (i + 1))), some (.int (nI (0)))]) rfl ?_
            refine y_iload_n hC dX6_contrast_75 (i := 3) rfl rfl ?_
            refine y_iload_n hC dX6_contrast_76 (i := 1) rfl rfl ?_
            refine y_icmp_le (tgt := 84) hC dX6_contrast_77 (by decide) (fun c_77 => ?_) (fun c_77 => ?_)
            · refine y_iload_n hC dX6_contrast_84 (i := 1) rfl rfl ?_
              have e84 : mxI (ctN (pxD S.r) i) ((pxD S.r i (i + 1))) = (ctN (pxD S.r) i) := by unfold mxI; first | (exact if_neg (Int32.not_lt.mpr c_77)) | (exact if_pos (Int32.not_le.mp c_77)) | (exact ite_self _)
              refine y_istore_n hC dX6_contrast_85 (i := 1) rfl (Nat.le_of_ble_eq_true rfl) rfl (lo' := [some (rf E (0)), some (.int (ctN (pxD S.r) i)), some (.int (nI (i))), some (.int (pxD S.r i (i + 1))), some (.int (nI (0)))]) rfl ?_
              refine y_iload hC dX6_contrast_86 rfl ?_
              refine y_iload_n hC dX6_contrast_88 (i := 1) rfl rfl ?_
              refine y_icmp_le (tgt := 97) hC dX6_contrast_89 (by decide) (fun c_89 => ?_) (fun c_89 => ?_)
              · refine y_iload_n hC dX6_contrast_97 (i := 1) rfl rfl ?_
                have e97 : mxI ((ctN (pxD S.r) i)) (nI (0)) = (ctN (pxD S.r) i) := by unfold mxI; first | (exact if_neg (Int32.not_lt.mpr c_89)) | (exact if_pos (Int32.not_le.mp c_89)) | (exact ite_self _)
                refine y_istore_n hC dX6_contrast_98 (i := 1) rfl (Nat.le_of_ble_eq_true rfl) rfl (lo' := [some (rf E (0)), some (.int (ctN (pxD S.r) i)), some (.int (nI (i))), some (.int (pxD S.r i (i + 1))), some (.int (nI (0)))]) rfl ?_
                refine y_iinc_n hC dX6_contrast_99 (a := i) (k := 1) rfl (by decide) (Nat.le_of_ble_eq_true rfl) rfl (lo' := [some (rf E (0)), some (.int (ctN (pxD S.r) i)), some (.int (nI (i + 1))), some (.int (pxD S.r i (i + 1))), some (.int (nI (0)))]) rfl ?_
                refine y_goto (tgt := 8) hC dX6_contrast_102 (by decide) ?_
                refine y_fg 3 (lo' := [some (rf E (0)), some (.int (ctN (pxD S.r) i)), some (.int (nI (i + 1))), none, some (.int (nI (0)))]) rfl ?_
                refine y_fg 4 (lo' := [some (rf E (0)), some (.int (ctN (pxD S.r) i)), some (.int (nI (i + 1))), none, none]) rfl ?_
                have hst : ctN (pxD S.r) (i + 1) = (ctN (pxD S.r) i) := by
                  rw [ctN_s]
                  first | rw [if_pos h7] | rw [if_neg h7]
                  first | rw [if_pos h56] | rw [if_neg h56]
                  rw [e84, e97]
                rw [← hst]
                exact ih_8 (i + 1) (by omega) (by omega)
              · refine y_iload hC dX6_contrast_92 rfl ?_
                refine y_goto (tgt := 98) hC dX6_contrast_94 (by decide) ?_
                have e97 : mxI ((ctN (pxD S.r) i)) (nI (0)) = nI (0) := by unfold mxI; first | (exact if_neg (Int32.not_lt.mpr c_89)) | (exact if_pos (Int32.not_le.mp c_89)) | (exact ite_self _)
                refine y_istore_n hC dX6_contrast_98 (i := 1) rfl (Nat.le_of_ble_eq_true rfl) rfl (lo' := [some (rf E (0)), some (.int (nI (0))), some (.int (nI (i))), some (.int (pxD S.r i (i + 1))), some (.int (nI (0)))]) rfl ?_
                refine y_iinc_n hC dX6_contrast_99 (a := i) (k := 1) rfl (by decide) (Nat.le_of_ble_eq_true rfl) rfl (lo' := [some (rf E (0)), some (.int (nI (0))), some (.int (nI (i + 1))), some (.int (pxD S.r i (i + 1))), some (.int (nI (0)))]) rfl ?_
                refine y_goto (tgt := 8) hC dX6_contrast_102 (by decide) ?_
                refine y_fg 3 (lo' := [some (rf E (0)), some (.int (nI (0))), some (.int (nI (i + 1))), none, some (.int (nI (0)))]) rfl ?_
                refine y_fg 4 (lo' := [some (rf E (0)), some (.int (nI (0))), some (.int (nI (i + 1))), none, none]) rfl ?_
                have hst : ctN (pxD S.r) (i + 1) = nI (0) := by
                  rw [ctN_s]
                  first | rw [if_pos h7] | rw [if_neg h7]
                  first | rw [if_pos h56] | rw [if_neg h56]
                  rw [e84, e97]
                rw [← hst]
                exact ih_8 (i + 1) (by omega) (by omega)
            · refine y_iload_n hC dX6_contrast_80 (i := 3) rfl rfl ?_
              refine y_goto (tgt := 85) hC dX6_contrast_81 (by decide) ?_
              have e84 : mxI (ctN (pxD S.r) i) ((pxD S.r i (i + 1))) = (pxD S.r i (i + 1)) := by unfold mxI; first | (exact if_neg (Int32.not_lt.mpr c_77)) | (exact if_pos (Int32.not_le.mp c_77)) | (exact ite_self _)
              refine y_istore_n hC dX6_contrast_85 (i := 1) rfl (Nat.le_of_ble_eq_true rfl) rfl (lo' := [some (rf E (0)), some (.int (pxD S.r i (i + 1))), some (.int (nI (i))), some (.int (pxD S.r i (i + 1))), some (.int (nI (0)))]) rfl ?_
              refine y_iload hC dX6_contrast_86 rfl ?_
              refine y_iload_n hC dX6_contrast_88 (i := 1) rfl rfl ?_
              refine y_icmp_le (tgt := 97) hC dX6_contrast_89 (by decide) (fun c_89 => ?_) (fun c_89 => ?_)
              · refine y_iload_n hC dX6_contrast_97 (i := 1) rfl rfl ?_
                have e97 : mxI ((pxD S.r i (i + 1))) (nI (0)) = (pxD S.r i (i + 1)) := by unfold mxI; first | (exact if_neg (Int32.not_lt.mpr c_89)) | (exact if_pos (Int32.not_le.mp c_89)) | (exact ite_self _)
                refine y_istore_n hC dX6_contrast_98 (i := 1) rfl (Nat.le_of_ble_eq_true rfl) rfl (lo' := [some (rf E (0)), some (.int (pxD S.r i (i + 1))), some (.int (nI (i))), some (.int (pxD S.r i (i + 1))), some (.int (nI (0)))]) rfl ?_
                refine y_iinc_n hC dX6_contrast_99 (a := i) (k := 1) rfl (by decide) (Nat.le_of_ble_eq_true rfl) rfl (lo' := [some (rf E (0)), some (.int (pxD S.r i (i + 1))), some (.int (nI (i + 1))), some (.int (pxD S.r i (i + 1))), some (.int (nI (0)))]) rfl ?_
                refine y_goto (tgt := 8) hC dX6_contrast_102 (by decide) ?_
                refine y_fg 3 (lo' := [some (rf E (0)), some (.int (pxD S.r i (i + 1))), some (.int (nI (i + 1))), none, some (.int (nI (0)))]) rfl ?_
                refine y_fg 4 (lo' := [some (rf E (0)), some (.int (pxD S.r i (i + 1))), some (.int (nI (i + 1))), none, none]) rfl ?_
                have hst : ctN (pxD S.r) (i + 1) = (pxD S.r i (i + 1)) := by
                  rw [ctN_s]
                  first | rw [if_pos h7] | rw [if_neg h7]
                  first | rw [if_pos h56] | rw [if_neg h56]
                  rw [e84, e97]
                rw [← hst]
                exact ih_8 (i + 1) (by omega) (by omega)
              · refine y_iload hC dX6_contrast_92 rfl ?_
                refine y_goto (tgt := 98) hC dX6_contrast_94 (by decide) ?_
                have e97 : mxI ((pxD S.r i (i + 1))) (nI (0)) = nI (0) := by unfold mxI; first | (exact if_neg (Int32.not_lt.mpr c_89)) | (exact if_pos (Int32.not_le.mp c_89)) | (exact ite_self _)
                refine y_istore_n hC dX6_contrast_98 (i := 1) rfl (Nat.le_of_ble_eq_true rfl) rfl (lo' := [some (rf E (0)), some (.int (nI (0))), some (.int (nI (i))), some (.int (pxD S.r i (i + 1))), some (.int (nI (0)))]) rfl ?_
                refine y_iinc_n hC dX6_contrast_99 (a := i) (k := 1) rfl (by decide) (Nat.le_of_ble_eq_true rfl) rfl (lo' := [some (rf E (0)), some (.int (nI (0))), some (.int (nI (i + 1))), some (.int (pxD S.r i (i + 1))), some (.int (nI (0)))]) rfl ?_
                refine y_goto (tgt := 8) hC dX6_contrast_102 (by decide) ?_
                refine y_fg 3 (lo' := [some (rf E (0)), some (.int (nI (0))), some (.int (nI (i + 1))), none, some (.int (nI (0)))]) rfl ?_
                refine y_fg 4 (lo' := [some (rf E (0)), some (.int (nI (0))), some (.int (nI (i + 1))), none, none]) rfl ?_
                have hst : ctN (pxD S.r) (i + 1) = nI (0) := by
                  rw [ctN_s]
                  first | rw [if_pos h7] | rw [if_neg h7]
                  first | rw [if_pos h56] | rw [if_neg h56]
                  rw [e84, e97]
                rw [← hst]
                exact ih_8 (i + 1) (by omega) (by omega)
          · have h56 : i < 56 := by omega
            refine y_aload_n hC dX6_contrast_51 (i := 0) rfl rfl ?_
            refine y_get hC fX6_41 dX6_contrast_52 (k := 0) (by omega) hM_1n.a0 rfl ?_
            refine y_iload_n hC dX6_contrast_55 (i := 2) rfl rfl ?_
            refine y_iald hC dX6_contrast_56 (k := 11) (j := i) (by omega) hM_1n.a11 (rfl) (by omega) (by decide) ?_
            refine y_top (y := (shd S.r (px S.r i) 0)) (hbf_1 i (by omega)) ?_
            refine y_aload_n hC dX6_contrast_57 (i := 0) rfl rfl ?_
            refine y_get hC fX6_41 dX6_contrast_58 (k := 0) (by omega) hM_1n.a0 rfl ?_
            refine y_iload_n hC dX6_contrast_61 (i := 2) rfl rfl ?_
            refine y_bipush (v := nI 8) hC dX6_contrast_62 (by decide) ?_
            refine y_iadd_n hC dX6_contrast_64 ?_
            refine y_iald hC dX6_contrast_65 (k := 11) (j := i + 8) (by omega) hM_1n.a11 (rfl) (by omega) (by decide) ?_
            refine y_top (y := (shd S.r (px S.r (i + 8)) 0)) (hbf_1 (i + 8) (by omega)) ?_
            refine y_callS hC mX6_distance kX6_226 dX6_contrast_66 (As := [.int (shd S.r (px S.r i) 0), .int (shd S.r (px S.r (i + 8)) 0)]) (rest := []) (c_X6_distance l E g_1 ((shd S.r (px S.r i) 0)) ((shd S.r (px S.r (i + 8)) 0))) rfl rfl rfl (Nat.le_of_ble_eq_true rfl) ⟨Nat.le_of_ble_eq_true rfl, Nat.le_of_ble_eq_true rfl⟩ (pk_i ?_)
            rintro r_66 g_66 ⟨hr_66, hq_66⟩
            obtain rfl := hq_66.symm
            rw [hr_66]
            clear hr_66 r_66
            refine y_top (y := (pxD S.r i (i + 8))) rfl ?_
            refine y_goto (tgt := 73) hC dX6_contrast_69 (by decide) ?_
            refine y_istore hC dX6_contrast_73 (Nat.le_of_ble_eq_true rfl) rfl (lo' := [some (rf E (0)), some (.int (ctN (pxD S.r) i)), some (.int (nI (i))), some (.int (pxD S.r i (i + 1))), some (.int (pxD S.r i (i + 8)))]) rfl ?_
            refine y_iload_n hC dX6_contrast_75 (i := 3) rfl rfl ?_
            refine y_iload_n hC dX6_contrast_76 (i := 1) rfl rfl ?_
            refine y_icmp_le (tgt := 84) hC dX6_contrast_77 (by decide) (fun c_77 => ?_) (fun c_77 => ?_)
            · refine y_iload_n hC dX6_contrast_84 (i := 1) rfl rfl ?_
              have e84 : mxI (ctN (pxD S.r) i) ((pxD S.r i (i + 1))) = (ctN (pxD S.r) i) := by unfold mxI; first | (exact if_neg (Int32.not_lt.mpr c_77)) | (exact if_pos (Int32.not_le.mp c_77)) | (exact ite_self _)
              refine y_istore_n hC dX6_contrast_85 (i := 1) rfl (Nat.le_of_ble_eq_true rfl) rfl (lo' := [some (rf E (0)), some (.int (ctN (pxD S.r) i)), some (.int (nI (i))), some (.int (pxD S.r i (i + 1))), some (.int (pxD S.r i (i + 8)))]) rfl ?_
              refine y_iload hC dX6_contrast_86 rfl ?_
              refine y_iload_n hC dX6_contrast_88 (i := 1) rfl rfl ?_
              refine y_icmp_le (tgt := 97) hC dX6_contrast_89 (by decide) (fun c_89 => ?_) (fun c_89 => ?_)
              · refine y_iload_n hC dX6_contrast_97 (i := 1) rfl rfl ?_
                have e97 : mxI ((ctN (pxD S.r) i)) ((pxD S.r i (i + 8))) = (ctN (pxD S.r) i) := by unfold mxI; first | (exact if_neg (Int32.not_lt.mpr c_89)) | (exact if_pos (Int32.not_le.mp c_89)) | (exact ite_self _)
                refine y_istore_n hC dX6_contrast_98 (i := 1) rfl (Nat.le_of_ble_eq_true rfl) rfl (lo' := [some (rf E (0)), some (.int (ctN (pxD S.r) i)), some (.int (nI (i))), some (.int (pxD S.r i (i + 1))), some (.int (pxD S.r i (i + 8)))]) rfl ?_
                refine y_iinc_n hC dX6_contrast_99 (a := i) (k := 1) rfl (by decide) (Nat.le_of_ble_eq_true rfl) rfl (lo' := [some (rf E (0)), some (.int (ctN (pxD S.r) i)), some (.int (nI (i + 1))), some (.int (pxD S.r i (i + 1))), some (.int (pxD S.r i (i + 8)))]) rfl ?_
                refine y_goto (tgt := 8) hC dX6_contrast_102 (by decide) ?_
                refine y_fg 3 (lo' := [some (rf E (0)), some (.int (ctN (pxD S.r) i)), some (.int (nI (i + 1))), none, some (.int (pxD S.r i (i + 8)))]) rfl ?_
                refine y_fg 4 (lo' := [some (rf E (0)), some (.int (ctN (pxD S.r) i)), some (.int (nI (i + 1))), none, none]) rfl ?_
                have hst : ctN (pxD S.r) (i + 1) = (ctN (pxD S.r) i) := by
                  rw [ctN_s]
                  first | rw [if_pos h7] | rw [if_neg h7]
                  first | rw [if_pos h56] | rw [if_neg h56]
                  rw [e84, e97]
                rw [← hst]
                exact ih_8 (i + 1) (by omega) (by omega)
              · refine y_iload hC dX6_contrast_92 rfl ?_
                refine y_goto (tgt := 98) hC dX6_contrast_94 (by decide) ?_
                have e97 : mxI ((ctN (pxD S.r) i)) ((pxD S.r i (i + 8))) = (pxD S.r i (i + 8)) := by unfold mxI; first | (exact if_neg (Int32.not_lt.mpr c_89)) | (exact if_pos (Int32.not_le.mp c_89)) | (exact ite_self _)
                refine y_istore_n hC dX6_contrast_98 (i := 1) rfl (Nat.le_of_ble_eq_true rfl) rfl (lo' := [some (rf E (0)), some (.int (pxD S.r i (i + 8))), some (.int (nI (i))), some (.int (pxD S.r i (i + 1))), some (.int (pxD S.r i (i + 8)))]) rfl ?_
                refine y_iinc_n hC dX6_contrast_99 (a := i) (k := 1) rfl (by decide) (Nat.le_of_ble_eq_true rfl) rfl (lo' := [some (rf E (0)), some (.int (pxD S.r i (i + 8))), some (.int (nI (i + 1))), some (.int (pxD S.r i (i + 1))), some (.int (pxD S.r i (i + 8)))]) rfl ?_
                refine y_goto (tgt := 8) hC dX6_contrast_102 (by decide) ?_
                refine y_fg 3 (lo' := [some (rf E (0)), some (.int (pxD S.r i (i + 8))), some (.int (nI (i + 1))), none, some (.int (pxD S.r i (i + 8)))]) rfl ?_
                refine y_fg 4 (lo' := [some (rf E (0)), some (.int (pxD S.r i (i + 8))), some (.int (nI (i + 1))), none, none]) rfl ?_
                have hst : ctN (pxD S.r) (i + 1) = (pxD S.r i (i + 8)) := by
                  rw [ctN_s]
                  first | rw [if_pos h7] | rw [if_neg h7]
                  first | rw [if_pos h56] | rw [if_neg h56]
                  rw [e84, e97]
                rw [← hst]
                exact ih_8 (i + 1) (by omega) (by omega)
            · refine y_iload_n hC dX6_contrast_80 (i := 3) rfl rfl ?_
              refine y_goto (tgt := 85) hC dX6_contrast_81 (by decide) ?_
              have e84 : mxI (ctN (pxD S.r) i) ((pxD S.r i (i + 1))) = (pxD S.r i (i + 1)) := by unfold mxI; first | (exact if_neg (Int32.not_lt.mpr c_77)) | (exact if_pos (Int32.not_le.mp c_77)) | (exact ite_self _)
              refine y_istore_n hC dX6_contrast_85 (i := 1) rfl (Nat.le_of_ble_eq_true rfl) rfl (lo' := [some (rf E (0)), some (.int (pxD S.r i (i + 1))), some (.int (nI (i))), some (.int (pxD S.r i (i + 1))), some (.int (pxD S.r i (i + 8)))]) rfl ?_
              refine y_iload hC dX6_contrast_86 rfl ?_
              refine y_iload_n hC dX6_contrast_88 (i := 1) rfl rfl ?_
              refine y_icmp_le (tgt := 97) hC dX6_contrast_89 (by decide) (fun c_89 => ?_) (fun c_89 => ?_)
              · refine y_iload_n hC dX6_contrast_97 (i := 1) rfl rfl ?_
                have e97 : mxI ((pxD S.r i (i + 1))) ((pxD S.r i (i + 8))) = (pxD S.r i (i + 1)) := by unfold mxI; first | (exact if_neg (Int32.not_lt.mpr c_89)) | (exact if_pos (Int32.not_le.mp c_89)) | (exact ite_self _)
                refine y_istore_n hC dX6_contrast_98 (i := 1) rfl (Nat.le_of_ble_eq_true rfl) rfl (lo' := [some (rf E (0)), some (.int (pxD S.r i (i + 1))), some (.int (nI (i))), some (.int (pxD S.r i (i + 1))), some (.int (pxD S.r i (i + 8)))]) rfl ?_
                refine y_iinc_n hC dX6_contrast_99 (a := i) (k := 1) rfl (by decide) (Nat.le_of_ble_eq_true rfl) rfl (lo' := [some (rf E (0)), some (.int (pxD S.r i (i + 1))), some (.int (nI (i + 1))), some (.int (pxD S.r i (i + 1))), some (.int (pxD S.r i (i + 8)))]) rfl ?_
                refine y_goto (tgt := 8) hC dX6_contrast_102 (by decide) ?_
                refine y_fg 3 (lo' := [some (rf E (0)), some (.int (pxD S.r i (i + 1))), some (.int (nI (i + 1))), none, some (.int (pxD S.r i (i + 8)))]) rfl ?_
                refine y_fg 4 (lo' := [some (rf E (0)), some (.int (pxD S.r i (i + 1))), some (.int (nI (i + 1))), none, none]) rfl ?_
                have hst : ctN (pxD S.r) (i + 1) = (pxD S.r i (i + 1)) := by
                  rw [ctN_s]
                  first | rw [if_pos h7] | rw [if_neg h7]
                  first | rw [if_pos h56] | rw [if_neg h56]
                  rw [e84, e97]
                rw [← hst]
                exact ih_8 (i + 1) (by omega) (by omega)
              · refine y_iload hC dX6_contrast_92 rfl ?_
                refine y_goto (tgt := 98) hC dX6_contrast_94 (by decide) ?_
                have e97 : mxI ((pxD S.r i (i + 1))) ((pxD S.r i (i + 8))) = (pxD S.r i (i + 8)) := by unfold mxI; first | (exact if_neg (Int32.not_lt.mpr c_89)) | (exact if_pos (Int32.not_le.mp c_89)) | (exact ite_self _)
                refine y_istore_n hC dX6_contrast_98 (i := 1) rfl (Nat.le_of_ble_eq_true rfl) rfl (lo' := [some (rf E (0)), some (.int (pxD S.r i (i + 8))), some (.int (nI (i))), some (.int (pxD S.r i (i + 1))), some (.int (pxD S.r i (i + 8)))]) rfl ?_
                refine y_iinc_n hC dX6_contrast_99 (a := i) (k := 1) rfl (by decide) (Nat.le_of_ble_eq_true rfl) rfl (lo' := [some (rf E (0)), some (.int (pxD S.r i (i + 8))), some (.int (nI (i + 1))), some (.int (pxD S.r i (i + 1))), some (.int (pxD S.r i (i + 8)))]) rfl ?_
                refine y_goto (tgt := 8) hC dX6_contrast_102 (by decide) ?_
                refine y_fg 3 (lo' := [some (rf E (0)), some (.int (pxD S.r i (i + 8))), some (.int (nI (i + 1))), none, some (.int (pxD S.r i (i + 8)))]) rfl ?_
                refine y_fg 4 (lo' := [some (rf E (0)), some (.int (pxD S.r i (i + 8))), some (.int (nI (i + 1))), none, none]) rfl ?_
                have hst : ctN (pxD S.r) (i + 1) = (pxD S.r i (i + 8)) := by
                  rw [ctN_s]
                  first | rw [if_pos h7] | rw [if_neg h7]
                  first | rw [if_pos h56] | rw [if_neg h56]
                  rw [e84, e97]
                rw [← hst]
                exact ih_8 (i + 1) (by omega) (by omega)
  exact L_8 65 0 (by omega) (by omega)

theorem dX6_common_0 : decode cX6_common 0 = .ok (.lload_n 0, 1) := by decide +kernel
theorem dX6_common_1 : decode cX6_common 1 = .ok (.lstore 4, 2) := by decide +kernel
theorem dX6_common_3 : decode cX6_common 3 = .ok (.lload_n 2, 1) := by decide +kernel
theorem dX6_common_4 : decode cX6_common 4 = .ok (.lstore 6, 2) := by decide +kernel
theorem dX6_common_6 : decode cX6_common 6 = .ok (.lload 6, 2) := by decide +kernel
theorem dX6_common_8 : decode cX6_common 8 = .ok (.lconst 0, 1) := by decide +kernel
theorem dX6_common_9 : decode cX6_common 9 = .ok (.lcmp, 1) := by decide +kernel
theorem dX6_common_10 : decode cX6_common 10 = .ok (.ifCond .eq 21, 3) := by decide +kernel
theorem dX6_common_13 : decode cX6_common 13 = .ok (.lload 4, 2) := by decide +kernel
theorem dX6_common_15 : decode cX6_common 15 = .ok (.lload 6, 2) := by decide +kernel
theorem dX6_common_17 : decode cX6_common 17 = .ok (.lrem, 1) := by decide +kernel
theorem dX6_common_18 : decode cX6_common 18 = .ok (.lstore 8, 2) := by decide +kernel
theorem dX6_common_20 : decode cX6_common 20 = .ok (.lload 6, 2) := by decide +kernel
theorem dX6_common_22 : decode cX6_common 22 = .ok (.lstore 4, 2) := by decide +kernel
theorem dX6_common_24 : decode cX6_common 24 = .ok (.lload 8, 2) := by decide +kernel
theorem dX6_common_26 : decode cX6_common 26 = .ok (.lstore 6, 2) := by decide +kernel
theorem dX6_common_28 : decode cX6_common 28 = .ok (.goto (-22), 3) := by decide +kernel
theorem dX6_common_31 : decode cX6_common 31 = .ok (.lload 4, 2) := by decide +kernel
theorem dX6_common_33 : decode cX6_common 33 = .ok (.lreturn, 1) := by decide +kernel
set_option maxHeartbeats 4000000 in
set_option maxRecDepth 100000 in
theorem c_X6_common (l : Launch) (E : gE) (g : Mem) (a b : Nat) (ha : 0 < a) (ha2 : a < 2 ^ 63) (hb2 : b < 2 ^ 63) : Mt l E yX6_common cX6_common 10 (some .long) 0 0 [.long (lN (a)), .long (lN (b))] g (pL (fun z g' => z = lN (Nat.gcd a b) ∧ g' = g)) := by
  refine mt_go (own := RX6) (by decide) rfl (lo := [some (.long (lN (a))), none, some (.long (lN (b))), none, none, none, none, none, none, none]) rfl (Nat.le_of_ble_eq_true rfl) (fun X hC => ?_)
  refine y_lload_n hC dX6_common_0 (i := 0) rfl rfl ?_
  refine y_lstore hC dX6_common_1 (Nat.le_of_ble_eq_true rfl) rfl (lo' := [some (.long (lN (a))), none, some (.long (lN (b))), none, some (.long (lN (a))), none, none, none, none, none]) rfl ?_
  refine y_lload_n hC dX6_common_3 (i := 2) rfl rfl ?_
  refine y_lstore hC dX6_common_4 (Nat.le_of_ble_eq_true rfl) rfl (lo' := [some (.long (lN (a))), none, some (.long (lN (b))), none, some (.long (lN (a))), none, some (.long (lN (b))), none, none, none]) rfl ?_
  have L_6 : ∀ (m : Nat) (d e : Nat), (hm : e < m) → (hd : d < 2 ^ 63) → (he : e < 2 ^ 63) → (hg : Nat.gcd d e = Nat.gcd a b) → Y l E X (pL (fun z g' => z = lN (Nat.gcd a b) ∧ g' = g)) 6 [some (.long (lN (a))), none, some (.long (lN (b))), none, some (.long (lN (d))), none, some (.long (lN (e))), none, none, none] [] g := by
    intro m
    induction m with
    | zero => intro d e hm hd he hg; exact absurd hm (Nat.not_lt_zero _)
    | succ m ih_6 =>
      intro d e hm hd he hg
      refine y_lload hC dX6_common_6 rfl ?_
      refine y_lconst (v := lN 0) hC dX6_common_8 (by decide) ?_
      refine y_lcmp hC dX6_common_9 ?_
      refine y_if_eq (tgt := 31) hC dX6_common_10 (by decide) (fun c_10 => ?_) (fun c_10 => ?_)
      · have he0 : e = 0 := (pk_lEQ (by omega) (by decide)).mp (zcmp0.mp c_10)
        refine y_lload hC dX6_common_31 rfl ?_
        refine y_lret (hC := hC) (hd := dX6_common_33) (hq := ?_)
        exact ⟨congrArg lN (by rw [← hg, he0, Nat.gcd_zero_right]), rfl⟩
      · have he0 : 0 < e := by
          have : ¬ e = 0 := fun q => c_10 (zcmp0.mpr (by rw [q]))
          omega
        have hml := Nat.mod_lt d he0
        have hne : ¬ lN e = 0 := fun q => by
          have := (pk_lEQ (a := e) (b := 0) (by omega) (by decide)).mp q
          omega
        refine y_lload hC dX6_common_13 rfl ?_
        refine y_lload hC dX6_common_15 rfl ?_
        refine y_lrem hC dX6_common_17 (hne) ?_
        refine y_topl (y := lN (d % e)) (pk_lRem (by omega) he0 (by omega)) ?_
        refine y_lstore hC dX6_common_18 (Nat.le_of_ble_eq_true rfl) rfl (lo' := [some (.long (lN (a))), none, some (.long (lN (b))), none, some (.long (lN (d))), none, some (.long (lN (e))), none, some (.long (lN (d % e))), none]) rfl ?_
        refine y_lload hC dX6_common_20 rfl ?_
        refine y_lstore hC dX6_common_22 (Nat.le_of_ble_eq_true rfl) rfl (lo' := [some (.long (lN (a))), none, some (.long (lN (b))), none, some (.long (lN (e))), none, some (.long (lN (e))), none, some (.long (lN (d % e))), none]) rfl ?_
        refine y_lload hC dX6_common_24 rfl ?_
        refine y_lstore hC dX6_common_26 (Nat.le_of_ble_eq_true rfl) rfl (lo' := [some (.long (lN (a))), none, some (.long (lN (b))), none, some (.long (lN (e))), none, some (.long (lN (d % e))), none, some (.long (lN (d % e))), none]) rfl ?_
        refine y_goto (tgt := 6) hC dX6_common_28 (by decide) ?_
        refine y_fg 8 (lo' := [some (.long (lN (a))), none, some (.long (lN (b))), none, some (.long (lN (e))), none, some (.long (lN (d % e))), none, none, none]) rfl ?_
        exact ih_6 e (d % e) (by omega) (by omega) (by omega) ((gcd_st d e).trans hg)
  exact L_6 (b + 1) a b (by omega) ha2 hb2 rfl

theorem dX6_both_0 : decode cX6_both 0 = .ok (.lload_n 0, 1) := by decide +kernel
theorem dX6_both_1 : decode cX6_both 1 = .ok (.lload_n 0, 1) := by decide +kernel
theorem dX6_both_2 : decode cX6_both 2 = .ok (.lload_n 2, 1) := by decide +kernel
theorem dX6_both_3 : decode cX6_both 3 = .ok (.invokestatic 219, 3) := by decide +kernel
theorem dX6_both_6 : decode cX6_both 6 = .ok (.ldiv, 1) := by decide +kernel
theorem dX6_both_7 : decode cX6_both 7 = .ok (.lload_n 2, 1) := by decide +kernel
theorem dX6_both_8 : decode cX6_both 8 = .ok (.lmul, 1) := by decide +kernel
theorem dX6_both_9 : decode cX6_both 9 = .ok (.lreturn, 1) := by decide +kernel
set_option maxHeartbeats 4000000 in
set_option maxRecDepth 100000 in
theorem c_X6_both (l : Launch) (E : gE) (g : Mem) (a b : Nat) (ha : 0 < a) (ha2 : a < 2 ^ 63) (hb2 : b < 2 ^ 63) : Mt l E yX6_both cX6_both 4 (some .long) 1 29 [.long (lN (a)), .long (lN (b))] g (pL (fun z g' => z = lN (Nat.lcm a b) ∧ g' = g)) := by
  have hg0 := Nat.gcd_pos_of_pos_left b ha
  have hgl := Nat.le_of_dvd ha (Nat.gcd_dvd_left a b)
  have hne : ¬ lN (Nat.gcd a b) = 0 := fun q => by
    have := (pk_lEQ (a := Nat.gcd a b) (b := 0) (by omega) (by decide)).mp q
    omega
  refine mt_go (own := RX6) (by decide) rfl (lo := [some (.long (lN (a))), none, some (.long (lN (b))), none]) rfl (Nat.le_of_ble_eq_true rfl) (fun X hC => ?_)
  refine y_lload_n hC dX6_both_0 (i := 0) rfl rfl ?_
  refine y_lload_n hC dX6_both_1 (i := 0) rfl rfl ?_
  refine y_lload_n hC dX6_both_2 (i := 2) rfl rfl ?_
  refine y_callS hC mX6_common kX6_219 dX6_both_3 (As := [.long (lN (a)), .long (lN (b))]) (rest := [.long (lN (a))]) (c_X6_common l E g a b ha ha2 hb2) rfl rfl rfl (Nat.le_of_ble_eq_true rfl) ⟨Nat.le_of_ble_eq_true rfl, Nat.le_of_ble_eq_true rfl⟩ (pk_l ?_)
  rintro r_3 g_3 ⟨hr_3, hq_3⟩
  obtain rfl := hq_3.symm
  rw [hr_3]
  clear hr_3 r_3
  refine y_ldiv hC dX6_both_6 (hne) ?_
  refine y_lload_n hC dX6_both_7 (i := 2) rfl rfl ?_
  refine y_lmul hC dX6_both_8 ?_
  refine y_topl (y := lN (Nat.lcm a b)) (by rw [pk_lDiv (by omega) hg0 (by omega), lN_mul, lcm_dm]) ?_
  refine y_lret (hC := hC) (hd := dX6_both_9) (hq := ?_)
  exact ⟨rfl, rfl⟩

theorem dX6_fullTurn_0 : decode cX6_fullTurn 0 = .ok (.lconst 1, 1) := by decide +kernel
theorem dX6_fullTurn_1 : decode cX6_fullTurn 1 = .ok (.lstore_n 1, 1) := by decide +kernel
theorem dX6_fullTurn_2 : decode cX6_fullTurn 2 = .ok (.iconst 0, 1) := by decide +kernel
theorem dX6_fullTurn_3 : decode cX6_fullTurn 3 = .ok (.istore_n 3, 1) := by decide +kernel
theorem dX6_fullTurn_4 : decode cX6_fullTurn 4 = .ok (.iload_n 3, 1) := by decide +kernel
theorem dX6_fullTurn_5 : decode cX6_fullTurn 5 = .ok (.aload_n 0, 1) := by decide +kernel
theorem dX6_fullTurn_6 : decode cX6_fullTurn 6 = .ok (.getfield 7, 3) := by decide +kernel
theorem dX6_fullTurn_9 : decode cX6_fullTurn 9 = .ok (.bipush 32, 2) := by decide +kernel
theorem dX6_fullTurn_11 : decode cX6_fullTurn 11 = .ok (.iaload, 1) := by decide +kernel
theorem dX6_fullTurn_12 : decode cX6_fullTurn 12 = .ok (.if_icmp .ge 67, 3) := by decide +kernel
theorem dX6_fullTurn_15 : decode cX6_fullTurn 15 = .ok (.aload_n 0, 1) := by decide +kernel
theorem dX6_fullTurn_16 : decode cX6_fullTurn 16 = .ok (.iload_n 3, 1) := by decide +kernel
theorem dX6_fullTurn_17 : decode cX6_fullTurn 17 = .ok (.iconst 3, 1) := by decide +kernel
theorem dX6_fullTurn_18 : decode cX6_fullTurn 18 = .ok (.invokevirtual 60, 3) := by decide +kernel
theorem dX6_fullTurn_21 : decode cX6_fullTurn 21 = .ok (.iconst 2, 1) := by decide +kernel
theorem dX6_fullTurn_22 : decode cX6_fullTurn 22 = .ok (.if_icmp .ne 15, 3) := by decide +kernel
theorem dX6_fullTurn_25 : decode cX6_fullTurn 25 = .ok (.iconst 2, 1) := by decide +kernel
theorem dX6_fullTurn_26 : decode cX6_fullTurn 26 = .ok (.aload_n 0, 1) := by decide +kernel
theorem dX6_fullTurn_27 : decode cX6_fullTurn 27 = .ok (.iload_n 3, 1) := by decide +kernel
theorem dX6_fullTurn_28 : decode cX6_fullTurn 28 = .ok (.invokevirtual 64, 3) := by decide +kernel
theorem dX6_fullTurn_31 : decode cX6_fullTurn 31 = .ok (.imul, 1) := by decide +kernel
theorem dX6_fullTurn_32 : decode cX6_fullTurn 32 = .ok (.iconst 2, 1) := by decide +kernel
theorem dX6_fullTurn_33 : decode cX6_fullTurn 33 = .ok (.isub, 1) := by decide +kernel
theorem dX6_fullTurn_34 : decode cX6_fullTurn 34 = .ok (.goto 8, 3) := by decide +kernel
theorem dX6_fullTurn_37 : decode cX6_fullTurn 37 = .ok (.aload_n 0, 1) := by decide +kernel
theorem dX6_fullTurn_38 : decode cX6_fullTurn 38 = .ok (.iload_n 3, 1) := by decide +kernel
theorem dX6_fullTurn_39 : decode cX6_fullTurn 39 = .ok (.invokevirtual 64, 3) := by decide +kernel
theorem dX6_fullTurn_42 : decode cX6_fullTurn 42 = .ok (.istore 4, 2) := by decide +kernel
theorem dX6_fullTurn_44 : decode cX6_fullTurn 44 = .ok (.aload_n 0, 1) := by decide +kernel
theorem dX6_fullTurn_45 : decode cX6_fullTurn 45 = .ok (.iload_n 3, 1) := by decide +kernel
theorem dX6_fullTurn_46 : decode cX6_fullTurn 46 = .ok (.iconst 4, 1) := by decide +kernel
theorem dX6_fullTurn_47 : decode cX6_fullTurn 47 = .ok (.invokevirtual 60, 3) := by decide +kernel
theorem dX6_fullTurn_50 : decode cX6_fullTurn 50 = .ok (.iconst 1, 1) := by decide +kernel
theorem dX6_fullTurn_51 : decode cX6_fullTurn 51 = .ok (.if_icmp .ne 20, 3) := by decide +kernel
theorem dX6_fullTurn_54 : decode cX6_fullTurn 54 = .ok (.lload_n 1, 1) := by decide +kernel
theorem dX6_fullTurn_55 : decode cX6_fullTurn 55 = .ok (.aload_n 0, 1) := by decide +kernel
theorem dX6_fullTurn_56 : decode cX6_fullTurn 56 = .ok (.iload_n 3, 1) := by decide +kernel
theorem dX6_fullTurn_57 : decode cX6_fullTurn 57 = .ok (.iconst 2, 1) := by decide +kernel
theorem dX6_fullTurn_58 : decode cX6_fullTurn 58 = .ok (.invokevirtual 60, 3) := by decide +kernel
theorem dX6_fullTurn_61 : decode cX6_fullTurn 61 = .ok (.iload 4, 2) := by decide +kernel
theorem dX6_fullTurn_63 : decode cX6_fullTurn 63 = .ok (.imul, 1) := by decide +kernel
theorem dX6_fullTurn_64 : decode cX6_fullTurn 64 = .ok (.i2l, 1) := by decide +kernel
theorem dX6_fullTurn_65 : decode cX6_fullTurn 65 = .ok (.invokestatic 223, 3) := by decide +kernel
theorem dX6_fullTurn_68 : decode cX6_fullTurn 68 = .ok (.goto 4, 3) := by decide +kernel
theorem dX6_fullTurn_71 : decode cX6_fullTurn 71 = .ok (.lload_n 1, 1) := by decide +kernel
theorem dX6_fullTurn_72 : decode cX6_fullTurn 72 = .ok (.lstore_n 1, 1) := by decide +kernel
theorem dX6_fullTurn_73 : decode cX6_fullTurn 73 = .ok (.iinc 3 1, 3) := by decide +kernel
theorem dX6_fullTurn_76 : decode cX6_fullTurn 76 = .ok (.goto (-72), 3) := by decide +kernel
theorem dX6_fullTurn_79 : decode cX6_fullTurn 79 = .ok (.iconst 0, 1) := by decide +kernel
theorem dX6_fullTurn_80 : decode cX6_fullTurn 80 = .ok (.istore_n 3, 1) := by decide +kernel
theorem dX6_fullTurn_81 : decode cX6_fullTurn 81 = .ok (.iload_n 3, 1) := by decide +kernel
theorem dX6_fullTurn_82 : decode cX6_fullTurn 82 = .ok (.aload_n 0, 1) := by decide +kernel
theorem dX6_fullTurn_83 : decode cX6_fullTurn 83 = .ok (.getfield 7, 3) := by decide +kernel
theorem dX6_fullTurn_86 : decode cX6_fullTurn 86 = .ok (.bipush 75, 2) := by decide +kernel
theorem dX6_fullTurn_88 : decode cX6_fullTurn 88 = .ok (.iaload, 1) := by decide +kernel
theorem dX6_fullTurn_89 : decode cX6_fullTurn 89 = .ok (.if_icmp .ge 23, 3) := by decide +kernel
theorem dX6_fullTurn_92 : decode cX6_fullTurn 92 = .ok (.lload_n 1, 1) := by decide +kernel
theorem dX6_fullTurn_93 : decode cX6_fullTurn 93 = .ok (.iconst 2, 1) := by decide +kernel
theorem dX6_fullTurn_94 : decode cX6_fullTurn 94 = .ok (.aload_n 0, 1) := by decide +kernel
theorem dX6_fullTurn_95 : decode cX6_fullTurn 95 = .ok (.iload_n 3, 1) := by decide +kernel
theorem dX6_fullTurn_96 : decode cX6_fullTurn 96 = .ok (.iconst 2, 1) := by decide +kernel
theorem dX6_fullTurn_97 : decode cX6_fullTurn 97 = .ok (.invokevirtual 68, 3) := by decide +kernel
theorem dX6_fullTurn_100 : decode cX6_fullTurn 100 = .ok (.imul, 1) := by decide +kernel
theorem dX6_fullTurn_101 : decode cX6_fullTurn 101 = .ok (.i2l, 1) := by decide +kernel
theorem dX6_fullTurn_102 : decode cX6_fullTurn 102 = .ok (.invokestatic 223, 3) := by decide +kernel
theorem dX6_fullTurn_105 : decode cX6_fullTurn 105 = .ok (.lstore_n 1, 1) := by decide +kernel
theorem dX6_fullTurn_106 : decode cX6_fullTurn 106 = .ok (.iinc 3 1, 3) := by decide +kernel
theorem dX6_fullTurn_109 : decode cX6_fullTurn 109 = .ok (.goto (-28), 3) := by decide +kernel
theorem dX6_fullTurn_112 : decode cX6_fullTurn 112 = .ok (.lload_n 1, 1) := by decide +kernel
theorem dX6_fullTurn_113 : decode cX6_fullTurn 113 = .ok (.lreturn, 1) := by decide +kernel
set_option maxHeartbeats 4000000 in
set_option maxRecDepth 100000 in
theorem c_X6_fullTurn (l : Launch) (E : gE) (g : Mem) (S : AS) (Bd : Nat) (hB : Bd < 90000000) (ho : OK S Bd) (hZ : MZ E g S) : Mt l E yX6_fullTurn cX6_fullTurn 5 (some .long) 2 52 [rf E (0)] g (pL (fun z g' => z = lN (ftN S.r) ∧ MZ E g' S)) := by
  have hv := ho.v
  have hrc : rc S.r ≤ 6 := hv.1.2
  have hgc : gc S.r ≤ 4 := hv.2.1.2
  have hc4 := ho.c4
  have hkp1 := ho.2.2.1
  have hl60 : S.ln ≤ 60 := ho.2.2.2.2.2.1
  refine mt_go (own := RX6) (by decide) rfl (lo := [some (rf E (0)), none, none, none, none]) rfl (Nat.le_of_ble_eq_true rfl) (fun X hC => ?_)
  obtain ⟨row, hi, sn, tx, C, P, hM, hR, hH, hS, hT⟩ := hZ
  have hK := hM.k
  refine y_lconst (v := lN 1) hC dX6_fullTurn_0 (by decide) ?_
  refine y_lstore_n hC dX6_fullTurn_1 (i := 1) rfl (Nat.le_of_ble_eq_true rfl) rfl (lo' := [some (rf E (0)), some (.long (lN 1)), none, none, none]) rfl ?_
  refine y_iconst (v := nI 0) hC dX6_fullTurn_2 (by decide) ?_
  refine y_istore_n hC dX6_fullTurn_3 (i := 3) rfl (Nat.le_of_ble_eq_true rfl) rfl (lo' := [some (rf E (0)), some (.long (lN 1)), none, some (.int (nI (0))), none]) rfl ?_
  have L_4 : ∀ (m : Nat) (i : Nat), (hm : rc S.r - i < m) → (hil : i ≤ rc S.r) → Y l E X (pL (fun z g' => z = lN (ftN S.r) ∧ MZ E g' S)) 4 [some (rf E (0)), some (.long (lN (lcR S.r i))), none, some (.int (nI (i))), none] [] g := by
    intro m
    induction m with
    | zero => intro i hm hil; exact absurd hm (Nat.not_lt_zero _)
    | succ m ih_4 =>
      intro i hm hil
      refine y_iload_n hC dX6_fullTurn_4 (i := 3) rfl rfl ?_
      refine y_aload_n hC dX6_fullTurn_5 (i := 0) rfl rfl ?_
      refine y_get hC fX6_7 dX6_fullTurn_6 (k := 0) (by omega) hM.a0 rfl ?_
      refine y_bipush (v := nI 32) hC dX6_fullTurn_9 (by decide) ?_
      refine y_iald hC dX6_fullTurn_11 (k := 1) (j := 32) (by omega) hM.a1 (rfl) (by omega) (by decide) ?_
      refine y_top (y := nI (rc S.r)) ((hR 32 (by decide)).trans hv.1.1) ?_
      refine y_icmp_ge_n (tgt := 79) hC dX6_fullTurn_12 (by decide) (by omega) (by omega) (fun c_12 => ?_) (fun c_12 => ?_)
      · refine y_iconst (v := nI 0) hC dX6_fullTurn_79 (by decide) ?_
        refine y_istore_n hC dX6_fullTurn_80 (i := 3) rfl (Nat.le_of_ble_eq_true rfl) rfl (lo' := [some (rf E (0)), some (.long (lN (lcR S.r i))), none, some (.int (nI (0))), none]) rfl ?_
        rw [show i = rc S.r by omega]
        have L_81 : ∀ (m : Nat) (i : Nat), (hm : gc S.r - i < m) → (hil : i ≤ gc S.r) → Y l E X (pL (fun z g' => z = lN (ftN S.r) ∧ MZ E g' S)) 81 [some (rf E (0)), some (.long (lN (lcG S.r i))), none, some (.int (nI (i))), none] [] g := by
          intro m
          induction m with
          | zero => intro i hm hil; exact absurd hm (Nat.not_lt_zero _)
          | succ m ih_81 =>
            intro i hm hil
            refine y_iload_n hC dX6_fullTurn_81 (i := 3) rfl rfl ?_
            refine y_aload_n hC dX6_fullTurn_82 (i := 0) rfl rfl ?_
            refine y_get hC fX6_7 dX6_fullTurn_83 (k := 0) (by omega) hM.a0 rfl ?_
            refine y_bipush (v := nI 75) hC dX6_fullTurn_86 (by decide) ?_
            refine y_iald hC dX6_fullTurn_88 (k := 1) (j := 75) (by omega) hM.a1 (rfl) (by omega) (by decide) ?_
            refine y_top (y := nI (gc S.r)) ((hR 75 (by decide)).trans hv.2.1.1) ?_
            refine y_icmp_ge_n (tgt := 112) hC dX6_fullTurn_89 (by decide) (by omega) (by omega) (fun c_89 => ?_) (fun c_89 => ?_)
            · refine y_lload_n hC dX6_fullTurn_112 (i := 1) rfl rfl ?_
              refine y_lret (hC := hC) (hd := dX6_fullTurn_113) (hq := ?_)
              exact ⟨congrArg lN (by unfold ftN; rw [show i = gc S.r by omega]), ⟨row, hi, sn, tx, C, P, hM, hR, hH, hS, hT⟩⟩
            · have hlt : i < gc S.r := by omega
              obtain ⟨q1, q2, q3, q4, q5⟩ := hv.gl hlt
              have hlp := lcG_pos hv i hil
              have hlb := lcG_b hv hil
              refine y_lload_n hC dX6_fullTurn_92 (i := 1) rfl rfl ?_
              refine y_iconst (v := nI 2) hC dX6_fullTurn_93 (by decide) ?_
              refine y_aload_n hC dX6_fullTurn_94 (i := 0) rfl rfl ?_
              refine y_iload_n hC dX6_fullTurn_95 (i := 3) rfl rfl ?_
              refine y_iconst (v := nI 2) hC dX6_fullTurn_96 (by decide) ?_
              refine y_callV hC mX6_ofGlow kX6_68 dX6_fullTurn_97 (b := 0) (As := [.int (nI (i)), .int (nI (2))]) (rest := [.int (nI (2)), .long (lN (lcG S.r i))]) (c_X6_ofGlow l E g row (hi, nI (S.c), sn, nI (S.kp)) C (tx, nI (S.ln)) P hM S.r Bd (by omega) hR hv (i) 2 (by omega) (by decide)) (by omega) hM.a0 rfl rfl rfl (Nat.le_of_ble_eq_true rfl) ⟨Nat.le_of_ble_eq_true rfl, Nat.le_of_ble_eq_true rfl⟩ (pk_i ?_)
              rintro r_97 g_97 ⟨hr_97, hq_97⟩
              obtain rfl := hq_97.symm
              rw [hr_97]
              clear hr_97 r_97
              refine y_top (y := nI (gl S.r (i) 2)) ((hv.gl (i := i) (by omega)).1.2.1) ?_
              refine y_imul_n hC dX6_fullTurn_100 ?_
              refine y_i2l hC dX6_fullTurn_101 ?_
              refine y_topl (y := lN (2 * gl S.r i 2)) (nI_l (by omega)) ?_
              refine y_callS hC mX6_both kX6_223 dX6_fullTurn_102 (As := [.long (lN (lcG S.r i)), .long (lN (2 * gl S.r i 2))]) (rest := []) (c_X6_both l E g (lcG S.r i) (2 * gl S.r i 2) (by omega) (by omega) (by omega)) rfl rfl rfl (Nat.le_of_ble_eq_true rfl) ⟨Nat.le_of_ble_eq_true rfl, Nat.le_of_ble_eq_true rfl⟩ (pk_l ?_)
              rintro r_102 g_102 ⟨hr_102, hq_102⟩
              obtain rfl := hq_102.symm
              rw [hr_102]
              clear hr_102 r_102
              refine y_lstore_n hC dX6_fullTurn_105 (i := 1) rfl (Nat.le_of_ble_eq_true rfl) rfl (lo' := [some (rf E (0)), some (.long (lN (lcG S.r (i + 1)))), none, some (.int (nI (i))), none]) rfl ?_
              refine y_iinc_n hC dX6_fullTurn_106 (a := i) (k := 1) rfl (by decide) (Nat.le_of_ble_eq_true rfl) rfl (lo' := [some (rf E (0)), some (.long (lN (lcG S.r (i + 1)))), none, some (.int (nI (i + 1))), none]) rfl ?_
              refine y_goto (tgt := 81) hC dX6_fullTurn_109 (by decide) ?_
              exact ih_81 (i + 1) (by omega) (by omega)
        exact L_81 (gc S.r + 1) 0 (by omega) (by omega)
      · have hlt : i < rc S.r := by omega
        obtain ⟨q1, q2, q3, q4, q5, q6, q7, q8, q9⟩ := hv.rg hlt
        have hlp := lcR_pos hv i hil
        have hlb := lcR_b hv hil
        have hlb2 := lcR_b hv (k := i + 1) (by omega)
        have htb := tN_b hv hlt
        have hn : 2 ≤ nP S.r i ∧ nP S.r i ≤ 32 := by unfold nP; omega
        refine y_aload_n hC dX6_fullTurn_15 (i := 0) rfl rfl ?_
        refine y_iload_n hC dX6_fullTurn_16 (i := 3) rfl rfl ?_
        refine y_iconst (v := nI 3) hC dX6_fullTurn_17 (by decide) ?_
        refine y_callV hC mX6_of kX6_60 dX6_fullTurn_18 (b := 0) (As := [.int (nI (i)), .int (nI (3))]) (rest := []) (c_X6_of l E g row (hi, nI (S.c), sn, nI (S.kp)) C (tx, nI (S.ln)) P hM S.r Bd (by omega) hR hv (i) 3 (by omega) (by decide)) (by omega) hM.a0 rfl rfl rfl (Nat.le_of_ble_eq_true rfl) ⟨Nat.le_of_ble_eq_true rfl, Nat.le_of_ble_eq_true rfl⟩ (pk_i ?_)
        rintro r_18 g_18 ⟨hr_18, hq_18⟩
        obtain rfl := hq_18.symm
        rw [hr_18]
        clear hr_18 r_18
        refine y_iconst (v := nI 2) hC dX6_fullTurn_21 (by decide) ?_
        refine y_icmp_ne_n (tgt := 37) hC dX6_fullTurn_22 (by decide) (by omega) (by omega) (fun c_22 => ?_) (fun c_22 => ?_)
        · refine y_aload_n hC dX6_fullTurn_37 (i := 0) rfl rfl ?_
          refine y_iload_n hC dX6_fullTurn_38 (i := 3) rfl rfl ?_
          refine y_callV hC mX6_places kX6_64 dX6_fullTurn_39 (b := 0) (As := [.int (nI (i))]) (rest := []) (c_X6_places l E g row (hi, nI (S.c), sn, nI (S.kp)) C (tx, nI (S.ln)) P hM S.r Bd (by omega) hR hv (i) (by omega)) (by omega) hM.a0 rfl rfl rfl (Nat.le_of_ble_eq_true rfl) ⟨Nat.le_of_ble_eq_true rfl, Nat.le_of_ble_eq_true rfl⟩ (pk_i ?_)
          rintro r_39 g_39 ⟨hr_39, hq_39⟩
          obtain rfl := hq_39.symm
          rw [hr_39]
          clear hr_39 r_39
          refine y_top (y := nI (fsN (nP S.r i) (rg S.r i 3))) (congrArg nI (by unfold fsN; first | rw [if_pos c_22] | rw [if_neg c_22])) ?_
          refine y_istore hC dX6_fullTurn_42 (Nat.le_of_ble_eq_true rfl) rfl (lo' := [some (rf E (0)), some (.long (lN (lcR S.r i))), none, some (.int (nI (i))), some (.int (nI (fsN (nP S.r i) (rg S.r i 3))))]) rfl ?_
          refine y_aload_n hC dX6_fullTurn_44 (i := 0) rfl rfl ?_
          refine y_iload_n hC dX6_fullTurn_45 (i := 3) rfl rfl ?_
          refine y_iconst (v := nI 4) hC dX6_fullTurn_46 (by decide) ?_
          refine y_callV hC mX6_of kX6_60 dX6_fullTurn_47 (b := 0) (As := [.int (nI (i)), .int (nI (4))]) (rest := []) (c_X6_of l E g row (hi, nI (S.c), sn, nI (S.kp)) C (tx, nI (S.ln)) P hM S.r Bd (by omega) hR hv (i) 4 (by omega) (by decide)) (by omega) hM.a0 rfl rfl rfl (Nat.le_of_ble_eq_true rfl) ⟨Nat.le_of_ble_eq_true rfl, Nat.le_of_ble_eq_true rfl⟩ (pk_i ?_)
          rintro r_47 g_47 ⟨hr_47, hq_47⟩
          obtain rfl := hq_47.symm
          rw [hr_47]
          clear hr_47 r_47
          refine y_iconst (v := nI 1) hC dX6_fullTurn_50 (by decide) ?_
          refine y_icmp_ne_n (tgt := 71) hC dX6_fullTurn_51 (by decide) (by omega) (by omega) (fun c_51 => ?_) (fun c_51 => ?_)
          · refine y_lload_n hC dX6_fullTurn_71 (i := 1) rfl rfl ?_
            refine y_topl (y := lN (lcR S.r (i + 1))) (congrArg lN (by rw [lcR]; unfold tN; rw [if_neg c_51, Nat.lcm_one_right])) ?_
            refine y_lstore_n hC dX6_fullTurn_72 (i := 1) rfl (Nat.le_of_ble_eq_true rfl) rfl (lo' := [some (rf E (0)), some (.long (lN (lcR S.r (i + 1)))), none, some (.int (nI (i))), some (.int (nI (fsN (nP S.r i) (rg S.r i 3))))]) rfl ?_
            refine y_iinc_n hC dX6_fullTurn_73 (a := i) (k := 1) rfl (by decide) (Nat.le_of_ble_eq_true rfl) rfl (lo' := [some (rf E (0)), some (.long (lN (lcR S.r (i + 1)))), none, some (.int (nI (i + 1))), some (.int (nI (fsN (nP S.r i) (rg S.r i 3))))]) rfl ?_
            refine y_goto (tgt := 4) hC dX6_fullTurn_76 (by decide) ?_
            refine y_fg 4 (lo' := [some (rf E (0)), some (.long (lN (lcR S.r (i + 1)))), none, some (.int (nI (i + 1))), none]) rfl ?_
            exact ih_4 (i + 1) (by omega) (by omega)
          · refine y_lload_n hC dX6_fullTurn_54 (i := 1) rfl rfl ?_
            refine y_aload_n hC dX6_fullTurn_55 (i := 0) rfl rfl ?_
            refine y_iload_n hC dX6_fullTurn_56 (i := 3) rfl rfl ?_
            refine y_iconst (v := nI 2) hC dX6_fullTurn_57 (by decide) ?_
            refine y_callV hC mX6_of kX6_60 dX6_fullTurn_58 (b := 0) (As := [.int (nI (i)), .int (nI (2))]) (rest := [.long (lN (lcR S.r i))]) (c_X6_of l E g row (hi, nI (S.c), sn, nI (S.kp)) C (tx, nI (S.ln)) P hM S.r Bd (by omega) hR hv (i) 2 (by omega) (by decide)) (by omega) hM.a0 rfl rfl rfl (Nat.le_of_ble_eq_true rfl) ⟨Nat.le_of_ble_eq_true rfl, Nat.le_of_ble_eq_true rfl⟩ (pk_i ?_)
            rintro r_58 g_58 ⟨hr_58, hq_58⟩
            obtain rfl := hq_58.symm
            rw [hr_58]
            clear hr_58 r_58
            refine y_iload hC dX6_fullTurn_61 rfl ?_
            refine y_imul_n hC dX6_fullTurn_63 ?_
            have htn : rg S.r i 2 * fsN (nP S.r i) (rg S.r i 3) = tN S.r i := by unfold tN; rw [if_pos c_51]
            refine y_top (y := nI (tN S.r i)) (congrArg nI htn) ?_
            refine y_i2l hC dX6_fullTurn_64 ?_
            refine y_topl (y := lN (tN S.r i)) (nI_l (by omega)) ?_
            refine y_callS hC mX6_both kX6_223 dX6_fullTurn_65 (As := [.long (lN (lcR S.r i)), .long (lN (tN S.r i))]) (rest := []) (c_X6_both l E g (lcR S.r i) (tN S.r i) (by omega) (by omega) (by omega)) rfl rfl rfl (Nat.le_of_ble_eq_true rfl) ⟨Nat.le_of_ble_eq_true rfl, Nat.le_of_ble_eq_true rfl⟩ (pk_l ?_)
            rintro r_65 g_65 ⟨hr_65, hq_65⟩
            obtain rfl := hq_65.symm
            rw [hr_65]
            clear hr_65 r_65
            refine y_goto (tgt := 72) hC dX6_fullTurn_68 (by decide) ?_
            refine y_lstore_n hC dX6_fullTurn_72 (i := 1) rfl (Nat.le_of_ble_eq_true rfl) rfl (lo' := [some (rf E (0)), some (.long (lN (lcR S.r (i + 1)))), none, some (.int (nI (i))), some (.int (nI (fsN (nP S.r i) (rg S.r i 3))))]) rfl ?_
            refine y_iinc_n hC dX6_fullTurn_73 (a := i) (k := 1) rfl (by decide) (Nat.le_of_ble_eq_true rfl) rfl (lo' := [some (rf E (0)), some (.long (lN (lcR S.r (i + 1)))), none, some (.int (nI (i + 1))), some (.int (nI (fsN (nP S.r i) (rg S.r i 3))))]) rfl ?_
            refine y_goto (tgt := 4) hC dX6_fullTurn_76 (by decide) ?_
            refine y_fg 4 (lo' := [some (rf E (0)), some (.long (lN (lcR S.r (i + 1)))), none, some (.int (nI (i + 1))), none]) rfl ?_
            exact ih_4 (i + 1) (by omega) (by omega)
        · refine y_iconst (v := nI 2) hC dX6_fullTurn_25 (by decide) ?_
          refine y_aload_n hC dX6_fullTurn_26 (i := 0) rfl rfl ?_
          refine y_iload_n hC dX6_fullTurn_27 (i := 3) rfl rfl ?_
          refine y_callV hC mX6_places kX6_64 dX6_fullTurn_28 (b := 0) (As := [.int (nI (i))]) (rest := [.int (nI (2))]) (c_X6_places l E g row (hi, nI (S.c), sn, nI (S.kp)) C (tx, nI (S.ln)) P hM S.r Bd (by omega) hR hv (i) (by omega)) (by omega) hM.a0 rfl rfl rfl (Nat.le_of_ble_eq_true rfl) ⟨Nat.le_of_ble_eq_true rfl, Nat.le_of_ble_eq_true rfl⟩ (pk_i ?_)
          rintro r_28 g_28 ⟨hr_28, hq_28⟩
          obtain rfl := hq_28.symm
          rw [hr_28]
          clear hr_28 r_28
          refine y_imul_n hC dX6_fullTurn_31 ?_
          refine y_iconst (v := nI 2) hC dX6_fullTurn_32 (by decide) ?_
          refine y_isub_n hC dX6_fullTurn_33 (by omega) ?_
          refine y_goto (tgt := 42) hC dX6_fullTurn_34 (by decide) ?_
          refine y_top (y := nI (fsN (nP S.r i) (rg S.r i 3))) (congrArg nI (by unfold fsN; first | rw [if_pos c_22] | rw [if_neg c_22])) ?_
          refine y_istore hC dX6_fullTurn_42 (Nat.le_of_ble_eq_true rfl) rfl (lo' := [some (rf E (0)), some (.long (lN (lcR S.r i))), none, some (.int (nI (i))), some (.int (nI (fsN (nP S.r i) (rg S.r i 3))))]) rfl ?_
          refine y_aload_n hC dX6_fullTurn_44 (i := 0) rfl rfl ?_
          refine y_iload_n hC dX6_fullTurn_45 (i := 3) rfl rfl ?_
          refine y_iconst (v := nI 4) hC dX6_fullTurn_46 (by decide) ?_
          refine y_callV hC mX6_of kX6_60 dX6_fullTurn_47 (b := 0) (As := [.int (nI (i)), .int (nI (4))]) (rest := []) (c_X6_of l E g row (hi, nI (S.c), sn, nI (S.kp)) C (tx, nI (S.ln)) P hM S.r Bd (by omega) hR hv (i) 4 (by omega) (by decide)) (by omega) hM.a0 rfl rfl rfl (Nat.le_of_ble_eq_true rfl) ⟨Nat.le_of_ble_eq_true rfl, Nat.le_of_ble_eq_true rfl⟩ (pk_i ?_)
          rintro r_47 g_47 ⟨hr_47, hq_47⟩
          obtain rfl := hq_47.symm
          rw [hr_47]
          clear hr_47 r_47
          refine y_iconst (v := nI 1) hC dX6_fullTurn_50 (by decide) ?_
          refine y_icmp_ne_n (tgt := 71) hC dX6_fullTurn_51 (by decide) (by omega) (by omega) (fun c_51 => ?_) (fun c_51 => ?_)
          · refine y_lload_n hC dX6_fullTurn_71 (i := 1) rfl rfl ?_
            refine y_topl (y := lN (lcR S.r (i + 1))) (congrArg lN (by rw [lcR]; unfold tN; rw [if_neg c_51, Nat.lcm_one_right])) ?_
            refine y_lstore_n hC dX6_fullTurn_72 (i := 1) rfl (Nat.le_of_ble_eq_true rfl) rfl (lo' := [some (rf E (0)), some (.long (lN (lcR S.r (i + 1)))), none, some (.int (nI (i))), some (.int (nI (fsN (nP S.r i) (rg S.r i 3))))]) rfl ?_
            refine y_iinc_n hC dX6_fullTurn_73 (a := i) (k := 1) rfl (by decide) (Nat.le_of_ble_eq_true rfl) rfl (lo' := [some (rf E (0)), some (.long (lN (lcR S.r (i + 1)))), none, some (.int (nI (i + 1))), some (.int (nI (fsN (nP S.r i) (rg S.r i 3))))]) rfl ?_
            refine y_goto (tgt := 4) hC dX6_fullTurn_76 (by decide) ?_
            refine y_fg 4 (lo' := [some (rf E (0)), some (.long (lN (lcR S.r (i + 1)))), none, some (.int (nI (i + 1))), none]) rfl ?_
            exact ih_4 (i + 1) (by omega) (by omega)
          · refine y_lload_n hC dX6_fullTurn_54 (i := 1) rfl rfl ?_
            refine y_aload_n hC dX6_fullTurn_55 (i := 0) rfl rfl ?_
            refine y_iload_n hC dX6_fullTurn_56 (i := 3) rfl rfl ?_
            refine y_iconst (v := nI 2) hC dX6_fullTurn_57 (by decide) ?_
            refine y_callV hC mX6_of kX6_60 dX6_fullTurn_58 (b := 0) (As := [.int (nI (i)), .int (nI (2))]) (rest := [.long (lN (lcR S.r i))]) (c_X6_of l E g row (hi, nI (S.c), sn, nI (S.kp)) C (tx, nI (S.ln)) P hM S.r Bd (by omega) hR hv (i) 2 (by omega) (by decide)) (by omega) hM.a0 rfl rfl rfl (Nat.le_of_ble_eq_true rfl) ⟨Nat.le_of_ble_eq_true rfl, Nat.le_of_ble_eq_true rfl⟩ (pk_i ?_)
            rintro r_58 g_58 ⟨hr_58, hq_58⟩
            obtain rfl := hq_58.symm
            rw [hr_58]
            clear hr_58 r_58
            refine y_iload hC dX6_fullTurn_61 rfl ?_
            refine y_imul_n hC dX6_fullTurn_63 ?_
            have htn : rg S.r i 2 * fsN (nP S.r i) (rg S.r i 3) = tN S.r i := by unfold tN; rw [if_pos c_51]
            refine y_top (y := nI (tN S.r i)) (congrArg nI htn) ?_
            refine y_i2l hC dX6_fullTurn_64 ?_
            refine y_topl (y := lN (tN S.r i)) (nI_l (by omega)) ?_
            refine y_callS hC mX6_both kX6_223 dX6_fullTurn_65 (As := [.long (lN (lcR S.r i)), .long (lN (tN S.r i))]) (rest := []) (c_X6_both l E g (lcR S.r i) (tN S.r i) (by omega) (by omega) (by omega)) rfl rfl rfl (Nat.le_of_ble_eq_true rfl) ⟨Nat.le_of_ble_eq_true rfl, Nat.le_of_ble_eq_true rfl⟩ (pk_l ?_)
            rintro r_65 g_65 ⟨hr_65, hq_65⟩
            obtain rfl := hq_65.symm
            rw [hr_65]
            clear hr_65 r_65
            refine y_goto (tgt := 72) hC dX6_fullTurn_68 (by decide) ?_
            refine y_lstore_n hC dX6_fullTurn_72 (i := 1) rfl (Nat.le_of_ble_eq_true rfl) rfl (lo' := [some (rf E (0)), some (.long (lN (lcR S.r (i + 1)))), none, some (.int (nI (i))), some (.int (nI (fsN (nP S.r i) (rg S.r i 3))))]) rfl ?_
            refine y_iinc_n hC dX6_fullTurn_73 (a := i) (k := 1) rfl (by decide) (Nat.le_of_ble_eq_true rfl) rfl (lo' := [some (rf E (0)), some (.long (lN (lcR S.r (i + 1)))), none, some (.int (nI (i + 1))), some (.int (nI (fsN (nP S.r i) (rg S.r i 3))))]) rfl ?_
            refine y_goto (tgt := 4) hC dX6_fullTurn_76 (by decide) ?_
            refine y_fg 4 (lo' := [some (rf E (0)), some (.long (lN (lcR S.r (i + 1)))), none, some (.int (nI (i + 1))), none]) rfl ?_
            exact ih_4 (i + 1) (by omega) (by omega)
  exact L_4 (rc S.r + 1) 0 (by omega) (by omega)

theorem dX6_total_0 : decode cX6_total 0 = .ok (.iload_n 1, 1) := by decide +kernel
theorem dX6_total_1 : decode cX6_total 1 = .ok (.tableswitch 119 0 9 #[55, 63, 68, 76, 85, 94, 99, 104, 109, 114], 55) := by decide +kernel
theorem dX6_total_56 : decode cX6_total 56 = .ok (.aload_n 0, 1) := by decide +kernel
theorem dX6_total_57 : decode cX6_total 57 = .ok (.getfield 7, 3) := by decide +kernel
theorem dX6_total_60 : decode cX6_total 60 = .ok (.bipush 32, 2) := by decide +kernel
theorem dX6_total_62 : decode cX6_total 62 = .ok (.iaload, 1) := by decide +kernel
theorem dX6_total_63 : decode cX6_total 63 = .ok (.ireturn, 1) := by decide +kernel
theorem dX6_total_64 : decode cX6_total 64 = .ok (.aload_n 0, 1) := by decide +kernel
theorem dX6_total_65 : decode cX6_total 65 = .ok (.invokevirtual 120, 3) := by decide +kernel
theorem dX6_total_68 : decode cX6_total 68 = .ok (.ireturn, 1) := by decide +kernel
theorem dX6_total_69 : decode cX6_total 69 = .ok (.aload_n 0, 1) := by decide +kernel
theorem dX6_total_70 : decode cX6_total 70 = .ok (.getfield 7, 3) := by decide +kernel
theorem dX6_total_73 : decode cX6_total 73 = .ok (.bipush 75, 2) := by decide +kernel
theorem dX6_total_75 : decode cX6_total 75 = .ok (.iaload, 1) := by decide +kernel
theorem dX6_total_76 : decode cX6_total 76 = .ok (.ireturn, 1) := by decide +kernel
theorem dX6_total_77 : decode cX6_total 77 = .ok (.aload_n 0, 1) := by decide +kernel
theorem dX6_total_78 : decode cX6_total 78 = .ok (.getfield 7, 3) := by decide +kernel
theorem dX6_total_81 : decode cX6_total 81 = .ok (.sipush 156, 3) := by decide +kernel
theorem dX6_total_84 : decode cX6_total 84 = .ok (.iaload, 1) := by decide +kernel
theorem dX6_total_85 : decode cX6_total 85 = .ok (.ireturn, 1) := by decide +kernel
theorem dX6_total_86 : decode cX6_total 86 = .ok (.aload_n 0, 1) := by decide +kernel
theorem dX6_total_87 : decode cX6_total 87 = .ok (.getfield 7, 3) := by decide +kernel
theorem dX6_total_90 : decode cX6_total 90 = .ok (.sipush 157, 3) := by decide +kernel
theorem dX6_total_93 : decode cX6_total 93 = .ok (.iaload, 1) := by decide +kernel
theorem dX6_total_94 : decode cX6_total 94 = .ok (.ireturn, 1) := by decide +kernel
theorem dX6_total_95 : decode cX6_total 95 = .ok (.aload_n 0, 1) := by decide +kernel
theorem dX6_total_96 : decode cX6_total 96 = .ok (.invokevirtual 204, 3) := by decide +kernel
theorem dX6_total_99 : decode cX6_total 99 = .ok (.ireturn, 1) := by decide +kernel
theorem dX6_total_100 : decode cX6_total 100 = .ok (.aload_n 0, 1) := by decide +kernel
theorem dX6_total_101 : decode cX6_total 101 = .ok (.invokevirtual 207, 3) := by decide +kernel
theorem dX6_total_104 : decode cX6_total 104 = .ok (.ireturn, 1) := by decide +kernel
theorem dX6_total_105 : decode cX6_total 105 = .ok (.aload_n 0, 1) := by decide +kernel
theorem dX6_total_106 : decode cX6_total 106 = .ok (.invokevirtual 210, 3) := by decide +kernel
theorem dX6_total_109 : decode cX6_total 109 = .ok (.ireturn, 1) := by decide +kernel
theorem dX6_total_110 : decode cX6_total 110 = .ok (.aload_n 0, 1) := by decide +kernel
theorem dX6_total_111 : decode cX6_total 111 = .ok (.getfield 49, 3) := by decide +kernel
theorem dX6_total_114 : decode cX6_total 114 = .ok (.ireturn, 1) := by decide +kernel
theorem dX6_total_115 : decode cX6_total 115 = .ok (.aload_n 0, 1) := by decide +kernel
theorem dX6_total_116 : decode cX6_total 116 = .ok (.getfield 140, 3) := by decide +kernel
theorem dX6_total_119 : decode cX6_total 119 = .ok (.ireturn, 1) := by decide +kernel
theorem dX6_total_120 : decode cX6_total 120 = .ok (.bipush (-2), 2) := by decide +kernel
theorem dX6_total_122 : decode cX6_total 122 = .ok (.ireturn, 1) := by decide +kernel
set_option maxHeartbeats 4000000 in
set_option maxRecDepth 100000 in
theorem c_X6_total (l : Launch) (E : gE) (g : Mem) (S : AS) (Bd : Nat) (hB : Bd < 90000000) (ho : OK S Bd) (hZ : MZ E g S) (xa : Int32) : Mt l E yX6_total cX6_total 2 (some .int) 7 157 [rf E (0), .int (xa)] g (pI (fun zz g' => zz = qTotal S xa ∧ MZ E g' S)) := by
  have hv := ho.v
  have hrc : rc S.r ≤ 6 := hv.1.2
  have hgc : gc S.r ≤ 4 := hv.2.1.2
  have hc4 := ho.c4
  have hkp1 := ho.2.2.1
  have hl60 : S.ln ≤ 60 := ho.2.2.2.2.2.1
  refine mt_go (own := RX6) (by decide) rfl (lo := [some (rf E (0)), some (.int (xa))]) rfl (Nat.le_of_ble_eq_true rfl) (fun X hC => ?_)
  obtain ⟨row, hi, sn, tx, C, P, hM, hR, hH, hS, hT⟩ := hZ
  have hK := hM.k
  refine y_iload_n hC dX6_total_0 (i := 1) rfl rfl ?_
  by_cases hw : 0 ≤ xa.toInt ∧ xa.toInt ≤ 9
  · obtain ⟨u, hu, hux⟩ := zN (m := 9) hw
    subst hux
    rcases (show u = 0 ∨ u = 1 ∨ u = 2 ∨ u = 3 ∨ u = 4 ∨ u = 5 ∨ u = 6 ∨ u = 7 ∨ u = 8 ∨ u = 9 by omega) with rfl | rfl | rfl | rfl | rfl | rfl | rfl | rfl | rfl | rfl
    · refine y_tabIn (off := 55) (tgt := 56) hC dX6_total_1 (by decide) (by decide) (by decide) (by decide) ?_
      refine y_aload_n hC dX6_total_56 (i := 0) rfl rfl ?_
      refine y_get hC fX6_7 dX6_total_57 (k := 0) (by omega) hM.a0 rfl ?_
      refine y_bipush (v := nI 32) hC dX6_total_60 (by decide) ?_
      refine y_iald hC dX6_total_62 (k := 1) (j := 32) (by omega) hM.a1 (rfl) (by omega) (by decide) ?_
      refine y_top (y := nI (rc S.r)) ((hR 32 (by decide)).trans hv.1.1) ?_
      refine y_iret (hC := hC) (hd := dX6_total_63) (hq := ?_)
      have hqq : qTotal S (nI 0) = rgT S 0 := by simp only [qTotal]; rw [if_pos (by decide)]; rfl
      rw [hqq]
      exact ⟨rfl, ⟨row, hi, sn, tx, C, P, hM, hR, hH, hS, hT⟩⟩
    · refine y_tabIn (off := 63) (tgt := 64) hC dX6_total_1 (by decide) (by decide) (by decide) (by decide) ?_
      refine y_aload_n hC dX6_total_64 (i := 0) rfl rfl ?_
      refine y_callV hC mX6_running kX6_120 dX6_total_65 (b := 0) (As := []) (rest := []) (c_X6_running l E g row (hi, nI (S.c), sn, nI (S.kp)) C (tx, nI (S.ln)) P hM S.r Bd (by omega) hR hv) (by omega) hM.a0 rfl rfl rfl (Nat.le_of_ble_eq_true rfl) ⟨Nat.le_of_ble_eq_true rfl, Nat.le_of_ble_eq_true rfl⟩ (pk_i ?_)
      rintro r_65 g_65 ⟨hr_65, hq_65⟩
      obtain rfl := hq_65.symm
      rw [hr_65]
      clear hr_65 r_65
      refine y_iret (hC := hC) (hd := dX6_total_68) (hq := ?_)
      have hqq : qTotal S (nI 1) = rgT S 1 := by simp only [qTotal]; rw [if_pos (by decide)]; rfl
      rw [hqq]
      exact ⟨rfl, ⟨row, hi, sn, tx, C, P, hM, hR, hH, hS, hT⟩⟩
    · refine y_tabIn (off := 68) (tgt := 69) hC dX6_total_1 (by decide) (by decide) (by decide) (by decide) ?_
      refine y_aload_n hC dX6_total_69 (i := 0) rfl rfl ?_
      refine y_get hC fX6_7 dX6_total_70 (k := 0) (by omega) hM.a0 rfl ?_
      refine y_bipush (v := nI 75) hC dX6_total_73 (by decide) ?_
      refine y_iald hC dX6_total_75 (k := 1) (j := 75) (by omega) hM.a1 (rfl) (by omega) (by decide) ?_
      refine y_top (y := nI (gc S.r)) ((hR 75 (by decide)).trans hv.2.1.1) ?_
      refine y_iret (hC := hC) (hd := dX6_total_76) (hq := ?_)
      have hqq : qTotal S (nI 2) = rgT S 2 := by simp only [qTotal]; rw [if_pos (by decide)]; rfl
      rw [hqq]
      exact ⟨rfl, ⟨row, hi, sn, tx, C, P, hM, hR, hH, hS, hT⟩⟩
    · refine y_tabIn (off := 76) (tgt := 77) hC dX6_total_1 (by decide) (by decide) (by decide) (by decide) ?_
      refine y_aload_n hC dX6_total_77 (i := 0) rfl rfl ?_
      refine y_get hC fX6_7 dX6_total_78 (k := 0) (by omega) hM.a0 rfl ?_
      refine y_sipush (v := nI 156) hC dX6_total_81 (by decide) ?_
      refine y_iald hC dX6_total_84 (k := 1) (j := 156) (by omega) hM.a1 (rfl) (by omega) (by decide) ?_
      refine y_top (y := (S.r 156)) (hR 156 (by decide)) ?_
      refine y_iret (hC := hC) (hd := dX6_total_85) (hq := ?_)
      have hqq : qTotal S (nI 3) = rgT S 3 := by simp only [qTotal]; rw [if_pos (by decide)]; rfl
      rw [hqq]
      exact ⟨rfl, ⟨row, hi, sn, tx, C, P, hM, hR, hH, hS, hT⟩⟩
    · refine y_tabIn (off := 85) (tgt := 86) hC dX6_total_1 (by decide) (by decide) (by decide) (by decide) ?_
      refine y_aload_n hC dX6_total_86 (i := 0) rfl rfl ?_
      refine y_get hC fX6_7 dX6_total_87 (k := 0) (by omega) hM.a0 rfl ?_
      refine y_sipush (v := nI 157) hC dX6_total_90 (by decide) ?_
      refine y_iald hC dX6_total_93 (k := 1) (j := 157) (by omega) hM.a1 (rfl) (by omega) (by decide) ?_
      refine y_top (y := (S.r 157)) (hR 157 (by decide)) ?_
      refine y_iret (hC := hC) (hd := dX6_total_94) (hq := ?_)
      have hqq : qTotal S (nI 4) = rgT S 4 := by simp only [qTotal]; rw [if_pos (by decide)]; rfl
      rw [hqq]
      exact ⟨rfl, ⟨row, hi, sn, tx, C, P, hM, hR, hH, hS, hT⟩⟩
    · refine y_tabIn (off := 94) (tgt := 95) hC dX6_total_1 (by decide) (by decide) (by decide) (by decide) ?_
      refine y_aload_n hC dX6_total_95 (i := 0) rfl rfl ?_
      refine y_callV hC mX6_placesInRanges kX6_204 dX6_total_96 (b := 0) (As := []) (rest := []) (c_X6_placesInRanges l E g row (hi, nI (S.c), sn, nI (S.kp)) C (tx, nI (S.ln)) P hM S.r Bd (by omega) hR hv) (by omega) hM.a0 rfl rfl rfl (Nat.le_of_ble_eq_true rfl) ⟨Nat.le_of_ble_eq_true rfl, Nat.le_of_ble_eq_true rfl⟩ (pk_i ?_)
      rintro r_96 g_96 ⟨hr_96, hq_96⟩
      obtain rfl := hq_96.symm
      rw [hr_96]
      clear hr_96 r_96
      refine y_iret (hC := hC) (hd := dX6_total_99) (hq := ?_)
      have hqq : qTotal S (nI 5) = rgT S 5 := by simp only [qTotal]; rw [if_pos (by decide)]; rfl
      rw [hqq]
      exact ⟨rfl, ⟨row, hi, sn, tx, C, P, hM, hR, hH, hS, hT⟩⟩
    · refine y_tabIn (off := 99) (tgt := 100) hC dX6_total_1 (by decide) (by decide) (by decide) (by decide) ?_
      refine y_aload_n hC dX6_total_100 (i := 0) rfl rfl ?_
      refine y_callV hC mX6_coloursInPicture kX6_207 dX6_total_101 (b := 0) (As := []) (rest := []) (c_X6_coloursInPicture l E g row (hi, nI (S.c), sn, nI (S.kp)) C (tx, nI (S.ln)) P hM S.r Bd (by omega) hR hv) (by omega) hM.a0 rfl rfl rfl (Nat.le_of_ble_eq_true rfl) ⟨Nat.le_of_ble_eq_true rfl, Nat.le_of_ble_eq_true rfl⟩ (pk_i ?_)
      rintro rz g_z ⟨hz, co_z, hM_z⟩
      rw [hz, dc_eq hv]
      refine y_iret (hC := hC) (hd := dX6_total_104) (hq := ?_)
      have hqq : qTotal S (nI 6) = rgT S 6 := by simp only [qTotal]; rw [if_pos (by decide)]; rfl
      rw [hqq]
      exact ⟨rfl, ⟨row, hi, sn, tx, (C.1, co_z, C.2.2.1, C.2.2.2), P, hM_z, hR, hH, hS, hT⟩⟩
    · refine y_tabIn (off := 104) (tgt := 105) hC dX6_total_1 (by decide) (by decide) (by decide) (by decide) ?_
      refine y_aload_n hC dX6_total_105 (i := 0) rfl rfl ?_
      refine y_callV hC mX6_livelyPixels kX6_210 dX6_total_106 (b := 0) (As := []) (rest := []) (c_X6_livelyPixels l E g row (hi, nI (S.c), sn, nI (S.kp)) C (tx, nI (S.ln)) P hM S.r Bd (by omega) hR hv) (by omega) hM.a0 rfl rfl rfl (Nat.le_of_ble_eq_true rfl) ⟨Nat.le_of_ble_eq_true rfl, Nat.le_of_ble_eq_true rfl⟩ (pk_i ?_)
      rintro r_106 g_106 ⟨hr_106, hq_106⟩
      obtain rfl := hq_106.symm
      rw [hr_106]
      clear hr_106 r_106
      refine y_iret (hC := hC) (hd := dX6_total_109) (hq := ?_)
      have hqq : qTotal S (nI 7) = rgT S 7 := by simp only [qTotal]; rw [if_pos (by decide)]; rfl
      rw [hqq]
      exact ⟨rfl, ⟨row, hi, sn, tx, C, P, hM, hR, hH, hS, hT⟩⟩
    · refine y_tabIn (off := 109) (tgt := 110) hC dX6_total_1 (by decide) (by decide) (by decide) (by decide) ?_
      refine y_aload_n hC dX6_total_110 (i := 0) rfl rfl ?_
      refine y_get hC fX6_49 dX6_total_111 (k := 0) (by omega) hM.a0 rfl ?_
      refine y_iret (hC := hC) (hd := dX6_total_114) (hq := ?_)
      have hqq : qTotal S (nI 8) = rgT S 8 := by simp only [qTotal]; rw [if_pos (by decide)]; rfl
      rw [hqq]
      exact ⟨rfl, ⟨row, hi, sn, tx, C, P, hM, hR, hH, hS, hT⟩⟩
    · refine y_tabIn (off := 114) (tgt := 115) hC dX6_total_1 (by decide) (by decide) (by decide) (by decide) ?_
      refine y_aload_n hC dX6_total_115 (i := 0) rfl rfl ?_
      refine y_get hC fX6_140 dX6_total_116 (k := 0) (by omega) hM.a0 rfl ?_
      refine y_iret (hC := hC) (hd := dX6_total_119) (hq := ?_)
      have hqq : qTotal S (nI 9) = rgT S 9 := by simp only [qTotal]; rw [if_pos (by decide)]; rfl
      rw [hqq]
      exact ⟨rfl, ⟨row, hi, sn, tx, C, P, hM, hR, hH, hS, hT⟩⟩
  · refine y_tabOut (tgt := 120) hC dX6_total_1 (by omega) (by decide) ?_
    refine y_bipush (v := (-2)) hC dX6_total_120 (by decide) ?_
    refine y_iret (hC := hC) (hd := dX6_total_122) (hq := ?_)
    have hqq : qTotal S xa = -2 := by simp only [qTotal, if_neg hw]
    rw [hqq]
    exact ⟨rfl, ⟨row, hi, sn, tx, C, P, hM, hR, hH, hS, hT⟩⟩

