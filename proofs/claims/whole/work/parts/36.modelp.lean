/-! ===== the model: programs ===== -/
/-- the greatest number that is named, as the model keeps it -/
def grI (h : Nat) : Int32 := if h = 0 then -5 else nI (h - 1)
theorem gr_up {h d : Nat} (hh : h ≤ 1000) (hd : d ≤ 1000) : (nI d ≤ grI h → grI (max h (d + 1)) = grI h) ∧ (¬ nI d ≤ grI h → grI (max h (d + 1)) = nI d) := by
  have e2 : (nI d).toInt = (d : Int) := tI (by omega)
  have e3 : (-5 : Int32).toInt = -5 := by decide
  unfold grI
  rw [if_neg (show ¬ max h (d + 1) = 0 by omega)]
  by_cases q : h = 0
  · rw [if_pos q, Int32.le_iff_toInt_le, e2, e3]
    exact ⟨fun z => absurd z (by omega), fun _ => congrArg nI (by omega)⟩
  · rw [if_neg q, Int32.le_iff_toInt_le, e2, tI (show h - 1 < 2147483648 by omega)]
    exact ⟨fun z => congrArg nI (by omega), fun z => congrArg nI (by omega)⟩
theorem gr_lt {h c : Nat} (hh : h ≤ 1000) (hc : c ≤ 1000) : grI h < nI c ↔ h ≤ c := by
  have e2 : (nI c).toInt = (c : Int) := tI (by omega)
  have e3 : (-5 : Int32).toInt = -5 := by decide
  unfold grI
  rw [Int32.lt_iff_toInt_lt, e2]
  by_cases q : h = 0
  · rw [if_pos q, e3]; omega
  · rw [if_neg q, tI (show h - 1 < 2147483648 by omega)]; omega
theorem dX6_isAt_0 : decode cX6_isAt 0 = .ok (.iload_n 1, 1) := by decide +kernel
theorem dX6_isAt_1 : decode cX6_isAt 1 = .ok (.aload_n 0, 1) := by decide +kernel
theorem dX6_isAt_2 : decode cX6_isAt 2 = .ok (.getfield 140, 3) := by decide +kernel
theorem dX6_isAt_5 : decode cX6_isAt 5 = .ok (.if_icmp .ge 21, 3) := by decide +kernel
theorem dX6_isAt_8 : decode cX6_isAt 8 = .ok (.aload_n 0, 1) := by decide +kernel
theorem dX6_isAt_9 : decode cX6_isAt 9 = .ok (.getfield 25, 3) := by decide +kernel
theorem dX6_isAt_12 : decode cX6_isAt 12 = .ok (.iload_n 1, 1) := by decide +kernel
theorem dX6_isAt_13 : decode cX6_isAt 13 = .ok (.iaload, 1) := by decide +kernel
theorem dX6_isAt_14 : decode cX6_isAt 14 = .ok (.iload_n 2, 1) := by decide +kernel
theorem dX6_isAt_15 : decode cX6_isAt 15 = .ok (.iload_n 3, 1) := by decide +kernel
theorem dX6_isAt_16 : decode cX6_isAt 16 = .ok (.invokestatic 44, 3) := by decide +kernel
theorem dX6_isAt_19 : decode cX6_isAt 19 = .ok (.ifCond .eq 7, 3) := by decide +kernel
theorem dX6_isAt_22 : decode cX6_isAt 22 = .ok (.iconst 1, 1) := by decide +kernel
theorem dX6_isAt_23 : decode cX6_isAt 23 = .ok (.goto 4, 3) := by decide +kernel
theorem dX6_isAt_26 : decode cX6_isAt 26 = .ok (.iconst 0, 1) := by decide +kernel
theorem dX6_isAt_27 : decode cX6_isAt 27 = .ok (.ireturn, 1) := by decide +kernel
set_option maxHeartbeats 4000000 in
set_option maxRecDepth 100000 in
theorem c_X6_isAt (l : Launch) (E : gE) (g : Mem) (row : Nat → Int32) (B : GB) (C : GC) (tx : Nat → Int32) (ln i d : Nat) (hb tm bg : Nat → Int32) (aT aJ gr : Int32) (hM : MX E g row B C (tx, nI ln) (nI i, nI d, hb, tm, bg, aT, aJ, gr)) (T : Nat → Nat) (hl60 : ln ≤ 60) (hT : ∀ k, k < ln → tx k = nI (T k)) (hTb : ∀ k, k < ln → T k < 65536) (j a b : Nat) (hj : j < 1000) (ha0 : 0 < a) (ha : a < 65536) (hbb : b < 65536) : Mt l E yX6_isAt cX6_isAt 4 (some .boolean) 1 22 [rf E (0), .int (nI (j)), .int (nI (a)), .int (nI (b))] g (pI (fun z g' => z = bI (a ≤ sgn ln T j ∧ sgn ln T j ≤ b) ∧ g' = g)) := by
  have hK := hM.k
  refine mt_go (own := RX6) (by decide) rfl (lo := [some (rf E (0)), some (.int (nI (j))), some (.int (nI (a))), some (.int (nI (b)))]) rfl (Nat.le_of_ble_eq_true rfl) (fun X hC => ?_)
  have hsb : ∀ k, sgn ln T k < 65536 := fun k => by unfold sgn; split; exact hTb _ (by assumption); decide
  have hts : ∀ k, k < ln → tx k = nI (sgn ln T k) := fun k hk => by rw [hT k hk]; unfold sgn; rw [if_pos hk]
  refine y_iload_n hC dX6_isAt_0 (i := 1) rfl rfl ?_
  refine y_aload_n hC dX6_isAt_1 (i := 0) rfl rfl ?_
  refine y_get hC fX6_140 dX6_isAt_2 (k := 0) (by omega) hM.a0 rfl ?_
  refine y_icmp_ge_n (tgt := 26) hC dX6_isAt_5 (by decide) (by omega) (by omega) (fun c_5 => ?_) (fun c_5 => ?_)
  · refine y_iconst (v := nI 0) hC dX6_isAt_26 (by decide) ?_
    refine y_zret (hrt := rfl) (hn := rfl) (hC := hC) (hd := dX6_isAt_27) (hq := ?_)
    refine ⟨?_, rfl⟩
    first
      | exact (bI_t (by assumption)).symm
      | exact (bI_f (by assumption)).symm
      | exact (bI_f (by rw [sgn_0 (by omega)]; omega)).symm
  · refine y_aload_n hC dX6_isAt_8 (i := 0) rfl rfl ?_
    refine y_get hC fX6_25 dX6_isAt_9 (k := 0) (by omega) hM.a0 rfl ?_
    refine y_iload_n hC dX6_isAt_12 (i := 1) rfl rfl ?_
    refine y_iald hC dX6_isAt_13 (k := 6) (j := j) (by omega) hM.a6 (rfl) (by omega) (by decide) ?_
    refine y_top (y := nI (sgn ln T j)) (hts j (by omega)) ?_
    refine y_iload_n hC dX6_isAt_14 (i := 2) rfl rfl ?_
    refine y_iload_n hC dX6_isAt_15 (i := 3) rfl rfl ?_
    refine y_callS hC mX6_in kX6_44 dX6_isAt_16 (As := [.int (nI (sgn ln T j)), .int (nI (a)), .int (nI (b))]) (rest := []) (c_X6_inM l E g (sgn ln T j) a b (by have := hsb j; omega) (by omega) (by omega)) rfl rfl rfl (Nat.le_of_ble_eq_true rfl) ⟨Nat.le_of_ble_eq_true rfl, Nat.le_of_ble_eq_true rfl⟩ (pk_i ?_)
    rintro r_16 g_16 ⟨hr_16, hq_16⟩
    obtain rfl := hq_16.symm
    rw [hr_16]
    clear hr_16 r_16
    refine y_if_eq_b (tgt := 26) hC dX6_isAt_19 (by decide) (fun c_19 => ?_) (fun c_19 => ?_)
    · refine y_iconst (v := nI 0) hC dX6_isAt_26 (by decide) ?_
      refine y_zret (hrt := rfl) (hn := rfl) (hC := hC) (hd := dX6_isAt_27) (hq := ?_)
      refine ⟨?_, rfl⟩
      first
        | exact (bI_t (by assumption)).symm
        | exact (bI_f (by assumption)).symm
        | exact (bI_f (by rw [sgn_0 (by omega)]; omega)).symm
    · refine y_iconst (v := nI 1) hC dX6_isAt_22 (by decide) ?_
      refine y_goto (tgt := 27) hC dX6_isAt_23 (by decide) ?_
      refine y_zret (hrt := rfl) (hn := rfl) (hC := hC) (hd := dX6_isAt_27) (hq := ?_)
      refine ⟨?_, rfl⟩
      first
        | exact (bI_t (by assumption)).symm
        | exact (bI_f (by assumption)).symm
        | exact (bI_f (by rw [sgn_0 (by omega)]; omega)).symm

theorem dX6_capped_0 : decode cX6_capped 0 = .ok (.iload_n 0, 1) := by decide +kernel
theorem dX6_capped_1 : decode cX6_capped 1 = .ok (.sipush 5000, 3) := by decide +kernel
theorem dX6_capped_4 : decode cX6_capped 4 = .ok (.if_icmp .le 9, 3) := by decide +kernel
theorem dX6_capped_7 : decode cX6_capped 7 = .ok (.sipush 5001, 3) := by decide +kernel
theorem dX6_capped_10 : decode cX6_capped 10 = .ok (.goto 4, 3) := by decide +kernel
theorem dX6_capped_13 : decode cX6_capped 13 = .ok (.iload_n 0, 1) := by decide +kernel
theorem dX6_capped_14 : decode cX6_capped 14 = .ok (.ireturn, 1) := by decide +kernel
set_option maxHeartbeats 4000000 in
set_option maxRecDepth 100000 in
theorem c_X6_capped (l : Launch) (E : gE) (g : Mem) (v : Nat) (hv : v < 2147483648) : Mt l E yX6_capped cX6_capped 1 (some .int) 0 0 [.int (nI (v))] g (pI (fun z g' => z = nI (min v 5001) ∧ g' = g)) := by
  refine mt_go (own := RX6) (by decide) rfl (lo := [some (.int (nI (v)))]) rfl (Nat.le_of_ble_eq_true rfl) (fun X hC => ?_)
  refine y_iload_n hC dX6_capped_0 (i := 0) rfl rfl ?_
  refine y_sipush (v := nI 5000) hC dX6_capped_1 (by decide) ?_
  refine y_icmp_le_n (tgt := 13) hC dX6_capped_4 (by decide) (by omega) (by omega) (fun c_4 => ?_) (fun c_4 => ?_)
  · refine y_iload_n hC dX6_capped_13 (i := 0) rfl rfl ?_
    refine y_iret (hC := hC) (hd := dX6_capped_14) (hq := ?_)
    exact ⟨congrArg nI (by omega), rfl⟩
  · refine y_sipush (v := nI 5001) hC dX6_capped_7 (by decide) ?_
    refine y_goto (tgt := 14) hC dX6_capped_10 (by decide) ?_
    refine y_iret (hC := hC) (hd := dX6_capped_14) (hq := ?_)
    exact ⟨congrArg nI (by omega), rfl⟩

theorem dX6_number_0 : decode cX6_number 0 = .ok (.aload_n 0, 1) := by decide +kernel
theorem dX6_number_1 : decode cX6_number 1 = .ok (.getfield 25, 3) := by decide +kernel
theorem dX6_number_4 : decode cX6_number 4 = .ok (.aload_n 0, 1) := by decide +kernel
theorem dX6_number_5 : decode cX6_number 5 = .ok (.getfield 143, 3) := by decide +kernel
theorem dX6_number_8 : decode cX6_number 8 = .ok (.iaload, 1) := by decide +kernel
theorem dX6_number_9 : decode cX6_number 9 = .ok (.bipush 48, 2) := by decide +kernel
theorem dX6_number_11 : decode cX6_number 11 = .ok (.isub, 1) := by decide +kernel
theorem dX6_number_12 : decode cX6_number 12 = .ok (.istore_n 1, 1) := by decide +kernel
theorem dX6_number_13 : decode cX6_number 13 = .ok (.aload_n 0, 1) := by decide +kernel
theorem dX6_number_14 : decode cX6_number 14 = .ok (.dup, 1) := by decide +kernel
theorem dX6_number_15 : decode cX6_number 15 = .ok (.getfield 143, 3) := by decide +kernel
theorem dX6_number_18 : decode cX6_number 18 = .ok (.iconst 1, 1) := by decide +kernel
theorem dX6_number_19 : decode cX6_number 19 = .ok (.iadd, 1) := by decide +kernel
theorem dX6_number_20 : decode cX6_number 20 = .ok (.putfield 143, 3) := by decide +kernel
theorem dX6_number_23 : decode cX6_number 23 = .ok (.aload_n 0, 1) := by decide +kernel
theorem dX6_number_24 : decode cX6_number 24 = .ok (.aload_n 0, 1) := by decide +kernel
theorem dX6_number_25 : decode cX6_number 25 = .ok (.getfield 143, 3) := by decide +kernel
theorem dX6_number_28 : decode cX6_number 28 = .ok (.bipush 48, 2) := by decide +kernel
theorem dX6_number_30 : decode cX6_number 30 = .ok (.bipush 57, 2) := by decide +kernel
theorem dX6_number_32 : decode cX6_number 32 = .ok (.invokevirtual 146, 3) := by decide +kernel
theorem dX6_number_35 : decode cX6_number 35 = .ok (.ifCond .eq 31, 3) := by decide +kernel
theorem dX6_number_38 : decode cX6_number 38 = .ok (.bipush 10, 2) := by decide +kernel
theorem dX6_number_40 : decode cX6_number 40 = .ok (.iload_n 1, 1) := by decide +kernel
theorem dX6_number_41 : decode cX6_number 41 = .ok (.imul, 1) := by decide +kernel
theorem dX6_number_42 : decode cX6_number 42 = .ok (.aload_n 0, 1) := by decide +kernel
theorem dX6_number_43 : decode cX6_number 43 = .ok (.getfield 25, 3) := by decide +kernel
theorem dX6_number_46 : decode cX6_number 46 = .ok (.aload_n 0, 1) := by decide +kernel
theorem dX6_number_47 : decode cX6_number 47 = .ok (.getfield 143, 3) := by decide +kernel
theorem dX6_number_50 : decode cX6_number 50 = .ok (.iaload, 1) := by decide +kernel
theorem dX6_number_51 : decode cX6_number 51 = .ok (.iadd, 1) := by decide +kernel
theorem dX6_number_52 : decode cX6_number 52 = .ok (.bipush 48, 2) := by decide +kernel
theorem dX6_number_54 : decode cX6_number 54 = .ok (.isub, 1) := by decide +kernel
theorem dX6_number_55 : decode cX6_number 55 = .ok (.istore_n 1, 1) := by decide +kernel
theorem dX6_number_56 : decode cX6_number 56 = .ok (.aload_n 0, 1) := by decide +kernel
theorem dX6_number_57 : decode cX6_number 57 = .ok (.dup, 1) := by decide +kernel
theorem dX6_number_58 : decode cX6_number 58 = .ok (.getfield 143, 3) := by decide +kernel
theorem dX6_number_61 : decode cX6_number 61 = .ok (.iconst 1, 1) := by decide +kernel
theorem dX6_number_62 : decode cX6_number 62 = .ok (.iadd, 1) := by decide +kernel
theorem dX6_number_63 : decode cX6_number 63 = .ok (.putfield 143, 3) := by decide +kernel
theorem dX6_number_66 : decode cX6_number 66 = .ok (.iload_n 1, 1) := by decide +kernel
theorem dX6_number_67 : decode cX6_number 67 = .ok (.ireturn, 1) := by decide +kernel
set_option maxHeartbeats 4000000 in
set_option maxRecDepth 100000 in
theorem c_X6_number (l : Launch) (E : gE) (g : Mem) (row : Nat → Int32) (B : GB) (C : GC) (tx : Nat → Int32) (ln i d : Nat) (hb tm bg : Nat → Int32) (aT aJ gr : Int32) (hM : MX E g row B C (tx, nI ln) (nI i, nI d, hb, tm, bg, aT, aJ, gr)) (T : Nat → Nat) (hl60 : ln ≤ 60) (hT : ∀ k, k < ln → tx k = nI (T k)) (hTb : ∀ k, k < ln → T k < 65536) (hi : i < ln) (h1 : 48 ≤ sgn ln T i) (h2 : sgn ln T i ≤ 57) : Mt l E yX6_number cX6_number 2 (some .int) 2 45 [rf E (0)] g (pI (fun z g' => z = nI (nmb (sgn ln T) i) ∧ MX E g' row B C (tx, nI ln) (nI (if 48 ≤ sgn ln T (i + 1) ∧ sgn ln T (i + 1) ≤ 57 then i + 2 else i + 1), nI d, hb, tm, bg, aT, aJ, gr))) := by
  have hK := hM.k
  refine mt_go (own := RX6) (by decide) rfl (lo := [some (rf E (0)), none]) rfl (Nat.le_of_ble_eq_true rfl) (fun X hC => ?_)
  have hsb : ∀ k, sgn ln T k < 65536 := fun k => by unfold sgn; split; exact hTb _ (by assumption); decide
  have hts : ∀ k, k < ln → tx k = nI (sgn ln T k) := fun k hk => by rw [hT k hk]; unfold sgn; rw [if_pos hk]
  refine y_aload_n hC dX6_number_0 (i := 0) rfl rfl ?_
  refine y_get hC fX6_25 dX6_number_1 (k := 0) (by omega) hM.a0 rfl ?_
  refine y_aload_n hC dX6_number_4 (i := 0) rfl rfl ?_
  refine y_get hC fX6_143 dX6_number_5 (k := 0) (by omega) hM.a0 rfl ?_
  refine y_iald hC dX6_number_8 (k := 6) (j := i) (by omega) hM.a6 (rfl) (by omega) (by decide) ?_
  refine y_top (y := nI (sgn ln T (i))) (hts i (by omega)) ?_
  refine y_bipush (v := nI 48) hC dX6_number_9 (by decide) ?_
  refine y_isub_n hC dX6_number_11 (h1) ?_
  refine y_istore_n hC dX6_number_12 (i := 1) rfl (Nat.le_of_ble_eq_true rfl) rfl (lo' := [some (rf E (0)), some (.int (nI ((sgn ln T (i)) - (48))))]) rfl ?_
  refine y_aload_n hC dX6_number_13 (i := 0) rfl rfl ?_
  refine y_dup hC dX6_number_14 rfl ?_
  refine y_get hC fX6_143 dX6_number_15 (k := 0) (by omega) hM.a0 rfl ?_
  refine y_iconst (v := nI 1) hC dX6_number_18 (by decide) ?_
  refine y_iadd_n hC dX6_number_19 ?_
  refine y_put hC fpX6_143 dX6_number_20 (k := 0) (by omega) hM.a0 (Nat.le_of_ble_eq_true rfl) (rfl) (rfl) (fs' := [rf E (1), rf E (2), .int (B.2.1), rf E (3), .int (B.2.2.2), rf E (4), rf E (5), rf E (6), .int (nI (ln)), .int (nI (i + 1)), .int (nI (d)), rf E (7), rf E (8), rf E (9), .int (aT), .int (aJ), .int (gr), rf E (10), rf E (11)]) rfl ?_
  have hM_20 : MX E (va_up g (0) (oB 6 [rf E (1), rf E (2), .int (B.2.1), rf E (3), .int (B.2.2.2), rf E (4), rf E (5), rf E (6), .int (nI (ln)), .int (nI (i + 1)), .int (nI (d)), rf E (7), rf E (8), rf E (9), .int (aT), .int (aJ), .int (gr), rf E (10), rf E (11)])) row B C (tx, nI (ln)) (nI (i + 1), nI (d), hb, tm, bg, (aT), (aJ), (gr)) := hM.u0 ((B.2.1)) ((B.2.2.2)) (nI (ln)) (nI (i + 1)) (nI (d)) ((aT)) ((aJ)) ((gr))
  generalize (va_up g (0) (oB 6 [rf E (1), rf E (2), .int (B.2.1), rf E (3), .int (B.2.2.2), rf E (4), rf E (5), rf E (6), .int (nI (ln)), .int (nI (i + 1)), .int (nI (d)), rf E (7), rf E (8), rf E (9), .int (aT), .int (aJ), .int (gr), rf E (10), rf E (11)])) = g_20 at hM_20 ⊢
  refine y_aload_n hC dX6_number_23 (i := 0) rfl rfl ?_
  refine y_aload_n hC dX6_number_24 (i := 0) rfl rfl ?_
  refine y_get hC fX6_143 dX6_number_25 (k := 0) (by omega) hM_20.a0 rfl ?_
  refine y_bipush (v := nI 48) hC dX6_number_28 (by decide) ?_
  refine y_bipush (v := nI 57) hC dX6_number_30 (by decide) ?_
  refine y_callV hC mX6_isAt kX6_146 dX6_number_32 (b := 0) (As := [.int (nI (i + 1)), .int (nI (48)), .int (nI (57))]) (rest := []) (c_X6_isAt l E g_20 row B C tx ln (i + 1) (d) (hb) (tm) (bg) ((aT)) ((aJ)) ((gr)) hM_20 T hl60 hT hTb (i + 1) 48 57 (by omega) (by decide) (by decide) (by decide)) (by omega) hM_20.a0 rfl rfl rfl (Nat.le_of_ble_eq_true rfl) ⟨Nat.le_of_ble_eq_true rfl, Nat.le_of_ble_eq_true rfl⟩ (pk_i ?_)
  rintro r_32 g_32 ⟨hr_32, hq_32⟩
  obtain rfl := hq_32.symm
  rw [hr_32]
  clear hr_32 r_32
  refine y_if_eq_b (tgt := 66) hC dX6_number_35 (by decide) (fun c_35 => ?_) (fun c_35 => ?_)
  · refine y_iload_n hC dX6_number_66 (i := 1) rfl rfl ?_
    refine y_iret (hC := hC) (hd := dX6_number_67) (hq := ?_)
    refine ⟨congrArg nI ?_, ?_⟩
    · unfold nmb
      first | (rw [if_pos c_35]; omega) | (rw [if_neg c_35]; done)
    · first | (rw [if_pos c_35]; exact hM_20) | (rw [if_neg c_35]; exact hM_20)
  · have hlt2 : i + 1 < ln := by
      apply Decidable.byContradiction
      intro q
      rw [sgn_0 (by omega)] at c_35
      omega
    refine y_bipush (v := nI 10) hC dX6_number_38 (by decide) ?_
    refine y_iload_n hC dX6_number_40 (i := 1) rfl rfl ?_
    refine y_imul_n hC dX6_number_41 ?_
    refine y_aload_n hC dX6_number_42 (i := 0) rfl rfl ?_
    refine y_get hC fX6_25 dX6_number_43 (k := 0) (by omega) hM_20.a0 rfl ?_
    refine y_aload_n hC dX6_number_46 (i := 0) rfl rfl ?_
    refine y_get hC fX6_143 dX6_number_47 (k := 0) (by omega) hM_20.a0 rfl ?_
    refine y_iald hC dX6_number_50 (k := 6) (j := i + 1) (by omega) hM_20.a6 (rfl) (by omega) (by decide) ?_
    refine y_top (y := nI (sgn ln T ((i + 1)))) (hts (i + 1) (by omega)) ?_
    refine y_iadd_n hC dX6_number_51 ?_
    refine y_bipush (v := nI 48) hC dX6_number_52 (by decide) ?_
    refine y_isub_n hC dX6_number_54 (by omega) ?_
    refine y_istore_n hC dX6_number_55 (i := 1) rfl (Nat.le_of_ble_eq_true rfl) rfl (lo' := [some (rf E (0)), some (.int (nI (((10 * ((sgn ln T (i)) - (48))) + (sgn ln T ((i + 1)))) - (48))))]) rfl ?_
    refine y_aload_n hC dX6_number_56 (i := 0) rfl rfl ?_
    refine y_dup hC dX6_number_57 rfl ?_
    refine y_get hC fX6_143 dX6_number_58 (k := 0) (by omega) hM_20.a0 rfl ?_
    refine y_iconst (v := nI 1) hC dX6_number_61 (by decide) ?_
    refine y_iadd_n hC dX6_number_62 ?_
    refine y_put hC fpX6_143 dX6_number_63 (k := 0) (by omega) hM_20.a0 (Nat.le_of_ble_eq_true rfl) (rfl) (rfl) (fs' := [rf E (1), rf E (2), .int (B.2.1), rf E (3), .int (B.2.2.2), rf E (4), rf E (5), rf E (6), .int (nI (ln)), .int (nI ((i + 1) + 1)), .int (nI (d)), rf E (7), rf E (8), rf E (9), .int (aT), .int (aJ), .int (gr), rf E (10), rf E (11)]) rfl ?_
    have hM_63 : MX E (va_up g_20 (0) (oB 6 [rf E (1), rf E (2), .int (B.2.1), rf E (3), .int (B.2.2.2), rf E (4), rf E (5), rf E (6), .int (nI (ln)), .int (nI ((i + 1) + 1)), .int (nI (d)), rf E (7), rf E (8), rf E (9), .int (aT), .int (aJ), .int (gr), rf E (10), rf E (11)])) row B C (tx, nI (ln)) (nI ((i + 1) + 1), nI (d), hb, tm, bg, (aT), (aJ), (gr)) := hM_20.u0 ((B.2.1)) ((B.2.2.2)) (nI (ln)) (nI ((i + 1) + 1)) (nI (d)) ((aT)) ((aJ)) ((gr))
    generalize (va_up g_20 (0) (oB 6 [rf E (1), rf E (2), .int (B.2.1), rf E (3), .int (B.2.2.2), rf E (4), rf E (5), rf E (6), .int (nI (ln)), .int (nI ((i + 1) + 1)), .int (nI (d)), rf E (7), rf E (8), rf E (9), .int (aT), .int (aJ), .int (gr), rf E (10), rf E (11)])) = g_63 at hM_63 ⊢
    refine y_iload_n hC dX6_number_66 (i := 1) rfl rfl ?_
    refine y_iret (hC := hC) (hd := dX6_number_67) (hq := ?_)
    refine ⟨congrArg nI ?_, ?_⟩
    · unfold nmb
      first | (rw [if_pos c_35]; omega) | (rw [if_neg c_35]; done)
    · first | (rw [if_pos c_35]; exact hM_63) | (rw [if_neg c_35]; exact hM_63)

theorem dX6_readTicks_0 : decode cX6_readTicks 0 = .ok (.aload_n 0, 1) := by decide +kernel
theorem dX6_readTicks_1 : decode cX6_readTicks 1 = .ok (.dup, 1) := by decide +kernel
theorem dX6_readTicks_2 : decode cX6_readTicks 2 = .ok (.getfield 143, 3) := by decide +kernel
theorem dX6_readTicks_5 : decode cX6_readTicks 5 = .ok (.iconst 1, 1) := by decide +kernel
theorem dX6_readTicks_6 : decode cX6_readTicks 6 = .ok (.iadd, 1) := by decide +kernel
theorem dX6_readTicks_7 : decode cX6_readTicks 7 = .ok (.putfield 143, 3) := by decide +kernel
theorem dX6_readTicks_10 : decode cX6_readTicks 10 = .ok (.aload_n 0, 1) := by decide +kernel
theorem dX6_readTicks_11 : decode cX6_readTicks 11 = .ok (.aload_n 0, 1) := by decide +kernel
theorem dX6_readTicks_12 : decode cX6_readTicks 12 = .ok (.getfield 143, 3) := by decide +kernel
theorem dX6_readTicks_15 : decode cX6_readTicks 15 = .ok (.bipush 49, 2) := by decide +kernel
theorem dX6_readTicks_17 : decode cX6_readTicks 17 = .ok (.bipush 57, 2) := by decide +kernel
theorem dX6_readTicks_19 : decode cX6_readTicks 19 = .ok (.invokevirtual 146, 3) := by decide +kernel
theorem dX6_readTicks_22 : decode cX6_readTicks 22 = .ok (.ifCond .ne 5, 3) := by decide +kernel
theorem dX6_readTicks_25 : decode cX6_readTicks 25 = .ok (.iconst 0, 1) := by decide +kernel
theorem dX6_readTicks_26 : decode cX6_readTicks 26 = .ok (.ireturn, 1) := by decide +kernel
theorem dX6_readTicks_27 : decode cX6_readTicks 27 = .ok (.aload_n 0, 1) := by decide +kernel
theorem dX6_readTicks_28 : decode cX6_readTicks 28 = .ok (.invokevirtual 149, 3) := by decide +kernel
theorem dX6_readTicks_31 : decode cX6_readTicks 31 = .ok (.istore_n 1, 1) := by decide +kernel
theorem dX6_readTicks_32 : decode cX6_readTicks 32 = .ok (.aload_n 0, 1) := by decide +kernel
theorem dX6_readTicks_33 : decode cX6_readTicks 33 = .ok (.aload_n 0, 1) := by decide +kernel
theorem dX6_readTicks_34 : decode cX6_readTicks 34 = .ok (.getfield 152, 3) := by decide +kernel
theorem dX6_readTicks_37 : decode cX6_readTicks 37 = .ok (.aload_n 0, 1) := by decide +kernel
theorem dX6_readTicks_38 : decode cX6_readTicks 38 = .ok (.getfield 32, 3) := by decide +kernel
theorem dX6_readTicks_41 : decode cX6_readTicks 41 = .ok (.aload_n 0, 1) := by decide +kernel
theorem dX6_readTicks_42 : decode cX6_readTicks 42 = .ok (.getfield 155, 3) := by decide +kernel
theorem dX6_readTicks_45 : decode cX6_readTicks 45 = .ok (.iaload, 1) := by decide +kernel
theorem dX6_readTicks_46 : decode cX6_readTicks 46 = .ok (.iload_n 1, 1) := by decide +kernel
theorem dX6_readTicks_47 : decode cX6_readTicks 47 = .ok (.imul, 1) := by decide +kernel
theorem dX6_readTicks_48 : decode cX6_readTicks 48 = .ok (.iadd, 1) := by decide +kernel
theorem dX6_readTicks_49 : decode cX6_readTicks 49 = .ok (.invokestatic 158, 3) := by decide +kernel
theorem dX6_readTicks_52 : decode cX6_readTicks 52 = .ok (.putfield 152, 3) := by decide +kernel
theorem dX6_readTicks_55 : decode cX6_readTicks 55 = .ok (.iconst 1, 1) := by decide +kernel
theorem dX6_readTicks_56 : decode cX6_readTicks 56 = .ok (.ireturn, 1) := by decide +kernel
set_option maxHeartbeats 4000000 in
set_option maxRecDepth 100000 in
theorem c_X6_readTicks (l : Launch) (E : gE) (g : Mem) (row : Nat → Int32) (B : GB) (C : GC) (tx : Nat → Int32) (ln i d : Nat) (hb tm bg : Nat → Int32) (aT aJ gr : Int32) (hM : MX E g row B C (tx, nI ln) (nI i, nI d, hb, tm, bg, aT, aJ, gr)) (T : Nat → Nat) (hl60 : ln ≤ 60) (hT : ∀ k, k < ln → tx k = nI (T k)) (hTb : ∀ k, k < ln → T k < 65536) (at_ m : Nat) (hi : i < ln) (ha : at_ ≤ 5001) (hm : m ≤ 5001) (hd : d < 32) (haT : aT = nI at_) (htm : tm d = nI m) (h116 : sgn ln T i = 116) : Mt l E yX6_readTicks cX6_readTicks 2 (some .boolean) 3 66 [rf E (0)] g (pI (fun z g' => ((49 ≤ sgn ln T (i + 1) ∧ sgn ln T (i + 1) ≤ 57) ∧ z = 1 ∧ MX E g' row B C (tx, nI ln) (nI (bhd (sgn ln T) i), nI d, hb, tm, bg, nI (min (at_ + m * nmb (sgn ln T) (i + 1)) 5001), aJ, gr)) ∨ (¬ (49 ≤ sgn ln T (i + 1) ∧ sgn ln T (i + 1) ≤ 57) ∧ z = 0 ∧ MX E g' row B C (tx, nI ln) (nI (i + 1), nI d, hb, tm, bg, aT, aJ, gr)))) := by
  have hK := hM.k
  refine mt_go (own := RX6) (by decide) rfl (lo := [some (rf E (0)), none]) rfl (Nat.le_of_ble_eq_true rfl) (fun X hC => ?_)
  have hsb : ∀ k, sgn ln T k < 65536 := fun k => by unfold sgn; split; exact hTb _ (by assumption); decide
  have hts : ∀ k, k < ln → tx k = nI (sgn ln T k) := fun k hk => by rw [hT k hk]; unfold sgn; rw [if_pos hk]
  subst haT
  refine y_aload_n hC dX6_readTicks_0 (i := 0) rfl rfl ?_
  refine y_dup hC dX6_readTicks_1 rfl ?_
  refine y_get hC fX6_143 dX6_readTicks_2 (k := 0) (by omega) hM.a0 rfl ?_
  refine y_iconst (v := nI 1) hC dX6_readTicks_5 (by decide) ?_
  refine y_iadd_n hC dX6_readTicks_6 ?_
  refine y_put hC fpX6_143 dX6_readTicks_7 (k := 0) (by omega) hM.a0 (Nat.le_of_ble_eq_true rfl) (rfl) (rfl) (fs' := [rf E (1), rf E (2), .int (B.2.1), rf E (3), .int (B.2.2.2), rf E (4), rf E (5), rf E (6), .int (nI (ln)), .int (nI (i + 1)), .int (nI (d)), rf E (7), rf E (8), rf E (9), .int (nI (at_)), .int (aJ), .int (gr), rf E (10), rf E (11)]) rfl ?_
  have hM_7 : MX E (va_up g (0) (oB 6 [rf E (1), rf E (2), .int (B.2.1), rf E (3), .int (B.2.2.2), rf E (4), rf E (5), rf E (6), .int (nI (ln)), .int (nI (i + 1)), .int (nI (d)), rf E (7), rf E (8), rf E (9), .int (nI (at_)), .int (aJ), .int (gr), rf E (10), rf E (11)])) row B C (tx, nI (ln)) (nI (i + 1), nI (d), hb, tm, bg, nI (at_), (aJ), (gr)) := hM.u0 ((B.2.1)) ((B.2.2.2)) (nI (ln)) (nI (i + 1)) (nI (d)) (nI (at_)) ((aJ)) ((gr))
  generalize (va_up g (0) (oB 6 [rf E (1), rf E (2), .int (B.2.1), rf E (3), .int (B.2.2.2), rf E (4), rf E (5), rf E (6), .int (nI (ln)), .int (nI (i + 1)), .int (nI (d)), rf E (7), rf E (8), rf E (9), .int (nI (at_)), .int (aJ), .int (gr), rf E (10), rf E (11)])) = g_7 at hM_7 ⊢
  refine y_aload_n hC dX6_readTicks_10 (i := 0) rfl rfl ?_
  refine y_aload_n hC dX6_readTicks_11 (i := 0) rfl rfl ?_
  refine y_get hC fX6_143 dX6_readTicks_12 (k := 0) (by omega) hM_7.a0 rfl ?_
  refine y_bipush (v := nI 49) hC dX6_readTicks_15 (by decide) ?_
  refine y_bipush (v := nI 57) hC dX6_readTicks_17 (by decide) ?_
  refine y_callV hC mX6_isAt kX6_146 dX6_readTicks_19 (b := 0) (As := [.int (nI (i + 1)), .int (nI (49)), .int (nI (57))]) (rest := []) (c_X6_isAt l E g_7 row B C tx ln (i + 1) (d) (hb) (tm) (bg) (nI (at_)) ((aJ)) ((gr)) hM_7 T hl60 hT hTb (i + 1) 49 57 (by omega) (by decide) (by decide) (by decide)) (by omega) hM_7.a0 rfl rfl rfl (Nat.le_of_ble_eq_true rfl) ⟨Nat.le_of_ble_eq_true rfl, Nat.le_of_ble_eq_true rfl⟩ (pk_i ?_)
  rintro r_19 g_19 ⟨hr_19, hq_19⟩
  obtain rfl := hq_19.symm
  rw [hr_19]
  clear hr_19 r_19
  refine y_if_ne_b (tgt := 27) hC dX6_readTicks_22 (by decide) (fun c_22 => ?_) (fun c_22 => ?_)
  · have hlt2 : i + 1 < ln := by
      apply Decidable.byContradiction
      intro q
      rw [sgn_0 (by omega)] at c_22
      omega
    refine y_aload_n hC dX6_readTicks_27 (i := 0) rfl rfl ?_
    refine y_callV hC mX6_number kX6_149 dX6_readTicks_28 (b := 0) (As := []) (rest := []) (c_X6_number l E g_7 row B C tx ln (i + 1) (d) (hb) (tm) (bg) (nI (at_)) ((aJ)) ((gr)) hM_7 T hl60 hT hTb hlt2 (by omega) (by omega)) (by omega) hM_7.a0 rfl rfl rfl (Nat.le_of_ble_eq_true rfl) ⟨Nat.le_of_ble_eq_true rfl, Nat.le_of_ble_eq_true rfl⟩ (pk_i ?_)
    rintro r_28 g_28 ⟨hr_28, hM_28⟩
    rw [hr_28]
    clear hr_28 r_28
    have hnm := nmb_le (s := sgn ln T) (i := i + 1) (by omega)
    have hmu : m * nmb (sgn ln T) (i + 1) ≤ 5001 * 99 := Nat.mul_le_mul hm hnm
    refine y_istore_n hC dX6_readTicks_31 (i := 1) rfl (Nat.le_of_ble_eq_true rfl) rfl (lo' := [some (rf E (0)), some (.int (nI (nmb (sgn ln T) (i + 1))))]) rfl ?_
    refine y_aload_n hC dX6_readTicks_32 (i := 0) rfl rfl ?_
    refine y_aload_n hC dX6_readTicks_33 (i := 0) rfl rfl ?_
    refine y_get hC fX6_152 dX6_readTicks_34 (k := 0) (by omega) hM_28.a0 rfl ?_
    refine y_aload_n hC dX6_readTicks_37 (i := 0) rfl rfl ?_
    refine y_get hC fX6_32 dX6_readTicks_38 (k := 0) (by omega) hM_28.a0 rfl ?_
    refine y_aload_n hC dX6_readTicks_41 (i := 0) rfl rfl ?_
    refine y_get hC fX6_155 dX6_readTicks_42 (k := 0) (by omega) hM_28.a0 rfl ?_
    refine y_iald hC dX6_readTicks_45 (k := 8) (j := d) (by omega) hM_28.a8 (rfl) (by omega) (by decide) ?_
    refine y_top (y := nI (m)) (htm) ?_
    refine y_iload_n hC dX6_readTicks_46 (i := 1) rfl rfl ?_
    refine y_imul_n hC dX6_readTicks_47 ?_
    refine y_iadd_n hC dX6_readTicks_48 ?_
    refine y_callS hC mX6_capped kX6_158 dX6_readTicks_49 (As := [.int (nI (at_ + (m * (nmb (sgn ln T) (i + 1)))))]) (rest := [rf E (0)]) (c_X6_capped l E g_28 (at_ + (m * (nmb (sgn ln T) (i + 1)))) (by omega)) rfl rfl rfl (Nat.le_of_ble_eq_true rfl) ⟨Nat.le_of_ble_eq_true rfl, Nat.le_of_ble_eq_true rfl⟩ (pk_i ?_)
    rintro r_49 g_49 ⟨hr_49, hq_49⟩
    obtain rfl := hq_49.symm
    rw [hr_49]
    clear hr_49 r_49
    refine y_put hC fpX6_152 dX6_readTicks_52 (k := 0) (by omega) hM_28.a0 (Nat.le_of_ble_eq_true rfl) (rfl) (rfl) (fs' := [rf E (1), rf E (2), .int (B.2.1), rf E (3), .int (B.2.2.2), rf E (4), rf E (5), rf E (6), .int (nI (ln)), .int (nI (if 48 ≤ sgn ln T (i + 1 + 1) ∧ sgn ln T (i + 1 + 1) ≤ 57 then i + 1 + 2 else i + 1 + 1)), .int (nI (d)), rf E (7), rf E (8), rf E (9), .int (nI (min (at_ + (m * (nmb (sgn ln T) (i + 1)))) 5001)), .int (aJ), .int (gr), rf E (10), rf E (11)]) rfl ?_
    have hM_52 : MX E (va_up g_28 (0) (oB 6 [rf E (1), rf E (2), .int (B.2.1), rf E (3), .int (B.2.2.2), rf E (4), rf E (5), rf E (6), .int (nI (ln)), .int (nI (if 48 ≤ sgn ln T (i + 1 + 1) ∧ sgn ln T (i + 1 + 1) ≤ 57 then i + 1 + 2 else i + 1 + 1)), .int (nI (d)), rf E (7), rf E (8), rf E (9), .int (nI (min (at_ + (m * (nmb (sgn ln T) (i + 1)))) 5001)), .int (aJ), .int (gr), rf E (10), rf E (11)])) row B C (tx, nI (ln)) (nI (if 48 ≤ sgn ln T (i + 1 + 1) ∧ sgn ln T (i + 1 + 1) ≤ 57 then i + 1 + 2 else i + 1 + 1), nI (d), hb, tm, bg, nI (min (at_ + (m * (nmb (sgn ln T) (i + 1)))) 5001), (aJ), (gr)) := hM_28.u0 ((B.2.1)) ((B.2.2.2)) (nI (ln)) (nI (if 48 ≤ sgn ln T (i + 1 + 1) ∧ sgn ln T (i + 1 + 1) ≤ 57 then i + 1 + 2 else i + 1 + 1)) (nI (d)) (nI (min (at_ + (m * (nmb (sgn ln T) (i + 1)))) 5001)) ((aJ)) ((gr))
    generalize (va_up g_28 (0) (oB 6 [rf E (1), rf E (2), .int (B.2.1), rf E (3), .int (B.2.2.2), rf E (4), rf E (5), rf E (6), .int (nI (ln)), .int (nI (if 48 ≤ sgn ln T (i + 1 + 1) ∧ sgn ln T (i + 1 + 1) ≤ 57 then i + 1 + 2 else i + 1 + 1)), .int (nI (d)), rf E (7), rf E (8), rf E (9), .int (nI (min (at_ + (m * (nmb (sgn ln T) (i + 1)))) 5001)), .int (aJ), .int (gr), rf E (10), rf E (11)])) = g_52 at hM_52 ⊢
    refine y_iconst (v := nI 1) hC dX6_readTicks_55 (by decide) ?_
    refine y_zret (hrt := rfl) (hn := rfl) (hC := hC) (hd := dX6_readTicks_56) (hq := ?_)
    have hbh : bhd (sgn ln T) i = if 48 ≤ sgn ln T (i + 1 + 1) ∧ sgn ln T (i + 1 + 1) ≤ 57 then i + 1 + 2 else i + 1 + 1 := by
      unfold bhd
      rw [if_neg (by omega)]
      by_cases q : 48 ≤ sgn ln T (i + 1 + 1) ∧ sgn ln T (i + 1 + 1) ≤ 57
      · rw [if_pos q, if_pos ⟨h116, q⟩]
      · rw [if_neg q, if_neg (fun z => q z.2)]
    refine Or.inl ⟨c_22, rfl, ?_⟩
    rw [hbh]
    exact hM_52
  · refine y_iconst (v := nI 0) hC dX6_readTicks_25 (by decide) ?_
    refine y_zret (hrt := rfl) (hn := rfl) (hC := hC) (hd := dX6_readTicks_26) (hq := ?_)
    exact Or.inr ⟨c_22, rfl, hM_7⟩

theorem dX6_readRange_0 : decode cX6_readRange 0 = .ok (.aload_n 0, 1) := by decide +kernel
theorem dX6_readRange_1 : decode cX6_readRange 1 = .ok (.dup, 1) := by decide +kernel
theorem dX6_readRange_2 : decode cX6_readRange 2 = .ok (.getfield 143, 3) := by decide +kernel
theorem dX6_readRange_5 : decode cX6_readRange 5 = .ok (.iconst 1, 1) := by decide +kernel
theorem dX6_readRange_6 : decode cX6_readRange 6 = .ok (.iadd, 1) := by decide +kernel
theorem dX6_readRange_7 : decode cX6_readRange 7 = .ok (.putfield 143, 3) := by decide +kernel
theorem dX6_readRange_10 : decode cX6_readRange 10 = .ok (.aload_n 0, 1) := by decide +kernel
theorem dX6_readRange_11 : decode cX6_readRange 11 = .ok (.aload_n 0, 1) := by decide +kernel
theorem dX6_readRange_12 : decode cX6_readRange 12 = .ok (.getfield 143, 3) := by decide +kernel
theorem dX6_readRange_15 : decode cX6_readRange 15 = .ok (.bipush 48, 2) := by decide +kernel
theorem dX6_readRange_17 : decode cX6_readRange 17 = .ok (.bipush 53, 2) := by decide +kernel
theorem dX6_readRange_19 : decode cX6_readRange 19 = .ok (.invokevirtual 146, 3) := by decide +kernel
theorem dX6_readRange_22 : decode cX6_readRange 22 = .ok (.ifCond .ne 5, 3) := by decide +kernel
theorem dX6_readRange_25 : decode cX6_readRange 25 = .ok (.iconst 0, 1) := by decide +kernel
theorem dX6_readRange_26 : decode cX6_readRange 26 = .ok (.ireturn, 1) := by decide +kernel
theorem dX6_readRange_27 : decode cX6_readRange 27 = .ok (.aload_n 0, 1) := by decide +kernel
theorem dX6_readRange_28 : decode cX6_readRange 28 = .ok (.getfield 25, 3) := by decide +kernel
theorem dX6_readRange_31 : decode cX6_readRange 31 = .ok (.aload_n 0, 1) := by decide +kernel
theorem dX6_readRange_32 : decode cX6_readRange 32 = .ok (.getfield 143, 3) := by decide +kernel
theorem dX6_readRange_35 : decode cX6_readRange 35 = .ok (.iaload, 1) := by decide +kernel
theorem dX6_readRange_36 : decode cX6_readRange 36 = .ok (.bipush 48, 2) := by decide +kernel
theorem dX6_readRange_38 : decode cX6_readRange 38 = .ok (.isub, 1) := by decide +kernel
theorem dX6_readRange_39 : decode cX6_readRange 39 = .ok (.istore_n 1, 1) := by decide +kernel
theorem dX6_readRange_40 : decode cX6_readRange 40 = .ok (.aload_n 0, 1) := by decide +kernel
theorem dX6_readRange_41 : decode cX6_readRange 41 = .ok (.iload_n 1, 1) := by decide +kernel
theorem dX6_readRange_42 : decode cX6_readRange 42 = .ok (.aload_n 0, 1) := by decide +kernel
theorem dX6_readRange_43 : decode cX6_readRange 43 = .ok (.getfield 161, 3) := by decide +kernel
theorem dX6_readRange_46 : decode cX6_readRange 46 = .ok (.if_icmp .le 7, 3) := by decide +kernel
theorem dX6_readRange_49 : decode cX6_readRange 49 = .ok (.iload_n 1, 1) := by decide +kernel
theorem dX6_readRange_50 : decode cX6_readRange 50 = .ok (.goto 7, 3) := by decide +kernel
theorem dX6_readRange_53 : decode cX6_readRange 53 = .ok (.aload_n 0, 1) := by decide +kernel
theorem dX6_readRange_54 : decode cX6_readRange 54 = .ok (.getfield 161, 3) := by decide +kernel
theorem dX6_readRange_57 : decode cX6_readRange 57 = .ok (.putfield 161, 3) := by decide +kernel
theorem dX6_readRange_60 : decode cX6_readRange 60 = .ok (.aload_n 0, 1) := by decide +kernel
theorem dX6_readRange_61 : decode cX6_readRange 61 = .ok (.dup, 1) := by decide +kernel
theorem dX6_readRange_62 : decode cX6_readRange 62 = .ok (.getfield 143, 3) := by decide +kernel
theorem dX6_readRange_65 : decode cX6_readRange 65 = .ok (.iconst 1, 1) := by decide +kernel
theorem dX6_readRange_66 : decode cX6_readRange 66 = .ok (.iadd, 1) := by decide +kernel
theorem dX6_readRange_67 : decode cX6_readRange 67 = .ok (.putfield 143, 3) := by decide +kernel
theorem dX6_readRange_70 : decode cX6_readRange 70 = .ok (.iconst 1, 1) := by decide +kernel
theorem dX6_readRange_71 : decode cX6_readRange 71 = .ok (.ireturn, 1) := by decide +kernel
set_option maxHeartbeats 4000000 in
set_option maxRecDepth 100000 in
theorem c_X6_readRange (l : Launch) (E : gE) (g : Mem) (row : Nat → Int32) (B : GB) (C : GC) (tx : Nat → Int32) (ln i d : Nat) (hb tm bg : Nat → Int32) (aT aJ gr : Int32) (hM : MX E g row B C (tx, nI ln) (nI i, nI d, hb, tm, bg, aT, aJ, gr)) (T : Nat → Nat) (hl60 : ln ≤ 60) (hT : ∀ k, k < ln → tx k = nI (T k)) (hTb : ∀ k, k < ln → T k < 65536) (h : Nat) (hi : i < ln) (hh : h ≤ 10) (hgr : gr = grI h) : Mt l E yX6_readRange cX6_readRange 2 (some .boolean) 2 45 [rf E (0)] g (pI (fun z g' => ((48 ≤ sgn ln T (i + 1) ∧ sgn ln T (i + 1) ≤ 53) ∧ z = 1 ∧ MX E g' row B C (tx, nI ln) (nI (i + 2), nI d, hb, tm, bg, aT, aJ, grI (max h (sgn ln T (i + 1) - 48 + 1)))) ∨ (¬ (48 ≤ sgn ln T (i + 1) ∧ sgn ln T (i + 1) ≤ 53) ∧ z = 0 ∧ MX E g' row B C (tx, nI ln) (nI (i + 1), nI d, hb, tm, bg, aT, aJ, gr)))) := by
  have hK := hM.k
  refine mt_go (own := RX6) (by decide) rfl (lo := [some (rf E (0)), none]) rfl (Nat.le_of_ble_eq_true rfl) (fun X hC => ?_)
  have hsb : ∀ k, sgn ln T k < 65536 := fun k => by unfold sgn; split; exact hTb _ (by assumption); decide
  have hts : ∀ k, k < ln → tx k = nI (sgn ln T k) := fun k hk => by rw [hT k hk]; unfold sgn; rw [if_pos hk]
  subst hgr
  refine y_aload_n hC dX6_readRange_0 (i := 0) rfl rfl ?_
  refine y_dup hC dX6_readRange_1 rfl ?_
  refine y_get hC fX6_143 dX6_readRange_2 (k := 0) (by omega) hM.a0 rfl ?_
  refine y_iconst (v := nI 1) hC dX6_readRange_5 (by decide) ?_
  refine y_iadd_n hC dX6_readRange_6 ?_
  refine y_put hC fpX6_143 dX6_readRange_7 (k := 0) (by omega) hM.a0 (Nat.le_of_ble_eq_true rfl) (rfl) (rfl) (fs' := [rf E (1), rf E (2), .int (B.2.1), rf E (3), .int (B.2.2.2), rf E (4), rf E (5), rf E (6), .int (nI (ln)), .int (nI (i + 1)), .int (nI (d)), rf E (7), rf E (8), rf E (9), .int (aT), .int (aJ), .int (grI h), rf E (10), rf E (11)]) rfl ?_
  have hM_7 : MX E (va_up g (0) (oB 6 [rf E (1), rf E (2), .int (B.2.1), rf E (3), .int (B.2.2.2), rf E (4), rf E (5), rf E (6), .int (nI (ln)), .int (nI (i + 1)), .int (nI (d)), rf E (7), rf E (8), rf E (9), .int (aT), .int (aJ), .int (grI h), rf E (10), rf E (11)])) row B C (tx, nI (ln)) (nI (i + 1), nI (d), hb, tm, bg, (aT), (aJ), (grI h)) := hM.u0 ((B.2.1)) ((B.2.2.2)) (nI (ln)) (nI (i + 1)) (nI (d)) ((aT)) ((aJ)) ((grI h))
  generalize (va_up g (0) (oB 6 [rf E (1), rf E (2), .int (B.2.1), rf E (3), .int (B.2.2.2), rf E (4), rf E (5), rf E (6), .int (nI (ln)), .int (nI (i + 1)), .int (nI (d)), rf E (7), rf E (8), rf E (9), .int (aT), .int (aJ), .int (grI h), rf E (10), rf E (11)])) = g_7 at hM_7 ⊢
  refine y_aload_n hC dX6_readRange_10 (i := 0) rfl rfl ?_
  refine y_aload_n hC dX6_readRange_11 (i := 0) rfl rfl ?_
  refine y_get hC fX6_143 dX6_readRange_12 (k := 0) (by omega) hM_7.a0 rfl ?_
  refine y_bipush (v := nI 48) hC dX6_readRange_15 (by decide) ?_
  refine y_bipush (v := nI 53) hC dX6_readRange_17 (by decide) ?_
  refine y_callV hC mX6_isAt kX6_146 dX6_readRange_19 (b := 0) (As := [.int (nI (i + 1)), .int (nI (48)), .int (nI (53))]) (rest := []) (c_X6_isAt l E g_7 row B C tx ln (i + 1) (d) (hb) (tm) (bg) ((aT)) ((aJ)) ((grI h)) hM_7 T hl60 hT hTb (i + 1) 48 53 (by omega) (by decide) (by decide) (by decide)) (by omega) hM_7.a0 rfl rfl rfl (Nat.le_of_ble_eq_true rfl) ⟨Nat.le_of_ble_eq_true rfl, Nat.le_of_ble_eq_true rfl⟩ (pk_i ?_)
  rintro r_19 g_19 ⟨hr_19, hq_19⟩
  obtain rfl := hq_19.symm
  rw [hr_19]
  clear hr_19 r_19
  refine y_if_ne_b (tgt := 27) hC dX6_readRange_22 (by decide) (fun c_22 => ?_) (fun c_22 => ?_)
  · have hlt2 : i + 1 < ln := by
      apply Decidable.byContradiction
      intro q
      rw [sgn_0 (by omega)] at c_22
      omega
    have hgu := gr_up (h := h) (d := sgn ln T (i + 1) - 48) (by omega) (by omega)
    refine y_aload_n hC dX6_readRange_27 (i := 0) rfl rfl ?_
    refine y_get hC fX6_25 dX6_readRange_28 (k := 0) (by omega) hM_7.a0 rfl ?_
    refine y_aload_n hC dX6_readRange_31 (i := 0) rfl rfl ?_
    refine y_get hC fX6_143 dX6_readRange_32 (k := 0) (by omega) hM_7.a0 rfl ?_
    refine y_iald hC dX6_readRange_35 (k := 6) (j := i + 1) (by omega) hM_7.a6 (rfl) (by omega) (by decide) ?_
    refine y_top (y := nI (sgn ln T ((i + 1)))) (hts (i + 1) (by omega)) ?_
    refine y_bipush (v := nI 48) hC dX6_readRange_36 (by decide) ?_
    refine y_isub_n hC dX6_readRange_38 (by omega) ?_
    refine y_istore_n hC dX6_readRange_39 (i := 1) rfl (Nat.le_of_ble_eq_true rfl) rfl (lo' := [some (rf E (0)), some (.int (nI ((sgn ln T ((i + 1))) - (48))))]) rfl ?_
    refine y_aload_n hC dX6_readRange_40 (i := 0) rfl rfl ?_
    refine y_iload_n hC dX6_readRange_41 (i := 1) rfl rfl ?_
    refine y_aload_n hC dX6_readRange_42 (i := 0) rfl rfl ?_
    refine y_get hC fX6_161 dX6_readRange_43 (k := 0) (by omega) hM_7.a0 rfl ?_
    refine y_icmp_le (tgt := 53) hC dX6_readRange_46 (by decide) (fun c_46 => ?_) (fun c_46 => ?_)
    · refine y_aload_n hC dX6_readRange_53 (i := 0) rfl rfl ?_
      refine y_get hC fX6_161 dX6_readRange_54 (k := 0) (by omega) hM_7.a0 rfl ?_
      refine y_top (y := grI (max h (sgn ln T (i + 1) - 48 + 1))) (by first | exact (hgu.1 c_46).symm | exact (hgu.2 c_46).symm) ?_
      refine y_put hC fpX6_161 dX6_readRange_57 (k := 0) (by omega) hM_7.a0 (Nat.le_of_ble_eq_true rfl) (rfl) (rfl) (fs' := [rf E (1), rf E (2), .int (B.2.1), rf E (3), .int (B.2.2.2), rf E (4), rf E (5), rf E (6), .int (nI (ln)), .int (nI (i + 1)), .int (nI (d)), rf E (7), rf E (8), rf E (9), .int (aT), .int (aJ), .int (grI (max h (sgn ln T (i + 1) - 48 + 1))), rf E (10), rf E (11)]) rfl ?_
      have hM_57 : MX E (va_up g_7 (0) (oB 6 [rf E (1), rf E (2), .int (B.2.1), rf E (3), .int (B.2.2.2), rf E (4), rf E (5), rf E (6), .int (nI (ln)), .int (nI (i + 1)), .int (nI (d)), rf E (7), rf E (8), rf E (9), .int (aT), .int (aJ), .int (grI (max h (sgn ln T (i + 1) - 48 + 1))), rf E (10), rf E (11)])) row B C (tx, nI (ln)) (nI (i + 1), nI (d), hb, tm, bg, (aT), (aJ), (grI (max h (sgn ln T (i + 1) - 48 + 1)))) := hM_7.u0 ((B.2.1)) ((B.2.2.2)) (nI (ln)) (nI (i + 1)) (nI (d)) ((aT)) ((aJ)) ((grI (max h (sgn ln T (i + 1) - 48 + 1))))
      generalize (va_up g_7 (0) (oB 6 [rf E (1), rf E (2), .int (B.2.1), rf E (3), .int (B.2.2.2), rf E (4), rf E (5), rf E (6), .int (nI (ln)), .int (nI (i + 1)), .int (nI (d)), rf E (7), rf E (8), rf E (9), .int (aT), .int (aJ), .int (grI (max h (sgn ln T (i + 1) - 48 + 1))), rf E (10), rf E (11)])) = g_57 at hM_57 ⊢
      refine y_aload_n hC dX6_readRange_60 (i := 0) rfl rfl ?_
      refine y_dup hC dX6_readRange_61 rfl ?_
      refine y_get hC fX6_143 dX6_readRange_62 (k := 0) (by omega) hM_57.a0 rfl ?_
      refine y_iconst (v := nI 1) hC dX6_readRange_65 (by decide) ?_
      refine y_iadd_n hC dX6_readRange_66 ?_
      refine y_put hC fpX6_143 dX6_readRange_67 (k := 0) (by omega) hM_57.a0 (Nat.le_of_ble_eq_true rfl) (rfl) (rfl) (fs' := [rf E (1), rf E (2), .int (B.2.1), rf E (3), .int (B.2.2.2), rf E (4), rf E (5), rf E (6), .int (nI (ln)), .int (nI ((i + 1) + 1)), .int (nI (d)), rf E (7), rf E (8), rf E (9), .int (aT), .int (aJ), .int (grI (max h (sgn ln T (i + 1) - 48 + 1))), rf E (10), rf E (11)]) rfl ?_
      have hM_67 : MX E (va_up g_57 (0) (oB 6 [rf E (1), rf E (2), .int (B.2.1), rf E (3), .int (B.2.2.2), rf E (4), rf E (5), rf E (6), .int (nI (ln)), .int (nI ((i + 1) + 1)), .int (nI (d)), rf E (7), rf E (8), rf E (9), .int (aT), .int (aJ), .int (grI (max h (sgn ln T (i + 1) - 48 + 1))), rf E (10), rf E (11)])) row B C (tx, nI (ln)) (nI ((i + 1) + 1), nI (d), hb, tm, bg, (aT), (aJ), (grI (max h (sgn ln T (i + 1) - 48 + 1)))) := hM_57.u0 ((B.2.1)) ((B.2.2.2)) (nI (ln)) (nI ((i + 1) + 1)) (nI (d)) ((aT)) ((aJ)) ((grI (max h (sgn ln T (i + 1) - 48 + 1))))
      generalize (va_up g_57 (0) (oB 6 [rf E (1), rf E (2), .int (B.2.1), rf E (3), .int (B.2.2.2), rf E (4), rf E (5), rf E (6), .int (nI (ln)), .int (nI ((i + 1) + 1)), .int (nI (d)), rf E (7), rf E (8), rf E (9), .int (aT), .int (aJ), .int (grI (max h (sgn ln T (i + 1) - 48 + 1))), rf E (10), rf E (11)])) = g_67 at hM_67 ⊢
      refine y_iconst (v := nI 1) hC dX6_readRange_70 (by decide) ?_
      refine y_zret (hrt := rfl) (hn := rfl) (hC := hC) (hd := dX6_readRange_71) (hq := ?_)
      exact Or.inl ⟨c_22, rfl, hM_67⟩
    · refine y_iload_n hC dX6_readRange_49 (i := 1) rfl rfl ?_
      refine y_goto (tgt := 57) hC dX6_readRange_50 (by decide) ?_
      refine y_top (y := grI (max h (sgn ln T (i + 1) - 48 + 1))) (by first | exact (hgu.1 c_46).symm | exact (hgu.2 c_46).symm) ?_
      refine y_put hC fpX6_161 dX6_readRange_57 (k := 0) (by omega) hM_7.a0 (Nat.le_of_ble_eq_true rfl) (rfl) (rfl) (fs' := [rf E (1), rf E (2), .int (B.2.1), rf E (3), .int (B.2.2.2), rf E (4), rf E (5), rf E (6), .int (nI (ln)), .int (nI (i + 1)), .int (nI (d)), rf E (7), rf E (8), rf E (9), .int (aT), .int (aJ), .int (grI (max h (sgn ln T (i + 1) - 48 + 1))), rf E (10), rf E (11)]) rfl ?_
      have hM_57 : MX E (va_up g_7 (0) (oB 6 [rf E (1), rf E (2), .int (B.2.1), rf E (3), .int (B.2.2.2), rf E (4), rf E (5), rf E (6), .int (nI (ln)), .int (nI (i + 1)), .int (nI (d)), rf E (7), rf E (8), rf E (9), .int (aT), .int (aJ), .int (grI (max h (sgn ln T (i + 1) - 48 + 1))), rf E (10), rf E (11)])) row B C (tx, nI (ln)) (nI (i + 1), nI (d), hb, tm, bg, (aT), (aJ), (grI (max h (sgn ln T (i + 1) - 48 + 1)))) := hM_7.u0 ((B.2.1)) ((B.2.2.2)) (nI (ln)) (nI (i + 1)) (nI (d)) ((aT)) ((aJ)) ((grI (max h (sgn ln T (i + 1) - 48 + 1))))
      generalize (va_up g_7 (0) (oB 6 [rf E (1), rf E (2), .int (B.2.1), rf E (3), .int (B.2.2.2), rf E (4), rf E (5), rf E (6), .int (nI (ln)), .int (nI (i + 1)), .int (nI (d)), rf E (7), rf E (8), rf E (9), .int (aT), .int (aJ), .int (grI (max h (sgn ln T (i + 1) - 48 + 1))), rf E (10), rf E (11)])) = g_57 at hM_57 ⊢
      refine y_aload_n hC dX6_readRange_60 (i := 0) rfl rfl ?_
      refine y_dup hC dX6_readRange_61 rfl ?_
      refine y_get hC fX6_143 dX6_readRange_62 (k := 0) (by omega) hM_57.a0 rfl ?_
      refine y_iconst (v := nI 1) hC dX6_readRange_65 (by decide) ?_
      refine y_iadd_n hC dX6_readRange_66 ?_
      refine y_put hC fpX6_143 dX6_readRange_67 (k := 0) (by omega) hM_57.a0 (Nat.le_of_ble_eq_true rfl) (rfl) (rfl) (fs' := [rf E (1), rf E (2), .int (B.2.1), rf E (3), .int (B.2.2.2), rf E (4), rf E (5), rf E (6), .int (nI (ln)), .int (nI ((i + 1) + 1)), .int (nI (d)), rf E (7), rf E (8), rf E (9), .int (aT), .int (aJ), .int (grI (max h (sgn ln T (i + 1) - 48 + 1))), rf E (10), rf E (11)]) rfl ?_
      have hM_67 : MX E (va_up g_57 (0) (oB 6 [rf E (1), rf E (2), .int (B.2.1), rf E (3), .int (B.2.2.2), rf E (4), rf E (5), rf E (6), .int (nI (ln)), .int (nI ((i + 1) + 1)), .int (nI (d)), rf E (7), rf E (8), rf E (9), .int (aT), .int (aJ), .int (grI (max h (sgn ln T (i + 1) - 48 + 1))), rf E (10), rf E (11)])) row B C (tx, nI (ln)) (nI ((i + 1) + 1), nI (d), hb, tm, bg, (aT), (aJ), (grI (max h (sgn ln T (i + 1) - 48 + 1)))) := hM_57.u0 ((B.2.1)) ((B.2.2.2)) (nI (ln)) (nI ((i + 1) + 1)) (nI (d)) ((aT)) ((aJ)) ((grI (max h (sgn ln T (i + 1) - 48 + 1))))
      generalize (va_up g_57 (0) (oB 6 [rf E (1), rf E (2), .int (B.2.1), rf E (3), .int (B.2.2.2), rf E (4), rf E (5), rf E (6), .int (nI (ln)), .int (nI ((i + 1) + 1)), .int (nI (d)), rf E (7), rf E (8), rf E (9), .int (aT), .int (aJ), .int (grI (max h (sgn ln T (i + 1) - 48 + 1))), rf E (10), rf E (11)])) = g_67 at hM_67 ⊢
      refine y_iconst (v := nI 1) hC dX6_readRange_70 (by decide) ?_
      refine y_zret (hrt := rfl) (hn := rfl) (hC := hC) (hd := dX6_readRange_71) (hq := ?_)
      exact Or.inl ⟨c_22, rfl, hM_67⟩
  · refine y_iconst (v := nI 0) hC dX6_readRange_25 (by decide) ?_
    refine y_zret (hrt := rfl) (hn := rfl) (hC := hC) (hd := dX6_readRange_26) (hq := ?_)
    exact Or.inr ⟨c_22, rfl, hM_7⟩

theorem dX6_readRepeat_0 : decode cX6_readRepeat 0 = .ok (.aload_n 0, 1) := by decide +kernel
theorem dX6_readRepeat_1 : decode cX6_readRepeat 1 = .ok (.getfield 25, 3) := by decide +kernel
theorem dX6_readRepeat_4 : decode cX6_readRepeat 4 = .ok (.aload_n 0, 1) := by decide +kernel
theorem dX6_readRepeat_5 : decode cX6_readRepeat 5 = .ok (.getfield 143, 3) := by decide +kernel
theorem dX6_readRepeat_8 : decode cX6_readRepeat 8 = .ok (.iaload, 1) := by decide +kernel
theorem dX6_readRepeat_9 : decode cX6_readRepeat 9 = .ok (.bipush 48, 2) := by decide +kernel
theorem dX6_readRepeat_11 : decode cX6_readRepeat 11 = .ok (.isub, 1) := by decide +kernel
theorem dX6_readRepeat_12 : decode cX6_readRepeat 12 = .ok (.istore_n 1, 1) := by decide +kernel
theorem dX6_readRepeat_13 : decode cX6_readRepeat 13 = .ok (.aload_n 0, 1) := by decide +kernel
theorem dX6_readRepeat_14 : decode cX6_readRepeat 14 = .ok (.dup, 1) := by decide +kernel
theorem dX6_readRepeat_15 : decode cX6_readRepeat 15 = .ok (.getfield 143, 3) := by decide +kernel
theorem dX6_readRepeat_18 : decode cX6_readRepeat 18 = .ok (.iconst 1, 1) := by decide +kernel
theorem dX6_readRepeat_19 : decode cX6_readRepeat 19 = .ok (.iadd, 1) := by decide +kernel
theorem dX6_readRepeat_20 : decode cX6_readRepeat 20 = .ok (.putfield 143, 3) := by decide +kernel
theorem dX6_readRepeat_23 : decode cX6_readRepeat 23 = .ok (.aload_n 0, 1) := by decide +kernel
theorem dX6_readRepeat_24 : decode cX6_readRepeat 24 = .ok (.aload_n 0, 1) := by decide +kernel
theorem dX6_readRepeat_25 : decode cX6_readRepeat 25 = .ok (.getfield 143, 3) := by decide +kernel
theorem dX6_readRepeat_28 : decode cX6_readRepeat 28 = .ok (.bipush 40, 2) := by decide +kernel
theorem dX6_readRepeat_30 : decode cX6_readRepeat 30 = .ok (.bipush 40, 2) := by decide +kernel
theorem dX6_readRepeat_32 : decode cX6_readRepeat 32 = .ok (.invokevirtual 146, 3) := by decide +kernel
theorem dX6_readRepeat_35 : decode cX6_readRepeat 35 = .ok (.ifCond .ne 5, 3) := by decide +kernel
theorem dX6_readRepeat_38 : decode cX6_readRepeat 38 = .ok (.iconst 0, 1) := by decide +kernel
theorem dX6_readRepeat_39 : decode cX6_readRepeat 39 = .ok (.ireturn, 1) := by decide +kernel
theorem dX6_readRepeat_40 : decode cX6_readRepeat 40 = .ok (.aload_n 0, 1) := by decide +kernel
theorem dX6_readRepeat_41 : decode cX6_readRepeat 41 = .ok (.dup, 1) := by decide +kernel
theorem dX6_readRepeat_42 : decode cX6_readRepeat 42 = .ok (.getfield 143, 3) := by decide +kernel
theorem dX6_readRepeat_45 : decode cX6_readRepeat 45 = .ok (.iconst 1, 1) := by decide +kernel
theorem dX6_readRepeat_46 : decode cX6_readRepeat 46 = .ok (.iadd, 1) := by decide +kernel
theorem dX6_readRepeat_47 : decode cX6_readRepeat 47 = .ok (.putfield 143, 3) := by decide +kernel
theorem dX6_readRepeat_50 : decode cX6_readRepeat 50 = .ok (.aload_n 0, 1) := by decide +kernel
theorem dX6_readRepeat_51 : decode cX6_readRepeat 51 = .ok (.getfield 28, 3) := by decide +kernel
theorem dX6_readRepeat_54 : decode cX6_readRepeat 54 = .ok (.aload_n 0, 1) := by decide +kernel
theorem dX6_readRepeat_55 : decode cX6_readRepeat 55 = .ok (.getfield 155, 3) := by decide +kernel
theorem dX6_readRepeat_58 : decode cX6_readRepeat 58 = .ok (.iconst 1, 1) := by decide +kernel
theorem dX6_readRepeat_59 : decode cX6_readRepeat 59 = .ok (.iadd, 1) := by decide +kernel
theorem dX6_readRepeat_60 : decode cX6_readRepeat 60 = .ok (.iconst 0, 1) := by decide +kernel
theorem dX6_readRepeat_61 : decode cX6_readRepeat 61 = .ok (.bastore, 1) := by decide +kernel
theorem dX6_readRepeat_62 : decode cX6_readRepeat 62 = .ok (.aload_n 0, 1) := by decide +kernel
theorem dX6_readRepeat_63 : decode cX6_readRepeat 63 = .ok (.getfield 32, 3) := by decide +kernel
theorem dX6_readRepeat_66 : decode cX6_readRepeat 66 = .ok (.aload_n 0, 1) := by decide +kernel
theorem dX6_readRepeat_67 : decode cX6_readRepeat 67 = .ok (.getfield 155, 3) := by decide +kernel
theorem dX6_readRepeat_70 : decode cX6_readRepeat 70 = .ok (.iconst 1, 1) := by decide +kernel
theorem dX6_readRepeat_71 : decode cX6_readRepeat 71 = .ok (.iadd, 1) := by decide +kernel
theorem dX6_readRepeat_72 : decode cX6_readRepeat 72 = .ok (.aload_n 0, 1) := by decide +kernel
theorem dX6_readRepeat_73 : decode cX6_readRepeat 73 = .ok (.getfield 32, 3) := by decide +kernel
theorem dX6_readRepeat_76 : decode cX6_readRepeat 76 = .ok (.aload_n 0, 1) := by decide +kernel
theorem dX6_readRepeat_77 : decode cX6_readRepeat 77 = .ok (.getfield 155, 3) := by decide +kernel
theorem dX6_readRepeat_80 : decode cX6_readRepeat 80 = .ok (.iaload, 1) := by decide +kernel
theorem dX6_readRepeat_81 : decode cX6_readRepeat 81 = .ok (.iload_n 1, 1) := by decide +kernel
theorem dX6_readRepeat_82 : decode cX6_readRepeat 82 = .ok (.imul, 1) := by decide +kernel
theorem dX6_readRepeat_83 : decode cX6_readRepeat 83 = .ok (.invokestatic 158, 3) := by decide +kernel
theorem dX6_readRepeat_86 : decode cX6_readRepeat 86 = .ok (.iastore, 1) := by decide +kernel
theorem dX6_readRepeat_87 : decode cX6_readRepeat 87 = .ok (.aload_n 0, 1) := by decide +kernel
theorem dX6_readRepeat_88 : decode cX6_readRepeat 88 = .ok (.dup, 1) := by decide +kernel
theorem dX6_readRepeat_89 : decode cX6_readRepeat 89 = .ok (.getfield 155, 3) := by decide +kernel
theorem dX6_readRepeat_92 : decode cX6_readRepeat 92 = .ok (.iconst 1, 1) := by decide +kernel
theorem dX6_readRepeat_93 : decode cX6_readRepeat 93 = .ok (.iadd, 1) := by decide +kernel
theorem dX6_readRepeat_94 : decode cX6_readRepeat 94 = .ok (.putfield 155, 3) := by decide +kernel
theorem dX6_readRepeat_97 : decode cX6_readRepeat 97 = .ok (.iconst 1, 1) := by decide +kernel
theorem dX6_readRepeat_98 : decode cX6_readRepeat 98 = .ok (.ireturn, 1) := by decide +kernel
set_option maxHeartbeats 4000000 in
set_option maxRecDepth 100000 in
theorem c_X6_readRepeat (l : Launch) (E : gE) (g : Mem) (row : Nat → Int32) (B : GB) (C : GC) (tx : Nat → Int32) (ln i d : Nat) (hb tm bg : Nat → Int32) (aT aJ gr : Int32) (hM : MX E g row B C (tx, nI ln) (nI i, nI d, hb, tm, bg, aT, aJ, gr)) (T : Nat → Nat) (hl60 : ln ≤ 60) (hT : ∀ k, k < ln → tx k = nI (T k)) (hTb : ∀ k, k < ln → T k < 65536) (m : Nat) (hi : i < ln) (hm : m ≤ 5001) (hd : d < 31) (htm : tm d = nI m) (h1 : 50 ≤ sgn ln T i) (h2 : sgn ln T i ≤ 57) : Mt l E yX6_readRepeat cX6_readRepeat 2 (some .boolean) 2 45 [rf E (0)] g (pI (fun z g' => ((sgn ln T (i + 1) = 40) ∧ z = 1 ∧ MX E g' row B C (tx, nI ln) (nI (i + 2), nI (d + 1), upd hb (d + 1) (nI 0), upd tm (d + 1) (nI (min (m * (sgn ln T i - 48)) 5001)), bg, aT, aJ, gr)) ∨ (¬ (sgn ln T (i + 1) = 40) ∧ z = 0 ∧ MX E g' row B C (tx, nI ln) (nI (i + 1), nI d, hb, tm, bg, aT, aJ, gr)))) := by
  have hK := hM.k
  refine mt_go (own := RX6) (by decide) rfl (lo := [some (rf E (0)), none]) rfl (Nat.le_of_ble_eq_true rfl) (fun X hC => ?_)
  have hsb : ∀ k, sgn ln T k < 65536 := fun k => by unfold sgn; split; exact hTb _ (by assumption); decide
  have hts : ∀ k, k < ln → tx k = nI (sgn ln T k) := fun k hk => by rw [hT k hk]; unfold sgn; rw [if_pos hk]
  refine y_aload_n hC dX6_readRepeat_0 (i := 0) rfl rfl ?_
  refine y_get hC fX6_25 dX6_readRepeat_1 (k := 0) (by omega) hM.a0 rfl ?_
  refine y_aload_n hC dX6_readRepeat_4 (i := 0) rfl rfl ?_
  refine y_get hC fX6_143 dX6_readRepeat_5 (k := 0) (by omega) hM.a0 rfl ?_
  refine y_iald hC dX6_readRepeat_8 (k := 6) (j := i) (by omega) hM.a6 (rfl) (by omega) (by decide) ?_
  refine y_top (y := nI (sgn ln T (i))) (hts i (by omega)) ?_
  refine y_bipush (v := nI 48) hC dX6_readRepeat_9 (by decide) ?_
  refine y_isub_n hC dX6_readRepeat_11 (by omega) ?_
  refine y_istore_n hC dX6_readRepeat_12 (i := 1) rfl (Nat.le_of_ble_eq_true rfl) rfl (lo' := [some (rf E (0)), some (.int (nI ((sgn ln T (i)) - (48))))]) rfl ?_
  refine y_aload_n hC dX6_readRepeat_13 (i := 0) rfl rfl ?_
  refine y_dup hC dX6_readRepeat_14 rfl ?_
  refine y_get hC fX6_143 dX6_readRepeat_15 (k := 0) (by omega) hM.a0 rfl ?_
  refine y_iconst (v := nI 1) hC dX6_readRepeat_18 (by decide) ?_
  refine y_iadd_n hC dX6_readRepeat_19 ?_
  refine y_put hC fpX6_143 dX6_readRepeat_20 (k := 0) (by omega) hM.a0 (Nat.le_of_ble_eq_true rfl) (rfl) (rfl) (fs' := [rf E (1), rf E (2), .int (B.2.1), rf E (3), .int (B.2.2.2), rf E (4), rf E (5), rf E (6), .int (nI (ln)), .int (nI (i + 1)), .int (nI (d)), rf E (7), rf E (8), rf E (9), .int (aT), .int (aJ), .int (gr), rf E (10), rf E (11)]) rfl ?_
  have hM_20 : MX E (va_up g (0) (oB 6 [rf E (1), rf E (2), .int (B.2.1), rf E (3), .int (B.2.2.2), rf E (4), rf E (5), rf E (6), .int (nI (ln)), .int (nI (i + 1)), .int (nI (d)), rf E (7), rf E (8), rf E (9), .int (aT), .int (aJ), .int (gr), rf E (10), rf E (11)])) row B C (tx, nI (ln)) (nI (i + 1), nI (d), hb, tm, bg, (aT), (aJ), (gr)) := hM.u0 ((B.2.1)) ((B.2.2.2)) (nI (ln)) (nI (i + 1)) (nI (d)) ((aT)) ((aJ)) ((gr))
  generalize (va_up g (0) (oB 6 [rf E (1), rf E (2), .int (B.2.1), rf E (3), .int (B.2.2.2), rf E (4), rf E (5), rf E (6), .int (nI (ln)), .int (nI (i + 1)), .int (nI (d)), rf E (7), rf E (8), rf E (9), .int (aT), .int (aJ), .int (gr), rf E (10), rf E (11)])) = g_20 at hM_20 ⊢
  refine y_aload_n hC dX6_readRepeat_23 (i := 0) rfl rfl ?_
  refine y_aload_n hC dX6_readRepeat_24 (i := 0) rfl rfl ?_
  refine y_get hC fX6_143 dX6_readRepeat_25 (k := 0) (by omega) hM_20.a0 rfl ?_
  refine y_bipush (v := nI 40) hC dX6_readRepeat_28 (by decide) ?_
  refine y_bipush (v := nI 40) hC dX6_readRepeat_30 (by decide) ?_
  refine y_callV hC mX6_isAt kX6_146 dX6_readRepeat_32 (b := 0) (As := [.int (nI (i + 1)), .int (nI (40)), .int (nI (40))]) (rest := []) (c_X6_isAt l E g_20 row B C tx ln (i + 1) (d) (hb) (tm) (bg) ((aT)) ((aJ)) ((gr)) hM_20 T hl60 hT hTb (i + 1) 40 40 (by omega) (by decide) (by decide) (by decide)) (by omega) hM_20.a0 rfl rfl rfl (Nat.le_of_ble_eq_true rfl) ⟨Nat.le_of_ble_eq_true rfl, Nat.le_of_ble_eq_true rfl⟩ (pk_i ?_)
  rintro r_32 g_32 ⟨hr_32, hq_32⟩
  obtain rfl := hq_32.symm
  rw [hr_32]
  clear hr_32 r_32
  refine y_if_ne_b (tgt := 40) hC dX6_readRepeat_35 (by decide) (fun c_35 => ?_) (fun c_35 => ?_)
  · refine y_aload_n hC dX6_readRepeat_40 (i := 0) rfl rfl ?_
    refine y_dup hC dX6_readRepeat_41 rfl ?_
    refine y_get hC fX6_143 dX6_readRepeat_42 (k := 0) (by omega) hM_20.a0 rfl ?_
    refine y_iconst (v := nI 1) hC dX6_readRepeat_45 (by decide) ?_
    refine y_iadd_n hC dX6_readRepeat_46 ?_
    refine y_put hC fpX6_143 dX6_readRepeat_47 (k := 0) (by omega) hM_20.a0 (Nat.le_of_ble_eq_true rfl) (rfl) (rfl) (fs' := [rf E (1), rf E (2), .int (B.2.1), rf E (3), .int (B.2.2.2), rf E (4), rf E (5), rf E (6), .int (nI (ln)), .int (nI ((i + 1) + 1)), .int (nI (d)), rf E (7), rf E (8), rf E (9), .int (aT), .int (aJ), .int (gr), rf E (10), rf E (11)]) rfl ?_
    have hM_47 : MX E (va_up g_20 (0) (oB 6 [rf E (1), rf E (2), .int (B.2.1), rf E (3), .int (B.2.2.2), rf E (4), rf E (5), rf E (6), .int (nI (ln)), .int (nI ((i + 1) + 1)), .int (nI (d)), rf E (7), rf E (8), rf E (9), .int (aT), .int (aJ), .int (gr), rf E (10), rf E (11)])) row B C (tx, nI (ln)) (nI ((i + 1) + 1), nI (d), hb, tm, bg, (aT), (aJ), (gr)) := hM_20.u0 ((B.2.1)) ((B.2.2.2)) (nI (ln)) (nI ((i + 1) + 1)) (nI (d)) ((aT)) ((aJ)) ((gr))
    generalize (va_up g_20 (0) (oB 6 [rf E (1), rf E (2), .int (B.2.1), rf E (3), .int (B.2.2.2), rf E (4), rf E (5), rf E (6), .int (nI (ln)), .int (nI ((i + 1) + 1)), .int (nI (d)), rf E (7), rf E (8), rf E (9), .int (aT), .int (aJ), .int (gr), rf E (10), rf E (11)])) = g_47 at hM_47 ⊢
    refine y_aload_n hC dX6_readRepeat_50 (i := 0) rfl rfl ?_
    refine y_get hC fX6_28 dX6_readRepeat_51 (k := 0) (by omega) hM_47.a0 rfl ?_
    refine y_aload_n hC dX6_readRepeat_54 (i := 0) rfl rfl ?_
    refine y_get hC fX6_155 dX6_readRepeat_55 (k := 0) (by omega) hM_47.a0 rfl ?_
    refine y_iconst (v := nI 1) hC dX6_readRepeat_58 (by decide) ?_
    refine y_iadd_n hC dX6_readRepeat_59 ?_
    refine y_iconst (v := nI 0) hC dX6_readRepeat_60 (by decide) ?_
    refine y_zast hC dX6_readRepeat_61 (k := 7) (j := d + 1) (by omega) hM_47.a7 (rfl) (by omega) (by decide) (by decide) ?_
    have hM_61 : MX E (va_up g_47 (7) (aI E 2 32 (upd hb (d + 1) (nI (0))))) row B C (tx, nI (ln)) (nI ((i + 1) + 1), nI (d), (upd hb (d + 1) (nI (0))), tm, bg, (aT), (aJ), (gr)) := hM_47.u7 _
    generalize (va_up g_47 (7) (aI E 2 32 (upd hb (d + 1) (nI (0))))) = g_61 at hM_61 ⊢
    refine y_aload_n hC dX6_readRepeat_62 (i := 0) rfl rfl ?_
    refine y_get hC fX6_32 dX6_readRepeat_63 (k := 0) (by omega) hM_61.a0 rfl ?_
    refine y_aload_n hC dX6_readRepeat_66 (i := 0) rfl rfl ?_
    refine y_get hC fX6_155 dX6_readRepeat_67 (k := 0) (by omega) hM_61.a0 rfl ?_
    refine y_iconst (v := nI 1) hC dX6_readRepeat_70 (by decide) ?_
    refine y_iadd_n hC dX6_readRepeat_71 ?_
    refine y_aload_n hC dX6_readRepeat_72 (i := 0) rfl rfl ?_
    refine y_get hC fX6_32 dX6_readRepeat_73 (k := 0) (by omega) hM_61.a0 rfl ?_
    refine y_aload_n hC dX6_readRepeat_76 (i := 0) rfl rfl ?_
    refine y_get hC fX6_155 dX6_readRepeat_77 (k := 0) (by omega) hM_61.a0 rfl ?_
    refine y_iald hC dX6_readRepeat_80 (k := 8) (j := d) (by omega) hM_61.a8 (rfl) (by omega) (by decide) ?_
    refine y_top (y := nI (m)) (htm) ?_
    refine y_iload_n hC dX6_readRepeat_81 (i := 1) rfl rfl ?_
    refine y_imul_n hC dX6_readRepeat_82 ?_
    have hmu : m * (sgn ln T (i) - 48) ≤ 5001 * 9 := Nat.mul_le_mul hm (by omega)
    refine y_callS hC mX6_capped kX6_158 dX6_readRepeat_83 (As := [.int (nI (m * ((sgn ln T (i)) - (48))))]) (rest := [.int (nI (d + 1)), rf E (8)]) (c_X6_capped l E g_61 (m * ((sgn ln T (i)) - (48))) (by omega)) rfl rfl rfl (Nat.le_of_ble_eq_true rfl) ⟨Nat.le_of_ble_eq_true rfl, Nat.le_of_ble_eq_true rfl⟩ (pk_i ?_)
    rintro r_83 g_83 ⟨hr_83, hq_83⟩
    obtain rfl := hq_83.symm
    rw [hr_83]
    clear hr_83 r_83
    refine y_iast hC dX6_readRepeat_86 (k := 8) (j := d + 1) (by omega) hM_61.a8 (rfl) (by omega) (by decide) ?_
    have hM_86 : MX E (va_up g_61 (8) (aI E 0 32 (upd tm (d + 1) (nI (min (m * ((sgn ln T (i)) - (48))) 5001))))) row B C (tx, nI (ln)) (nI ((i + 1) + 1), nI (d), (upd hb (d + 1) (nI (0))), (upd tm (d + 1) (nI (min (m * ((sgn ln T (i)) - (48))) 5001))), bg, (aT), (aJ), (gr)) := hM_61.u8 _
    generalize (va_up g_61 (8) (aI E 0 32 (upd tm (d + 1) (nI (min (m * ((sgn ln T (i)) - (48))) 5001))))) = g_86 at hM_86 ⊢
    refine y_aload_n hC dX6_readRepeat_87 (i := 0) rfl rfl ?_
    refine y_dup hC dX6_readRepeat_88 rfl ?_
    refine y_get hC fX6_155 dX6_readRepeat_89 (k := 0) (by omega) hM_86.a0 rfl ?_
    refine y_iconst (v := nI 1) hC dX6_readRepeat_92 (by decide) ?_
    refine y_iadd_n hC dX6_readRepeat_93 ?_
    refine y_put hC fpX6_155 dX6_readRepeat_94 (k := 0) (by omega) hM_86.a0 (Nat.le_of_ble_eq_true rfl) (rfl) (rfl) (fs' := [rf E (1), rf E (2), .int (B.2.1), rf E (3), .int (B.2.2.2), rf E (4), rf E (5), rf E (6), .int (nI (ln)), .int (nI ((i + 1) + 1)), .int (nI (d + 1)), rf E (7), rf E (8), rf E (9), .int (aT), .int (aJ), .int (gr), rf E (10), rf E (11)]) rfl ?_
    have hM_94 : MX E (va_up g_86 (0) (oB 6 [rf E (1), rf E (2), .int (B.2.1), rf E (3), .int (B.2.2.2), rf E (4), rf E (5), rf E (6), .int (nI (ln)), .int (nI ((i + 1) + 1)), .int (nI (d + 1)), rf E (7), rf E (8), rf E (9), .int (aT), .int (aJ), .int (gr), rf E (10), rf E (11)])) row B C (tx, nI (ln)) (nI ((i + 1) + 1), nI (d + 1), (upd hb (d + 1) (nI (0))), (upd tm (d + 1) (nI (min (m * ((sgn ln T (i)) - (48))) 5001))), bg, (aT), (aJ), (gr)) := hM_86.u0 ((B.2.1)) ((B.2.2.2)) (nI (ln)) (nI ((i + 1) + 1)) (nI (d + 1)) ((aT)) ((aJ)) ((gr))
    generalize (va_up g_86 (0) (oB 6 [rf E (1), rf E (2), .int (B.2.1), rf E (3), .int (B.2.2.2), rf E (4), rf E (5), rf E (6), .int (nI (ln)), .int (nI ((i + 1) + 1)), .int (nI (d + 1)), rf E (7), rf E (8), rf E (9), .int (aT), .int (aJ), .int (gr), rf E (10), rf E (11)])) = g_94 at hM_94 ⊢
    refine y_iconst (v := nI 1) hC dX6_readRepeat_97 (by decide) ?_
    refine y_zret (hrt := rfl) (hn := rfl) (hC := hC) (hd := dX6_readRepeat_98) (hq := ?_)
    exact Or.inl ⟨by omega, rfl, hM_94⟩
  · refine y_iconst (v := nI 0) hC dX6_readRepeat_38 (by decide) ?_
    refine y_zret (hrt := rfl) (hn := rfl) (hC := hC) (hd := dX6_readRepeat_39) (hq := ?_)
    exact Or.inr ⟨fun q => c_35 (by omega), rfl, hM_20⟩

theorem dX6_readEnd_0 : decode cX6_readEnd 0 = .ok (.aload_n 0, 1) := by decide +kernel
theorem dX6_readEnd_1 : decode cX6_readEnd 1 = .ok (.getfield 155, 3) := by decide +kernel
theorem dX6_readEnd_4 : decode cX6_readEnd 4 = .ok (.ifCond .eq 15, 3) := by decide +kernel
theorem dX6_readEnd_7 : decode cX6_readEnd 7 = .ok (.aload_n 0, 1) := by decide +kernel
theorem dX6_readEnd_8 : decode cX6_readEnd 8 = .ok (.getfield 28, 3) := by decide +kernel
theorem dX6_readEnd_11 : decode cX6_readEnd 11 = .ok (.aload_n 0, 1) := by decide +kernel
theorem dX6_readEnd_12 : decode cX6_readEnd 12 = .ok (.getfield 155, 3) := by decide +kernel
theorem dX6_readEnd_15 : decode cX6_readEnd 15 = .ok (.baload, 1) := by decide +kernel
theorem dX6_readEnd_16 : decode cX6_readEnd 16 = .ok (.ifCond .ne 5, 3) := by decide +kernel
theorem dX6_readEnd_19 : decode cX6_readEnd 19 = .ok (.iconst 0, 1) := by decide +kernel
theorem dX6_readEnd_20 : decode cX6_readEnd 20 = .ok (.ireturn, 1) := by decide +kernel
theorem dX6_readEnd_21 : decode cX6_readEnd 21 = .ok (.aload_n 0, 1) := by decide +kernel
theorem dX6_readEnd_22 : decode cX6_readEnd 22 = .ok (.dup, 1) := by decide +kernel
theorem dX6_readEnd_23 : decode cX6_readEnd 23 = .ok (.getfield 143, 3) := by decide +kernel
theorem dX6_readEnd_26 : decode cX6_readEnd 26 = .ok (.iconst 1, 1) := by decide +kernel
theorem dX6_readEnd_27 : decode cX6_readEnd 27 = .ok (.iadd, 1) := by decide +kernel
theorem dX6_readEnd_28 : decode cX6_readEnd 28 = .ok (.putfield 143, 3) := by decide +kernel
theorem dX6_readEnd_31 : decode cX6_readEnd 31 = .ok (.aload_n 0, 1) := by decide +kernel
theorem dX6_readEnd_32 : decode cX6_readEnd 32 = .ok (.dup, 1) := by decide +kernel
theorem dX6_readEnd_33 : decode cX6_readEnd 33 = .ok (.getfield 155, 3) := by decide +kernel
theorem dX6_readEnd_36 : decode cX6_readEnd 36 = .ok (.iconst 1, 1) := by decide +kernel
theorem dX6_readEnd_37 : decode cX6_readEnd 37 = .ok (.isub, 1) := by decide +kernel
theorem dX6_readEnd_38 : decode cX6_readEnd 38 = .ok (.putfield 155, 3) := by decide +kernel
theorem dX6_readEnd_41 : decode cX6_readEnd 41 = .ok (.aload_n 0, 1) := by decide +kernel
theorem dX6_readEnd_42 : decode cX6_readEnd 42 = .ok (.getfield 28, 3) := by decide +kernel
theorem dX6_readEnd_45 : decode cX6_readEnd 45 = .ok (.aload_n 0, 1) := by decide +kernel
theorem dX6_readEnd_46 : decode cX6_readEnd 46 = .ok (.getfield 155, 3) := by decide +kernel
theorem dX6_readEnd_49 : decode cX6_readEnd 49 = .ok (.iconst 1, 1) := by decide +kernel
theorem dX6_readEnd_50 : decode cX6_readEnd 50 = .ok (.bastore, 1) := by decide +kernel
theorem dX6_readEnd_51 : decode cX6_readEnd 51 = .ok (.iconst 1, 1) := by decide +kernel
theorem dX6_readEnd_52 : decode cX6_readEnd 52 = .ok (.ireturn, 1) := by decide +kernel
set_option maxHeartbeats 4000000 in
set_option maxRecDepth 100000 in
theorem c_X6_readEnd (l : Launch) (E : gE) (g : Mem) (row : Nat → Int32) (B : GB) (C : GC) (tx : Nat → Int32) (ln i d : Nat) (hb tm bg : Nat → Int32) (aT aJ gr : Int32) (hM : MX E g row B C (tx, nI ln) (nI i, nI d, hb, tm, bg, aT, aJ, gr)) (T : Nat → Nat) (hl60 : ln ≤ 60) (hT : ∀ k, k < ln → tx k = nI (T k)) (hTb : ∀ k, k < ln → T k < 65536) (due : Bool) (hi : i < ln) (hd : d < 32) (hhb : hb d = bI (due = false)) : Mt l E yX6_readEnd cX6_readEnd 1 (some .boolean) 0 0 [rf E (0)] g (pI (fun z g' => ((0 < d ∧ due = false) ∧ z = 1 ∧ MX E g' row B C (tx, nI ln) (nI (i + 1), nI (d - 1), upd hb (d - 1) (nI 1), tm, bg, aT, aJ, gr)) ∨ (¬ (0 < d ∧ due = false) ∧ z = 0 ∧ MX E g' row B C (tx, nI ln) (nI i, nI d, hb, tm, bg, aT, aJ, gr)))) := by
  have hK := hM.k
  refine mt_go (own := RX6) (by decide) rfl (lo := [some (rf E (0))]) rfl (Nat.le_of_ble_eq_true rfl) (fun X hC => ?_)
  have hsb : ∀ k, sgn ln T k < 65536 := fun k => by unfold sgn; split; exact hTb _ (by assumption); decide
  have hts : ∀ k, k < ln → tx k = nI (sgn ln T k) := fun k hk => by rw [hT k hk]; unfold sgn; rw [if_pos hk]
  refine y_aload_n hC dX6_readEnd_0 (i := 0) rfl rfl ?_
  refine y_get hC fX6_155 dX6_readEnd_1 (k := 0) (by omega) hM.a0 rfl ?_
  refine y_if_eq_n (tgt := 19) hC dX6_readEnd_4 (by decide) (by omega) (fun c_4 => ?_) (fun c_4 => ?_)
  · refine y_iconst (v := nI 0) hC dX6_readEnd_19 (by decide) ?_
    refine y_zret (hrt := rfl) (hn := rfl) (hC := hC) (hd := dX6_readEnd_20) (hq := ?_)
    exact Or.inr ⟨fun q => by first | omega | exact absurd q.2 (by assumption), rfl, hM⟩
  · refine y_aload_n hC dX6_readEnd_7 (i := 0) rfl rfl ?_
    refine y_get hC fX6_28 dX6_readEnd_8 (k := 0) (by omega) hM.a0 rfl ?_
    refine y_aload_n hC dX6_readEnd_11 (i := 0) rfl rfl ?_
    refine y_get hC fX6_155 dX6_readEnd_12 (k := 0) (by omega) hM.a0 rfl ?_
    refine y_zald hC dX6_readEnd_15 (k := 7) (j := d) (by omega) hM.a7 (rfl) (by omega) (by decide) ?_
    refine y_top (y := bI (due = false)) (hhb) ?_
    refine y_if_ne_b (tgt := 21) hC dX6_readEnd_16 (by decide) (fun c_16 => ?_) (fun c_16 => ?_)
    · refine y_aload_n hC dX6_readEnd_21 (i := 0) rfl rfl ?_
      refine y_dup hC dX6_readEnd_22 rfl ?_
      refine y_get hC fX6_143 dX6_readEnd_23 (k := 0) (by omega) hM.a0 rfl ?_
      refine y_iconst (v := nI 1) hC dX6_readEnd_26 (by decide) ?_
      refine y_iadd_n hC dX6_readEnd_27 ?_
      refine y_put hC fpX6_143 dX6_readEnd_28 (k := 0) (by omega) hM.a0 (Nat.le_of_ble_eq_true rfl) (rfl) (rfl) (fs' := [rf E (1), rf E (2), .int (B.2.1), rf E (3), .int (B.2.2.2), rf E (4), rf E (5), rf E (6), .int (nI (ln)), .int (nI (i + 1)), .int (nI (d)), rf E (7), rf E (8), rf E (9), .int (aT), .int (aJ), .int (gr), rf E (10), rf E (11)]) rfl ?_
      have hM_28 : MX E (va_up g (0) (oB 6 [rf E (1), rf E (2), .int (B.2.1), rf E (3), .int (B.2.2.2), rf E (4), rf E (5), rf E (6), .int (nI (ln)), .int (nI (i + 1)), .int (nI (d)), rf E (7), rf E (8), rf E (9), .int (aT), .int (aJ), .int (gr), rf E (10), rf E (11)])) row B C (tx, nI (ln)) (nI (i + 1), nI (d), hb, tm, bg, (aT), (aJ), (gr)) := hM.u0 ((B.2.1)) ((B.2.2.2)) (nI (ln)) (nI (i + 1)) (nI (d)) ((aT)) ((aJ)) ((gr))
      generalize (va_up g (0) (oB 6 [rf E (1), rf E (2), .int (B.2.1), rf E (3), .int (B.2.2.2), rf E (4), rf E (5), rf E (6), .int (nI (ln)), .int (nI (i + 1)), .int (nI (d)), rf E (7), rf E (8), rf E (9), .int (aT), .int (aJ), .int (gr), rf E (10), rf E (11)])) = g_28 at hM_28 ⊢
      refine y_aload_n hC dX6_readEnd_31 (i := 0) rfl rfl ?_
      refine y_dup hC dX6_readEnd_32 rfl ?_
      refine y_get hC fX6_155 dX6_readEnd_33 (k := 0) (by omega) hM_28.a0 rfl ?_
      refine y_iconst (v := nI 1) hC dX6_readEnd_36 (by decide) ?_
      refine y_isub_n hC dX6_readEnd_37 (by omega) ?_
      refine y_put hC fpX6_155 dX6_readEnd_38 (k := 0) (by omega) hM_28.a0 (Nat.le_of_ble_eq_true rfl) (rfl) (rfl) (fs' := [rf E (1), rf E (2), .int (B.2.1), rf E (3), .int (B.2.2.2), rf E (4), rf E (5), rf E (6), .int (nI (ln)), .int (nI (i + 1)), .int (nI (d - (1))), rf E (7), rf E (8), rf E (9), .int (aT), .int (aJ), .int (gr), rf E (10), rf E (11)]) rfl ?_
      have hM_38 : MX E (va_up g_28 (0) (oB 6 [rf E (1), rf E (2), .int (B.2.1), rf E (3), .int (B.2.2.2), rf E (4), rf E (5), rf E (6), .int (nI (ln)), .int (nI (i + 1)), .int (nI (d - (1))), rf E (7), rf E (8), rf E (9), .int (aT), .int (aJ), .int (gr), rf E (10), rf E (11)])) row B C (tx, nI (ln)) (nI (i + 1), nI (d - (1)), hb, tm, bg, (aT), (aJ), (gr)) := hM_28.u0 ((B.2.1)) ((B.2.2.2)) (nI (ln)) (nI (i + 1)) (nI (d - (1))) ((aT)) ((aJ)) ((gr))
      generalize (va_up g_28 (0) (oB 6 [rf E (1), rf E (2), .int (B.2.1), rf E (3), .int (B.2.2.2), rf E (4), rf E (5), rf E (6), .int (nI (ln)), .int (nI (i + 1)), .int (nI (d - (1))), rf E (7), rf E (8), rf E (9), .int (aT), .int (aJ), .int (gr), rf E (10), rf E (11)])) = g_38 at hM_38 ⊢
      refine y_aload_n hC dX6_readEnd_41 (i := 0) rfl rfl ?_
      refine y_get hC fX6_28 dX6_readEnd_42 (k := 0) (by omega) hM_38.a0 rfl ?_
      refine y_aload_n hC dX6_readEnd_45 (i := 0) rfl rfl ?_
      refine y_get hC fX6_155 dX6_readEnd_46 (k := 0) (by omega) hM_38.a0 rfl ?_
      refine y_iconst (v := nI 1) hC dX6_readEnd_49 (by decide) ?_
      refine y_zast hC dX6_readEnd_50 (k := 7) (j := d - (1)) (by omega) hM_38.a7 (rfl) (by omega) (by decide) (by decide) ?_
      have hM_50 : MX E (va_up g_38 (7) (aI E 2 32 (upd hb (d - (1)) (nI (1))))) row B C (tx, nI (ln)) (nI (i + 1), nI (d - (1)), (upd hb (d - (1)) (nI (1))), tm, bg, (aT), (aJ), (gr)) := hM_38.u7 _
      generalize (va_up g_38 (7) (aI E 2 32 (upd hb (d - (1)) (nI (1))))) = g_50 at hM_50 ⊢
      refine y_iconst (v := nI 1) hC dX6_readEnd_51 (by decide) ?_
      refine y_zret (hrt := rfl) (hn := rfl) (hC := hC) (hd := dX6_readEnd_52) (hq := ?_)
      exact Or.inl ⟨⟨by omega, c_16⟩, rfl, hM_50⟩
    · refine y_iconst (v := nI 0) hC dX6_readEnd_19 (by decide) ?_
      refine y_zret (hrt := rfl) (hn := rfl) (hC := hC) (hd := dX6_readEnd_20) (hq := ?_)
      exact Or.inr ⟨fun q => by first | omega | exact absurd q.2 (by assumption), rfl, hM⟩

theorem dX6_readItem_0 : decode cX6_readItem 0 = .ok (.aload_n 0, 1) := by decide +kernel
theorem dX6_readItem_1 : decode cX6_readItem 1 = .ok (.aload_n 0, 1) := by decide +kernel
theorem dX6_readItem_2 : decode cX6_readItem 2 = .ok (.getfield 143, 3) := by decide +kernel
theorem dX6_readItem_5 : decode cX6_readItem 5 = .ok (.bipush 116, 2) := by decide +kernel
theorem dX6_readItem_7 : decode cX6_readItem 7 = .ok (.bipush 116, 2) := by decide +kernel
theorem dX6_readItem_9 : decode cX6_readItem 9 = .ok (.invokevirtual 146, 3) := by decide +kernel
theorem dX6_readItem_12 : decode cX6_readItem 12 = .ok (.ifCond .eq 10, 3) := by decide +kernel
theorem dX6_readItem_15 : decode cX6_readItem 15 = .ok (.aload_n 0, 1) := by decide +kernel
theorem dX6_readItem_16 : decode cX6_readItem 16 = .ok (.invokevirtual 164, 3) := by decide +kernel
theorem dX6_readItem_19 : decode cX6_readItem 19 = .ok (.goto 45, 3) := by decide +kernel
theorem dX6_readItem_22 : decode cX6_readItem 22 = .ok (.aload_n 0, 1) := by decide +kernel
theorem dX6_readItem_23 : decode cX6_readItem 23 = .ok (.aload_n 0, 1) := by decide +kernel
theorem dX6_readItem_24 : decode cX6_readItem 24 = .ok (.getfield 143, 3) := by decide +kernel
theorem dX6_readItem_27 : decode cX6_readItem 27 = .ok (.bipush 112, 2) := by decide +kernel
theorem dX6_readItem_29 : decode cX6_readItem 29 = .ok (.bipush 112, 2) := by decide +kernel
theorem dX6_readItem_31 : decode cX6_readItem 31 = .ok (.invokevirtual 146, 3) := by decide +kernel
theorem dX6_readItem_34 : decode cX6_readItem 34 = .ok (.ifCond .ne 18, 3) := by decide +kernel
theorem dX6_readItem_37 : decode cX6_readItem 37 = .ok (.aload_n 0, 1) := by decide +kernel
theorem dX6_readItem_38 : decode cX6_readItem 38 = .ok (.aload_n 0, 1) := by decide +kernel
theorem dX6_readItem_39 : decode cX6_readItem 39 = .ok (.getfield 143, 3) := by decide +kernel
theorem dX6_readItem_42 : decode cX6_readItem 42 = .ok (.bipush 107, 2) := by decide +kernel
theorem dX6_readItem_44 : decode cX6_readItem 44 = .ok (.bipush 107, 2) := by decide +kernel
theorem dX6_readItem_46 : decode cX6_readItem 46 = .ok (.invokevirtual 146, 3) := by decide +kernel
theorem dX6_readItem_49 : decode cX6_readItem 49 = .ok (.ifCond .eq 14, 3) := by decide +kernel
theorem dX6_readItem_52 : decode cX6_readItem 52 = .ok (.aload_n 0, 1) := by decide +kernel
theorem dX6_readItem_53 : decode cX6_readItem 53 = .ok (.invokevirtual 168, 3) := by decide +kernel
theorem dX6_readItem_56 : decode cX6_readItem 56 = .ok (.ifCond .eq 7, 3) := by decide +kernel
theorem dX6_readItem_59 : decode cX6_readItem 59 = .ok (.iconst 1, 1) := by decide +kernel
theorem dX6_readItem_60 : decode cX6_readItem 60 = .ok (.goto 4, 3) := by decide +kernel
theorem dX6_readItem_63 : decode cX6_readItem 63 = .ok (.iconst 0, 1) := by decide +kernel
theorem dX6_readItem_64 : decode cX6_readItem 64 = .ok (.istore_n 1, 1) := by decide +kernel
theorem dX6_readItem_65 : decode cX6_readItem 65 = .ok (.aload_n 0, 1) := by decide +kernel
theorem dX6_readItem_66 : decode cX6_readItem 66 = .ok (.getfield 28, 3) := by decide +kernel
theorem dX6_readItem_69 : decode cX6_readItem 69 = .ok (.aload_n 0, 1) := by decide +kernel
theorem dX6_readItem_70 : decode cX6_readItem 70 = .ok (.getfield 155, 3) := by decide +kernel
theorem dX6_readItem_73 : decode cX6_readItem 73 = .ok (.iconst 1, 1) := by decide +kernel
theorem dX6_readItem_74 : decode cX6_readItem 74 = .ok (.bastore, 1) := by decide +kernel
theorem dX6_readItem_75 : decode cX6_readItem 75 = .ok (.aload_n 0, 1) := by decide +kernel
theorem dX6_readItem_76 : decode cX6_readItem 76 = .ok (.aload_n 0, 1) := by decide +kernel
theorem dX6_readItem_77 : decode cX6_readItem 77 = .ok (.getfield 171, 3) := by decide +kernel
theorem dX6_readItem_80 : decode cX6_readItem 80 = .ok (.aload_n 0, 1) := by decide +kernel
theorem dX6_readItem_81 : decode cX6_readItem 81 = .ok (.getfield 32, 3) := by decide +kernel
theorem dX6_readItem_84 : decode cX6_readItem 84 = .ok (.aload_n 0, 1) := by decide +kernel
theorem dX6_readItem_85 : decode cX6_readItem 85 = .ok (.getfield 155, 3) := by decide +kernel
theorem dX6_readItem_88 : decode cX6_readItem 88 = .ok (.iaload, 1) := by decide +kernel
theorem dX6_readItem_89 : decode cX6_readItem 89 = .ok (.iadd, 1) := by decide +kernel
theorem dX6_readItem_90 : decode cX6_readItem 90 = .ok (.invokestatic 158, 3) := by decide +kernel
theorem dX6_readItem_93 : decode cX6_readItem 93 = .ok (.putfield 171, 3) := by decide +kernel
theorem dX6_readItem_96 : decode cX6_readItem 96 = .ok (.iload_n 1, 1) := by decide +kernel
theorem dX6_readItem_97 : decode cX6_readItem 97 = .ok (.ireturn, 1) := by decide +kernel
set_option maxHeartbeats 4000000 in
set_option maxRecDepth 100000 in
theorem c_X6_readItem (l : Launch) (E : gE) (g : Mem) (row : Nat → Int32) (B : GB) (C : GC) (tx : Nat → Int32) (ln i d : Nat) (hb tm bg : Nat → Int32) (aT aJ gr : Int32) (hM : MX E g row B C (tx, nI ln) (nI i, nI d, hb, tm, bg, aT, aJ, gr)) (T : Nat → Nat) (hl60 : ln ≤ 60) (hT : ∀ k, k < ln → tx k = nI (T k)) (hTb : ∀ k, k < ln → T k < 65536) (at_ ai m h : Nat) (hi : i < ln) (ha : at_ ≤ 5001) (hai : ai ≤ 5001) (hm : m ≤ 5001) (hh : h ≤ 10) (hd : d < 32) (haT : aT = nI at_) (haI : aJ = nI ai) (hgr : gr = grI h) (htm : tm d = nI m) (hnr : ¬ (50 ≤ sgn ln T i ∧ sgn ln T i ≤ 57)) : Mt l E yX6_readItem cX6_readItem 2 (some .boolean) 4 87 [rf E (0)] g (pI (fun z g' => ∃ (ok : Bool) (i2 : Nat) (aT2 gr2 : Int32), z = bI (ok = true) ∧ MX E g' row B C (tx, nI ln) (nI i2, nI d, upd hb d (nI 1), tm, bg, aT2, nI (min (ai + m) 5001), gr2) ∧ (ok = true → (isBeg (sgn ln T i) = true ∧ isAlw (sgn ln T i) (sgn ln T (i + 1)) = true) ∧ i2 = bhd (sgn ln T) i ∧ aT2 = nI (min (at_ + m * (if sgn ln T i = 116 then nmb (sgn ln T) (i + 1) else 0)) 5001) ∧ gr2 = grI (if isFor (sgn ln T i) then max h (sgn ln T (i + 1) - 48 + 1) else h)) ∧ (ok = false → ¬ (isBeg (sgn ln T i) = true ∧ isAlw (sgn ln T i) (sgn ln T (i + 1)) = true) ∧ i2 = if isBeg (sgn ln T i) = true then i + 1 else i))) := by
  have hK := hM.k
  refine mt_go (own := RX6) (by decide) rfl (lo := [some (rf E (0)), none]) rfl (Nat.le_of_ble_eq_true rfl) (fun X hC => ?_)
  have hsb : ∀ k, sgn ln T k < 65536 := fun k => by unfold sgn; split; exact hTb _ (by assumption); decide
  have hts : ∀ k, k < ln → tx k = nI (sgn ln T k) := fun k hk => by rw [hT k hk]; unfold sgn; rw [if_pos hk]
  subst haT
  subst haI
  subst hgr
  refine y_aload_n hC dX6_readItem_0 (i := 0) rfl rfl ?_
  refine y_aload_n hC dX6_readItem_1 (i := 0) rfl rfl ?_
  refine y_get hC fX6_143 dX6_readItem_2 (k := 0) (by omega) hM.a0 rfl ?_
  refine y_bipush (v := nI 116) hC dX6_readItem_5 (by decide) ?_
  refine y_bipush (v := nI 116) hC dX6_readItem_7 (by decide) ?_
  refine y_callV hC mX6_isAt kX6_146 dX6_readItem_9 (b := 0) (As := [.int (nI (i)), .int (nI (116)), .int (nI (116))]) (rest := []) (c_X6_isAt l E g row B C tx ln (i) (d) (hb) (tm) (bg) (nI (at_)) (nI (ai)) ((grI h)) hM T hl60 hT hTb (i) 116 116 (by omega) (by decide) (by decide) (by decide)) (by omega) hM.a0 rfl rfl rfl (Nat.le_of_ble_eq_true rfl) ⟨Nat.le_of_ble_eq_true rfl, Nat.le_of_ble_eq_true rfl⟩ (pk_i ?_)
  rintro r_9 g_9 ⟨hr_9, hq_9⟩
  obtain rfl := hq_9.symm
  rw [hr_9]
  clear hr_9 r_9
  refine y_if_eq_b (tgt := 22) hC dX6_readItem_12 (by decide) (fun c_12 => ?_) (fun c_12 => ?_)
  · refine y_aload_n hC dX6_readItem_22 (i := 0) rfl rfl ?_
    refine y_aload_n hC dX6_readItem_23 (i := 0) rfl rfl ?_
    refine y_get hC fX6_143 dX6_readItem_24 (k := 0) (by omega) hM.a0 rfl ?_
    refine y_bipush (v := nI 112) hC dX6_readItem_27 (by decide) ?_
    refine y_bipush (v := nI 112) hC dX6_readItem_29 (by decide) ?_
    refine y_callV hC mX6_isAt kX6_146 dX6_readItem_31 (b := 0) (As := [.int (nI (i)), .int (nI (112)), .int (nI (112))]) (rest := []) (c_X6_isAt l E g row B C tx ln (i) (d) (hb) (tm) (bg) (nI (at_)) (nI (ai)) ((grI h)) hM T hl60 hT hTb (i) 112 112 (by omega) (by decide) (by decide) (by decide)) (by omega) hM.a0 rfl rfl rfl (Nat.le_of_ble_eq_true rfl) ⟨Nat.le_of_ble_eq_true rfl, Nat.le_of_ble_eq_true rfl⟩ (pk_i ?_)
    rintro r_31 g_31 ⟨hr_31, hq_31⟩
    obtain rfl := hq_31.symm
    rw [hr_31]
    clear hr_31 r_31
    refine y_if_ne_b (tgt := 52) hC dX6_readItem_34 (by decide) (fun c_34 => ?_) (fun c_34 => ?_)
    · refine y_aload_n hC dX6_readItem_52 (i := 0) rfl rfl ?_
      refine y_callV hC mX6_readRange kX6_168 dX6_readItem_53 (b := 0) (As := []) (rest := []) (c_X6_readRange l E g row B C tx ln (i) (d) (hb) (tm) (bg) (nI (at_)) (nI (ai)) ((grI h)) hM T hl60 hT hTb h hi hh rfl) (by omega) hM.a0 rfl rfl rfl (Nat.le_of_ble_eq_true rfl) ⟨Nat.le_of_ble_eq_true rfl, Nat.le_of_ble_eq_true rfl⟩ (pk_i ?_)
      rintro r_53 g_53 h53
      rcases h53 with ⟨hc1, hz, hM2⟩ | ⟨hc1, hz, hM2⟩
      · rw [hz]
        refine y_top (y := bI (True)) (by decide) ?_
        refine y_if_eq_b (tgt := 63) hC dX6_readItem_56 (by decide) (fun c_56 => ?_) (fun c_56 => ?_)
        · exact absurd trivial c_56
        · refine y_iconst (v := nI 1) hC dX6_readItem_59 (by decide) ?_
          refine y_goto (tgt := 64) hC dX6_readItem_60 (by decide) ?_
          refine y_istore_n hC dX6_readItem_64 (i := 1) rfl (Nat.le_of_ble_eq_true rfl) rfl (lo' := [some (rf E (0)), some (.int (nI (1)))]) rfl ?_
          refine y_aload_n hC dX6_readItem_65 (i := 0) rfl rfl ?_
          refine y_get hC fX6_28 dX6_readItem_66 (k := 0) (by omega) hM2.a0 rfl ?_
          refine y_aload_n hC dX6_readItem_69 (i := 0) rfl rfl ?_
          refine y_get hC fX6_155 dX6_readItem_70 (k := 0) (by omega) hM2.a0 rfl ?_
          refine y_iconst (v := nI 1) hC dX6_readItem_73 (by decide) ?_
          refine y_zast hC dX6_readItem_74 (k := 7) (j := d) (by omega) hM2.a7 (rfl) (by omega) (by decide) (by decide) ?_
          have hM_74 : MX E (va_up g_53 (7) (aI E 2 32 (upd hb (d) (nI (1))))) row B C (tx, nI (ln)) (nI (i + 2), nI (d), (upd hb (d) (nI (1))), tm, bg, nI (at_), nI (ai), (grI (max h (sgn ln T (i + 1) - 48 + 1)))) := hM2.u7 _
          generalize (va_up g_53 (7) (aI E 2 32 (upd hb (d) (nI (1))))) = g_74 at hM_74 ⊢
          refine y_aload_n hC dX6_readItem_75 (i := 0) rfl rfl ?_
          refine y_aload_n hC dX6_readItem_76 (i := 0) rfl rfl ?_
          refine y_get hC fX6_171 dX6_readItem_77 (k := 0) (by omega) hM_74.a0 rfl ?_
          refine y_aload_n hC dX6_readItem_80 (i := 0) rfl rfl ?_
          refine y_get hC fX6_32 dX6_readItem_81 (k := 0) (by omega) hM_74.a0 rfl ?_
          refine y_aload_n hC dX6_readItem_84 (i := 0) rfl rfl ?_
          refine y_get hC fX6_155 dX6_readItem_85 (k := 0) (by omega) hM_74.a0 rfl ?_
          refine y_iald hC dX6_readItem_88 (k := 8) (j := d) (by omega) hM_74.a8 (rfl) (by omega) (by decide) ?_
          refine y_top (y := nI (m)) (htm) ?_
          refine y_iadd_n hC dX6_readItem_89 ?_
          refine y_callS hC mX6_capped kX6_158 dX6_readItem_90 (As := [.int (nI (ai + m))]) (rest := [rf E (0)]) (c_X6_capped l E g_74 (ai + m) (by omega)) rfl rfl rfl (Nat.le_of_ble_eq_true rfl) ⟨Nat.le_of_ble_eq_true rfl, Nat.le_of_ble_eq_true rfl⟩ (pk_i ?_)
          rintro r_90 g_90 ⟨hr_90, hq_90⟩
          obtain rfl := hq_90.symm
          rw [hr_90]
          clear hr_90 r_90
          refine y_put hC fpX6_171 dX6_readItem_93 (k := 0) (by omega) hM_74.a0 (Nat.le_of_ble_eq_true rfl) (rfl) (rfl) (fs' := [rf E (1), rf E (2), .int (B.2.1), rf E (3), .int (B.2.2.2), rf E (4), rf E (5), rf E (6), .int (nI (ln)), .int (nI (i + 2)), .int (nI (d)), rf E (7), rf E (8), rf E (9), .int (nI (at_)), .int (nI (min (ai + m) 5001)), .int (grI (max h (sgn ln T (i + 1) - 48 + 1))), rf E (10), rf E (11)]) rfl ?_
          have hM_93 : MX E (va_up g_74 (0) (oB 6 [rf E (1), rf E (2), .int (B.2.1), rf E (3), .int (B.2.2.2), rf E (4), rf E (5), rf E (6), .int (nI (ln)), .int (nI (i + 2)), .int (nI (d)), rf E (7), rf E (8), rf E (9), .int (nI (at_)), .int (nI (min (ai + m) 5001)), .int (grI (max h (sgn ln T (i + 1) - 48 + 1))), rf E (10), rf E (11)])) row B C (tx, nI (ln)) (nI (i + 2), nI (d), (upd hb (d) (nI (1))), tm, bg, nI (at_), nI (min (ai + m) 5001), (grI (max h (sgn ln T (i + 1) - 48 + 1)))) := hM_74.u0 ((B.2.1)) ((B.2.2.2)) (nI (ln)) (nI (i + 2)) (nI (d)) (nI (at_)) (nI (min (ai + m) 5001)) ((grI (max h (sgn ln T (i + 1) - 48 + 1))))
          generalize (va_up g_74 (0) (oB 6 [rf E (1), rf E (2), .int (B.2.1), rf E (3), .int (B.2.2.2), rf E (4), rf E (5), rf E (6), .int (nI (ln)), .int (nI (i + 2)), .int (nI (d)), rf E (7), rf E (8), rf E (9), .int (nI (at_)), .int (nI (min (ai + m) 5001)), .int (grI (max h (sgn ln T (i + 1) - 48 + 1))), rf E (10), rf E (11)])) = g_93 at hM_93 ⊢
          refine y_iload_n hC dX6_readItem_96 (i := 1) rfl rfl ?_
          refine y_zret (hrt := rfl) (hn := rfl) (hC := hC) (hd := dX6_readItem_97) (hq := ?_)
          have hf : isFor (sgn ln T i) = true := by unfold isFor; exact decide_eq_true (by omega)
          have hal : isAlw (sgn ln T i) (sgn ln T (i + 1)) = true ↔ (48 ≤ sgn ln T (i + 1) ∧ sgn ln T (i + 1) ≤ 53) := by
            unfold isAlw
            rw [if_neg (by omega), if_pos hf, decide_eq_true_eq]
          have hbg : isBeg (sgn ln T i) = true := by
            unfold isBeg isFor isRep
            simp only [Bool.or_eq_true, decide_eq_true_eq]
            omega
          refine ⟨true, _, _, _, (bI_t rfl).symm, hM_93, fun _ => ⟨⟨hbg, hal.mpr hc1⟩, (bhd_2 (by omega) (by omega)).symm, by rw [if_neg (by omega), Nat.mul_zero, Nat.add_zero, Nat.min_eq_left ha], by rw [if_pos hf]⟩, fun q => (by cases q)⟩
      · rw [hz]
        refine y_top (y := bI (False)) (by decide) ?_
        refine y_if_eq_b (tgt := 63) hC dX6_readItem_56 (by decide) (fun c_56 => ?_) (fun c_56 => ?_)
        · refine y_iconst (v := nI 0) hC dX6_readItem_63 (by decide) ?_
          refine y_istore_n hC dX6_readItem_64 (i := 1) rfl (Nat.le_of_ble_eq_true rfl) rfl (lo' := [some (rf E (0)), some (.int (nI (0)))]) rfl ?_
          refine y_aload_n hC dX6_readItem_65 (i := 0) rfl rfl ?_
          refine y_get hC fX6_28 dX6_readItem_66 (k := 0) (by omega) hM2.a0 rfl ?_
          refine y_aload_n hC dX6_readItem_69 (i := 0) rfl rfl ?_
          refine y_get hC fX6_155 dX6_readItem_70 (k := 0) (by omega) hM2.a0 rfl ?_
          refine y_iconst (v := nI 1) hC dX6_readItem_73 (by decide) ?_
          refine y_zast hC dX6_readItem_74 (k := 7) (j := d) (by omega) hM2.a7 (rfl) (by omega) (by decide) (by decide) ?_
          have hM_74 : MX E (va_up g_53 (7) (aI E 2 32 (upd hb (d) (nI (1))))) row B C (tx, nI (ln)) (nI (i + 1), nI (d), (upd hb (d) (nI (1))), tm, bg, nI (at_), nI (ai), (grI h)) := hM2.u7 _
          generalize (va_up g_53 (7) (aI E 2 32 (upd hb (d) (nI (1))))) = g_74 at hM_74 ⊢
          refine y_aload_n hC dX6_readItem_75 (i := 0) rfl rfl ?_
          refine y_aload_n hC dX6_readItem_76 (i := 0) rfl rfl ?_
          refine y_get hC fX6_171 dX6_readItem_77 (k := 0) (by omega) hM_74.a0 rfl ?_
          refine y_aload_n hC dX6_readItem_80 (i := 0) rfl rfl ?_
          refine y_get hC fX6_32 dX6_readItem_81 (k := 0) (by omega) hM_74.a0 rfl ?_
          refine y_aload_n hC dX6_readItem_84 (i := 0) rfl rfl ?_
          refine y_get hC fX6_155 dX6_readItem_85 (k := 0) (by omega) hM_74.a0 rfl ?_
          refine y_iald hC dX6_readItem_88 (k := 8) (j := d) (by omega) hM_74.a8 (rfl) (by omega) (by decide) ?_
          refine y_top (y := nI (m)) (htm) ?_
          refine y_iadd_n hC dX6_readItem_89 ?_
          refine y_callS hC mX6_capped kX6_158 dX6_readItem_90 (As := [.int (nI (ai + m))]) (rest := [rf E (0)]) (c_X6_capped l E g_74 (ai + m) (by omega)) rfl rfl rfl (Nat.le_of_ble_eq_true rfl) ⟨Nat.le_of_ble_eq_true rfl, Nat.le_of_ble_eq_true rfl⟩ (pk_i ?_)
          rintro r_90 g_90 ⟨hr_90, hq_90⟩
          obtain rfl := hq_90.symm
          rw [hr_90]
          clear hr_90 r_90
          refine y_put hC fpX6_171 dX6_readItem_93 (k := 0) (by omega) hM_74.a0 (Nat.le_of_ble_eq_true rfl) (rfl) (rfl) (fs' := [rf E (1), rf E (2), .int (B.2.1), rf E (3), .int (B.2.2.2), rf E (4), rf E (5), rf E (6), .int (nI (ln)), .int (nI (i + 1)), .int (nI (d)), rf E (7), rf E (8), rf E (9), .int (nI (at_)), .int (nI (min (ai + m) 5001)), .int (grI h), rf E (10), rf E (11)]) rfl ?_
          have hM_93 : MX E (va_up g_74 (0) (oB 6 [rf E (1), rf E (2), .int (B.2.1), rf E (3), .int (B.2.2.2), rf E (4), rf E (5), rf E (6), .int (nI (ln)), .int (nI (i + 1)), .int (nI (d)), rf E (7), rf E (8), rf E (9), .int (nI (at_)), .int (nI (min (ai + m) 5001)), .int (grI h), rf E (10), rf E (11)])) row B C (tx, nI (ln)) (nI (i + 1), nI (d), (upd hb (d) (nI (1))), tm, bg, nI (at_), nI (min (ai + m) 5001), (grI h)) := hM_74.u0 ((B.2.1)) ((B.2.2.2)) (nI (ln)) (nI (i + 1)) (nI (d)) (nI (at_)) (nI (min (ai + m) 5001)) ((grI h))
          generalize (va_up g_74 (0) (oB 6 [rf E (1), rf E (2), .int (B.2.1), rf E (3), .int (B.2.2.2), rf E (4), rf E (5), rf E (6), .int (nI (ln)), .int (nI (i + 1)), .int (nI (d)), rf E (7), rf E (8), rf E (9), .int (nI (at_)), .int (nI (min (ai + m) 5001)), .int (grI h), rf E (10), rf E (11)])) = g_93 at hM_93 ⊢
          refine y_iload_n hC dX6_readItem_96 (i := 1) rfl rfl ?_
          refine y_zret (hrt := rfl) (hn := rfl) (hC := hC) (hd := dX6_readItem_97) (hq := ?_)
          have hf : isFor (sgn ln T i) = true := by unfold isFor; exact decide_eq_true (by omega)
          have hal : isAlw (sgn ln T i) (sgn ln T (i + 1)) = true ↔ (48 ≤ sgn ln T (i + 1) ∧ sgn ln T (i + 1) ≤ 53) := by
            unfold isAlw
            rw [if_neg (by omega), if_pos hf, decide_eq_true_eq]
          have hbg : isBeg (sgn ln T i) = true := by
            unfold isBeg isFor isRep
            simp only [Bool.or_eq_true, decide_eq_true_eq]
            omega
          refine ⟨false, _, _, _, (bI_f (by decide)).symm, hM_93, fun q => (by cases q), fun _ => ⟨fun q => hc1 (hal.mp q.2), (if_pos hbg).symm⟩⟩
        · exact absurd c_56 id
    · refine y_aload_n hC dX6_readItem_37 (i := 0) rfl rfl ?_
      refine y_aload_n hC dX6_readItem_38 (i := 0) rfl rfl ?_
      refine y_get hC fX6_143 dX6_readItem_39 (k := 0) (by omega) hM.a0 rfl ?_
      refine y_bipush (v := nI 107) hC dX6_readItem_42 (by decide) ?_
      refine y_bipush (v := nI 107) hC dX6_readItem_44 (by decide) ?_
      refine y_callV hC mX6_isAt kX6_146 dX6_readItem_46 (b := 0) (As := [.int (nI (i)), .int (nI (107)), .int (nI (107))]) (rest := []) (c_X6_isAt l E g row B C tx ln (i) (d) (hb) (tm) (bg) (nI (at_)) (nI (ai)) ((grI h)) hM T hl60 hT hTb (i) 107 107 (by omega) (by decide) (by decide) (by decide)) (by omega) hM.a0 rfl rfl rfl (Nat.le_of_ble_eq_true rfl) ⟨Nat.le_of_ble_eq_true rfl, Nat.le_of_ble_eq_true rfl⟩ (pk_i ?_)
      rintro r_46 g_46 ⟨hr_46, hq_46⟩
      obtain rfl := hq_46.symm
      rw [hr_46]
      clear hr_46 r_46
      refine y_if_eq_b (tgt := 63) hC dX6_readItem_49 (by decide) (fun c_49 => ?_) (fun c_49 => ?_)
      · refine y_iconst (v := nI 0) hC dX6_readItem_63 (by decide) ?_
        refine y_istore_n hC dX6_readItem_64 (i := 1) rfl (Nat.le_of_ble_eq_true rfl) rfl (lo' := [some (rf E (0)), some (.int (nI (0)))]) rfl ?_
        refine y_aload_n hC dX6_readItem_65 (i := 0) rfl rfl ?_
        refine y_get hC fX6_28 dX6_readItem_66 (k := 0) (by omega) hM.a0 rfl ?_
        refine y_aload_n hC dX6_readItem_69 (i := 0) rfl rfl ?_
        refine y_get hC fX6_155 dX6_readItem_70 (k := 0) (by omega) hM.a0 rfl ?_
        refine y_iconst (v := nI 1) hC dX6_readItem_73 (by decide) ?_
        refine y_zast hC dX6_readItem_74 (k := 7) (j := d) (by omega) hM.a7 (rfl) (by omega) (by decide) (by decide) ?_
        have hM_74 : MX E (va_up g (7) (aI E 2 32 (upd hb (d) (nI (1))))) row B C (tx, nI (ln)) (nI (i), nI (d), (upd hb (d) (nI (1))), tm, bg, nI (at_), nI (ai), (grI h)) := hM.u7 _
        generalize (va_up g (7) (aI E 2 32 (upd hb (d) (nI (1))))) = g_74 at hM_74 ⊢
        refine y_aload_n hC dX6_readItem_75 (i := 0) rfl rfl ?_
        refine y_aload_n hC dX6_readItem_76 (i := 0) rfl rfl ?_
        refine y_get hC fX6_171 dX6_readItem_77 (k := 0) (by omega) hM_74.a0 rfl ?_
        refine y_aload_n hC dX6_readItem_80 (i := 0) rfl rfl ?_
        refine y_get hC fX6_32 dX6_readItem_81 (k := 0) (by omega) hM_74.a0 rfl ?_
        refine y_aload_n hC dX6_readItem_84 (i := 0) rfl rfl ?_
        refine y_get hC fX6_155 dX6_readItem_85 (k := 0) (by omega) hM_74.a0 rfl ?_
        refine y_iald hC dX6_readItem_88 (k := 8) (j := d) (by omega) hM_74.a8 (rfl) (by omega) (by decide) ?_
        refine y_top (y := nI (m)) (htm) ?_
        refine y_iadd_n hC dX6_readItem_89 ?_
        refine y_callS hC mX6_capped kX6_158 dX6_readItem_90 (As := [.int (nI (ai + m))]) (rest := [rf E (0)]) (c_X6_capped l E g_74 (ai + m) (by omega)) rfl rfl rfl (Nat.le_of_ble_eq_true rfl) ⟨Nat.le_of_ble_eq_true rfl, Nat.le_of_ble_eq_true rfl⟩ (pk_i ?_)
        rintro r_90 g_90 ⟨hr_90, hq_90⟩
        obtain rfl := hq_90.symm
        rw [hr_90]
        clear hr_90 r_90
        refine y_put hC fpX6_171 dX6_readItem_93 (k := 0) (by omega) hM_74.a0 (Nat.le_of_ble_eq_true rfl) (rfl) (rfl) (fs' := [rf E (1), rf E (2), .int (B.2.1), rf E (3), .int (B.2.2.2), rf E (4), rf E (5), rf E (6), .int (nI (ln)), .int (nI (i)), .int (nI (d)), rf E (7), rf E (8), rf E (9), .int (nI (at_)), .int (nI (min (ai + m) 5001)), .int (grI h), rf E (10), rf E (11)]) rfl ?_
        have hM_93 : MX E (va_up g_74 (0) (oB 6 [rf E (1), rf E (2), .int (B.2.1), rf E (3), .int (B.2.2.2), rf E (4), rf E (5), rf E (6), .int (nI (ln)), .int (nI (i)), .int (nI (d)), rf E (7), rf E (8), rf E (9), .int (nI (at_)), .int (nI (min (ai + m) 5001)), .int (grI h), rf E (10), rf E (11)])) row B C (tx, nI (ln)) (nI (i), nI (d), (upd hb (d) (nI (1))), tm, bg, nI (at_), nI (min (ai + m) 5001), (grI h)) := hM_74.u0 ((B.2.1)) ((B.2.2.2)) (nI (ln)) (nI (i)) (nI (d)) (nI (at_)) (nI (min (ai + m) 5001)) ((grI h))
        generalize (va_up g_74 (0) (oB 6 [rf E (1), rf E (2), .int (B.2.1), rf E (3), .int (B.2.2.2), rf E (4), rf E (5), rf E (6), .int (nI (ln)), .int (nI (i)), .int (nI (d)), rf E (7), rf E (8), rf E (9), .int (nI (at_)), .int (nI (min (ai + m) 5001)), .int (grI h), rf E (10), rf E (11)])) = g_93 at hM_93 ⊢
        refine y_iload_n hC dX6_readItem_96 (i := 1) rfl rfl ?_
        refine y_zret (hrt := rfl) (hn := rfl) (hC := hC) (hd := dX6_readItem_97) (hq := ?_)
        refine ⟨false, i, _, _, (bI_f (by decide)).symm, hM_93, fun q => (by cases q), fun _ => ?_⟩
        have hnb : ¬ isBeg (sgn ln T i) = true := by
          unfold isBeg isFor isRep
          simp only [Bool.or_eq_true, decide_eq_true_eq]
          omega
        exact ⟨fun q => hnb q.1, (if_neg hnb).symm⟩
      · refine y_aload_n hC dX6_readItem_52 (i := 0) rfl rfl ?_
        refine y_callV hC mX6_readRange kX6_168 dX6_readItem_53 (b := 0) (As := []) (rest := []) (c_X6_readRange l E g row B C tx ln (i) (d) (hb) (tm) (bg) (nI (at_)) (nI (ai)) ((grI h)) hM T hl60 hT hTb h hi hh rfl) (by omega) hM.a0 rfl rfl rfl (Nat.le_of_ble_eq_true rfl) ⟨Nat.le_of_ble_eq_true rfl, Nat.le_of_ble_eq_true rfl⟩ (pk_i ?_)
        rintro r_53 g_53 h53
        rcases h53 with ⟨hc1, hz, hM2⟩ | ⟨hc1, hz, hM2⟩
        · rw [hz]
          refine y_top (y := bI (True)) (by decide) ?_
          refine y_if_eq_b (tgt := 63) hC dX6_readItem_56 (by decide) (fun c_56 => ?_) (fun c_56 => ?_)
          · exact absurd trivial c_56
          · refine y_iconst (v := nI 1) hC dX6_readItem_59 (by decide) ?_
            refine y_goto (tgt := 64) hC dX6_readItem_60 (by decide) ?_
            refine y_istore_n hC dX6_readItem_64 (i := 1) rfl (Nat.le_of_ble_eq_true rfl) rfl (lo' := [some (rf E (0)), some (.int (nI (1)))]) rfl ?_
            refine y_aload_n hC dX6_readItem_65 (i := 0) rfl rfl ?_
            refine y_get hC fX6_28 dX6_readItem_66 (k := 0) (by omega) hM2.a0 rfl ?_
            refine y_aload_n hC dX6_readItem_69 (i := 0) rfl rfl ?_
            refine y_get hC fX6_155 dX6_readItem_70 (k := 0) (by omega) hM2.a0 rfl ?_
            refine y_iconst (v := nI 1) hC dX6_readItem_73 (by decide) ?_
            refine y_zast hC dX6_readItem_74 (k := 7) (j := d) (by omega) hM2.a7 (rfl) (by omega) (by decide) (by decide) ?_
            have hM_74 : MX E (va_up g_53 (7) (aI E 2 32 (upd hb (d) (nI (1))))) row B C (tx, nI (ln)) (nI (i + 2), nI (d), (upd hb (d) (nI (1))), tm, bg, nI (at_), nI (ai), (grI (max h (sgn ln T (i + 1) - 48 + 1)))) := hM2.u7 _
            generalize (va_up g_53 (7) (aI E 2 32 (upd hb (d) (nI (1))))) = g_74 at hM_74 ⊢
            refine y_aload_n hC dX6_readItem_75 (i := 0) rfl rfl ?_
            refine y_aload_n hC dX6_readItem_76 (i := 0) rfl rfl ?_
            refine y_get hC fX6_171 dX6_readItem_77 (k := 0) (by omega) hM_74.a0 rfl ?_
            refine y_aload_n hC dX6_readItem_80 (i := 0) rfl rfl ?_
            refine y_get hC fX6_32 dX6_readItem_81 (k := 0) (by omega) hM_74.a0 rfl ?_
            refine y_aload_n hC dX6_readItem_84 (i := 0) rfl rfl ?_
            refine y_get hC fX6_155 dX6_readItem_85 (k := 0) (by omega) hM_74.a0 rfl ?_
            refine y_iald hC dX6_readItem_88 (k := 8) (j := d) (by omega) hM_74.a8 (rfl) (by omega) (by decide) ?_
            refine y_top (y := nI (m)) (htm) ?_
            refine y_iadd_n hC dX6_readItem_89 ?_
            refine y_callS hC mX6_capped kX6_158 dX6_readItem_90 (As := [.int (nI (ai + m))]) (rest := [rf E (0)]) (c_X6_capped l E g_74 (ai + m) (by omega)) rfl rfl rfl (Nat.le_of_ble_eq_true rfl) ⟨Nat.le_of_ble_eq_true rfl, Nat.le_of_ble_eq_true rfl⟩ (pk_i ?_)
            rintro r_90 g_90 ⟨hr_90, hq_90⟩
            obtain rfl := hq_90.symm
            rw [hr_90]
            clear hr_90 r_90
            refine y_put hC fpX6_171 dX6_readItem_93 (k := 0) (by omega) hM_74.a0 (Nat.le_of_ble_eq_true rfl) (rfl) (rfl) (fs' := [rf E (1), rf E (2), .int (B.2.1), rf E (3), .int (B.2.2.2), rf E (4), rf E (5), rf E (6), .int (nI (ln)), .int (nI (i + 2)), .int (nI (d)), rf E (7), rf E (8), rf E (9), .int (nI (at_)), .int (nI (min (ai + m) 5001)), .int (grI (max h (sgn ln T (i + 1) - 48 + 1))), rf E (10), rf E (11)]) rfl ?_
            have hM_93 : MX E (va_up g_74 (0) (oB 6 [rf E (1), rf E (2), .int (B.2.1), rf E (3), .int (B.2.2.2), rf E (4), rf E (5), rf E (6), .int (nI (ln)), .int (nI (i + 2)), .int (nI (d)), rf E (7), rf E (8), rf E (9), .int (nI (at_)), .int (nI (min (ai + m) 5001)), .int (grI (max h (sgn ln T (i + 1) - 48 + 1))), rf E (10), rf E (11)])) row B C (tx, nI (ln)) (nI (i + 2), nI (d), (upd hb (d) (nI (1))), tm, bg, nI (at_), nI (min (ai + m) 5001), (grI (max h (sgn ln T (i + 1) - 48 + 1)))) := hM_74.u0 ((B.2.1)) ((B.2.2.2)) (nI (ln)) (nI (i + 2)) (nI (d)) (nI (at_)) (nI (min (ai + m) 5001)) ((grI (max h (sgn ln T (i + 1) - 48 + 1))))
            generalize (va_up g_74 (0) (oB 6 [rf E (1), rf E (2), .int (B.2.1), rf E (3), .int (B.2.2.2), rf E (4), rf E (5), rf E (6), .int (nI (ln)), .int (nI (i + 2)), .int (nI (d)), rf E (7), rf E (8), rf E (9), .int (nI (at_)), .int (nI (min (ai + m) 5001)), .int (grI (max h (sgn ln T (i + 1) - 48 + 1))), rf E (10), rf E (11)])) = g_93 at hM_93 ⊢
            refine y_iload_n hC dX6_readItem_96 (i := 1) rfl rfl ?_
            refine y_zret (hrt := rfl) (hn := rfl) (hC := hC) (hd := dX6_readItem_97) (hq := ?_)
            have hf : isFor (sgn ln T i) = true := by unfold isFor; exact decide_eq_true (by omega)
            have hal : isAlw (sgn ln T i) (sgn ln T (i + 1)) = true ↔ (48 ≤ sgn ln T (i + 1) ∧ sgn ln T (i + 1) ≤ 53) := by
              unfold isAlw
              rw [if_neg (by omega), if_pos hf, decide_eq_true_eq]
            have hbg : isBeg (sgn ln T i) = true := by
              unfold isBeg isFor isRep
              simp only [Bool.or_eq_true, decide_eq_true_eq]
              omega
            refine ⟨true, _, _, _, (bI_t rfl).symm, hM_93, fun _ => ⟨⟨hbg, hal.mpr hc1⟩, (bhd_2 (by omega) (by omega)).symm, by rw [if_neg (by omega), Nat.mul_zero, Nat.add_zero, Nat.min_eq_left ha], by rw [if_pos hf]⟩, fun q => (by cases q)⟩
        · rw [hz]
          refine y_top (y := bI (False)) (by decide) ?_
          refine y_if_eq_b (tgt := 63) hC dX6_readItem_56 (by decide) (fun c_56 => ?_) (fun c_56 => ?_)
          · refine y_iconst (v := nI 0) hC dX6_readItem_63 (by decide) ?_
            refine y_istore_n hC dX6_readItem_64 (i := 1) rfl (Nat.le_of_ble_eq_true rfl) rfl (lo' := [some (rf E (0)), some (.int (nI (0)))]) rfl ?_
            refine y_aload_n hC dX6_readItem_65 (i := 0) rfl rfl ?_
            refine y_get hC fX6_28 dX6_readItem_66 (k := 0) (by omega) hM2.a0 rfl ?_
            refine y_aload_n hC dX6_readItem_69 (i := 0) rfl rfl ?_
            refine y_get hC fX6_155 dX6_readItem_70 (k := 0) (by omega) hM2.a0 rfl ?_
            refine y_iconst (v := nI 1) hC dX6_readItem_73 (by decide) ?_
            refine y_zast hC dX6_readItem_74 (k := 7) (j := d) (by omega) hM2.a7 (rfl) (by omega) (by decide) (by decide) ?_
            have hM_74 : MX E (va_up g_53 (7) (aI E 2 32 (upd hb (d) (nI (1))))) row B C (tx, nI (ln)) (nI (i + 1), nI (d), (upd hb (d) (nI (1))), tm, bg, nI (at_), nI (ai), (grI h)) := hM2.u7 _
            generalize (va_up g_53 (7) (aI E 2 32 (upd hb (d) (nI (1))))) = g_74 at hM_74 ⊢
            refine y_aload_n hC dX6_readItem_75 (i := 0) rfl rfl ?_
            refine y_aload_n hC dX6_readItem_76 (i := 0) rfl rfl ?_
            refine y_get hC fX6_171 dX6_readItem_77 (k := 0) (by omega) hM_74.a0 rfl ?_
            refine y_aload_n hC dX6_readItem_80 (i := 0) rfl rfl ?_
            refine y_get hC fX6_32 dX6_readItem_81 (k := 0) (by omega) hM_74.a0 rfl ?_
            refine y_aload_n hC dX6_readItem_84 (i := 0) rfl rfl ?_
            refine y_get hC fX6_155 dX6_readItem_85 (k := 0) (by omega) hM_74.a0 rfl ?_
            refine y_iald hC dX6_readItem_88 (k := 8) (j := d) (by omega) hM_74.a8 (rfl) (by omega) (by decide) ?_
            refine y_top (y := nI (m)) (htm) ?_
            refine y_iadd_n hC dX6_readItem_89 ?_
            refine y_callS hC mX6_capped kX6_158 dX6_readItem_90 (As := [.int (nI (ai + m))]) (rest := [rf E (0)]) (c_X6_capped l E g_74 (ai + m) (by omega)) rfl rfl rfl (Nat.le_of_ble_eq_true rfl) ⟨Nat.le_of_ble_eq_true rfl, Nat.le_of_ble_eq_true rfl⟩ (pk_i ?_)
            rintro r_90 g_90 ⟨hr_90, hq_90⟩
            obtain rfl := hq_90.symm
            rw [hr_90]
            clear hr_90 r_90
            refine y_put hC fpX6_171 dX6_readItem_93 (k := 0) (by omega) hM_74.a0 (Nat.le_of_ble_eq_true rfl) (rfl) (rfl) (fs' := [rf E (1), rf E (2), .int (B.2.1), rf E (3), .int (B.2.2.2), rf E (4), rf E (5), rf E (6), .int (nI (ln)), .int (nI (i + 1)), .int (nI (d)), rf E (7), rf E (8), rf E (9), .int (nI (at_)), .int (nI (min (ai + m) 5001)), .int (grI h), rf E (10), rf E (11)]) rfl ?_
            have hM_93 : MX E (va_up g_74 (0) (oB 6 [rf E (1), rf E (2), .int (B.2.1), rf E (3), .int (B.2.2.2), rf E (4), rf E (5), rf E (6), .int (nI (ln)), .int (nI (i + 1)), .int (nI (d)), rf E (7), rf E (8), rf E (9), .int (nI (at_)), .int (nI (min (ai + m) 5001)), .int (grI h), rf E (10), rf E (11)])) row B C (tx, nI (ln)) (nI (i + 1), nI (d), (upd hb (d) (nI (1))), tm, bg, nI (at_), nI (min (ai + m) 5001), (grI h)) := hM_74.u0 ((B.2.1)) ((B.2.2.2)) (nI (ln)) (nI (i + 1)) (nI (d)) (nI (at_)) (nI (min (ai + m) 5001)) ((grI h))
            generalize (va_up g_74 (0) (oB 6 [rf E (1), rf E (2), .int (B.2.1), rf E (3), .int (B.2.2.2), rf E (4), rf E (5), rf E (6), .int (nI (ln)), .int (nI (i + 1)), .int (nI (d)), rf E (7), rf E (8), rf E (9), .int (nI (at_)), .int (nI (min (ai + m) 5001)), .int (grI h), rf E (10), rf E (11)])) = g_93 at hM_93 ⊢
            refine y_iload_n hC dX6_readItem_96 (i := 1) rfl rfl ?_
            refine y_zret (hrt := rfl) (hn := rfl) (hC := hC) (hd := dX6_readItem_97) (hq := ?_)
            have hf : isFor (sgn ln T i) = true := by unfold isFor; exact decide_eq_true (by omega)
            have hal : isAlw (sgn ln T i) (sgn ln T (i + 1)) = true ↔ (48 ≤ sgn ln T (i + 1) ∧ sgn ln T (i + 1) ≤ 53) := by
              unfold isAlw
              rw [if_neg (by omega), if_pos hf, decide_eq_true_eq]
            have hbg : isBeg (sgn ln T i) = true := by
              unfold isBeg isFor isRep
              simp only [Bool.or_eq_true, decide_eq_true_eq]
              omega
            refine ⟨false, _, _, _, (bI_f (by decide)).symm, hM_93, fun q => (by cases q), fun _ => ⟨fun q => hc1 (hal.mp q.2), (if_pos hbg).symm⟩⟩
          · exact absurd c_56 id
  · refine y_aload_n hC dX6_readItem_15 (i := 0) rfl rfl ?_
    refine y_callV hC mX6_readTicks kX6_164 dX6_readItem_16 (b := 0) (As := []) (rest := []) (c_X6_readTicks l E g row B C tx ln (i) (d) (hb) (tm) (bg) (nI (at_)) (nI (ai)) ((grI h)) hM T hl60 hT hTb at_ m hi ha hm hd rfl htm (by omega)) (by omega) hM.a0 rfl rfl rfl (Nat.le_of_ble_eq_true rfl) ⟨Nat.le_of_ble_eq_true rfl, Nat.le_of_ble_eq_true rfl⟩ (pk_i ?_)
    rintro r_16 g_16 h16
    rcases h16 with ⟨hc1, hz, hM2⟩ | ⟨hc1, hz, hM2⟩
    · rw [hz]
      refine y_top (y := bI (True)) (by decide) ?_
      refine y_goto (tgt := 64) hC dX6_readItem_19 (by decide) ?_
      refine y_istore_n hC dX6_readItem_64 (i := 1) rfl (Nat.le_of_ble_eq_true rfl) rfl (lo' := [some (rf E (0)), some (.int (bI (True)))]) rfl ?_
      refine y_aload_n hC dX6_readItem_65 (i := 0) rfl rfl ?_
      refine y_get hC fX6_28 dX6_readItem_66 (k := 0) (by omega) hM2.a0 rfl ?_
      refine y_aload_n hC dX6_readItem_69 (i := 0) rfl rfl ?_
      refine y_get hC fX6_155 dX6_readItem_70 (k := 0) (by omega) hM2.a0 rfl ?_
      refine y_iconst (v := nI 1) hC dX6_readItem_73 (by decide) ?_
      refine y_zast hC dX6_readItem_74 (k := 7) (j := d) (by omega) hM2.a7 (rfl) (by omega) (by decide) (by decide) ?_
      have hM_74 : MX E (va_up g_16 (7) (aI E 2 32 (upd hb (d) (nI (1))))) row B C (tx, nI (ln)) (nI (bhd (sgn ln T) i), nI (d), (upd hb (d) (nI (1))), tm, bg, nI (min (at_ + m * nmb (sgn ln T) (i + 1)) 5001), nI (ai), (grI h)) := hM2.u7 _
      generalize (va_up g_16 (7) (aI E 2 32 (upd hb (d) (nI (1))))) = g_74 at hM_74 ⊢
      refine y_aload_n hC dX6_readItem_75 (i := 0) rfl rfl ?_
      refine y_aload_n hC dX6_readItem_76 (i := 0) rfl rfl ?_
      refine y_get hC fX6_171 dX6_readItem_77 (k := 0) (by omega) hM_74.a0 rfl ?_
      refine y_aload_n hC dX6_readItem_80 (i := 0) rfl rfl ?_
      refine y_get hC fX6_32 dX6_readItem_81 (k := 0) (by omega) hM_74.a0 rfl ?_
      refine y_aload_n hC dX6_readItem_84 (i := 0) rfl rfl ?_
      refine y_get hC fX6_155 dX6_readItem_85 (k := 0) (by omega) hM_74.a0 rfl ?_
      refine y_iald hC dX6_readItem_88 (k := 8) (j := d) (by omega) hM_74.a8 (rfl) (by omega) (by decide) ?_
      refine y_top (y := nI (m)) (htm) ?_
      refine y_iadd_n hC dX6_readItem_89 ?_
      refine y_callS hC mX6_capped kX6_158 dX6_readItem_90 (As := [.int (nI (ai + m))]) (rest := [rf E (0)]) (c_X6_capped l E g_74 (ai + m) (by omega)) rfl rfl rfl (Nat.le_of_ble_eq_true rfl) ⟨Nat.le_of_ble_eq_true rfl, Nat.le_of_ble_eq_true rfl⟩ (pk_i ?_)
      rintro r_90 g_90 ⟨hr_90, hq_90⟩
      obtain rfl := hq_90.symm
      rw [hr_90]
      clear hr_90 r_90
      refine y_put hC fpX6_171 dX6_readItem_93 (k := 0) (by omega) hM_74.a0 (Nat.le_of_ble_eq_true rfl) (rfl) (rfl) (fs' := [rf E (1), rf E (2), .int (B.2.1), rf E (3), .int (B.2.2.2), rf E (4), rf E (5), rf E (6), .int (nI (ln)), .int (nI (bhd (sgn ln T) i)), .int (nI (d)), rf E (7), rf E (8), rf E (9), .int (nI (min (at_ + m * nmb (sgn ln T) (i + 1)) 5001)), .int (nI (min (ai + m) 5001)), .int (grI h), rf E (10), rf E (11)]) rfl ?_
      have hM_93 : MX E (va_up g_74 (0) (oB 6 [rf E (1), rf E (2), .int (B.2.1), rf E (3), .int (B.2.2.2), rf E (4), rf E (5), rf E (6), .int (nI (ln)), .int (nI (bhd (sgn ln T) i)), .int (nI (d)), rf E (7), rf E (8), rf E (9), .int (nI (min (at_ + m * nmb (sgn ln T) (i + 1)) 5001)), .int (nI (min (ai + m) 5001)), .int (grI h), rf E (10), rf E (11)])) row B C (tx, nI (ln)) (nI (bhd (sgn ln T) i), nI (d), (upd hb (d) (nI (1))), tm, bg, nI (min (at_ + m * nmb (sgn ln T) (i + 1)) 5001), nI (min (ai + m) 5001), (grI h)) := hM_74.u0 ((B.2.1)) ((B.2.2.2)) (nI (ln)) (nI (bhd (sgn ln T) i)) (nI (d)) (nI (min (at_ + m * nmb (sgn ln T) (i + 1)) 5001)) (nI (min (ai + m) 5001)) ((grI h))
      generalize (va_up g_74 (0) (oB 6 [rf E (1), rf E (2), .int (B.2.1), rf E (3), .int (B.2.2.2), rf E (4), rf E (5), rf E (6), .int (nI (ln)), .int (nI (bhd (sgn ln T) i)), .int (nI (d)), rf E (7), rf E (8), rf E (9), .int (nI (min (at_ + m * nmb (sgn ln T) (i + 1)) 5001)), .int (nI (min (ai + m) 5001)), .int (grI h), rf E (10), rf E (11)])) = g_93 at hM_93 ⊢
      refine y_iload_n hC dX6_readItem_96 (i := 1) rfl rfl ?_
      refine y_zretb (hC := hC) (hd := dX6_readItem_97) (hq := ?_)
      have h116 : sgn ln T i = 116 := by omega
      have hal : isAlw (sgn ln T i) (sgn ln T (i + 1)) = true ↔ (49 ≤ sgn ln T (i + 1) ∧ sgn ln T (i + 1) ≤ 57) := by
        unfold isAlw
        rw [if_pos h116, decide_eq_true_eq]
      have hnf : isFor (sgn ln T i) = false := by unfold isFor; exact decide_eq_false (by omega)
      have hbg : isBeg (sgn ln T i) = true := by
        unfold isBeg isFor isRep
        simp only [Bool.or_eq_true, decide_eq_true_eq]
        omega
      refine ⟨true, _, _, _, (bI_t rfl).symm, hM_93, fun _ => ⟨⟨hbg, hal.mpr hc1⟩, rfl, by rw [if_pos h116], by rw [hnf]; rfl⟩, fun q => (by cases q)⟩
    · rw [hz]
      refine y_top (y := bI (False)) (by decide) ?_
      refine y_goto (tgt := 64) hC dX6_readItem_19 (by decide) ?_
      refine y_istore_n hC dX6_readItem_64 (i := 1) rfl (Nat.le_of_ble_eq_true rfl) rfl (lo' := [some (rf E (0)), some (.int (bI (False)))]) rfl ?_
      refine y_aload_n hC dX6_readItem_65 (i := 0) rfl rfl ?_
      refine y_get hC fX6_28 dX6_readItem_66 (k := 0) (by omega) hM2.a0 rfl ?_
      refine y_aload_n hC dX6_readItem_69 (i := 0) rfl rfl ?_
      refine y_get hC fX6_155 dX6_readItem_70 (k := 0) (by omega) hM2.a0 rfl ?_
      refine y_iconst (v := nI 1) hC dX6_readItem_73 (by decide) ?_
      refine y_zast hC dX6_readItem_74 (k := 7) (j := d) (by omega) hM2.a7 (rfl) (by omega) (by decide) (by decide) ?_
      have hM_74 : MX E (va_up g_16 (7) (aI E 2 32 (upd hb (d) (nI (1))))) row B C (tx, nI (ln)) (nI (i + 1), nI (d), (upd hb (d) (nI (1))), tm, bg, nI (at_), nI (ai), (grI h)) := hM2.u7 _
      generalize (va_up g_16 (7) (aI E 2 32 (upd hb (d) (nI (1))))) = g_74 at hM_74 ⊢
      refine y_aload_n hC dX6_readItem_75 (i := 0) rfl rfl ?_
      refine y_aload_n hC dX6_readItem_76 (i := 0) rfl rfl ?_
      refine y_get hC fX6_171 dX6_readItem_77 (k := 0) (by omega) hM_74.a0 rfl ?_
      refine y_aload_n hC dX6_readItem_80 (i := 0) rfl rfl ?_
      refine y_get hC fX6_32 dX6_readItem_81 (k := 0) (by omega) hM_74.a0 rfl ?_
      refine y_aload_n hC dX6_readItem_84 (i := 0) rfl rfl ?_
      refine y_get hC fX6_155 dX6_readItem_85 (k := 0) (by omega) hM_74.a0 rfl ?_
      refine y_iald hC dX6_readItem_88 (k := 8) (j := d) (by omega) hM_74.a8 (rfl) (by omega) (by decide) ?_
      refine y_top (y := nI (m)) (htm) ?_
      refine y_iadd_n hC dX6_readItem_89 ?_
      refine y_callS hC mX6_capped kX6_158 dX6_readItem_90 (As := [.int (nI (ai + m))]) (rest := [rf E (0)]) (c_X6_capped l E g_74 (ai + m) (by omega)) rfl rfl rfl (Nat.le_of_ble_eq_true rfl) ⟨Nat.le_of_ble_eq_true rfl, Nat.le_of_ble_eq_true rfl⟩ (pk_i ?_)
      rintro r_90 g_90 ⟨hr_90, hq_90⟩
      obtain rfl := hq_90.symm
      rw [hr_90]
      clear hr_90 r_90
      refine y_put hC fpX6_171 dX6_readItem_93 (k := 0) (by omega) hM_74.a0 (Nat.le_of_ble_eq_true rfl) (rfl) (rfl) (fs' := [rf E (1), rf E (2), .int (B.2.1), rf E (3), .int (B.2.2.2), rf E (4), rf E (5), rf E (6), .int (nI (ln)), .int (nI (i + 1)), .int (nI (d)), rf E (7), rf E (8), rf E (9), .int (nI (at_)), .int (nI (min (ai + m) 5001)), .int (grI h), rf E (10), rf E (11)]) rfl ?_
      have hM_93 : MX E (va_up g_74 (0) (oB 6 [rf E (1), rf E (2), .int (B.2.1), rf E (3), .int (B.2.2.2), rf E (4), rf E (5), rf E (6), .int (nI (ln)), .int (nI (i + 1)), .int (nI (d)), rf E (7), rf E (8), rf E (9), .int (nI (at_)), .int (nI (min (ai + m) 5001)), .int (grI h), rf E (10), rf E (11)])) row B C (tx, nI (ln)) (nI (i + 1), nI (d), (upd hb (d) (nI (1))), tm, bg, nI (at_), nI (min (ai + m) 5001), (grI h)) := hM_74.u0 ((B.2.1)) ((B.2.2.2)) (nI (ln)) (nI (i + 1)) (nI (d)) (nI (at_)) (nI (min (ai + m) 5001)) ((grI h))
      generalize (va_up g_74 (0) (oB 6 [rf E (1), rf E (2), .int (B.2.1), rf E (3), .int (B.2.2.2), rf E (4), rf E (5), rf E (6), .int (nI (ln)), .int (nI (i + 1)), .int (nI (d)), rf E (7), rf E (8), rf E (9), .int (nI (at_)), .int (nI (min (ai + m) 5001)), .int (grI h), rf E (10), rf E (11)])) = g_93 at hM_93 ⊢
      refine y_iload_n hC dX6_readItem_96 (i := 1) rfl rfl ?_
      refine y_zretb (hC := hC) (hd := dX6_readItem_97) (hq := ?_)
      have h116 : sgn ln T i = 116 := by omega
      have hal : isAlw (sgn ln T i) (sgn ln T (i + 1)) = true ↔ (49 ≤ sgn ln T (i + 1) ∧ sgn ln T (i + 1) ≤ 57) := by
        unfold isAlw
        rw [if_pos h116, decide_eq_true_eq]
      have hnf : isFor (sgn ln T i) = false := by unfold isFor; exact decide_eq_false (by omega)
      have hbg : isBeg (sgn ln T i) = true := by
        unfold isBeg isFor isRep
        simp only [Bool.or_eq_true, decide_eq_true_eq]
        omega
      refine ⟨false, _, _, _, (bI_f (by decide)).symm, hM_93, fun q => (by cases q), fun _ => ⟨fun q => hc1 (hal.mp q.2), (if_pos hbg).symm⟩⟩

