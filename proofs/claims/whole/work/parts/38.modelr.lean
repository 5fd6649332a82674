/-! ===== the model: a program carried out ===== -/
theorem dX6_carryOutItem_0 : decode cX6_carryOutItem 0 = .ok (.aload_n 0, 1) := by decide +kernel
theorem dX6_carryOutItem_1 : decode cX6_carryOutItem 1 = .ok (.getfield 25, 3) := by decide +kernel
theorem dX6_carryOutItem_4 : decode cX6_carryOutItem 4 = .ok (.aload_n 0, 1) := by decide +kernel
theorem dX6_carryOutItem_5 : decode cX6_carryOutItem 5 = .ok (.getfield 143, 3) := by decide +kernel
theorem dX6_carryOutItem_8 : decode cX6_carryOutItem 8 = .ok (.iaload, 1) := by decide +kernel
theorem dX6_carryOutItem_9 : decode cX6_carryOutItem 9 = .ok (.istore_n 1, 1) := by decide +kernel
theorem dX6_carryOutItem_10 : decode cX6_carryOutItem 10 = .ok (.aload_n 0, 1) := by decide +kernel
theorem dX6_carryOutItem_11 : decode cX6_carryOutItem 11 = .ok (.dup, 1) := by decide +kernel
theorem dX6_carryOutItem_12 : decode cX6_carryOutItem 12 = .ok (.getfield 143, 3) := by decide +kernel
theorem dX6_carryOutItem_15 : decode cX6_carryOutItem 15 = .ok (.iconst 1, 1) := by decide +kernel
theorem dX6_carryOutItem_16 : decode cX6_carryOutItem 16 = .ok (.iadd, 1) := by decide +kernel
theorem dX6_carryOutItem_17 : decode cX6_carryOutItem 17 = .ok (.putfield 143, 3) := by decide +kernel
theorem dX6_carryOutItem_20 : decode cX6_carryOutItem 20 = .ok (.iload_n 1, 1) := by decide +kernel
theorem dX6_carryOutItem_21 : decode cX6_carryOutItem 21 = .ok (.bipush 116, 2) := by decide +kernel
theorem dX6_carryOutItem_23 : decode cX6_carryOutItem 23 = .ok (.if_icmp .ne 12, 3) := by decide +kernel
theorem dX6_carryOutItem_26 : decode cX6_carryOutItem 26 = .ok (.aload_n 0, 1) := by decide +kernel
theorem dX6_carryOutItem_27 : decode cX6_carryOutItem 27 = .ok (.aload_n 0, 1) := by decide +kernel
theorem dX6_carryOutItem_28 : decode cX6_carryOutItem 28 = .ok (.invokevirtual 149, 3) := by decide +kernel
theorem dX6_carryOutItem_31 : decode cX6_carryOutItem 31 = .ok (.invokevirtual 137, 3) := by decide +kernel
theorem dX6_carryOutItem_34 : decode cX6_carryOutItem 34 = .ok (.return_, 1) := by decide +kernel
theorem dX6_carryOutItem_35 : decode cX6_carryOutItem 35 = .ok (.aload_n 0, 1) := by decide +kernel
theorem dX6_carryOutItem_36 : decode cX6_carryOutItem 36 = .ok (.getfield 25, 3) := by decide +kernel
theorem dX6_carryOutItem_39 : decode cX6_carryOutItem 39 = .ok (.aload_n 0, 1) := by decide +kernel
theorem dX6_carryOutItem_40 : decode cX6_carryOutItem 40 = .ok (.getfield 143, 3) := by decide +kernel
theorem dX6_carryOutItem_43 : decode cX6_carryOutItem 43 = .ok (.iaload, 1) := by decide +kernel
theorem dX6_carryOutItem_44 : decode cX6_carryOutItem 44 = .ok (.bipush 48, 2) := by decide +kernel
theorem dX6_carryOutItem_46 : decode cX6_carryOutItem 46 = .ok (.isub, 1) := by decide +kernel
theorem dX6_carryOutItem_47 : decode cX6_carryOutItem 47 = .ok (.istore_n 2, 1) := by decide +kernel
theorem dX6_carryOutItem_48 : decode cX6_carryOutItem 48 = .ok (.aload_n 0, 1) := by decide +kernel
theorem dX6_carryOutItem_49 : decode cX6_carryOutItem 49 = .ok (.dup, 1) := by decide +kernel
theorem dX6_carryOutItem_50 : decode cX6_carryOutItem 50 = .ok (.getfield 143, 3) := by decide +kernel
theorem dX6_carryOutItem_53 : decode cX6_carryOutItem 53 = .ok (.iconst 1, 1) := by decide +kernel
theorem dX6_carryOutItem_54 : decode cX6_carryOutItem 54 = .ok (.iadd, 1) := by decide +kernel
theorem dX6_carryOutItem_55 : decode cX6_carryOutItem 55 = .ok (.putfield 143, 3) := by decide +kernel
theorem dX6_carryOutItem_58 : decode cX6_carryOutItem 58 = .ok (.iload_n 1, 1) := by decide +kernel
theorem dX6_carryOutItem_59 : decode cX6_carryOutItem 59 = .ok (.bipush 107, 2) := by decide +kernel
theorem dX6_carryOutItem_61 : decode cX6_carryOutItem 61 = .ok (.if_icmp .ne 11, 3) := by decide +kernel
theorem dX6_carryOutItem_64 : decode cX6_carryOutItem 64 = .ok (.aload_n 0, 1) := by decide +kernel
theorem dX6_carryOutItem_65 : decode cX6_carryOutItem 65 = .ok (.iload_n 2, 1) := by decide +kernel
theorem dX6_carryOutItem_66 : decode cX6_carryOutItem 66 = .ok (.invokevirtual 127, 3) := by decide +kernel
theorem dX6_carryOutItem_69 : decode cX6_carryOutItem 69 = .ok (.goto 27, 3) := by decide +kernel
theorem dX6_carryOutItem_72 : decode cX6_carryOutItem 72 = .ok (.bipush 33, 2) := by decide +kernel
theorem dX6_carryOutItem_74 : decode cX6_carryOutItem 74 = .ok (.bipush 7, 2) := by decide +kernel
theorem dX6_carryOutItem_76 : decode cX6_carryOutItem 76 = .ok (.iload_n 2, 1) := by decide +kernel
theorem dX6_carryOutItem_77 : decode cX6_carryOutItem 77 = .ok (.imul, 1) := by decide +kernel
theorem dX6_carryOutItem_78 : decode cX6_carryOutItem 78 = .ok (.iadd, 1) := by decide +kernel
theorem dX6_carryOutItem_79 : decode cX6_carryOutItem 79 = .ok (.iconst 4, 1) := by decide +kernel
theorem dX6_carryOutItem_80 : decode cX6_carryOutItem 80 = .ok (.iadd, 1) := by decide +kernel
theorem dX6_carryOutItem_81 : decode cX6_carryOutItem 81 = .ok (.istore_n 3, 1) := by decide +kernel
theorem dX6_carryOutItem_82 : decode cX6_carryOutItem 82 = .ok (.aload_n 0, 1) := by decide +kernel
theorem dX6_carryOutItem_83 : decode cX6_carryOutItem 83 = .ok (.getfield 7, 3) := by decide +kernel
theorem dX6_carryOutItem_86 : decode cX6_carryOutItem 86 = .ok (.iload_n 3, 1) := by decide +kernel
theorem dX6_carryOutItem_87 : decode cX6_carryOutItem 87 = .ok (.iconst 1, 1) := by decide +kernel
theorem dX6_carryOutItem_88 : decode cX6_carryOutItem 88 = .ok (.aload_n 0, 1) := by decide +kernel
theorem dX6_carryOutItem_89 : decode cX6_carryOutItem 89 = .ok (.getfield 7, 3) := by decide +kernel
theorem dX6_carryOutItem_92 : decode cX6_carryOutItem 92 = .ok (.iload_n 3, 1) := by decide +kernel
theorem dX6_carryOutItem_93 : decode cX6_carryOutItem 93 = .ok (.iaload, 1) := by decide +kernel
theorem dX6_carryOutItem_94 : decode cX6_carryOutItem 94 = .ok (.isub, 1) := by decide +kernel
theorem dX6_carryOutItem_95 : decode cX6_carryOutItem 95 = .ok (.iastore, 1) := by decide +kernel
theorem dX6_carryOutItem_96 : decode cX6_carryOutItem 96 = .ok (.return_, 1) := by decide +kernel
set_option maxHeartbeats 4000000 in
set_option maxRecDepth 100000 in
theorem c_X6_carryOutItem (l : Launch) (E : gE) (g : Mem) (row : Nat → Int32) (B : GB) (C : GC) (tx : Nat → Int32) (ln i d : Nat) (hb tm bg : Nat → Int32) (aT aJ gr : Int32) (hM : MX E g row B C (tx, nI ln) (nI i, nI d, hb, tm, bg, aT, aJ, gr)) (T : Nat → Nat) (hl60 : ln ≤ 60) (hT : ∀ k, k < ln → tx k = nI (T k)) (hTb : ∀ k, k < ln → T k < 65536) (r : Row) (Bd : Nat) (hB : Bd < 90000000) (hR : ∀ k, k < 158 → row k = r k) (hv : Vr r Bd) (hi : i < ln) (hit : itOk (sgn ln T) r i) : Mt l E yX6_carryOutItem cX6_carryOutItem 4 none 4 88 [rf E (0)] g (pV (fun g' => ∃ row2, MX E g' row2 B C (tx, nI ln) (nI (bhd (sgn ln T) i), nI d, hb, tm, bg, aT, aJ, gr) ∧ ∀ k, k < 158 → row2 k = itR (sgn ln T) r i k)) := by
  have hK := hM.k
  refine mt_go (own := RX6) (by decide) rfl (lo := [some (rf E (0)), none, none, none]) rfl (Nat.le_of_ble_eq_true rfl) (fun X hC => ?_)
  have hsb : ∀ k, sgn ln T k < 65536 := fun k => by unfold sgn; split; exact hTb _ (by assumption); decide
  have hts : ∀ k, k < ln → tx k = nI (sgn ln T k) := fun k hk => by rw [hT k hk]; unfold sgn; rw [if_pos hk]
  have hrc := hv.1.2
  have hsi := hsb i
  have hlt2 : i + 1 < ln := by
    apply Decidable.byContradiction
    intro q
    unfold itOk at hit
    rw [sgn_0 (i := i + 1) (by omega)] at hit
    omega
  have hbn : sgn ln T i ≠ 116 → bhd (sgn ln T) i = i + 1 + 1 := fun q => bhd_2 (by unfold itOk at hit; omega) q
  have hbt : sgn ln T i = 116 → bhd (sgn ln T) i = if 48 ≤ sgn ln T (i + 1 + 1) ∧ sgn ln T (i + 1 + 1) ≤ 57 then i + 1 + 2 else i + 1 + 1 := fun h116 => by
    unfold bhd
    rw [if_neg (by omega)]
    by_cases q : 48 ≤ sgn ln T (i + 1 + 1) ∧ sgn ln T (i + 1 + 1) ≤ 57
    · rw [if_pos q, if_pos ⟨h116, q⟩]
    · rw [if_neg q, if_neg (fun z => q z.2)]
  have hdr : sgn ln T i ≠ 116 → (48 ≤ sgn ln T (i + 1) ∧ sgn ln T (i + 1) ≤ 57 ∧ sgn ln T (i + 1) - 48 < rc r) := fun q => by
    rcases hit with h | h
    · exact absurd h.1 q
    · exact ⟨h.2.1, h.2.2.1, h.2.2.2⟩
  refine y_aload_n hC dX6_carryOutItem_0 (i := 0) rfl rfl ?_
  refine y_get hC fX6_25 dX6_carryOutItem_1 (k := 0) (by omega) hM.a0 rfl ?_
  refine y_aload_n hC dX6_carryOutItem_4 (i := 0) rfl rfl ?_
  refine y_get hC fX6_143 dX6_carryOutItem_5 (k := 0) (by omega) hM.a0 rfl ?_
  refine y_iald hC dX6_carryOutItem_8 (k := 6) (j := i) (by omega) hM.a6 (rfl) (by omega) (by decide) ?_
  refine y_top (y := nI (sgn ln T (i))) (hts i (by omega)) ?_
  refine y_istore_n hC dX6_carryOutItem_9 (i := 1) rfl (Nat.le_of_ble_eq_true rfl) rfl (lo' := [some (rf E (0)), some (.int (nI (sgn ln T (i)))), none, none]) rfl ?_
  refine y_aload_n hC dX6_carryOutItem_10 (i := 0) rfl rfl ?_
  refine y_dup hC dX6_carryOutItem_11 rfl ?_
  refine y_get hC fX6_143 dX6_carryOutItem_12 (k := 0) (by omega) hM.a0 rfl ?_
  refine y_iconst (v := nI 1) hC dX6_carryOutItem_15 (by decide) ?_
  refine y_iadd_n hC dX6_carryOutItem_16 ?_
  refine y_put hC fpX6_143 dX6_carryOutItem_17 (k := 0) (by omega) hM.a0 (Nat.le_of_ble_eq_true rfl) (rfl) (rfl) (fs' := [rf E (1), rf E (2), .int (B.2.1), rf E (3), .int (B.2.2.2), rf E (4), rf E (5), rf E (6), .int (nI (ln)), .int (nI (i + 1)), .int (nI (d)), rf E (7), rf E (8), rf E (9), .int (aT), .int (aJ), .int (gr), rf E (10), rf E (11)]) rfl ?_
  have hM_17 : MX E (va_up g (0) (oB 6 [rf E (1), rf E (2), .int (B.2.1), rf E (3), .int (B.2.2.2), rf E (4), rf E (5), rf E (6), .int (nI (ln)), .int (nI (i + 1)), .int (nI (d)), rf E (7), rf E (8), rf E (9), .int (aT), .int (aJ), .int (gr), rf E (10), rf E (11)])) row B C (tx, nI (ln)) (nI (i + 1), nI (d), hb, tm, bg, (aT), (aJ), (gr)) := hM.u0 ((B.2.1)) ((B.2.2.2)) (nI (ln)) (nI (i + 1)) (nI (d)) ((aT)) ((aJ)) ((gr))
  generalize (va_up g (0) (oB 6 [rf E (1), rf E (2), .int (B.2.1), rf E (3), .int (B.2.2.2), rf E (4), rf E (5), rf E (6), .int (nI (ln)), .int (nI (i + 1)), .int (nI (d)), rf E (7), rf E (8), rf E (9), .int (aT), .int (aJ), .int (gr), rf E (10), rf E (11)])) = g_17 at hM_17 ⊢
  refine y_iload_n hC dX6_carryOutItem_20 (i := 1) rfl rfl ?_
  refine y_bipush (v := nI 116) hC dX6_carryOutItem_21 (by decide) ?_
  refine y_icmp_ne_n (tgt := 35) hC dX6_carryOutItem_23 (by decide) (by omega) (by omega) (fun c_23 => ?_) (fun c_23 => ?_)
  · refine y_aload_n hC dX6_carryOutItem_35 (i := 0) rfl rfl ?_
    refine y_get hC fX6_25 dX6_carryOutItem_36 (k := 0) (by omega) hM_17.a0 rfl ?_
    refine y_aload_n hC dX6_carryOutItem_39 (i := 0) rfl rfl ?_
    refine y_get hC fX6_143 dX6_carryOutItem_40 (k := 0) (by omega) hM_17.a0 rfl ?_
    refine y_iald hC dX6_carryOutItem_43 (k := 6) (j := i + 1) (by omega) hM_17.a6 (rfl) (by omega) (by decide) ?_
    have hdd := hdr c_23
    refine y_top (y := nI (sgn ln T ((i + 1)))) (hts (i + 1) (by omega)) ?_
    refine y_bipush (v := nI 48) hC dX6_carryOutItem_44 (by decide) ?_
    refine y_isub_n hC dX6_carryOutItem_46 (by omega) ?_
    refine y_istore_n hC dX6_carryOutItem_47 (i := 2) rfl (Nat.le_of_ble_eq_true rfl) rfl (lo' := [some (rf E (0)), some (.int (nI (sgn ln T (i)))), some (.int (nI ((sgn ln T ((i + 1))) - (48)))), none]) rfl ?_
    refine y_aload_n hC dX6_carryOutItem_48 (i := 0) rfl rfl ?_
    refine y_dup hC dX6_carryOutItem_49 rfl ?_
    refine y_get hC fX6_143 dX6_carryOutItem_50 (k := 0) (by omega) hM_17.a0 rfl ?_
    refine y_iconst (v := nI 1) hC dX6_carryOutItem_53 (by decide) ?_
    refine y_iadd_n hC dX6_carryOutItem_54 ?_
    refine y_put hC fpX6_143 dX6_carryOutItem_55 (k := 0) (by omega) hM_17.a0 (Nat.le_of_ble_eq_true rfl) (rfl) (rfl) (fs' := [rf E (1), rf E (2), .int (B.2.1), rf E (3), .int (B.2.2.2), rf E (4), rf E (5), rf E (6), .int (nI (ln)), .int (nI ((i + 1) + 1)), .int (nI (d)), rf E (7), rf E (8), rf E (9), .int (aT), .int (aJ), .int (gr), rf E (10), rf E (11)]) rfl ?_
    have hM_55 : MX E (va_up g_17 (0) (oB 6 [rf E (1), rf E (2), .int (B.2.1), rf E (3), .int (B.2.2.2), rf E (4), rf E (5), rf E (6), .int (nI (ln)), .int (nI ((i + 1) + 1)), .int (nI (d)), rf E (7), rf E (8), rf E (9), .int (aT), .int (aJ), .int (gr), rf E (10), rf E (11)])) row B C (tx, nI (ln)) (nI ((i + 1) + 1), nI (d), hb, tm, bg, (aT), (aJ), (gr)) := hM_17.u0 ((B.2.1)) ((B.2.2.2)) (nI (ln)) (nI ((i + 1) + 1)) (nI (d)) ((aT)) ((aJ)) ((gr))
    generalize (va_up g_17 (0) (oB 6 [rf E (1), rf E (2), .int (B.2.1), rf E (3), .int (B.2.2.2), rf E (4), rf E (5), rf E (6), .int (nI (ln)), .int (nI ((i + 1) + 1)), .int (nI (d)), rf E (7), rf E (8), rf E (9), .int (aT), .int (aJ), .int (gr), rf E (10), rf E (11)])) = g_55 at hM_55 ⊢
    refine y_iload_n hC dX6_carryOutItem_58 (i := 1) rfl rfl ?_
    refine y_bipush (v := nI 107) hC dX6_carryOutItem_59 (by decide) ?_
    refine y_icmp_ne_n (tgt := 72) hC dX6_carryOutItem_61 (by decide) (by omega) (by omega) (fun c_61 => ?_) (fun c_61 => ?_)
    · refine y_bipush (v := nI 33) hC dX6_carryOutItem_72 (by decide) ?_
      refine y_bipush (v := nI 7) hC dX6_carryOutItem_74 (by decide) ?_
      refine y_iload_n hC dX6_carryOutItem_76 (i := 2) rfl rfl ?_
      refine y_imul_n hC dX6_carryOutItem_77 ?_
      refine y_iadd_n hC dX6_carryOutItem_78 ?_
      refine y_iconst (v := nI 4) hC dX6_carryOutItem_79 (by decide) ?_
      refine y_iadd_n hC dX6_carryOutItem_80 ?_
      refine y_istore_n hC dX6_carryOutItem_81 (i := 3) rfl (Nat.le_of_ble_eq_true rfl) rfl (lo' := [some (rf E (0)), some (.int (nI (sgn ln T (i)))), some (.int (nI ((sgn ln T ((i + 1))) - (48)))), some (.int (nI ((33 + (7 * ((sgn ln T ((i + 1))) - (48)))) + 4)))]) rfl ?_
      obtain ⟨q1, q2, q3, q4, q5, q6, q7, q8, q9⟩ := hv.rg (i := sgn ln T (i + 1) - 48) (hdr c_23).2.2
      refine y_aload_n hC dX6_carryOutItem_82 (i := 0) rfl rfl ?_
      refine y_get hC fX6_7 dX6_carryOutItem_83 (k := 0) (by omega) hM_55.a0 rfl ?_
      refine y_iload_n hC dX6_carryOutItem_86 (i := 3) rfl rfl ?_
      refine y_iconst (v := nI 1) hC dX6_carryOutItem_87 (by decide) ?_
      refine y_aload_n hC dX6_carryOutItem_88 (i := 0) rfl rfl ?_
      refine y_get hC fX6_7 dX6_carryOutItem_89 (k := 0) (by omega) hM_55.a0 rfl ?_
      refine y_iload_n hC dX6_carryOutItem_92 (i := 3) rfl rfl ?_
      refine y_iald hC dX6_carryOutItem_93 (k := 1) (j := (33 + (7 * ((sgn ln T ((i + 1))) - (48)))) + 4) (by omega) hM_55.a1 (rfl) (by omega) (by decide) ?_
      refine y_top (y := nI (rg r (sgn ln T (i + 1) - 48) 4)) ((hR _ (by omega)).trans (q1 4 (by decide))) ?_
      refine y_isub_n hC dX6_carryOutItem_94 (by omega) ?_
      refine y_iast hC dX6_carryOutItem_95 (k := 1) (j := (33 + (7 * ((sgn ln T ((i + 1))) - (48)))) + 4) (by omega) hM_55.a1 (rfl) (by omega) (by decide) ?_
      have hM_95 : MX E (va_up g_55 (1) (aI E 0 158 (upd row ((33 + (7 * ((sgn ln T ((i + 1))) - (48)))) + 4) (nI (1 - (rg r (sgn ln T (i + 1) - 48) 4)))))) ((upd row ((33 + (7 * ((sgn ln T ((i + 1))) - (48)))) + 4) (nI (1 - (rg r (sgn ln T (i + 1) - 48) 4))))) B C (tx, nI (ln)) (nI ((i + 1) + 1), nI (d), hb, tm, bg, (aT), (aJ), (gr)) := hM_55.u1 _
      generalize (va_up g_55 (1) (aI E 0 158 (upd row ((33 + (7 * ((sgn ln T ((i + 1))) - (48)))) + 4) (nI (1 - (rg r (sgn ln T (i + 1) - 48) 4)))))) = g_95 at hM_95 ⊢
      refine y_vret (hC := hC) (hd := dX6_carryOutItem_96) (hq := ?_)
      refine ⟨(upd row ((33 + (7 * ((sgn ln T ((i + 1))) - (48)))) + 4) (nI (1 - (rg r (sgn ln T (i + 1) - 48) 4)))), ?_, fun k hk => ?_⟩
      · rw [hbn c_23]
        exact hM_95
      · unfold itR
        rw [if_neg c_23, if_pos (by unfold itOk at hit; omega)]
        unfold flpR
        by_cases e : k = 33 + 7 * (sgn ln T (i + 1) - 48) + 4
        · rw [e, pk_us, if_pos (by omega)]
        · rw [pk_un e, if_neg (by omega)]
          exact hR k hk
    · refine y_aload_n hC dX6_carryOutItem_64 (i := 0) rfl rfl ?_
      refine y_iload_n hC dX6_carryOutItem_65 (i := 2) rfl rfl ?_
      obtain ⟨q1, q2, q3, q4, q5, q6, q7, q8, q9⟩ := hv.rg (i := sgn ln T (i + 1) - 48) (hdr c_23).2.2
      refine y_callV hC mX6_step kX6_127 dX6_carryOutItem_66 (b := 0) (As := [.int (nI ((sgn ln T ((i + 1))) - (48)))]) (rest := []) (c_X6_step l E g_55 row B C (tx, nI (ln)) (nI ((i + 1) + 1), nI (d), hb, tm, bg, (aT), (aJ), (gr)) hM_55 (sgn ln T (i + 1) - 48) (rg r (sgn ln T (i + 1) - 48) 6) (nn (r 157)) (by omega) ((hR _ (by omega)).trans (q1 6 (by decide))) ((hR 157 (by decide)).trans hv.2.2.2.2.2.2.2.2.1)) (by omega) hM_55.a0 rfl rfl rfl (Nat.le_of_ble_eq_true rfl) ⟨Nat.le_of_ble_eq_true rfl, Nat.le_of_ble_eq_true rfl⟩ (pk_v ?_)
      rintro g_66 hM_66
      refine y_goto (tgt := 96) hC dX6_carryOutItem_69 (by decide) ?_
      refine y_vret (hC := hC) (hd := dX6_carryOutItem_96) (hq := ?_)
      refine ⟨(upd (upd row (33 + 7 * (sgn ln T (i + 1) - 48) + 6) (nI (rg r (sgn ln T (i + 1) - 48) 6 + 1))) 157 (nI (nn (r 157) + 1))), ?_, fun k hk => ?_⟩
      · rw [hbn c_23]
        exact hM_66
      · unfold itR
        rw [if_neg c_23, if_neg (by omega)]
        unfold stpR
        by_cases e : k = 157
        · rw [e, pk_us, if_neg (by omega), if_pos rfl]
        · rw [pk_un e]
          by_cases e2 : k = 33 + 7 * (sgn ln T (i + 1) - 48) + 6
          · rw [e2, pk_us, if_pos (by omega)]
          · rw [pk_un e2, if_neg (by omega), if_neg e]
            exact hR k hk
  · refine y_aload_n hC dX6_carryOutItem_26 (i := 0) rfl rfl ?_
    refine y_aload_n hC dX6_carryOutItem_27 (i := 0) rfl rfl ?_
    refine y_callV hC mX6_number kX6_149 dX6_carryOutItem_28 (b := 0) (As := []) (rest := [rf E (0)]) (c_X6_number l E g_17 row B C tx ln (i + 1) (d) (hb) (tm) (bg) ((aT)) ((aJ)) ((gr)) hM_17 T hl60 hT hTb hlt2 (by unfold itOk at hit; omega) (by unfold itOk at hit; omega)) (by omega) hM_17.a0 rfl rfl rfl (Nat.le_of_ble_eq_true rfl) ⟨Nat.le_of_ble_eq_true rfl, Nat.le_of_ble_eq_true rfl⟩ (pk_i ?_)
    rintro r_28 g_28 ⟨hr_28, hM_28⟩
    rw [hr_28]
    clear hr_28 r_28
    have hnm := nmb_le (s := sgn ln T) (i := i + 1) (by unfold itOk at hit; omega)
    refine y_callV hC mX6_ticks kX6_137 dX6_carryOutItem_31 (b := 0) (As := [.int (nI (nmb (sgn ln T) (i + 1)))]) (rest := []) (c_X6_ticks l E g_28 row B C (tx, nI (ln)) (nI (if 48 ≤ sgn ln T (i + 1 + 1) ∧ sgn ln T (i + 1 + 1) ≤ 57 then i + 1 + 2 else i + 1 + 1), nI (d), hb, tm, bg, (aT), (aJ), (gr)) hM_28 r Bd hB hR hv (nmb (sgn ln T) (i + 1)) (by omega)) (by omega) hM_28.a0 rfl rfl rfl (Nat.le_of_ble_eq_true rfl) ⟨Nat.le_of_ble_eq_true rfl, Nat.le_of_ble_eq_true rfl⟩ (pk_v ?_)
    rintro g_31 h31
    obtain ⟨row2, hM2, h2⟩ := h31
    refine y_vret (hC := hC) (hd := dX6_carryOutItem_34) (hq := ?_)
    refine ⟨row2, ?_, fun k hk => ?_⟩
    · rw [hbt c_23]
      exact hM2
    · rw [h2 k hk]
      unfold itR
      rw [if_pos c_23]

theorem dX6_carryOut_0 : decode cX6_carryOut 0 = .ok (.aload_n 0, 1) := by decide +kernel
theorem dX6_carryOut_1 : decode cX6_carryOut 1 = .ok (.iconst 0, 1) := by decide +kernel
theorem dX6_carryOut_2 : decode cX6_carryOut 2 = .ok (.putfield 143, 3) := by decide +kernel
theorem dX6_carryOut_5 : decode cX6_carryOut 5 = .ok (.aload_n 0, 1) := by decide +kernel
theorem dX6_carryOut_6 : decode cX6_carryOut 6 = .ok (.iconst 0, 1) := by decide +kernel
theorem dX6_carryOut_7 : decode cX6_carryOut 7 = .ok (.putfield 155, 3) := by decide +kernel
theorem dX6_carryOut_10 : decode cX6_carryOut 10 = .ok (.aload_n 0, 1) := by decide +kernel
theorem dX6_carryOut_11 : decode cX6_carryOut 11 = .ok (.getfield 143, 3) := by decide +kernel
theorem dX6_carryOut_14 : decode cX6_carryOut 14 = .ok (.aload_n 0, 1) := by decide +kernel
theorem dX6_carryOut_15 : decode cX6_carryOut 15 = .ok (.getfield 140, 3) := by decide +kernel
theorem dX6_carryOut_18 : decode cX6_carryOut 18 = .ok (.if_icmp .ge 175, 3) := by decide +kernel
theorem dX6_carryOut_21 : decode cX6_carryOut 21 = .ok (.aload_n 0, 1) := by decide +kernel
theorem dX6_carryOut_22 : decode cX6_carryOut 22 = .ok (.aload_n 0, 1) := by decide +kernel
theorem dX6_carryOut_23 : decode cX6_carryOut 23 = .ok (.getfield 143, 3) := by decide +kernel
theorem dX6_carryOut_26 : decode cX6_carryOut 26 = .ok (.bipush 50, 2) := by decide +kernel
theorem dX6_carryOut_28 : decode cX6_carryOut 28 = .ok (.bipush 57, 2) := by decide +kernel
theorem dX6_carryOut_30 : decode cX6_carryOut 30 = .ok (.invokevirtual 146, 3) := by decide +kernel
theorem dX6_carryOut_33 : decode cX6_carryOut 33 = .ok (.ifCond .eq 62, 3) := by decide +kernel
theorem dX6_carryOut_36 : decode cX6_carryOut 36 = .ok (.aload_n 0, 1) := by decide +kernel
theorem dX6_carryOut_37 : decode cX6_carryOut 37 = .ok (.dup, 1) := by decide +kernel
theorem dX6_carryOut_38 : decode cX6_carryOut 38 = .ok (.getfield 155, 3) := by decide +kernel
theorem dX6_carryOut_41 : decode cX6_carryOut 41 = .ok (.iconst 1, 1) := by decide +kernel
theorem dX6_carryOut_42 : decode cX6_carryOut 42 = .ok (.iadd, 1) := by decide +kernel
theorem dX6_carryOut_43 : decode cX6_carryOut 43 = .ok (.putfield 155, 3) := by decide +kernel
theorem dX6_carryOut_46 : decode cX6_carryOut 46 = .ok (.aload_n 0, 1) := by decide +kernel
theorem dX6_carryOut_47 : decode cX6_carryOut 47 = .ok (.getfield 32, 3) := by decide +kernel
theorem dX6_carryOut_50 : decode cX6_carryOut 50 = .ok (.aload_n 0, 1) := by decide +kernel
theorem dX6_carryOut_51 : decode cX6_carryOut 51 = .ok (.getfield 155, 3) := by decide +kernel
theorem dX6_carryOut_54 : decode cX6_carryOut 54 = .ok (.aload_n 0, 1) := by decide +kernel
theorem dX6_carryOut_55 : decode cX6_carryOut 55 = .ok (.getfield 25, 3) := by decide +kernel
theorem dX6_carryOut_58 : decode cX6_carryOut 58 = .ok (.aload_n 0, 1) := by decide +kernel
theorem dX6_carryOut_59 : decode cX6_carryOut 59 = .ok (.getfield 143, 3) := by decide +kernel
theorem dX6_carryOut_62 : decode cX6_carryOut 62 = .ok (.iaload, 1) := by decide +kernel
theorem dX6_carryOut_63 : decode cX6_carryOut 63 = .ok (.bipush 48, 2) := by decide +kernel
theorem dX6_carryOut_65 : decode cX6_carryOut 65 = .ok (.isub, 1) := by decide +kernel
theorem dX6_carryOut_66 : decode cX6_carryOut 66 = .ok (.iastore, 1) := by decide +kernel
theorem dX6_carryOut_67 : decode cX6_carryOut 67 = .ok (.aload_n 0, 1) := by decide +kernel
theorem dX6_carryOut_68 : decode cX6_carryOut 68 = .ok (.getfield 35, 3) := by decide +kernel
theorem dX6_carryOut_71 : decode cX6_carryOut 71 = .ok (.aload_n 0, 1) := by decide +kernel
theorem dX6_carryOut_72 : decode cX6_carryOut 72 = .ok (.getfield 155, 3) := by decide +kernel
theorem dX6_carryOut_75 : decode cX6_carryOut 75 = .ok (.aload_n 0, 1) := by decide +kernel
theorem dX6_carryOut_76 : decode cX6_carryOut 76 = .ok (.getfield 143, 3) := by decide +kernel
theorem dX6_carryOut_79 : decode cX6_carryOut 79 = .ok (.iconst 2, 1) := by decide +kernel
theorem dX6_carryOut_80 : decode cX6_carryOut 80 = .ok (.iadd, 1) := by decide +kernel
theorem dX6_carryOut_81 : decode cX6_carryOut 81 = .ok (.iastore, 1) := by decide +kernel
theorem dX6_carryOut_82 : decode cX6_carryOut 82 = .ok (.aload_n 0, 1) := by decide +kernel
theorem dX6_carryOut_83 : decode cX6_carryOut 83 = .ok (.dup, 1) := by decide +kernel
theorem dX6_carryOut_84 : decode cX6_carryOut 84 = .ok (.getfield 143, 3) := by decide +kernel
theorem dX6_carryOut_87 : decode cX6_carryOut 87 = .ok (.iconst 2, 1) := by decide +kernel
theorem dX6_carryOut_88 : decode cX6_carryOut 88 = .ok (.iadd, 1) := by decide +kernel
theorem dX6_carryOut_89 : decode cX6_carryOut 89 = .ok (.putfield 143, 3) := by decide +kernel
theorem dX6_carryOut_92 : decode cX6_carryOut 92 = .ok (.goto (-82), 3) := by decide +kernel
theorem dX6_carryOut_95 : decode cX6_carryOut 95 = .ok (.aload_n 0, 1) := by decide +kernel
theorem dX6_carryOut_96 : decode cX6_carryOut 96 = .ok (.aload_n 0, 1) := by decide +kernel
theorem dX6_carryOut_97 : decode cX6_carryOut 97 = .ok (.getfield 143, 3) := by decide +kernel
theorem dX6_carryOut_100 : decode cX6_carryOut 100 = .ok (.bipush 41, 2) := by decide +kernel
theorem dX6_carryOut_102 : decode cX6_carryOut 102 = .ok (.bipush 41, 2) := by decide +kernel
theorem dX6_carryOut_104 : decode cX6_carryOut 104 = .ok (.invokevirtual 146, 3) := by decide +kernel
theorem dX6_carryOut_107 : decode cX6_carryOut 107 = .ok (.ifCond .eq 79, 3) := by decide +kernel
theorem dX6_carryOut_110 : decode cX6_carryOut 110 = .ok (.aload_n 0, 1) := by decide +kernel
theorem dX6_carryOut_111 : decode cX6_carryOut 111 = .ok (.getfield 32, 3) := by decide +kernel
theorem dX6_carryOut_114 : decode cX6_carryOut 114 = .ok (.aload_n 0, 1) := by decide +kernel
theorem dX6_carryOut_115 : decode cX6_carryOut 115 = .ok (.getfield 155, 3) := by decide +kernel
theorem dX6_carryOut_118 : decode cX6_carryOut 118 = .ok (.dup2, 1) := by decide +kernel
theorem dX6_carryOut_119 : decode cX6_carryOut 119 = .ok (.iaload, 1) := by decide +kernel
theorem dX6_carryOut_120 : decode cX6_carryOut 120 = .ok (.iconst 1, 1) := by decide +kernel
theorem dX6_carryOut_121 : decode cX6_carryOut 121 = .ok (.isub, 1) := by decide +kernel
theorem dX6_carryOut_122 : decode cX6_carryOut 122 = .ok (.iastore, 1) := by decide +kernel
theorem dX6_carryOut_123 : decode cX6_carryOut 123 = .ok (.aload_n 0, 1) := by decide +kernel
theorem dX6_carryOut_124 : decode cX6_carryOut 124 = .ok (.aload_n 0, 1) := by decide +kernel
theorem dX6_carryOut_125 : decode cX6_carryOut 125 = .ok (.getfield 32, 3) := by decide +kernel
theorem dX6_carryOut_128 : decode cX6_carryOut 128 = .ok (.aload_n 0, 1) := by decide +kernel
theorem dX6_carryOut_129 : decode cX6_carryOut 129 = .ok (.getfield 155, 3) := by decide +kernel
theorem dX6_carryOut_132 : decode cX6_carryOut 132 = .ok (.iaload, 1) := by decide +kernel
theorem dX6_carryOut_133 : decode cX6_carryOut 133 = .ok (.ifCond .le 15, 3) := by decide +kernel
theorem dX6_carryOut_136 : decode cX6_carryOut 136 = .ok (.aload_n 0, 1) := by decide +kernel
theorem dX6_carryOut_137 : decode cX6_carryOut 137 = .ok (.getfield 35, 3) := by decide +kernel
theorem dX6_carryOut_140 : decode cX6_carryOut 140 = .ok (.aload_n 0, 1) := by decide +kernel
theorem dX6_carryOut_141 : decode cX6_carryOut 141 = .ok (.getfield 155, 3) := by decide +kernel
theorem dX6_carryOut_144 : decode cX6_carryOut 144 = .ok (.iaload, 1) := by decide +kernel
theorem dX6_carryOut_145 : decode cX6_carryOut 145 = .ok (.goto 9, 3) := by decide +kernel
theorem dX6_carryOut_148 : decode cX6_carryOut 148 = .ok (.aload_n 0, 1) := by decide +kernel
theorem dX6_carryOut_149 : decode cX6_carryOut 149 = .ok (.getfield 143, 3) := by decide +kernel
theorem dX6_carryOut_152 : decode cX6_carryOut 152 = .ok (.iconst 1, 1) := by decide +kernel
theorem dX6_carryOut_153 : decode cX6_carryOut 153 = .ok (.iadd, 1) := by decide +kernel
theorem dX6_carryOut_154 : decode cX6_carryOut 154 = .ok (.putfield 143, 3) := by decide +kernel
theorem dX6_carryOut_157 : decode cX6_carryOut 157 = .ok (.aload_n 0, 1) := by decide +kernel
theorem dX6_carryOut_158 : decode cX6_carryOut 158 = .ok (.dup, 1) := by decide +kernel
theorem dX6_carryOut_159 : decode cX6_carryOut 159 = .ok (.getfield 155, 3) := by decide +kernel
theorem dX6_carryOut_162 : decode cX6_carryOut 162 = .ok (.aload_n 0, 1) := by decide +kernel
theorem dX6_carryOut_163 : decode cX6_carryOut 163 = .ok (.getfield 32, 3) := by decide +kernel
theorem dX6_carryOut_166 : decode cX6_carryOut 166 = .ok (.aload_n 0, 1) := by decide +kernel
theorem dX6_carryOut_167 : decode cX6_carryOut 167 = .ok (.getfield 155, 3) := by decide +kernel
theorem dX6_carryOut_170 : decode cX6_carryOut 170 = .ok (.iaload, 1) := by decide +kernel
theorem dX6_carryOut_171 : decode cX6_carryOut 171 = .ok (.ifCond .le 7, 3) := by decide +kernel
theorem dX6_carryOut_174 : decode cX6_carryOut 174 = .ok (.iconst 0, 1) := by decide +kernel
theorem dX6_carryOut_175 : decode cX6_carryOut 175 = .ok (.goto 4, 3) := by decide +kernel
theorem dX6_carryOut_178 : decode cX6_carryOut 178 = .ok (.iconst 1, 1) := by decide +kernel
theorem dX6_carryOut_179 : decode cX6_carryOut 179 = .ok (.isub, 1) := by decide +kernel
theorem dX6_carryOut_180 : decode cX6_carryOut 180 = .ok (.putfield 155, 3) := by decide +kernel
theorem dX6_carryOut_183 : decode cX6_carryOut 183 = .ok (.goto (-173), 3) := by decide +kernel
theorem dX6_carryOut_186 : decode cX6_carryOut 186 = .ok (.aload_n 0, 1) := by decide +kernel
theorem dX6_carryOut_187 : decode cX6_carryOut 187 = .ok (.invokevirtual 183, 3) := by decide +kernel
theorem dX6_carryOut_190 : decode cX6_carryOut 190 = .ok (.goto (-180), 3) := by decide +kernel
theorem dX6_carryOut_193 : decode cX6_carryOut 193 = .ok (.return_, 1) := by decide +kernel
set_option maxHeartbeats 4000000 in
set_option maxRecDepth 100000 in
theorem c_X6_carryOut (l : Launch) (E : gE) (g : Mem) (row : Nat → Int32) (B : GB) (C : GC) (tx : Nat → Int32) (ln : Nat) (P : GP) (hM : MX E g row B C (tx, nI ln) P) (T : Nat → Nat) (hl60 : ln ≤ 60) (hT : ∀ k, k < ln → tx k = nI (T k)) (hTb : ∀ k, k < ln → T k < 65536) (r fin : Row) (B0 n : Nat) (sf0 tf0 : Nat → Nat) (hR : ∀ k, k < 158 → row k = r k) (hrun : Run (sgn ln T) ln n 0 0 sf0 tf0 r B0 fin) : Mt l E yX6_carryOut cX6_carryOut 1 none 5 111 [rf E (0)] g (pV (fun g' => ∃ (row2 : Nat → Int32) (P2 : GP), MX E g' row2 B C (tx, nI ln) P2 ∧ ∀ k, k < 158 → row2 k = fin k)) := by
  have hK := hM.k
  refine mt_go (own := RX6) (by decide) rfl (lo := [some (rf E (0))]) rfl (Nat.le_of_ble_eq_true rfl) (fun X hC => ?_)
  have hsb : ∀ k, sgn ln T k < 65536 := fun k => by unfold sgn; split; exact hTb _ (by assumption); decide
  have hts : ∀ k, k < ln → tx k = nI (sgn ln T k) := fun k hk => by rw [hT k hk]; unfold sgn; rw [if_pos hk]
  refine y_aload_n hC dX6_carryOut_0 (i := 0) rfl rfl ?_
  refine y_iconst (v := nI 0) hC dX6_carryOut_1 (by decide) ?_
  refine y_put hC fpX6_143 dX6_carryOut_2 (k := 0) (by omega) hM.a0 (Nat.le_of_ble_eq_true rfl) (rfl) (rfl) (fs' := [rf E (1), rf E (2), .int (B.2.1), rf E (3), .int (B.2.2.2), rf E (4), rf E (5), rf E (6), .int (nI (ln)), .int (nI (0)), .int (P.2.1), rf E (7), rf E (8), rf E (9), .int (P.2.2.2.2.2.1), .int (P.2.2.2.2.2.2.1), .int (P.2.2.2.2.2.2.2), rf E (10), rf E (11)]) rfl ?_
  have hM_2 : MX E (va_up g (0) (oB 6 [rf E (1), rf E (2), .int (B.2.1), rf E (3), .int (B.2.2.2), rf E (4), rf E (5), rf E (6), .int (nI (ln)), .int (nI (0)), .int (P.2.1), rf E (7), rf E (8), rf E (9), .int (P.2.2.2.2.2.1), .int (P.2.2.2.2.2.2.1), .int (P.2.2.2.2.2.2.2), rf E (10), rf E (11)])) row B C (tx, nI (ln)) (nI (0), (P.2.1), P.2.2.1, P.2.2.2.1, P.2.2.2.2.1, (P.2.2.2.2.2.1), (P.2.2.2.2.2.2.1), (P.2.2.2.2.2.2.2)) := hM.u0 ((B.2.1)) ((B.2.2.2)) (nI (ln)) (nI (0)) ((P.2.1)) ((P.2.2.2.2.2.1)) ((P.2.2.2.2.2.2.1)) ((P.2.2.2.2.2.2.2))
  generalize (va_up g (0) (oB 6 [rf E (1), rf E (2), .int (B.2.1), rf E (3), .int (B.2.2.2), rf E (4), rf E (5), rf E (6), .int (nI (ln)), .int (nI (0)), .int (P.2.1), rf E (7), rf E (8), rf E (9), .int (P.2.2.2.2.2.1), .int (P.2.2.2.2.2.2.1), .int (P.2.2.2.2.2.2.2), rf E (10), rf E (11)])) = g_2 at hM_2 ⊢
  refine y_aload_n hC dX6_carryOut_5 (i := 0) rfl rfl ?_
  refine y_iconst (v := nI 0) hC dX6_carryOut_6 (by decide) ?_
  refine y_put hC fpX6_155 dX6_carryOut_7 (k := 0) (by omega) hM_2.a0 (Nat.le_of_ble_eq_true rfl) (rfl) (rfl) (fs' := [rf E (1), rf E (2), .int (B.2.1), rf E (3), .int (B.2.2.2), rf E (4), rf E (5), rf E (6), .int (nI (ln)), .int (nI (0)), .int (nI (0)), rf E (7), rf E (8), rf E (9), .int (P.2.2.2.2.2.1), .int (P.2.2.2.2.2.2.1), .int (P.2.2.2.2.2.2.2), rf E (10), rf E (11)]) rfl ?_
  have hM_7 : MX E (va_up g_2 (0) (oB 6 [rf E (1), rf E (2), .int (B.2.1), rf E (3), .int (B.2.2.2), rf E (4), rf E (5), rf E (6), .int (nI (ln)), .int (nI (0)), .int (nI (0)), rf E (7), rf E (8), rf E (9), .int (P.2.2.2.2.2.1), .int (P.2.2.2.2.2.2.1), .int (P.2.2.2.2.2.2.2), rf E (10), rf E (11)])) row B C (tx, nI (ln)) (nI (0), nI (0), P.2.2.1, P.2.2.2.1, P.2.2.2.2.1, (P.2.2.2.2.2.1), (P.2.2.2.2.2.2.1), (P.2.2.2.2.2.2.2)) := hM_2.u0 ((B.2.1)) ((B.2.2.2)) (nI (ln)) (nI (0)) (nI (0)) ((P.2.2.2.2.2.1)) ((P.2.2.2.2.2.2.1)) ((P.2.2.2.2.2.2.2))
  generalize (va_up g_2 (0) (oB 6 [rf E (1), rf E (2), .int (B.2.1), rf E (3), .int (B.2.2.2), rf E (4), rf E (5), rf E (6), .int (nI (ln)), .int (nI (0)), .int (nI (0)), rf E (7), rf E (8), rf E (9), .int (P.2.2.2.2.2.1), .int (P.2.2.2.2.2.2.1), .int (P.2.2.2.2.2.2.2), rf E (10), rf E (11)])) = g_7 at hM_7 ⊢
  have L_10 : ∀ (m : Nat) (n B1 d i : Nat) (sf tf : Nat → Nat) (r1 : Row) (g1 : Mem) (row1 bg tm : Nat → Int32), (hm : n < m) → (hM1 : MX E g1 row1 B C (tx, nI ln) (nI i, nI d, P.2.2.1, tm, bg, P.2.2.2.2.2.1, P.2.2.2.2.2.2.1, P.2.2.2.2.2.2.2)) → (hR1 : ∀ k, k < 158 → row1 k = r1 k) → (hSb : ∀ j, j < d → bg (j + 1) = nI (sf j)) → (hTm : ∀ j, j < d → tm (j + 1) = nI (tf j)) → (hr : Run (sgn ln T) ln n i d sf tf r1 B1 fin) → (hi : i ≤ 60) → (hd : d ≤ 30) → Y l E X (pV (fun g' => ∃ (row2 : Nat → Int32) (P2 : GP), MX E g' row2 B C (tx, nI ln) P2 ∧ ∀ k, k < 158 → row2 k = fin k)) 10 [some (rf E (0))] [] g1 := by
    intro m
    induction m with
    | zero => intro n B1 d i sf tf r1 g1 row1 bg tm hm hM1 hR1 hSb hTm hr hi hd; exact absurd hm (Nat.not_lt_zero _)
    | succ m ih_10 =>
      intro n B1 d i sf tf r1 g1 row1 bg tm hm hM1 hR1 hSb hTm hr hi hd
      refine y_aload_n hC dX6_carryOut_10 (i := 0) rfl rfl ?_
      refine y_get hC fX6_143 dX6_carryOut_11 (k := 0) (by omega) hM1.a0 rfl ?_
      refine y_aload_n hC dX6_carryOut_14 (i := 0) rfl rfl ?_
      refine y_get hC fX6_140 dX6_carryOut_15 (k := 0) (by omega) hM1.a0 rfl ?_
      refine y_icmp_ge_n (tgt := 193) hC dX6_carryOut_18 (by decide) (by omega) (by omega) (fun c_18 => ?_) (fun c_18 => ?_)
      · refine y_vret (hC := hC) (hd := dX6_carryOut_193) (hq := ?_)
        exact ⟨row1, _, hM1, fun k hk => by rw [Run_ge hr (by omega)]; exact hR1 k hk⟩
      · have hlt : i < ln := by omega
        obtain ⟨k0, hk0, hr2⟩ := Run_lt hr hlt
        subst hk0
        obtain ⟨-, hv, hB, hcs⟩ := hr2
        have hcs0 := hcs
        refine y_aload_n hC dX6_carryOut_21 (i := 0) rfl rfl ?_
        refine y_aload_n hC dX6_carryOut_22 (i := 0) rfl rfl ?_
        refine y_get hC fX6_143 dX6_carryOut_23 (k := 0) (by omega) hM1.a0 rfl ?_
        refine y_bipush (v := nI 50) hC dX6_carryOut_26 (by decide) ?_
        refine y_bipush (v := nI 57) hC dX6_carryOut_28 (by decide) ?_
        refine y_callV hC mX6_isAt kX6_146 dX6_carryOut_30 (b := 0) (As := [.int (nI (i)), .int (nI (50)), .int (nI (57))]) (rest := []) (c_X6_isAt l E g1 row1 B C tx ln (i) (d) (P.2.2.1) (tm) (bg) ((P.2.2.2.2.2.1)) ((P.2.2.2.2.2.2.1)) ((P.2.2.2.2.2.2.2)) hM1 T hl60 hT hTb (i) 50 57 (by omega) (by decide) (by decide) (by decide)) (by omega) hM1.a0 rfl rfl rfl (Nat.le_of_ble_eq_true rfl) ⟨Nat.le_of_ble_eq_true rfl, Nat.le_of_ble_eq_true rfl⟩ (pk_i ?_)
        rintro r_30 g_30 ⟨hr_30, hq_30⟩
        obtain rfl := hq_30.symm
        rw [hr_30]
        clear hr_30 r_30
        refine y_if_eq_b (tgt := 95) hC dX6_carryOut_33 (by decide) (fun c_33 => ?_) (fun c_33 => ?_)
        · refine y_aload_n hC dX6_carryOut_95 (i := 0) rfl rfl ?_
          refine y_aload_n hC dX6_carryOut_96 (i := 0) rfl rfl ?_
          refine y_get hC fX6_143 dX6_carryOut_97 (k := 0) (by omega) hM1.a0 rfl ?_
          refine y_bipush (v := nI 41) hC dX6_carryOut_100 (by decide) ?_
          refine y_bipush (v := nI 41) hC dX6_carryOut_102 (by decide) ?_
          refine y_callV hC mX6_isAt kX6_146 dX6_carryOut_104 (b := 0) (As := [.int (nI (i)), .int (nI (41)), .int (nI (41))]) (rest := []) (c_X6_isAt l E g1 row1 B C tx ln (i) (d) (P.2.2.1) (tm) (bg) ((P.2.2.2.2.2.1)) ((P.2.2.2.2.2.2.1)) ((P.2.2.2.2.2.2.2)) hM1 T hl60 hT hTb (i) 41 41 (by omega) (by decide) (by decide) (by decide)) (by omega) hM1.a0 rfl rfl rfl (Nat.le_of_ble_eq_true rfl) ⟨Nat.le_of_ble_eq_true rfl, Nat.le_of_ble_eq_true rfl⟩ (pk_i ?_)
          rintro r_104 g_104 ⟨hr_104, hq_104⟩
          obtain rfl := hq_104.symm
          rw [hr_104]
          clear hr_104 r_104
          refine y_if_eq_b (tgt := 186) hC dX6_carryOut_107 (by decide) (fun c_107 => ?_) (fun c_107 => ?_)
          · rcases hcs with ⟨e1, e2, -⟩ | ⟨e1, -⟩ | ⟨e1, e2⟩
            · exfalso; omega
            · exfalso; omega
            refine y_aload_n hC dX6_carryOut_186 (i := 0) rfl rfl ?_
            refine y_callV hC mX6_carryOutItem kX6_183 dX6_carryOut_187 (b := 0) (As := []) (rest := []) (c_X6_carryOutItem l E g1 row1 B C tx ln (i) (d) (P.2.2.1) (tm) (bg) ((P.2.2.2.2.2.1)) ((P.2.2.2.2.2.2.1)) ((P.2.2.2.2.2.2.2)) hM1 T hl60 hT hTb r1 B1 hB hR1 hv hlt e1) (by omega) hM1.a0 rfl rfl rfl (Nat.le_of_ble_eq_true rfl) ⟨Nat.le_of_ble_eq_true rfl, Nat.le_of_ble_eq_true rfl⟩ (pk_v ?_)
            rintro g_187 h187
            obtain ⟨row2, hM2, h2⟩ := h187
            have hb60 : bhd (sgn ln T) i ≤ 60 := by
              have := bhd_le (s := sgn ln T) (i := i) sz hlt (Or.inr (by unfold itOk at e1; omega))
              omega
            refine y_goto (tgt := 10) hC dX6_carryOut_190 (by decide) ?_
            exact ih_10 k0 (B1 + itB (sgn ln T) i) d (bhd (sgn ln T) i) sf tf (itR (sgn ln T) r1 i) g_187 row2 bg tm (by omega) hM2 h2 hSb hTm e2 hb60 (by omega)
          · rcases hcs with ⟨e1, e2, -⟩ | ⟨e1, e2, e3, e4, e5, e6, e7⟩ | ⟨e1, -⟩
            · exfalso; omega
            rotate_left
            · exfalso; unfold itOk at e1; omega
            have hb1 : bhd (sgn ln T) i = i + 1 := bhd_1 e1
            rw [hb1] at e7
            have htd := hTm (d - 1) (by omega)
            have hsd := hSb (d - 1) (by omega)
            rw [show d - 1 + 1 = d by omega] at htd hsd
            refine y_aload_n hC dX6_carryOut_110 (i := 0) rfl rfl ?_
            refine y_get hC fX6_32 dX6_carryOut_111 (k := 0) (by omega) hM1.a0 rfl ?_
            refine y_aload_n hC dX6_carryOut_114 (i := 0) rfl rfl ?_
            refine y_get hC fX6_155 dX6_carryOut_115 (k := 0) (by omega) hM1.a0 rfl ?_
            refine y_dup2 hC dX6_carryOut_118 rfl rfl ?_
            refine y_iald hC dX6_carryOut_119 (k := 8) (j := d) (by omega) hM1.a8 (rfl) (by omega) (by decide) ?_
            refine y_top (y := nI (tf (d - 1))) (htd) ?_
            refine y_iconst (v := nI 1) hC dX6_carryOut_120 (by decide) ?_
            refine y_isub_n hC dX6_carryOut_121 (by omega) ?_
            refine y_iast hC dX6_carryOut_122 (k := 8) (j := d) (by omega) hM1.a8 (rfl) (by omega) (by decide) ?_
            have hM_122 : MX E (va_up g1 (8) (aI E 0 32 (upd tm (d) (nI ((tf (d - 1)) - (1)))))) row1 B C (tx, nI (ln)) (nI (i), nI (d), P.2.2.1, (upd tm (d) (nI ((tf (d - 1)) - (1)))), bg, (P.2.2.2.2.2.1), (P.2.2.2.2.2.2.1), (P.2.2.2.2.2.2.2)) := hM1.u8 _
            generalize (va_up g1 (8) (aI E 0 32 (upd tm (d) (nI ((tf (d - 1)) - (1)))))) = g_122 at hM_122 ⊢
            refine y_aload_n hC dX6_carryOut_123 (i := 0) rfl rfl ?_
            refine y_aload_n hC dX6_carryOut_124 (i := 0) rfl rfl ?_
            refine y_get hC fX6_32 dX6_carryOut_125 (k := 0) (by omega) hM_122.a0 rfl ?_
            refine y_aload_n hC dX6_carryOut_128 (i := 0) rfl rfl ?_
            refine y_get hC fX6_155 dX6_carryOut_129 (k := 0) (by omega) hM_122.a0 rfl ?_
            refine y_iald hC dX6_carryOut_132 (k := 8) (j := d) (by omega) hM_122.a8 (rfl) (by omega) (by decide) ?_
            refine y_top (y := nI (tf (d - 1) - (1))) (pk_us) ?_
            refine y_if_le_n (tgt := 148) hC dX6_carryOut_133 (by decide) (by omega) (fun c_133 => ?_) (fun c_133 => ?_)
            · refine y_aload_n hC dX6_carryOut_148 (i := 0) rfl rfl ?_
              refine y_get hC fX6_143 dX6_carryOut_149 (k := 0) (by omega) hM_122.a0 rfl ?_
              refine y_iconst (v := nI 1) hC dX6_carryOut_152 (by decide) ?_
              refine y_iadd_n hC dX6_carryOut_153 ?_
              refine y_put hC fpX6_143 dX6_carryOut_154 (k := 0) (by omega) hM_122.a0 (Nat.le_of_ble_eq_true rfl) (rfl) (rfl) (fs' := [rf E (1), rf E (2), .int (B.2.1), rf E (3), .int (B.2.2.2), rf E (4), rf E (5), rf E (6), .int (nI (ln)), .int (nI (i + 1)), .int (nI (d)), rf E (7), rf E (8), rf E (9), .int (P.2.2.2.2.2.1), .int (P.2.2.2.2.2.2.1), .int (P.2.2.2.2.2.2.2), rf E (10), rf E (11)]) rfl ?_
              have hM_154 : MX E (va_up g_122 (0) (oB 6 [rf E (1), rf E (2), .int (B.2.1), rf E (3), .int (B.2.2.2), rf E (4), rf E (5), rf E (6), .int (nI (ln)), .int (nI (i + 1)), .int (nI (d)), rf E (7), rf E (8), rf E (9), .int (P.2.2.2.2.2.1), .int (P.2.2.2.2.2.2.1), .int (P.2.2.2.2.2.2.2), rf E (10), rf E (11)])) row1 B C (tx, nI (ln)) (nI (i + 1), nI (d), P.2.2.1, (upd tm (d) (nI ((tf (d - 1)) - (1)))), bg, (P.2.2.2.2.2.1), (P.2.2.2.2.2.2.1), (P.2.2.2.2.2.2.2)) := hM_122.u0 ((B.2.1)) ((B.2.2.2)) (nI (ln)) (nI (i + 1)) (nI (d)) ((P.2.2.2.2.2.1)) ((P.2.2.2.2.2.2.1)) ((P.2.2.2.2.2.2.2))
              generalize (va_up g_122 (0) (oB 6 [rf E (1), rf E (2), .int (B.2.1), rf E (3), .int (B.2.2.2), rf E (4), rf E (5), rf E (6), .int (nI (ln)), .int (nI (i + 1)), .int (nI (d)), rf E (7), rf E (8), rf E (9), .int (P.2.2.2.2.2.1), .int (P.2.2.2.2.2.2.1), .int (P.2.2.2.2.2.2.2), rf E (10), rf E (11)])) = g_154 at hM_154 ⊢
              refine y_aload_n hC dX6_carryOut_157 (i := 0) rfl rfl ?_
              refine y_dup hC dX6_carryOut_158 rfl ?_
              refine y_get hC fX6_155 dX6_carryOut_159 (k := 0) (by omega) hM_154.a0 rfl ?_
              refine y_aload_n hC dX6_carryOut_162 (i := 0) rfl rfl ?_
              refine y_get hC fX6_32 dX6_carryOut_163 (k := 0) (by omega) hM_154.a0 rfl ?_
              refine y_aload_n hC dX6_carryOut_166 (i := 0) rfl rfl ?_
              refine y_get hC fX6_155 dX6_carryOut_167 (k := 0) (by omega) hM_154.a0 rfl ?_
              refine y_iald hC dX6_carryOut_170 (k := 8) (j := d) (by omega) hM_154.a8 (rfl) (by omega) (by decide) ?_
              refine y_top (y := nI (tf (d - 1) - (1))) (pk_us) ?_
              refine y_if_le_n (tgt := 178) hC dX6_carryOut_171 (by decide) (by omega) (fun c_171 => ?_) (fun c_171 => ?_)
              · refine y_iconst (v := nI 1) hC dX6_carryOut_178 (by decide) ?_
                refine y_isub_n hC dX6_carryOut_179 (by omega) ?_
                skip
                refine y_put hC fpX6_155 dX6_carryOut_180 (k := 0) (by omega) hM_154.a0 (Nat.le_of_ble_eq_true rfl) (rfl) (rfl) (fs' := [rf E (1), rf E (2), .int (B.2.1), rf E (3), .int (B.2.2.2), rf E (4), rf E (5), rf E (6), .int (nI (ln)), .int (nI (i + 1)), .int (nI (d - (1))), rf E (7), rf E (8), rf E (9), .int (P.2.2.2.2.2.1), .int (P.2.2.2.2.2.2.1), .int (P.2.2.2.2.2.2.2), rf E (10), rf E (11)]) rfl ?_
                have hM_180 : MX E (va_up g_154 (0) (oB 6 [rf E (1), rf E (2), .int (B.2.1), rf E (3), .int (B.2.2.2), rf E (4), rf E (5), rf E (6), .int (nI (ln)), .int (nI (i + 1)), .int (nI (d - (1))), rf E (7), rf E (8), rf E (9), .int (P.2.2.2.2.2.1), .int (P.2.2.2.2.2.2.1), .int (P.2.2.2.2.2.2.2), rf E (10), rf E (11)])) row1 B C (tx, nI (ln)) (nI (i + 1), nI (d - (1)), P.2.2.1, (upd tm (d) (nI ((tf (d - 1)) - (1)))), bg, (P.2.2.2.2.2.1), (P.2.2.2.2.2.2.1), (P.2.2.2.2.2.2.2)) := hM_154.u0 ((B.2.1)) ((B.2.2.2)) (nI (ln)) (nI (i + 1)) (nI (d - (1))) ((P.2.2.2.2.2.1)) ((P.2.2.2.2.2.2.1)) ((P.2.2.2.2.2.2.2))
                generalize (va_up g_154 (0) (oB 6 [rf E (1), rf E (2), .int (B.2.1), rf E (3), .int (B.2.2.2), rf E (4), rf E (5), rf E (6), .int (nI (ln)), .int (nI (i + 1)), .int (nI (d - (1))), rf E (7), rf E (8), rf E (9), .int (P.2.2.2.2.2.1), .int (P.2.2.2.2.2.2.1), .int (P.2.2.2.2.2.2.2), rf E (10), rf E (11)])) = g_180 at hM_180 ⊢
                refine y_goto (tgt := 10) hC dX6_carryOut_183 (by decide) ?_
                obtain ⟨f1, -⟩ | ⟨f1, f2⟩ := e7
                · exfalso; omega
                exact ih_10 k0 B1 (d - 1) (i + 1) sf tf r1 g_180 row1 bg (upd tm (d) (nI ((tf (d - 1)) - (1)))) (by omega) hM_180 hR1 (fun j hj => hSb j (by omega)) (fun j hj => by rw [pk_un (by omega)]; exact hTm j (by omega)) f2 (by omega) (by omega)
              · exfalso; omega
            · refine y_aload_n hC dX6_carryOut_136 (i := 0) rfl rfl ?_
              refine y_get hC fX6_35 dX6_carryOut_137 (k := 0) (by omega) hM_122.a0 rfl ?_
              refine y_aload_n hC dX6_carryOut_140 (i := 0) rfl rfl ?_
              refine y_get hC fX6_155 dX6_carryOut_141 (k := 0) (by omega) hM_122.a0 rfl ?_
              refine y_iald hC dX6_carryOut_144 (k := 9) (j := d) (by omega) hM_122.a9 (rfl) (by omega) (by decide) ?_
              refine y_top (y := nI (sf (d - 1))) (hsd) ?_
              refine y_goto (tgt := 154) hC dX6_carryOut_145 (by decide) ?_
              refine y_put hC fpX6_143 dX6_carryOut_154 (k := 0) (by omega) hM_122.a0 (Nat.le_of_ble_eq_true rfl) (rfl) (rfl) (fs' := [rf E (1), rf E (2), .int (B.2.1), rf E (3), .int (B.2.2.2), rf E (4), rf E (5), rf E (6), .int (nI (ln)), .int (nI (sf (d - 1))), .int (nI (d)), rf E (7), rf E (8), rf E (9), .int (P.2.2.2.2.2.1), .int (P.2.2.2.2.2.2.1), .int (P.2.2.2.2.2.2.2), rf E (10), rf E (11)]) rfl ?_
              have hM_154 : MX E (va_up g_122 (0) (oB 6 [rf E (1), rf E (2), .int (B.2.1), rf E (3), .int (B.2.2.2), rf E (4), rf E (5), rf E (6), .int (nI (ln)), .int (nI (sf (d - 1))), .int (nI (d)), rf E (7), rf E (8), rf E (9), .int (P.2.2.2.2.2.1), .int (P.2.2.2.2.2.2.1), .int (P.2.2.2.2.2.2.2), rf E (10), rf E (11)])) row1 B C (tx, nI (ln)) (nI (sf (d - 1)), nI (d), P.2.2.1, (upd tm (d) (nI ((tf (d - 1)) - (1)))), bg, (P.2.2.2.2.2.1), (P.2.2.2.2.2.2.1), (P.2.2.2.2.2.2.2)) := hM_122.u0 ((B.2.1)) ((B.2.2.2)) (nI (ln)) (nI (sf (d - 1))) (nI (d)) ((P.2.2.2.2.2.1)) ((P.2.2.2.2.2.2.1)) ((P.2.2.2.2.2.2.2))
              generalize (va_up g_122 (0) (oB 6 [rf E (1), rf E (2), .int (B.2.1), rf E (3), .int (B.2.2.2), rf E (4), rf E (5), rf E (6), .int (nI (ln)), .int (nI (sf (d - 1))), .int (nI (d)), rf E (7), rf E (8), rf E (9), .int (P.2.2.2.2.2.1), .int (P.2.2.2.2.2.2.1), .int (P.2.2.2.2.2.2.2), rf E (10), rf E (11)])) = g_154 at hM_154 ⊢
              refine y_aload_n hC dX6_carryOut_157 (i := 0) rfl rfl ?_
              refine y_dup hC dX6_carryOut_158 rfl ?_
              refine y_get hC fX6_155 dX6_carryOut_159 (k := 0) (by omega) hM_154.a0 rfl ?_
              refine y_aload_n hC dX6_carryOut_162 (i := 0) rfl rfl ?_
              refine y_get hC fX6_32 dX6_carryOut_163 (k := 0) (by omega) hM_154.a0 rfl ?_
              refine y_aload_n hC dX6_carryOut_166 (i := 0) rfl rfl ?_
              refine y_get hC fX6_155 dX6_carryOut_167 (k := 0) (by omega) hM_154.a0 rfl ?_
              refine y_iald hC dX6_carryOut_170 (k := 8) (j := d) (by omega) hM_154.a8 (rfl) (by omega) (by decide) ?_
              refine y_top (y := nI (tf (d - 1) - (1))) (pk_us) ?_
              refine y_if_le_n (tgt := 178) hC dX6_carryOut_171 (by decide) (by omega) (fun c_171 => ?_) (fun c_171 => ?_)
              · exfalso; omega
              · refine y_iconst (v := nI 0) hC dX6_carryOut_174 (by decide) ?_
                refine y_goto (tgt := 179) hC dX6_carryOut_175 (by decide) ?_
                refine y_isub_n hC dX6_carryOut_179 (by omega) ?_
                skip
                refine y_put hC fpX6_155 dX6_carryOut_180 (k := 0) (by omega) hM_154.a0 (Nat.le_of_ble_eq_true rfl) (rfl) (rfl) (fs' := [rf E (1), rf E (2), .int (B.2.1), rf E (3), .int (B.2.2.2), rf E (4), rf E (5), rf E (6), .int (nI (ln)), .int (nI (sf (d - 1))), .int (nI (d - (0))), rf E (7), rf E (8), rf E (9), .int (P.2.2.2.2.2.1), .int (P.2.2.2.2.2.2.1), .int (P.2.2.2.2.2.2.2), rf E (10), rf E (11)]) rfl ?_
                have hM_180 : MX E (va_up g_154 (0) (oB 6 [rf E (1), rf E (2), .int (B.2.1), rf E (3), .int (B.2.2.2), rf E (4), rf E (5), rf E (6), .int (nI (ln)), .int (nI (sf (d - 1))), .int (nI (d - (0))), rf E (7), rf E (8), rf E (9), .int (P.2.2.2.2.2.1), .int (P.2.2.2.2.2.2.1), .int (P.2.2.2.2.2.2.2), rf E (10), rf E (11)])) row1 B C (tx, nI (ln)) (nI (sf (d - 1)), nI (d - (0)), P.2.2.1, (upd tm (d) (nI ((tf (d - 1)) - (1)))), bg, (P.2.2.2.2.2.1), (P.2.2.2.2.2.2.1), (P.2.2.2.2.2.2.2)) := hM_154.u0 ((B.2.1)) ((B.2.2.2)) (nI (ln)) (nI (sf (d - 1))) (nI (d - (0))) ((P.2.2.2.2.2.1)) ((P.2.2.2.2.2.2.1)) ((P.2.2.2.2.2.2.2))
                generalize (va_up g_154 (0) (oB 6 [rf E (1), rf E (2), .int (B.2.1), rf E (3), .int (B.2.2.2), rf E (4), rf E (5), rf E (6), .int (nI (ln)), .int (nI (sf (d - 1))), .int (nI (d - (0))), rf E (7), rf E (8), rf E (9), .int (P.2.2.2.2.2.1), .int (P.2.2.2.2.2.2.1), .int (P.2.2.2.2.2.2.2), rf E (10), rf E (11)])) = g_180 at hM_180 ⊢
                refine y_goto (tgt := 10) hC dX6_carryOut_183 (by decide) ?_
                obtain ⟨f1, f2⟩ | ⟨f1, -⟩ := e7
                rotate_left
                · exfalso; omega
                exact ih_10 k0 B1 d (sf (d - 1)) sf (va_up tf (d - 1) (tf (d - 1) - 1)) r1 g_180 row1 bg (upd tm (d) (nI ((tf (d - 1)) - (1)))) (by omega) hM_180 hR1 hSb (fun j hj => by
                    by_cases e : j = d - 1
                    · rw [e, show d - 1 + 1 = d by omega, pk_us, va_up_self]
                    · rw [pk_un (by omega), va_up_ne _ _ e]; exact hTm j (by omega)) f2 (by omega) (by omega)
        · rcases hcs with ⟨e1, e2, e3, e4, e5⟩ | ⟨e1, -⟩ | ⟨e1, -⟩
          rotate_left
          · exfalso; omega
          · exfalso; unfold itOk at e1; omega
          have hb2 : bhd (sgn ln T) i = i + 2 := bhd_2 (by omega) (by omega)
          rw [hb2] at e5
          have hln2 : i + 2 ≤ ln := by
            have := (bhd_le (s := sgn ln T) (i := i) sz hlt (Or.inr (by omega))).2.1
            omega
          refine y_aload_n hC dX6_carryOut_36 (i := 0) rfl rfl ?_
          refine y_dup hC dX6_carryOut_37 rfl ?_
          refine y_get hC fX6_155 dX6_carryOut_38 (k := 0) (by omega) hM1.a0 rfl ?_
          refine y_iconst (v := nI 1) hC dX6_carryOut_41 (by decide) ?_
          refine y_iadd_n hC dX6_carryOut_42 ?_
          refine y_put hC fpX6_155 dX6_carryOut_43 (k := 0) (by omega) hM1.a0 (Nat.le_of_ble_eq_true rfl) (rfl) (rfl) (fs' := [rf E (1), rf E (2), .int (B.2.1), rf E (3), .int (B.2.2.2), rf E (4), rf E (5), rf E (6), .int (nI (ln)), .int (nI (i)), .int (nI (d + 1)), rf E (7), rf E (8), rf E (9), .int (P.2.2.2.2.2.1), .int (P.2.2.2.2.2.2.1), .int (P.2.2.2.2.2.2.2), rf E (10), rf E (11)]) rfl ?_
          have hM_43 : MX E (va_up g1 (0) (oB 6 [rf E (1), rf E (2), .int (B.2.1), rf E (3), .int (B.2.2.2), rf E (4), rf E (5), rf E (6), .int (nI (ln)), .int (nI (i)), .int (nI (d + 1)), rf E (7), rf E (8), rf E (9), .int (P.2.2.2.2.2.1), .int (P.2.2.2.2.2.2.1), .int (P.2.2.2.2.2.2.2), rf E (10), rf E (11)])) row1 B C (tx, nI (ln)) (nI (i), nI (d + 1), P.2.2.1, tm, bg, (P.2.2.2.2.2.1), (P.2.2.2.2.2.2.1), (P.2.2.2.2.2.2.2)) := hM1.u0 ((B.2.1)) ((B.2.2.2)) (nI (ln)) (nI (i)) (nI (d + 1)) ((P.2.2.2.2.2.1)) ((P.2.2.2.2.2.2.1)) ((P.2.2.2.2.2.2.2))
          generalize (va_up g1 (0) (oB 6 [rf E (1), rf E (2), .int (B.2.1), rf E (3), .int (B.2.2.2), rf E (4), rf E (5), rf E (6), .int (nI (ln)), .int (nI (i)), .int (nI (d + 1)), rf E (7), rf E (8), rf E (9), .int (P.2.2.2.2.2.1), .int (P.2.2.2.2.2.2.1), .int (P.2.2.2.2.2.2.2), rf E (10), rf E (11)])) = g_43 at hM_43 ⊢
          refine y_aload_n hC dX6_carryOut_46 (i := 0) rfl rfl ?_
          refine y_get hC fX6_32 dX6_carryOut_47 (k := 0) (by omega) hM_43.a0 rfl ?_
          refine y_aload_n hC dX6_carryOut_50 (i := 0) rfl rfl ?_
          refine y_get hC fX6_155 dX6_carryOut_51 (k := 0) (by omega) hM_43.a0 rfl ?_
          refine y_aload_n hC dX6_carryOut_54 (i := 0) rfl rfl ?_
          refine y_get hC fX6_25 dX6_carryOut_55 (k := 0) (by omega) hM_43.a0 rfl ?_
          refine y_aload_n hC dX6_carryOut_58 (i := 0) rfl rfl ?_
          refine y_get hC fX6_143 dX6_carryOut_59 (k := 0) (by omega) hM_43.a0 rfl ?_
          refine y_iald hC dX6_carryOut_62 (k := 6) (j := i) (by omega) hM_43.a6 (rfl) (by omega) (by decide) ?_
          refine y_top (y := nI (sgn ln T (i))) (hts i (by omega)) ?_
          refine y_bipush (v := nI 48) hC dX6_carryOut_63 (by decide) ?_
          refine y_isub_n hC dX6_carryOut_65 (by omega) ?_
          refine y_iast hC dX6_carryOut_66 (k := 8) (j := d + 1) (by omega) hM_43.a8 (rfl) (by omega) (by decide) ?_
          have hM_66 : MX E (va_up g_43 (8) (aI E 0 32 (upd tm (d + 1) (nI ((sgn ln T (i)) - (48)))))) row1 B C (tx, nI (ln)) (nI (i), nI (d + 1), P.2.2.1, (upd tm (d + 1) (nI ((sgn ln T (i)) - (48)))), bg, (P.2.2.2.2.2.1), (P.2.2.2.2.2.2.1), (P.2.2.2.2.2.2.2)) := hM_43.u8 _
          generalize (va_up g_43 (8) (aI E 0 32 (upd tm (d + 1) (nI ((sgn ln T (i)) - (48)))))) = g_66 at hM_66 ⊢
          refine y_aload_n hC dX6_carryOut_67 (i := 0) rfl rfl ?_
          refine y_get hC fX6_35 dX6_carryOut_68 (k := 0) (by omega) hM_66.a0 rfl ?_
          refine y_aload_n hC dX6_carryOut_71 (i := 0) rfl rfl ?_
          refine y_get hC fX6_155 dX6_carryOut_72 (k := 0) (by omega) hM_66.a0 rfl ?_
          refine y_aload_n hC dX6_carryOut_75 (i := 0) rfl rfl ?_
          refine y_get hC fX6_143 dX6_carryOut_76 (k := 0) (by omega) hM_66.a0 rfl ?_
          refine y_iconst (v := nI 2) hC dX6_carryOut_79 (by decide) ?_
          refine y_iadd_n hC dX6_carryOut_80 ?_
          refine y_iast hC dX6_carryOut_81 (k := 9) (j := d + 1) (by omega) hM_66.a9 (rfl) (by omega) (by decide) ?_
          have hM_81 : MX E (va_up g_66 (9) (aI E 0 32 (upd bg (d + 1) (nI (i + 2))))) row1 B C (tx, nI (ln)) (nI (i), nI (d + 1), P.2.2.1, (upd tm (d + 1) (nI ((sgn ln T (i)) - (48)))), (upd bg (d + 1) (nI (i + 2))), (P.2.2.2.2.2.1), (P.2.2.2.2.2.2.1), (P.2.2.2.2.2.2.2)) := hM_66.u9 _
          generalize (va_up g_66 (9) (aI E 0 32 (upd bg (d + 1) (nI (i + 2))))) = g_81 at hM_81 ⊢
          refine y_aload_n hC dX6_carryOut_82 (i := 0) rfl rfl ?_
          refine y_dup hC dX6_carryOut_83 rfl ?_
          refine y_get hC fX6_143 dX6_carryOut_84 (k := 0) (by omega) hM_81.a0 rfl ?_
          refine y_iconst (v := nI 2) hC dX6_carryOut_87 (by decide) ?_
          refine y_iadd_n hC dX6_carryOut_88 ?_
          refine y_put hC fpX6_143 dX6_carryOut_89 (k := 0) (by omega) hM_81.a0 (Nat.le_of_ble_eq_true rfl) (rfl) (rfl) (fs' := [rf E (1), rf E (2), .int (B.2.1), rf E (3), .int (B.2.2.2), rf E (4), rf E (5), rf E (6), .int (nI (ln)), .int (nI (i + 2)), .int (nI (d + 1)), rf E (7), rf E (8), rf E (9), .int (P.2.2.2.2.2.1), .int (P.2.2.2.2.2.2.1), .int (P.2.2.2.2.2.2.2), rf E (10), rf E (11)]) rfl ?_
          have hM_89 : MX E (va_up g_81 (0) (oB 6 [rf E (1), rf E (2), .int (B.2.1), rf E (3), .int (B.2.2.2), rf E (4), rf E (5), rf E (6), .int (nI (ln)), .int (nI (i + 2)), .int (nI (d + 1)), rf E (7), rf E (8), rf E (9), .int (P.2.2.2.2.2.1), .int (P.2.2.2.2.2.2.1), .int (P.2.2.2.2.2.2.2), rf E (10), rf E (11)])) row1 B C (tx, nI (ln)) (nI (i + 2), nI (d + 1), P.2.2.1, (upd tm (d + 1) (nI ((sgn ln T (i)) - (48)))), (upd bg (d + 1) (nI (i + 2))), (P.2.2.2.2.2.1), (P.2.2.2.2.2.2.1), (P.2.2.2.2.2.2.2)) := hM_81.u0 ((B.2.1)) ((B.2.2.2)) (nI (ln)) (nI (i + 2)) (nI (d + 1)) ((P.2.2.2.2.2.1)) ((P.2.2.2.2.2.2.1)) ((P.2.2.2.2.2.2.2))
          generalize (va_up g_81 (0) (oB 6 [rf E (1), rf E (2), .int (B.2.1), rf E (3), .int (B.2.2.2), rf E (4), rf E (5), rf E (6), .int (nI (ln)), .int (nI (i + 2)), .int (nI (d + 1)), rf E (7), rf E (8), rf E (9), .int (P.2.2.2.2.2.1), .int (P.2.2.2.2.2.2.1), .int (P.2.2.2.2.2.2.2), rf E (10), rf E (11)])) = g_89 at hM_89 ⊢
          refine y_goto (tgt := 10) hC dX6_carryOut_92 (by decide) ?_
          exact ih_10 k0 B1 (d + 1) (i + 2) (va_up sf d (i + 2)) (va_up tf d (sgn ln T i - 48)) r1 g_89 row1 (upd bg (d + 1) (nI (i + 2))) (upd tm (d + 1) (nI ((sgn ln T (i)) - (48)))) (by omega) hM_89 hR1 (fun j hj => by
              by_cases e : j = d
              · rw [e, pk_us, va_up_self]
              · rw [pk_un (by omega), va_up_ne _ _ e]; exact hSb j (by omega)) (fun j hj => by
              by_cases e : j = d
              · rw [e, pk_us, va_up_self]
              · rw [pk_un (by omega), va_up_ne _ _ e]; exact hTm j (by omega)) e5 (by omega) (by omega)
  exact L_10 (n + 1) n B0 0 0 sf0 tf0 r g_7 row P.2.2.2.2.1 P.2.2.2.1 (by omega) hM_7 hR (fun _ hj => absurd hj (Nat.not_lt_zero _)) (fun _ hj => absurd hj (Nat.not_lt_zero _)) hrun (by omega) (by omega)

theorem dX6_perform_0 : decode cX6_perform 0 = .ok (.aload_n 0, 1) := by decide +kernel
theorem dX6_perform_1 : decode cX6_perform 1 = .ok (.invokevirtual 186, 3) := by decide +kernel
theorem dX6_perform_4 : decode cX6_perform 4 = .ok (.ifCond .ne 11, 3) := by decide +kernel
theorem dX6_perform_7 : decode cX6_perform 7 = .ok (.bipush (-100), 2) := by decide +kernel
theorem dX6_perform_9 : decode cX6_perform 9 = .ok (.aload_n 0, 1) := by decide +kernel
theorem dX6_perform_10 : decode cX6_perform 10 = .ok (.getfield 143, 3) := by decide +kernel
theorem dX6_perform_13 : decode cX6_perform 13 = .ok (.isub, 1) := by decide +kernel
theorem dX6_perform_14 : decode cX6_perform 14 = .ok (.ireturn, 1) := by decide +kernel
theorem dX6_perform_15 : decode cX6_perform 15 = .ok (.aload_n 0, 1) := by decide +kernel
theorem dX6_perform_16 : decode cX6_perform 16 = .ok (.getfield 161, 3) := by decide +kernel
theorem dX6_perform_19 : decode cX6_perform 19 = .ok (.aload_n 0, 1) := by decide +kernel
theorem dX6_perform_20 : decode cX6_perform 20 = .ok (.getfield 7, 3) := by decide +kernel
theorem dX6_perform_23 : decode cX6_perform 23 = .ok (.bipush 32, 2) := by decide +kernel
theorem dX6_perform_25 : decode cX6_perform 25 = .ok (.iaload, 1) := by decide +kernel
theorem dX6_perform_26 : decode cX6_perform 26 = .ok (.if_icmp .lt 5, 3) := by decide +kernel
theorem dX6_perform_29 : decode cX6_perform 29 = .ok (.iconst (-1), 1) := by decide +kernel
theorem dX6_perform_30 : decode cX6_perform 30 = .ok (.ireturn, 1) := by decide +kernel
theorem dX6_perform_31 : decode cX6_perform 31 = .ok (.aload_n 0, 1) := by decide +kernel
theorem dX6_perform_32 : decode cX6_perform 32 = .ok (.getfield 152, 3) := by decide +kernel
theorem dX6_perform_35 : decode cX6_perform 35 = .ok (.sipush 5000, 3) := by decide +kernel
theorem dX6_perform_38 : decode cX6_perform 38 = .ok (.if_icmp .gt 13, 3) := by decide +kernel
theorem dX6_perform_41 : decode cX6_perform 41 = .ok (.aload_n 0, 1) := by decide +kernel
theorem dX6_perform_42 : decode cX6_perform 42 = .ok (.getfield 171, 3) := by decide +kernel
theorem dX6_perform_45 : decode cX6_perform 45 = .ok (.sipush 5000, 3) := by decide +kernel
theorem dX6_perform_48 : decode cX6_perform 48 = .ok (.if_icmp .le 6, 3) := by decide +kernel
theorem dX6_perform_51 : decode cX6_perform 51 = .ok (.bipush (-3), 2) := by decide +kernel
theorem dX6_perform_53 : decode cX6_perform 53 = .ok (.ireturn, 1) := by decide +kernel
theorem dX6_perform_54 : decode cX6_perform 54 = .ok (.aload_n 0, 1) := by decide +kernel
theorem dX6_perform_55 : decode cX6_perform 55 = .ok (.invokevirtual 57, 3) := by decide +kernel
theorem dX6_perform_58 : decode cX6_perform 58 = .ok (.aload_n 0, 1) := by decide +kernel
theorem dX6_perform_59 : decode cX6_perform 59 = .ok (.getfield 7, 3) := by decide +kernel
theorem dX6_perform_62 : decode cX6_perform 62 = .ok (.sipush 156, 3) := by decide +kernel
theorem dX6_perform_65 : decode cX6_perform 65 = .ok (.iaload, 1) := by decide +kernel
theorem dX6_perform_66 : decode cX6_perform 66 = .ok (.istore_n 1, 1) := by decide +kernel
theorem dX6_perform_67 : decode cX6_perform 67 = .ok (.aload_n 0, 1) := by decide +kernel
theorem dX6_perform_68 : decode cX6_perform 68 = .ok (.invokevirtual 189, 3) := by decide +kernel
theorem dX6_perform_71 : decode cX6_perform 71 = .ok (.aload_n 0, 1) := by decide +kernel
theorem dX6_perform_72 : decode cX6_perform 72 = .ok (.getfield 7, 3) := by decide +kernel
theorem dX6_perform_75 : decode cX6_perform 75 = .ok (.sipush 156, 3) := by decide +kernel
theorem dX6_perform_78 : decode cX6_perform 78 = .ok (.iaload, 1) := by decide +kernel
theorem dX6_perform_79 : decode cX6_perform 79 = .ok (.iload_n 1, 1) := by decide +kernel
theorem dX6_perform_80 : decode cX6_perform 80 = .ok (.isub, 1) := by decide +kernel
theorem dX6_perform_81 : decode cX6_perform 81 = .ok (.ireturn, 1) := by decide +kernel
set_option maxHeartbeats 4000000 in
set_option maxRecDepth 100000 in
theorem c_X6_perform (l : Launch) (E : gE) (g : Mem) (S : AS) (Bd : Nat) (hB : Bd < 90000000) (ho : OK S Bd) (hZ : MZ E g S) (hB8 : Bd < 80000000) : Mt l E yX6_perform cX6_perform 2 (some .int) 6 131 [rf E (0)] g (pI (fun z g' => z = (qPerform S ).1 ∧ MZ E g' (qPerform S ).2)) := by
  have hv := ho.v
  have hrc : rc S.r ≤ 6 := hv.1.2
  have hgc : gc S.r ≤ 4 := hv.2.1.2
  have hc4 := ho.c4
  have hkp1 := ho.2.2.1
  have hl60 : S.ln ≤ 60 := ho.2.2.2.2.2.1
  refine mt_go (own := RX6) (by decide) rfl (lo := [some (rf E (0)), none]) rfl (Nat.le_of_ble_eq_true rfl) (fun X hC => ?_)
  obtain ⟨row, hi, sn, tx, C, P, hM, hR, hH, hS, hT⟩ := hZ
  have hK := hM.k
  have hTb := ho.2.2.2.2.2.2
  refine y_aload_n hC dX6_perform_0 (i := 0) rfl rfl ?_
  refine y_callV hC mX6_isProgram kX6_186 dX6_perform_1 (b := 0) (As := []) (rest := []) (c_X6_isProgram l E g row (hi, nI (S.c), sn, nI (S.kp)) C tx S.ln P hM S.tx hl60 hT hTb) (by omega) hM.a0 rfl rfl rfl (Nat.le_of_ble_eq_true rfl) ⟨Nat.le_of_ble_eq_true rfl, Nat.le_of_ble_eq_true rfl⟩ (pk_i ?_)
  rintro r_1 g_1 ⟨P2, hM2, hr_1, hkk, hno⟩
  rw [hr_1]
  clear hr_1 r_1
  have hcl : (ctS S).1 ≤ 5001 ∧ (ctS S).2 ≤ 5001 := cT_le (by decide) (by decide)
  refine y_if_ne_b (tgt := 15) hC dX6_perform_4 (by decide) (fun c_4 => ?_) (fun c_4 => ?_)
  · have hft : ft (sgn S.ln S.tx) S.ln 60 0 0 true = none := Option.isNone_iff_eq_none.mp c_4
    obtain ⟨hn1, hn2, hn3⟩ := hno hft
    have hdg := fun k (hk : k < S.ln) => ft_dig (s := sgn S.ln S.tx) (n := 60) (by omega) hft k (Nat.zero_le _) hk
    have hhi := hiN_le (s := sgn S.ln S.tx) (fun k hk hq => ⟨(hdg k hk hq).1, by have := (hdg k hk hq).2; omega⟩) S.ln (Nat.le_refl _)
    refine y_aload_n hC dX6_perform_15 (i := 0) rfl rfl ?_
    refine y_get hC fX6_161 dX6_perform_16 (k := 0) (by omega) hM2.a0 rfl ?_
    refine y_top (y := grI (hiN (sgn S.ln S.tx) S.ln)) hn3 ?_
    refine y_aload_n hC dX6_perform_19 (i := 0) rfl rfl ?_
    refine y_get hC fX6_7 dX6_perform_20 (k := 0) (by omega) hM2.a0 rfl ?_
    refine y_bipush (v := nI 32) hC dX6_perform_23 (by decide) ?_
    refine y_iald hC dX6_perform_25 (k := 1) (j := 32) (by omega) hM2.a1 (rfl) (by omega) (by decide) ?_
    refine y_top (y := nI (rc S.r)) ((hR 32 (by decide)).trans hv.1.1) ?_
    refine y_icmp_lt (tgt := 31) hC dX6_perform_26 (by decide) (fun c_26 => ?_) (fun c_26 => ?_)
    · refine y_aload_n hC dX6_perform_31 (i := 0) rfl rfl ?_
      refine y_get hC fX6_152 dX6_perform_32 (k := 0) (by omega) hM2.a0 rfl ?_
      refine y_top (y := nI ((ctS S).1)) (hn1) ?_
      refine y_sipush (v := nI 5000) hC dX6_perform_35 (by decide) ?_
      refine y_icmp_gt_n (tgt := 51) hC dX6_perform_38 (by decide) (by omega) (by omega) (fun c_38 => ?_) (fun c_38 => ?_)
      · refine y_bipush (v := (-3)) hC dX6_perform_51 (by decide) ?_
        refine y_iret (hC := hC) (hd := dX6_perform_53) (hq := ?_)
        have hqq : qPerform S  = (-3, S) := by simp only [qPerform, hft, if_neg (show ¬ rc S.r < hiN (sgn S.ln S.tx) S.ln from Nat.not_lt.mpr ((gr_lt (by omega) (by omega)).mp c_26)), if_pos (show 5000 < (ctS S).1 ∨ 5000 < (ctS S).2 from Or.inl c_38)]
        rw [hqq]
        exact ⟨rfl, ⟨row, hi, sn, tx, C, P2, hM2, hR, hH, hS, hT⟩⟩
      · refine y_aload_n hC dX6_perform_41 (i := 0) rfl rfl ?_
        refine y_get hC fX6_171 dX6_perform_42 (k := 0) (by omega) hM2.a0 rfl ?_
        refine y_top (y := nI ((ctS S).2)) (hn2) ?_
        refine y_sipush (v := nI 5000) hC dX6_perform_45 (by decide) ?_
        refine y_icmp_le_n (tgt := 54) hC dX6_perform_48 (by decide) (by omega) (by omega) (fun c_48 => ?_) (fun c_48 => ?_)
        · have hrl : hiN (sgn S.ln S.tx) S.ln ≤ rc S.r := (gr_lt (by omega) (by omega)).mp c_26
          refine y_aload_n hC dX6_perform_54 (i := 0) rfl rfl ?_
          refine y_callV hC mX6_record kX6_57 dX6_perform_55 (b := 0) (As := []) (rest := []) (c_X6_record l E g_1 S Bd hB ho ⟨row, hi, sn, tx, C, P2, hM2, hR, hH, hS, hT⟩) (by omega) hM2.a0 rfl rfl rfl (Nat.le_of_ble_eq_true rfl) ⟨Nat.le_of_ble_eq_true rfl, Nat.le_of_ble_eq_true rfl⟩ (pk_v ?_)
          rintro g_55 hz_55
          obtain ⟨row_55, hi_55, sn_55, tx_55, C_55, P_55, hM_55, hR_55, hH_55, hS_55, hT_55⟩ := hz_55
          have hK_55 := hM_55.k
          obtain ⟨n, hn9, hrun, hvf, htk0⟩ := prog (s := sgn S.ln S.tx) (ln := S.ln) sz hl60 hv hB8 hrl hft (show (ctS S).1 ≤ 5000 by omega) (show (ctS S).2 ≤ 5000 by omega)
          have htk : nn (exS S 156) = nn (S.r 156) + (ctS S).1 := htk0
          refine y_aload_n hC dX6_perform_58 (i := 0) rfl rfl ?_
          refine y_get hC fX6_7 dX6_perform_59 (k := 0) (by omega) hM_55.a0 rfl ?_
          refine y_sipush (v := nI 156) hC dX6_perform_62 (by decide) ?_
          refine y_iald hC dX6_perform_65 (k := 1) (j := 156) (by omega) hM_55.a1 (rfl) (by omega) (by decide) ?_
          refine y_top (y := nI (nn (S.r 156))) ((hR_55 156 (by decide)).trans hv.2.2.2.2.2.2.2.1.1) ?_
          refine y_istore_n hC dX6_perform_66 (i := 1) rfl (Nat.le_of_ble_eq_true rfl) rfl (lo' := [some (rf E (0)), some (.int (nI (nn (S.r 156))))]) rfl ?_
          refine y_aload_n hC dX6_perform_67 (i := 0) rfl rfl ?_
          refine y_callV hC mX6_carryOut kX6_189 dX6_perform_68 (b := 0) (As := []) (rest := []) (c_X6_carryOut l E g_55 row_55 (hi_55, nI (S.rec.c), sn_55, nI (S.rec.kp)) C_55 tx_55 S.ln P_55 hM_55 S.tx hl60 hT_55 hTb S.r (exS S) Bd n (fun _ => 0) (fun _ => 0) hR_55 (hrun _ _)) (by omega) hM_55.a0 rfl rfl rfl (Nat.le_of_ble_eq_true rfl) ⟨Nat.le_of_ble_eq_true rfl, Nat.le_of_ble_eq_true rfl⟩ (pk_v ?_)
          rintro g_68 h68
          obtain ⟨row2, P3, hM3, hR3⟩ := h68
          refine y_aload_n hC dX6_perform_71 (i := 0) rfl rfl ?_
          refine y_get hC fX6_7 dX6_perform_72 (k := 0) (by omega) hM3.a0 rfl ?_
          refine y_sipush (v := nI 156) hC dX6_perform_75 (by decide) ?_
          refine y_iald hC dX6_perform_78 (k := 1) (j := 156) (by omega) hM3.a1 (rfl) (by omega) (by decide) ?_
          refine y_top (y := nI (nn (exS S 156))) ((hR3 156 (by decide)).trans hvf.2.2.2.2.2.2.2.1.1) ?_
          refine y_iload_n hC dX6_perform_79 (i := 1) rfl rfl ?_
          refine y_isub_n hC dX6_perform_80 (by omega) ?_
          refine y_top (y := nI ((ctS S).1)) (congrArg nI (by omega)) ?_
          refine y_iret (hC := hC) (hd := dX6_perform_81) (hq := ?_)
          have hqq : qPerform S  = (nI (ctS S).1, S.rec.row (exS S)) := by simp only [qPerform, hft, if_neg (show ¬ rc S.r < hiN (sgn S.ln S.tx) S.ln from Nat.not_lt.mpr ((gr_lt (by omega) (by omega)).mp c_26)), if_neg (show ¬ (5000 < (ctS S).1 ∨ 5000 < (ctS S).2) by omega)]
          rw [hqq]
          exact ⟨rfl, ⟨row2, hi_55, sn_55, tx_55, C_55, P3, hM3, hR3, hH_55, hS_55, hT_55⟩⟩
        · refine y_bipush (v := (-3)) hC dX6_perform_51 (by decide) ?_
          refine y_iret (hC := hC) (hd := dX6_perform_53) (hq := ?_)
          have hqq : qPerform S  = (-3, S) := by simp only [qPerform, hft, if_neg (show ¬ rc S.r < hiN (sgn S.ln S.tx) S.ln from Nat.not_lt.mpr ((gr_lt (by omega) (by omega)).mp c_26)), if_pos (show 5000 < (ctS S).1 ∨ 5000 < (ctS S).2 by omega)]
          rw [hqq]
          exact ⟨rfl, ⟨row, hi, sn, tx, C, P2, hM2, hR, hH, hS, hT⟩⟩
    · refine y_iconst (v := (-1)) hC dX6_perform_29 (by decide) ?_
      refine y_iret (hC := hC) (hd := dX6_perform_30) (hq := ?_)
      have hqq : qPerform S  = (-1, S) := by simp only [qPerform, hft, if_pos (show rc S.r < hiN (sgn S.ln S.tx) S.ln from Nat.lt_of_not_le (fun q => c_26 ((gr_lt (by omega) (by omega)).mpr q)))]
      rw [hqq]
      exact ⟨rfl, ⟨row, hi, sn, tx, C, P2, hM2, hR, hH, hS, hT⟩⟩
  · obtain ⟨k, hft⟩ : ∃ k, ft (sgn S.ln S.tx) S.ln 60 0 0 true = some k := by
      cases e : ft (sgn S.ln S.tx) S.ln 60 0 0 true with
      | none => rw [e] at c_4; exact absurd rfl c_4
      | some k => exact ⟨k, rfl⟩
    refine y_bipush (v := (-100)) hC dX6_perform_7 (by decide) ?_
    refine y_aload_n hC dX6_perform_9 (i := 0) rfl rfl ?_
    refine y_get hC fX6_143 dX6_perform_10 (k := 0) (by omega) hM2.a0 rfl ?_
    refine y_top (y := nI (k)) (hkk k hft) ?_
    refine y_isub hC dX6_perform_13 ?_
    refine y_iret (hC := hC) (hd := dX6_perform_14) (hq := ?_)
    have hqq : qPerform S  = (-100 - nI k, S) := by simp only [qPerform, hft]
    rw [hqq]
    exact ⟨rfl, ⟨row, hi, sn, tx, C, P2, hM2, hR, hH, hS, hT⟩⟩

