/-! ===== the model: the calls that change it ===== -/
/-- seven, four words written one after the other -/
theorem up7 {row : Nat → Int32} {a k : Nat} {v0 v1 v2 v3 v4 v5 v6 : Int32} : upd (upd (upd (upd (upd (upd (upd row (a + 0) v0) (a + 1) v1) (a + 2) v2) (a + 3) v3) (a + 4) v4) (a + 5) v5) (a + 6) v6 k = if a ≤ k ∧ k < a + 7 then v7 v0 v1 v2 v3 v4 v5 v6 (k - a) else row k := by
  by_cases q : a ≤ k ∧ k < a + 7
  · rw [if_pos q]
    obtain ⟨j, rfl⟩ : ∃ j, k = a + j := ⟨k - a, by omega⟩
    rw [show a + j - a = j by omega]
    rcases (show j = 0 ∨ j = 1 ∨ j = 2 ∨ j = 3 ∨ j = 4 ∨ j = 5 ∨ j = 6 by omega) with rfl | rfl | rfl | rfl | rfl | rfl | rfl
    · rw [pk_un (by omega), pk_un (by omega), pk_un (by omega), pk_un (by omega), pk_un (by omega), pk_un (by omega), pk_us]; rfl
    · rw [pk_un (by omega), pk_un (by omega), pk_un (by omega), pk_un (by omega), pk_un (by omega), pk_us]; rfl
    · rw [pk_un (by omega), pk_un (by omega), pk_un (by omega), pk_un (by omega), pk_us]; rfl
    · rw [pk_un (by omega), pk_un (by omega), pk_un (by omega), pk_us]; rfl
    · rw [pk_un (by omega), pk_un (by omega), pk_us]; rfl
    · rw [pk_un (by omega), pk_us]; rfl
    · rw [pk_us]; rfl
  · rw [if_neg q, pk_un (by omega), pk_un (by omega), pk_un (by omega), pk_un (by omega), pk_un (by omega), pk_un (by omega), pk_un (by omega)]
theorem up4 {row : Nat → Int32} {a k : Nat} {v0 v1 v2 v3 : Int32} : upd (upd (upd (upd row (a + 0) v0) (a + 1) v1) (a + 2) v2) (a + 3) v3 k = if a ≤ k ∧ k < a + 4 then v4 v0 v1 v2 v3 (k - a) else row k := by
  by_cases q : a ≤ k ∧ k < a + 4
  · rw [if_pos q]
    obtain ⟨j, rfl⟩ : ∃ j, k = a + j := ⟨k - a, by omega⟩
    rw [show a + j - a = j by omega]
    rcases (show j = 0 ∨ j = 1 ∨ j = 2 ∨ j = 3 by omega) with rfl | rfl | rfl | rfl
    · rw [pk_un (by omega), pk_un (by omega), pk_un (by omega), pk_us]; rfl
    · rw [pk_un (by omega), pk_un (by omega), pk_us]; rfl
    · rw [pk_un (by omega), pk_us]; rfl
    · rw [pk_us]; rfl
  · rw [if_neg q, pk_un (by omega), pk_un (by omega), pk_un (by omega), pk_un (by omega)]
theorem dX6_show_0 : decode cX6_show 0 = .ok (.iconst 0, 1) := by decide +kernel
theorem dX6_show_1 : decode cX6_show 1 = .ok (.istore_n 1, 1) := by decide +kernel
theorem dX6_show_2 : decode cX6_show 2 = .ok (.iload_n 1, 1) := by decide +kernel
theorem dX6_show_3 : decode cX6_show 3 = .ok (.bipush 32, 2) := by decide +kernel
theorem dX6_show_5 : decode cX6_show 5 = .ok (.if_icmp .ge 20, 3) := by decide +kernel
theorem dX6_show_8 : decode cX6_show 8 = .ok (.aload_n 0, 1) := by decide +kernel
theorem dX6_show_9 : decode cX6_show 9 = .ok (.getfield 22, 3) := by decide +kernel
theorem dX6_show_12 : decode cX6_show 12 = .ok (.iload_n 1, 1) := by decide +kernel
theorem dX6_show_13 : decode cX6_show 13 = .ok (.aload_n 0, 1) := by decide +kernel
theorem dX6_show_14 : decode cX6_show 14 = .ok (.iload_n 1, 1) := by decide +kernel
theorem dX6_show_15 : decode cX6_show 15 = .ok (.invokevirtual 96, 3) := by decide +kernel
theorem dX6_show_18 : decode cX6_show 18 = .ok (.iastore, 1) := by decide +kernel
theorem dX6_show_19 : decode cX6_show 19 = .ok (.iinc 1 1, 3) := by decide +kernel
theorem dX6_show_22 : decode cX6_show 22 = .ok (.goto (-20), 3) := by decide +kernel
theorem dX6_show_25 : decode cX6_show 25 = .ok (.return_, 1) := by decide +kernel
set_option maxHeartbeats 4000000 in
set_option maxRecDepth 100000 in
theorem c_X6_show (l : Launch) (E : gE) (g : Mem) (row : Nat → Int32) (B : GB) (C : GC) (D : GD) (P : GP) (hM : MX E g row B C D P) (r : Row) (Bd : Nat) (hB : Bd < 95000000) (hR : ∀ k, k < 158 → row k = r k) (hv : Vr r Bd) : Mt l E yX6_show cX6_show 2 none 5 112 [rf E (0)] g (pV (fun g' => ∃ co2, (∀ k, k < 32 → co2 k = shd r k 0) ∧ MX E g' row B (C.1, co2, C.2.2) D P)) := by
  have hK := hM.k
  have hrc : rc r ≤ 6 := hv.1.2
  have hgc : gc r ≤ 4 := hv.2.1.2
  refine mt_go (own := RX6) (by decide) rfl (lo := [some (rf E (0)), none]) rfl (Nat.le_of_ble_eq_true rfl) (fun X hC => ?_)
  refine y_iconst (v := nI 0) hC dX6_show_0 (by decide) ?_
  refine y_istore_n hC dX6_show_1 (i := 1) rfl (Nat.le_of_ble_eq_true rfl) rfl (lo' := [some (rf E (0)), some (.int (nI (0)))]) rfl ?_
  have L_2 : ∀ (m : Nat) (i : Nat) (g1 : Mem) (co1 : Nat → Int32), (hm : 32 - i < m) → (hi : i ≤ 32) → (hM1 : MX E g1 row B (C.1, co1, C.2.2.1, C.2.2.2) D P) → (hk : ∀ k, k < i → co1 k = shd r k 0) → Y l E X (pV (fun g' => ∃ co2, (∀ k, k < 32 → co2 k = shd r k 0) ∧ MX E g' row B (C.1, co2, C.2.2) D P)) 2 [some (rf E (0)), some (.int (nI (i)))] [] g1 := by
    intro m
    induction m with
    | zero => intro i g1 co1 hm hi hM1 hk; exact absurd hm (Nat.not_lt_zero _)
    | succ m ih_2 =>
      intro i g1 co1 hm hi hM1 hk
      refine y_iload_n hC dX6_show_2 (i := 1) rfl rfl ?_
      refine y_bipush (v := nI 32) hC dX6_show_3 (by decide) ?_
      refine y_icmp_ge_n (tgt := 25) hC dX6_show_5 (by decide) (by omega) (by omega) (fun c_5 => ?_) (fun c_5 => ?_)
      · refine y_vret (hC := hC) (hd := dX6_show_25) (hq := ?_)
        exact ⟨co1, fun k hk2 => hk k (by omega), hM1⟩
      · refine y_aload_n hC dX6_show_8 (i := 0) rfl rfl ?_
        refine y_get hC fX6_22 dX6_show_9 (k := 0) (by omega) hM1.a0 rfl ?_
        refine y_iload_n hC dX6_show_12 (i := 1) rfl rfl ?_
        refine y_aload_n hC dX6_show_13 (i := 0) rfl rfl ?_
        refine y_iload_n hC dX6_show_14 (i := 1) rfl rfl ?_
        refine y_callV hC mX6_shownAt kX6_96 dX6_show_15 (b := 0) (As := [.int (nI (i))]) (rest := [.int (nI (i)), rf E (5)]) (c_X6_shownAt l E g1 row B (C.1, co1, C.2.2.1, C.2.2.2) D P hM1 r Bd (by omega) hR hv i (by omega)) (by omega) hM1.a0 rfl rfl rfl (Nat.le_of_ble_eq_true rfl) ⟨Nat.le_of_ble_eq_true rfl, Nat.le_of_ble_eq_true rfl⟩ (pk_i ?_)
        rintro r_15 g_15 ⟨hr_15, hq_15⟩
        obtain rfl := hq_15.symm
        rw [hr_15]
        clear hr_15 r_15
        refine y_iast hC dX6_show_18 (k := 5) (j := i) (by omega) hM1.a5 (rfl) (by omega) (by decide) ?_
        have hM_18 : MX E (va_up g1 (5) (aI E 0 32 (upd co1 (i) ((shd r i 0))))) row B (C.1, (upd co1 (i) ((shd r i 0))), C.2.2.1, C.2.2.2) D P := hM1.u5 _
        generalize (va_up g1 (5) (aI E 0 32 (upd co1 (i) ((shd r i 0))))) = g_18 at hM_18 ⊢
        refine y_iinc_n hC dX6_show_19 (a := i) (k := 1) rfl (by decide) (Nat.le_of_ble_eq_true rfl) rfl (lo' := [some (rf E (0)), some (.int (nI (i + 1)))]) rfl ?_
        refine y_goto (tgt := 2) hC dX6_show_22 (by decide) ?_
        exact ih_2 (i + 1) g_18 _ (by omega) (by omega) hM_18 (fun k hk2 => by
            by_cases e : k = i
            · rw [e, pk_us]
            · rw [pk_un e]; exact hk k (by omega))
  exact L_2 33 0 g C.2.1 (by omega) (by omega) hM (fun k hk => absurd hk (Nat.not_lt_zero k))

theorem dX6_undo_0 : decode cX6_undo 0 = .ok (.aload_n 0, 1) := by decide +kernel
theorem dX6_undo_1 : decode cX6_undo 1 = .ok (.getfield 49, 3) := by decide +kernel
theorem dX6_undo_4 : decode cX6_undo 4 = .ok (.ifCond .ne 6, 3) := by decide +kernel
theorem dX6_undo_7 : decode cX6_undo 7 = .ok (.bipush (-5), 2) := by decide +kernel
theorem dX6_undo_9 : decode cX6_undo 9 = .ok (.ireturn, 1) := by decide +kernel
theorem dX6_undo_10 : decode cX6_undo 10 = .ok (.aload_n 0, 1) := by decide +kernel
theorem dX6_undo_11 : decode cX6_undo 11 = .ok (.dup, 1) := by decide +kernel
theorem dX6_undo_12 : decode cX6_undo 12 = .ok (.getfield 49, 3) := by decide +kernel
theorem dX6_undo_15 : decode cX6_undo 15 = .ok (.iconst 1, 1) := by decide +kernel
theorem dX6_undo_16 : decode cX6_undo 16 = .ok (.isub, 1) := by decide +kernel
theorem dX6_undo_17 : decode cX6_undo 17 = .ok (.putfield 49, 3) := by decide +kernel
theorem dX6_undo_20 : decode cX6_undo 20 = .ok (.iconst 0, 1) := by decide +kernel
theorem dX6_undo_21 : decode cX6_undo 21 = .ok (.istore_n 1, 1) := by decide +kernel
theorem dX6_undo_22 : decode cX6_undo 22 = .ok (.iload_n 1, 1) := by decide +kernel
theorem dX6_undo_23 : decode cX6_undo 23 = .ok (.sipush 158, 3) := by decide +kernel
theorem dX6_undo_26 : decode cX6_undo 26 = .ok (.if_icmp .ge 30, 3) := by decide +kernel
theorem dX6_undo_29 : decode cX6_undo 29 = .ok (.aload_n 0, 1) := by decide +kernel
theorem dX6_undo_30 : decode cX6_undo 30 = .ok (.getfield 7, 3) := by decide +kernel
theorem dX6_undo_33 : decode cX6_undo 33 = .ok (.iload_n 1, 1) := by decide +kernel
theorem dX6_undo_34 : decode cX6_undo 34 = .ok (.aload_n 0, 1) := by decide +kernel
theorem dX6_undo_35 : decode cX6_undo 35 = .ok (.getfield 13, 3) := by decide +kernel
theorem dX6_undo_38 : decode cX6_undo 38 = .ok (.sipush 158, 3) := by decide +kernel
theorem dX6_undo_41 : decode cX6_undo 41 = .ok (.aload_n 0, 1) := by decide +kernel
theorem dX6_undo_42 : decode cX6_undo 42 = .ok (.getfield 49, 3) := by decide +kernel
theorem dX6_undo_45 : decode cX6_undo 45 = .ok (.imul, 1) := by decide +kernel
theorem dX6_undo_46 : decode cX6_undo 46 = .ok (.iload_n 1, 1) := by decide +kernel
theorem dX6_undo_47 : decode cX6_undo 47 = .ok (.iadd, 1) := by decide +kernel
theorem dX6_undo_48 : decode cX6_undo 48 = .ok (.iaload, 1) := by decide +kernel
theorem dX6_undo_49 : decode cX6_undo 49 = .ok (.iastore, 1) := by decide +kernel
theorem dX6_undo_50 : decode cX6_undo 50 = .ok (.iinc 1 1, 3) := by decide +kernel
theorem dX6_undo_53 : decode cX6_undo 53 = .ok (.goto (-31), 3) := by decide +kernel
theorem dX6_undo_56 : decode cX6_undo 56 = .ok (.aload_n 0, 1) := by decide +kernel
theorem dX6_undo_57 : decode cX6_undo 57 = .ok (.getfield 49, 3) := by decide +kernel
theorem dX6_undo_60 : decode cX6_undo 60 = .ok (.ireturn, 1) := by decide +kernel
set_option maxHeartbeats 4000000 in
set_option maxRecDepth 100000 in
theorem c_X6_undo (l : Launch) (E : gE) (g : Mem) (S : AS) (Bd : Nat) (hB : Bd < 90000000) (ho : OK S Bd) (hZ : MZ E g S) : Mt l E yX6_undo cX6_undo 2 (some .int) 0 0 [rf E (0)] g (pI (fun z g' => z = (qUndo S ).1 ∧ MZ E g' (qUndo S ).2)) := by
  have hv := ho.v
  have hrc : rc S.r ≤ 6 := hv.1.2
  have hgc : gc S.r ≤ 4 := hv.2.1.2
  have hc4 := ho.c4
  have hkp1 := ho.2.2.1
  have hl60 : S.ln ≤ 60 := ho.2.2.2.2.2.1
  refine mt_go (own := RX6) (by decide) rfl (lo := [some (rf E (0)), none]) rfl (Nat.le_of_ble_eq_true rfl) (fun X hC => ?_)
  obtain ⟨row, hi, sn, tx, C, P, hM, hR, hH, hS, hT⟩ := hZ
  have hK := hM.k
  refine y_aload_n hC dX6_undo_0 (i := 0) rfl rfl ?_
  refine y_get hC fX6_49 dX6_undo_1 (k := 0) (by omega) hM.a0 rfl ?_
  refine y_if_ne_n (tgt := 10) hC dX6_undo_4 (by decide) (by omega) (fun c_4 => ?_) (fun c_4 => ?_)
  · refine y_aload_n hC dX6_undo_10 (i := 0) rfl rfl ?_
    refine y_dup hC dX6_undo_11 rfl ?_
    refine y_get hC fX6_49 dX6_undo_12 (k := 0) (by omega) hM.a0 rfl ?_
    refine y_iconst (v := nI 1) hC dX6_undo_15 (by decide) ?_
    refine y_isub_n hC dX6_undo_16 (by omega) ?_
    refine y_put hC fpX6_49 dX6_undo_17 (k := 0) (by omega) hM.a0 (Nat.le_of_ble_eq_true rfl) (rfl) (rfl) (fs' := [rf E (1), rf E (2), .int (nI (S.c - (1))), rf E (3), .int (nI (S.kp)), rf E (4), rf E (5), rf E (6), .int (nI (S.ln)), .int (P.1), .int (P.2.1), rf E (7), rf E (8), rf E (9), .int (P.2.2.2.2.2.1), .int (P.2.2.2.2.2.2.1), .int (P.2.2.2.2.2.2.2), rf E (10), rf E (11)]) rfl ?_
    have hM_17 : MX E (va_up g (0) (oB 6 [rf E (1), rf E (2), .int (nI (S.c - (1))), rf E (3), .int (nI (S.kp)), rf E (4), rf E (5), rf E (6), .int (nI (S.ln)), .int (P.1), .int (P.2.1), rf E (7), rf E (8), rf E (9), .int (P.2.2.2.2.2.1), .int (P.2.2.2.2.2.2.1), .int (P.2.2.2.2.2.2.2), rf E (10), rf E (11)])) row (hi, nI (S.c - (1)), sn, nI (S.kp)) C (tx, nI (S.ln)) P := hM.u0 (nI (S.c - (1))) (nI (S.kp)) (nI (S.ln)) ((P.1)) ((P.2.1)) ((P.2.2.2.2.2.1)) ((P.2.2.2.2.2.2.1)) ((P.2.2.2.2.2.2.2))
    generalize (va_up g (0) (oB 6 [rf E (1), rf E (2), .int (nI (S.c - (1))), rf E (3), .int (nI (S.kp)), rf E (4), rf E (5), rf E (6), .int (nI (S.ln)), .int (P.1), .int (P.2.1), rf E (7), rf E (8), rf E (9), .int (P.2.2.2.2.2.1), .int (P.2.2.2.2.2.2.1), .int (P.2.2.2.2.2.2.2), rf E (10), rf E (11)])) = g_17 at hM_17 ⊢
    refine y_iconst (v := nI 0) hC dX6_undo_20 (by decide) ?_
    refine y_istore_n hC dX6_undo_21 (i := 1) rfl (Nat.le_of_ble_eq_true rfl) rfl (lo' := [some (rf E (0)), some (.int (nI (0)))]) rfl ?_
    have L_22 : ∀ (m : Nat) (k : Nat) (g1 : Mem) (row1 : Nat → Int32), (hm : 158 - k < m) → (hk : k ≤ 158) → (hM1 : MX E g1 row1 (hi, nI (S.c - 1), sn, nI S.kp) C (tx, nI S.ln) P) → (hk0 : ∀ j, j < k → row1 j = hi (158 * (S.c - 1) + j)) → Y l E X (pI (fun z g' => z = (qUndo S ).1 ∧ MZ E g' (qUndo S ).2)) 22 [some (rf E (0)), some (.int (nI (k)))] [] g1 := by
      intro m
      induction m with
      | zero => intro k g1 row1 hm hk hM1 hk0; exact absurd hm (Nat.not_lt_zero _)
      | succ m ih_22 =>
        intro k g1 row1 hm hk hM1 hk0
        refine y_iload_n hC dX6_undo_22 (i := 1) rfl rfl ?_
        refine y_sipush (v := nI 158) hC dX6_undo_23 (by decide) ?_
        refine y_icmp_ge_n (tgt := 56) hC dX6_undo_26 (by decide) (by omega) (by omega) (fun c_26 => ?_) (fun c_26 => ?_)
        · refine y_aload_n hC dX6_undo_56 (i := 0) rfl rfl ?_
          refine y_get hC fX6_49 dX6_undo_57 (k := 0) (by omega) hM1.a0 rfl ?_
          refine y_iret (hC := hC) (hd := dX6_undo_60) (hq := ?_)
          have hqq : qUndo S  = (nI (S.c - 1), .mk (S.hr (S.c - 1)) (S.c - 1) S.kp S.hr S.sn S.ln S.tx) := by simp only [qUndo, if_neg c_4]
          rw [hqq]
          exact ⟨rfl, ⟨row1, hi, sn, tx, C, P, hM1, fun j hj => (hk0 j (by omega)).trans (hH (S.c - 1) (by omega) j hj), fun i hi2 => hH i (Nat.lt_of_lt_of_le hi2 (Nat.sub_le _ _)), hS, hT⟩⟩
        · refine y_aload_n hC dX6_undo_29 (i := 0) rfl rfl ?_
          refine y_get hC fX6_7 dX6_undo_30 (k := 0) (by omega) hM1.a0 rfl ?_
          refine y_iload_n hC dX6_undo_33 (i := 1) rfl rfl ?_
          refine y_aload_n hC dX6_undo_34 (i := 0) rfl rfl ?_
          refine y_get hC fX6_13 dX6_undo_35 (k := 0) (by omega) hM1.a0 rfl ?_
          refine y_sipush (v := nI 158) hC dX6_undo_38 (by decide) ?_
          refine y_aload_n hC dX6_undo_41 (i := 0) rfl rfl ?_
          refine y_get hC fX6_49 dX6_undo_42 (k := 0) (by omega) hM1.a0 rfl ?_
          refine y_imul_n hC dX6_undo_45 ?_
          refine y_iload_n hC dX6_undo_46 (i := 1) rfl rfl ?_
          refine y_iadd_n hC dX6_undo_47 ?_
          refine y_iald hC dX6_undo_48 (k := 2) (j := (158 * (S.c - 1)) + k) (by omega) hM1.a2 (rfl) (by omega) (by decide) ?_
          refine y_iast hC dX6_undo_49 (k := 1) (j := k) (by omega) hM1.a1 (rfl) (by omega) (by decide) ?_
          have hM_49 : MX E (va_up g1 (1) (aI E 0 158 (upd row1 (k) ((hi ((158 * (S.c - 1)) + k)))))) ((upd row1 (k) ((hi ((158 * (S.c - 1)) + k))))) (hi, nI (S.c - 1), sn, nI (S.kp)) C (tx, nI (S.ln)) P := hM1.u1 _
          generalize (va_up g1 (1) (aI E 0 158 (upd row1 (k) ((hi ((158 * (S.c - 1)) + k)))))) = g_49 at hM_49 ⊢
          refine y_iinc_n hC dX6_undo_50 (a := k) (k := 1) rfl (by decide) (Nat.le_of_ble_eq_true rfl) rfl (lo' := [some (rf E (0)), some (.int (nI (k + 1)))]) rfl ?_
          refine y_goto (tgt := 22) hC dX6_undo_53 (by decide) ?_
          exact ih_22 (k + 1) g_49 _ (by omega) (by omega) hM_49 (fun j hj => by
              by_cases e : j = k
              · rw [e, pk_us]
              · rw [pk_un e]; exact hk0 j (by omega))
    exact L_22 159 0 g_17 row (by omega) (by omega) hM_17 (fun j hj => absurd hj (Nat.not_lt_zero j))
  · refine y_bipush (v := (-5)) hC dX6_undo_7 (by decide) ?_
    refine y_iret (hC := hC) (hd := dX6_undo_9) (hq := ?_)
    have hqq : qUndo S  = (-5, S) := by simp only [qUndo, if_pos c_4]
    rw [hqq]
    exact ⟨rfl, ⟨row, hi, sn, tx, C, P, hM, hR, hH, hS, hT⟩⟩

theorem dX6_keep_0 : decode cX6_keep 0 = .ok (.iconst 0, 1) := by decide +kernel
theorem dX6_keep_1 : decode cX6_keep 1 = .ok (.istore_n 1, 1) := by decide +kernel
theorem dX6_keep_2 : decode cX6_keep 2 = .ok (.iload_n 1, 1) := by decide +kernel
theorem dX6_keep_3 : decode cX6_keep 3 = .ok (.sipush 158, 3) := by decide +kernel
theorem dX6_keep_6 : decode cX6_keep 6 = .ok (.if_icmp .ge 21, 3) := by decide +kernel
theorem dX6_keep_9 : decode cX6_keep 9 = .ok (.aload_n 0, 1) := by decide +kernel
theorem dX6_keep_10 : decode cX6_keep 10 = .ok (.getfield 16, 3) := by decide +kernel
theorem dX6_keep_13 : decode cX6_keep 13 = .ok (.iload_n 1, 1) := by decide +kernel
theorem dX6_keep_14 : decode cX6_keep 14 = .ok (.aload_n 0, 1) := by decide +kernel
theorem dX6_keep_15 : decode cX6_keep 15 = .ok (.getfield 7, 3) := by decide +kernel
theorem dX6_keep_18 : decode cX6_keep 18 = .ok (.iload_n 1, 1) := by decide +kernel
theorem dX6_keep_19 : decode cX6_keep 19 = .ok (.iaload, 1) := by decide +kernel
theorem dX6_keep_20 : decode cX6_keep 20 = .ok (.iastore, 1) := by decide +kernel
theorem dX6_keep_21 : decode cX6_keep 21 = .ok (.iinc 1 1, 3) := by decide +kernel
theorem dX6_keep_24 : decode cX6_keep 24 = .ok (.goto (-22), 3) := by decide +kernel
theorem dX6_keep_27 : decode cX6_keep 27 = .ok (.aload_n 0, 1) := by decide +kernel
theorem dX6_keep_28 : decode cX6_keep 28 = .ok (.iconst 1, 1) := by decide +kernel
theorem dX6_keep_29 : decode cX6_keep 29 = .ok (.putfield 53, 3) := by decide +kernel
theorem dX6_keep_32 : decode cX6_keep 32 = .ok (.aload_n 0, 1) := by decide +kernel
theorem dX6_keep_33 : decode cX6_keep 33 = .ok (.getfield 7, 3) := by decide +kernel
theorem dX6_keep_36 : decode cX6_keep 36 = .ok (.bipush 32, 2) := by decide +kernel
theorem dX6_keep_38 : decode cX6_keep 38 = .ok (.iaload, 1) := by decide +kernel
theorem dX6_keep_39 : decode cX6_keep 39 = .ok (.ireturn, 1) := by decide +kernel
set_option maxHeartbeats 4000000 in
set_option maxRecDepth 100000 in
theorem c_X6_keep (l : Launch) (E : gE) (g : Mem) (S : AS) (Bd : Nat) (hB : Bd < 90000000) (ho : OK S Bd) (hZ : MZ E g S) : Mt l E yX6_keep cX6_keep 2 (some .int) 0 0 [rf E (0)] g (pI (fun z g' => z = (qKeep S ).1 ∧ MZ E g' (qKeep S ).2)) := by
  have hv := ho.v
  have hrc : rc S.r ≤ 6 := hv.1.2
  have hgc : gc S.r ≤ 4 := hv.2.1.2
  have hc4 := ho.c4
  have hkp1 := ho.2.2.1
  have hl60 : S.ln ≤ 60 := ho.2.2.2.2.2.1
  refine mt_go (own := RX6) (by decide) rfl (lo := [some (rf E (0)), none]) rfl (Nat.le_of_ble_eq_true rfl) (fun X hC => ?_)
  obtain ⟨row, hi, sn, tx, C, P, hM, hR, hH, hS, hT⟩ := hZ
  have hK := hM.k
  refine y_iconst (v := nI 0) hC dX6_keep_0 (by decide) ?_
  refine y_istore_n hC dX6_keep_1 (i := 1) rfl (Nat.le_of_ble_eq_true rfl) rfl (lo' := [some (rf E (0)), some (.int (nI (0)))]) rfl ?_
  have L_2 : ∀ (m : Nat) (k : Nat) (g1 : Mem) (sn1 : Nat → Int32), (hm : 158 - k < m) → (hk : k ≤ 158) → (hM1 : MX E g1 row (hi, nI S.c, sn1, nI S.kp) C (tx, nI S.ln) P) → (hk0 : ∀ j, j < k → sn1 j = row j) → Y l E X (pI (fun z g' => z = (qKeep S ).1 ∧ MZ E g' (qKeep S ).2)) 2 [some (rf E (0)), some (.int (nI (k)))] [] g1 := by
    intro m
    induction m with
    | zero => intro k g1 sn1 hm hk hM1 hk0; exact absurd hm (Nat.not_lt_zero _)
    | succ m ih_2 =>
      intro k g1 sn1 hm hk hM1 hk0
      refine y_iload_n hC dX6_keep_2 (i := 1) rfl rfl ?_
      refine y_sipush (v := nI 158) hC dX6_keep_3 (by decide) ?_
      refine y_icmp_ge_n (tgt := 27) hC dX6_keep_6 (by decide) (by omega) (by omega) (fun c_6 => ?_) (fun c_6 => ?_)
      · refine y_aload_n hC dX6_keep_27 (i := 0) rfl rfl ?_
        refine y_iconst (v := nI 1) hC dX6_keep_28 (by decide) ?_
        refine y_put hC fpX6_53 dX6_keep_29 (k := 0) (by omega) hM1.a0 (Nat.le_of_ble_eq_true rfl) (z01n (Or.inr rfl)) (z01f (Or.inr rfl)) (fs' := [rf E (1), rf E (2), .int (nI (S.c)), rf E (3), .int (nI (1)), rf E (4), rf E (5), rf E (6), .int (nI (S.ln)), .int (P.1), .int (P.2.1), rf E (7), rf E (8), rf E (9), .int (P.2.2.2.2.2.1), .int (P.2.2.2.2.2.2.1), .int (P.2.2.2.2.2.2.2), rf E (10), rf E (11)]) rfl ?_
        have hM_29 : MX E (va_up g1 (0) (oB 6 [rf E (1), rf E (2), .int (nI (S.c)), rf E (3), .int (nI (1)), rf E (4), rf E (5), rf E (6), .int (nI (S.ln)), .int (P.1), .int (P.2.1), rf E (7), rf E (8), rf E (9), .int (P.2.2.2.2.2.1), .int (P.2.2.2.2.2.2.1), .int (P.2.2.2.2.2.2.2), rf E (10), rf E (11)])) row (hi, nI (S.c), sn1, nI (1)) C (tx, nI (S.ln)) P := hM1.u0 (nI (S.c)) (nI (1)) (nI (S.ln)) ((P.1)) ((P.2.1)) ((P.2.2.2.2.2.1)) ((P.2.2.2.2.2.2.1)) ((P.2.2.2.2.2.2.2))
        generalize (va_up g1 (0) (oB 6 [rf E (1), rf E (2), .int (nI (S.c)), rf E (3), .int (nI (1)), rf E (4), rf E (5), rf E (6), .int (nI (S.ln)), .int (P.1), .int (P.2.1), rf E (7), rf E (8), rf E (9), .int (P.2.2.2.2.2.1), .int (P.2.2.2.2.2.2.1), .int (P.2.2.2.2.2.2.2), rf E (10), rf E (11)])) = g_29 at hM_29 ⊢
        refine y_aload_n hC dX6_keep_32 (i := 0) rfl rfl ?_
        refine y_get hC fX6_7 dX6_keep_33 (k := 0) (by omega) hM_29.a0 rfl ?_
        refine y_bipush (v := nI 32) hC dX6_keep_36 (by decide) ?_
        refine y_iald hC dX6_keep_38 (k := 1) (j := 32) (by omega) hM_29.a1 (rfl) (by omega) (by decide) ?_
        refine y_top (y := nI (rc S.r)) ((hR 32 (by decide)).trans hv.1.1) ?_
        refine y_iret (hC := hC) (hd := dX6_keep_39) (hq := ?_)
        have hqq : qKeep S  = (nI (rc S.r), .mk S.r S.c 1 S.hr S.r S.ln S.tx) := by simp only [qKeep]
        rw [hqq]
        exact ⟨rfl, ⟨row, hi, sn1, tx, C, P, hM_29, hR, hH, fun _ j hj => (hk0 j (by omega)).trans (hR j hj), hT⟩⟩
      · refine y_aload_n hC dX6_keep_9 (i := 0) rfl rfl ?_
        refine y_get hC fX6_16 dX6_keep_10 (k := 0) (by omega) hM1.a0 rfl ?_
        refine y_iload_n hC dX6_keep_13 (i := 1) rfl rfl ?_
        refine y_aload_n hC dX6_keep_14 (i := 0) rfl rfl ?_
        refine y_get hC fX6_7 dX6_keep_15 (k := 0) (by omega) hM1.a0 rfl ?_
        refine y_iload_n hC dX6_keep_18 (i := 1) rfl rfl ?_
        refine y_iald hC dX6_keep_19 (k := 1) (j := k) (by omega) hM1.a1 (rfl) (by omega) (by decide) ?_
        refine y_iast hC dX6_keep_20 (k := 3) (j := k) (by omega) hM1.a3 (rfl) (by omega) (by decide) ?_
        have hM_20 : MX E (va_up g1 (3) (aI E 0 158 (upd sn1 (k) ((row (k)))))) row (hi, nI (S.c), (upd sn1 (k) ((row (k)))), nI (S.kp)) C (tx, nI (S.ln)) P := hM1.u3 _
        generalize (va_up g1 (3) (aI E 0 158 (upd sn1 (k) ((row (k)))))) = g_20 at hM_20 ⊢
        refine y_iinc_n hC dX6_keep_21 (a := k) (k := 1) rfl (by decide) (Nat.le_of_ble_eq_true rfl) rfl (lo' := [some (rf E (0)), some (.int (nI (k + 1)))]) rfl ?_
        refine y_goto (tgt := 2) hC dX6_keep_24 (by decide) ?_
        exact ih_2 (k + 1) g_20 _ (by omega) (by omega) hM_20 (fun j hj => by
            by_cases e : j = k
            · rw [e, pk_us]
            · rw [pk_un e]; exact hk0 j (by omega))
  exact L_2 159 0 g sn (by omega) (by omega) hM (fun j hj => absurd hj (Nat.not_lt_zero j))

theorem dX6_restore_0 : decode cX6_restore 0 = .ok (.aload_n 0, 1) := by decide +kernel
theorem dX6_restore_1 : decode cX6_restore 1 = .ok (.getfield 53, 3) := by decide +kernel
theorem dX6_restore_4 : decode cX6_restore 4 = .ok (.ifCond .ne 6, 3) := by decide +kernel
theorem dX6_restore_7 : decode cX6_restore 7 = .ok (.bipush (-5), 2) := by decide +kernel
theorem dX6_restore_9 : decode cX6_restore 9 = .ok (.ireturn, 1) := by decide +kernel
theorem dX6_restore_10 : decode cX6_restore 10 = .ok (.aload_n 0, 1) := by decide +kernel
theorem dX6_restore_11 : decode cX6_restore 11 = .ok (.invokevirtual 57, 3) := by decide +kernel
theorem dX6_restore_14 : decode cX6_restore 14 = .ok (.iconst 0, 1) := by decide +kernel
theorem dX6_restore_15 : decode cX6_restore 15 = .ok (.istore_n 1, 1) := by decide +kernel
theorem dX6_restore_16 : decode cX6_restore 16 = .ok (.iload_n 1, 1) := by decide +kernel
theorem dX6_restore_17 : decode cX6_restore 17 = .ok (.sipush 158, 3) := by decide +kernel
theorem dX6_restore_20 : decode cX6_restore 20 = .ok (.if_icmp .ge 21, 3) := by decide +kernel
theorem dX6_restore_23 : decode cX6_restore 23 = .ok (.aload_n 0, 1) := by decide +kernel
theorem dX6_restore_24 : decode cX6_restore 24 = .ok (.getfield 7, 3) := by decide +kernel
theorem dX6_restore_27 : decode cX6_restore 27 = .ok (.iload_n 1, 1) := by decide +kernel
theorem dX6_restore_28 : decode cX6_restore 28 = .ok (.aload_n 0, 1) := by decide +kernel
theorem dX6_restore_29 : decode cX6_restore 29 = .ok (.getfield 16, 3) := by decide +kernel
theorem dX6_restore_32 : decode cX6_restore 32 = .ok (.iload_n 1, 1) := by decide +kernel
theorem dX6_restore_33 : decode cX6_restore 33 = .ok (.iaload, 1) := by decide +kernel
theorem dX6_restore_34 : decode cX6_restore 34 = .ok (.iastore, 1) := by decide +kernel
theorem dX6_restore_35 : decode cX6_restore 35 = .ok (.iinc 1 1, 3) := by decide +kernel
theorem dX6_restore_38 : decode cX6_restore 38 = .ok (.goto (-22), 3) := by decide +kernel
theorem dX6_restore_41 : decode cX6_restore 41 = .ok (.aload_n 0, 1) := by decide +kernel
theorem dX6_restore_42 : decode cX6_restore 42 = .ok (.getfield 7, 3) := by decide +kernel
theorem dX6_restore_45 : decode cX6_restore 45 = .ok (.bipush 32, 2) := by decide +kernel
theorem dX6_restore_47 : decode cX6_restore 47 = .ok (.iaload, 1) := by decide +kernel
theorem dX6_restore_48 : decode cX6_restore 48 = .ok (.ireturn, 1) := by decide +kernel
set_option maxHeartbeats 4000000 in
set_option maxRecDepth 100000 in
theorem c_X6_restore (l : Launch) (E : gE) (g : Mem) (S : AS) (Bd : Nat) (hB : Bd < 90000000) (ho : OK S Bd) (hZ : MZ E g S) : Mt l E yX6_restore cX6_restore 2 (some .int) 1 21 [rf E (0)] g (pI (fun z g' => z = (qRestore S ).1 ∧ MZ E g' (qRestore S ).2)) := by
  have hv := ho.v
  have hrc : rc S.r ≤ 6 := hv.1.2
  have hgc : gc S.r ≤ 4 := hv.2.1.2
  have hc4 := ho.c4
  have hkp1 := ho.2.2.1
  have hl60 : S.ln ≤ 60 := ho.2.2.2.2.2.1
  refine mt_go (own := RX6) (by decide) rfl (lo := [some (rf E (0)), none]) rfl (Nat.le_of_ble_eq_true rfl) (fun X hC => ?_)
  obtain ⟨row, hi, sn, tx, C, P, hM, hR, hH, hS, hT⟩ := hZ
  have hK := hM.k
  refine y_aload_n hC dX6_restore_0 (i := 0) rfl rfl ?_
  refine y_get hC fX6_53 dX6_restore_1 (k := 0) (by omega) hM.a0 rfl ?_
  refine y_if_ne_n (tgt := 10) hC dX6_restore_4 (by decide) (by omega) (fun c_4 => ?_) (fun c_4 => ?_)
  · refine y_aload_n hC dX6_restore_10 (i := 0) rfl rfl ?_
    refine y_callV hC mX6_record kX6_57 dX6_restore_11 (b := 0) (As := []) (rest := []) (c_X6_record l E g S Bd hB ho ⟨row, hi, sn, tx, C, P, hM, hR, hH, hS, hT⟩) (by omega) hM.a0 rfl rfl rfl (Nat.le_of_ble_eq_true rfl) ⟨Nat.le_of_ble_eq_true rfl, Nat.le_of_ble_eq_true rfl⟩ (pk_v ?_)
    rintro g_11 hz_11
    obtain ⟨row_11, hi_11, sn_11, tx_11, C_11, P_11, hM_11, hR_11, hH_11, hS_11, hT_11⟩ := hz_11
    have hK_11 := hM_11.k
    have hk1 : S.kp = 1 := by omega
    have hvs := ho.2.2.2.2.1 hk1
    refine y_iconst (v := nI 0) hC dX6_restore_14 (by decide) ?_
    refine y_istore_n hC dX6_restore_15 (i := 1) rfl (Nat.le_of_ble_eq_true rfl) rfl (lo' := [some (rf E (0)), some (.int (nI (0)))]) rfl ?_
    have L_16 : ∀ (m : Nat) (k : Nat) (g1 : Mem) (row1 : Nat → Int32), (hm : 158 - k < m) → (hk : k ≤ 158) → (hM1 : MX E g1 row1 (hi_11, nI S.rec.c, sn_11, nI S.rec.kp) C_11 (tx_11, nI S.rec.ln) P_11) → (hk0 : ∀ j, j < k → row1 j = sn_11 j) → Y l E X (pI (fun z g' => z = (qRestore S ).1 ∧ MZ E g' (qRestore S ).2)) 16 [some (rf E (0)), some (.int (nI (k)))] [] g1 := by
      intro m
      induction m with
      | zero => intro k g1 row1 hm hk hM1 hk0; exact absurd hm (Nat.not_lt_zero _)
      | succ m ih_16 =>
        intro k g1 row1 hm hk hM1 hk0
        refine y_iload_n hC dX6_restore_16 (i := 1) rfl rfl ?_
        refine y_sipush (v := nI 158) hC dX6_restore_17 (by decide) ?_
        refine y_icmp_ge_n (tgt := 41) hC dX6_restore_20 (by decide) (by omega) (by omega) (fun c_20 => ?_) (fun c_20 => ?_)
        · refine y_aload_n hC dX6_restore_41 (i := 0) rfl rfl ?_
          refine y_get hC fX6_7 dX6_restore_42 (k := 0) (by omega) hM1.a0 rfl ?_
          refine y_bipush (v := nI 32) hC dX6_restore_45 (by decide) ?_
          refine y_iald hC dX6_restore_47 (k := 1) (j := 32) (by omega) hM1.a1 (rfl) (by omega) (by decide) ?_
          refine y_top (y := nI (rc S.sn)) ((hk0 32 (by omega)).trans ((hS_11 hk1 32 (by decide)).trans hvs.1.1)) ?_
          refine y_iret (hC := hC) (hd := dX6_restore_48) (hq := ?_)
          have hqq : qRestore S  = (nI (rc S.sn), S.rec.row S.sn) := by simp only [qRestore, if_neg c_4]
          rw [hqq]
          exact ⟨rfl, ⟨row1, hi_11, sn_11, tx_11, C_11, P_11, hM1, fun j hj => (hk0 j (by omega)).trans (hS_11 hk1 j hj), hH_11, hS_11, hT_11⟩⟩
        · refine y_aload_n hC dX6_restore_23 (i := 0) rfl rfl ?_
          refine y_get hC fX6_7 dX6_restore_24 (k := 0) (by omega) hM1.a0 rfl ?_
          refine y_iload_n hC dX6_restore_27 (i := 1) rfl rfl ?_
          refine y_aload_n hC dX6_restore_28 (i := 0) rfl rfl ?_
          refine y_get hC fX6_16 dX6_restore_29 (k := 0) (by omega) hM1.a0 rfl ?_
          refine y_iload_n hC dX6_restore_32 (i := 1) rfl rfl ?_
          refine y_iald hC dX6_restore_33 (k := 3) (j := k) (by omega) hM1.a3 (rfl) (by omega) (by decide) ?_
          refine y_iast hC dX6_restore_34 (k := 1) (j := k) (by omega) hM1.a1 (rfl) (by omega) (by decide) ?_
          have hM_34 : MX E (va_up g1 (1) (aI E 0 158 (upd row1 (k) ((sn_11 (k)))))) ((upd row1 (k) ((sn_11 (k))))) (hi_11, nI (S.rec.c), sn_11, nI (S.rec.kp)) C_11 (tx_11, nI (S.rec.ln)) P_11 := hM1.u1 _
          generalize (va_up g1 (1) (aI E 0 158 (upd row1 (k) ((sn_11 (k)))))) = g_34 at hM_34 ⊢
          refine y_iinc_n hC dX6_restore_35 (a := k) (k := 1) rfl (by decide) (Nat.le_of_ble_eq_true rfl) rfl (lo' := [some (rf E (0)), some (.int (nI (k + 1)))]) rfl ?_
          refine y_goto (tgt := 16) hC dX6_restore_38 (by decide) ?_
          exact ih_16 (k + 1) g_34 _ (by omega) (by omega) hM_34 (fun j hj => by
              by_cases e : j = k
              · rw [e, pk_us]
              · rw [pk_un e]; exact hk0 j (by omega))
    exact L_16 159 0 g_11 row_11 (by omega) (by omega) hM_11 (fun j hj => absurd hj (Nat.not_lt_zero j))
  · refine y_bipush (v := (-5)) hC dX6_restore_7 (by decide) ?_
    refine y_iret (hC := hC) (hd := dX6_restore_9) (hq := ?_)
    have hqq : qRestore S  = (-5, S) := by simp only [qRestore, if_pos c_4]
    rw [hqq]
    exact ⟨rfl, ⟨row, hi, sn, tx, C, P, hM, hR, hH, hS, hT⟩⟩

theorem dX6_setColour_0 : decode cX6_setColour 0 = .ok (.iload_n 1, 1) := by decide +kernel
theorem dX6_setColour_1 : decode cX6_setColour 1 = .ok (.invokestatic 99, 3) := by decide +kernel
theorem dX6_setColour_4 : decode cX6_setColour 4 = .ok (.ifCond .ne 5, 3) := by decide +kernel
theorem dX6_setColour_7 : decode cX6_setColour 7 = .ok (.iconst (-1), 1) := by decide +kernel
theorem dX6_setColour_8 : decode cX6_setColour 8 = .ok (.ireturn, 1) := by decide +kernel
theorem dX6_setColour_9 : decode cX6_setColour 9 = .ok (.iload_n 2, 1) := by decide +kernel
theorem dX6_setColour_10 : decode cX6_setColour 10 = .ok (.invokestatic 103, 3) := by decide +kernel
theorem dX6_setColour_13 : decode cX6_setColour 13 = .ok (.ifCond .ne 6, 3) := by decide +kernel
theorem dX6_setColour_16 : decode cX6_setColour 16 = .ok (.bipush (-2), 2) := by decide +kernel
theorem dX6_setColour_18 : decode cX6_setColour 18 = .ok (.ireturn, 1) := by decide +kernel
theorem dX6_setColour_19 : decode cX6_setColour 19 = .ok (.aload_n 0, 1) := by decide +kernel
theorem dX6_setColour_20 : decode cX6_setColour 20 = .ok (.getfield 7, 3) := by decide +kernel
theorem dX6_setColour_23 : decode cX6_setColour 23 = .ok (.iload_n 1, 1) := by decide +kernel
theorem dX6_setColour_24 : decode cX6_setColour 24 = .ok (.iaload, 1) := by decide +kernel
theorem dX6_setColour_25 : decode cX6_setColour 25 = .ok (.istore_n 3, 1) := by decide +kernel
theorem dX6_setColour_26 : decode cX6_setColour 26 = .ok (.iload_n 3, 1) := by decide +kernel
theorem dX6_setColour_27 : decode cX6_setColour 27 = .ok (.iload_n 2, 1) := by decide +kernel
theorem dX6_setColour_28 : decode cX6_setColour 28 = .ok (.if_icmp .ne 6, 3) := by decide +kernel
theorem dX6_setColour_31 : decode cX6_setColour 31 = .ok (.bipush (-5), 2) := by decide +kernel
theorem dX6_setColour_33 : decode cX6_setColour 33 = .ok (.ireturn, 1) := by decide +kernel
theorem dX6_setColour_34 : decode cX6_setColour 34 = .ok (.aload_n 0, 1) := by decide +kernel
theorem dX6_setColour_35 : decode cX6_setColour 35 = .ok (.invokevirtual 57, 3) := by decide +kernel
theorem dX6_setColour_38 : decode cX6_setColour 38 = .ok (.aload_n 0, 1) := by decide +kernel
theorem dX6_setColour_39 : decode cX6_setColour 39 = .ok (.getfield 7, 3) := by decide +kernel
theorem dX6_setColour_42 : decode cX6_setColour 42 = .ok (.iload_n 1, 1) := by decide +kernel
theorem dX6_setColour_43 : decode cX6_setColour 43 = .ok (.iload_n 2, 1) := by decide +kernel
theorem dX6_setColour_44 : decode cX6_setColour 44 = .ok (.iastore, 1) := by decide +kernel
theorem dX6_setColour_45 : decode cX6_setColour 45 = .ok (.iload_n 3, 1) := by decide +kernel
theorem dX6_setColour_46 : decode cX6_setColour 46 = .ok (.ireturn, 1) := by decide +kernel
set_option maxHeartbeats 4000000 in
set_option maxRecDepth 100000 in
theorem c_X6_setColour (l : Launch) (E : gE) (g : Mem) (S : AS) (Bd : Nat) (hB : Bd < 90000000) (ho : OK S Bd) (hZ : MZ E g S) (xa xb : Int32) : Mt l E yX6_setColour cX6_setColour 4 (some .int) 2 42 [rf E (0), .int (xa), .int (xb)] g (pI (fun z g' => z = (qSetColour S xa xb).1 ∧ MZ E g' (qSetColour S xa xb).2)) := by
  have hv := ho.v
  have hrc : rc S.r ≤ 6 := hv.1.2
  have hgc : gc S.r ≤ 4 := hv.2.1.2
  have hc4 := ho.c4
  have hkp1 := ho.2.2.1
  have hl60 : S.ln ≤ 60 := ho.2.2.2.2.2.1
  refine mt_go (own := RX6) (by decide) rfl (lo := [some (rf E (0)), some (.int (xa)), some (.int (xb)), none]) rfl (Nat.le_of_ble_eq_true rfl) (fun X hC => ?_)
  obtain ⟨row, hi, sn, tx, C, P, hM, hR, hH, hS, hT⟩ := hZ
  have hK := hM.k
  refine y_iload_n hC dX6_setColour_0 (i := 1) rfl rfl ?_
  refine y_callS hC mX6_isPlace kX6_99 dX6_setColour_1 (As := [.int (xa)]) (rest := []) (c_X6_isPlace l E g ((xa))) rfl rfl rfl (Nat.le_of_ble_eq_true rfl) ⟨Nat.le_of_ble_eq_true rfl, Nat.le_of_ble_eq_true rfl⟩ (pk_i ?_)
  rintro r_1 g_1 ⟨hr_1, hq_1⟩
  obtain rfl := hq_1.symm
  rw [hr_1]
  clear hr_1 r_1
  refine y_if_ne_b (tgt := 9) hC dX6_setColour_4 (by decide) (fun c_4 => ?_) (fun c_4 => ?_)
  · obtain ⟨p, hp, hpx⟩ := zN (m := 31) c_4
    subst hpx
    refine y_iload_n hC dX6_setColour_9 (i := 2) rfl rfl ?_
    refine y_callS hC mX6_isColour kX6_103 dX6_setColour_10 (As := [.int (xb)]) (rest := []) (c_X6_isColour l E g ((xb))) rfl rfl rfl (Nat.le_of_ble_eq_true rfl) ⟨Nat.le_of_ble_eq_true rfl, Nat.le_of_ble_eq_true rfl⟩ (pk_i ?_)
    rintro r_10 g_10 ⟨hr_10, hq_10⟩
    obtain rfl := hq_10.symm
    rw [hr_10]
    clear hr_10 r_10
    refine y_if_ne_b (tgt := 19) hC dX6_setColour_13 (by decide) (fun c_13 => ?_) (fun c_13 => ?_)
    · refine y_aload_n hC dX6_setColour_19 (i := 0) rfl rfl ?_
      refine y_get hC fX6_7 dX6_setColour_20 (k := 0) (by omega) hM.a0 rfl ?_
      refine y_iload_n hC dX6_setColour_23 (i := 1) rfl rfl ?_
      refine y_iald hC dX6_setColour_24 (k := 1) (j := p) (by omega) hM.a1 (rfl) (by omega) (by decide) ?_
      refine y_top (y := (S.r (p))) (hR p (by omega)) ?_
      refine y_istore_n hC dX6_setColour_25 (i := 3) rfl (Nat.le_of_ble_eq_true rfl) rfl (lo' := [some (rf E (0)), some (.int (nI (p))), some (.int (xb)), some (.int (S.r (p)))]) rfl ?_
      refine y_iload_n hC dX6_setColour_26 (i := 3) rfl rfl ?_
      refine y_iload_n hC dX6_setColour_27 (i := 2) rfl rfl ?_
      refine y_icmp_ne (tgt := 34) hC dX6_setColour_28 (by decide) (fun c_28 => ?_) (fun c_28 => ?_)
      · refine y_aload_n hC dX6_setColour_34 (i := 0) rfl rfl ?_
        refine y_callV hC mX6_record kX6_57 dX6_setColour_35 (b := 0) (As := []) (rest := []) (c_X6_record l E g S Bd hB ho ⟨row, hi, sn, tx, C, P, hM, hR, hH, hS, hT⟩) (by omega) hM.a0 rfl rfl rfl (Nat.le_of_ble_eq_true rfl) ⟨Nat.le_of_ble_eq_true rfl, Nat.le_of_ble_eq_true rfl⟩ (pk_v ?_)
        rintro g_35 hz_35
        obtain ⟨row_35, hi_35, sn_35, tx_35, C_35, P_35, hM_35, hR_35, hH_35, hS_35, hT_35⟩ := hz_35
        have hK_35 := hM_35.k
        refine y_aload_n hC dX6_setColour_38 (i := 0) rfl rfl ?_
        refine y_get hC fX6_7 dX6_setColour_39 (k := 0) (by omega) hM_35.a0 rfl ?_
        refine y_iload_n hC dX6_setColour_42 (i := 1) rfl rfl ?_
        refine y_iload_n hC dX6_setColour_43 (i := 2) rfl rfl ?_
        refine y_iast hC dX6_setColour_44 (k := 1) (j := p) (by omega) hM_35.a1 (rfl) (by omega) (by decide) ?_
        have hM_44 : MX E (va_up g_35 (1) (aI E 0 158 (upd row_35 (p) ((xb))))) ((upd row_35 (p) ((xb)))) (hi_35, nI (S.rec.c), sn_35, nI (S.rec.kp)) C_35 (tx_35, nI (S.rec.ln)) P_35 := hM_35.u1 _
        generalize (va_up g_35 (1) (aI E 0 158 (upd row_35 (p) ((xb))))) = g_44 at hM_44 ⊢
        refine y_iload_n hC dX6_setColour_45 (i := 3) rfl rfl ?_
        refine y_iret (hC := hC) (hd := dX6_setColour_46) (hq := ?_)
        have hqq : qSetColour S (nI p) xb = (S.r p, S.rec.row (upd S.r p xb)) := by simp only [qSetColour, nn_I (show p < 2147483648 by omega), if_pos c_4, if_pos c_13, if_neg c_28]
        rw [hqq]
        exact ⟨rfl, ⟨(upd row_35 (p) ((xb))), hi_35, sn_35, tx_35, C_35, P_35, hM_44, (fun k hk => by
          by_cases e : k = p
          · rw [e, pk_us]; exact (pk_us (f := S.r)).symm
          · rw [pk_un e]; exact (hR_35 k hk).trans (pk_un (f := S.r) e).symm), hH_35, hS_35, hT_35⟩⟩
      · refine y_bipush (v := (-5)) hC dX6_setColour_31 (by decide) ?_
        refine y_iret (hC := hC) (hd := dX6_setColour_33) (hq := ?_)
        have hqq : qSetColour S (nI p) xb = (-5, S) := by simp only [qSetColour, nn_I (show p < 2147483648 by omega), if_pos c_4, if_pos c_13, if_pos c_28]
        rw [hqq]
        exact ⟨rfl, ⟨row, hi, sn, tx, C, P, hM, hR, hH, hS, hT⟩⟩
    · refine y_bipush (v := (-2)) hC dX6_setColour_16 (by decide) ?_
      refine y_iret (hC := hC) (hd := dX6_setColour_18) (hq := ?_)
      have hqq : qSetColour S (nI p) xb = (-2, S) := by simp only [qSetColour, nn_I (show p < 2147483648 by omega), if_pos c_4, if_neg c_13]
      rw [hqq]
      exact ⟨rfl, ⟨row, hi, sn, tx, C, P, hM, hR, hH, hS, hT⟩⟩
  · refine y_iconst (v := (-1)) hC dX6_setColour_7 (by decide) ?_
    refine y_iret (hC := hC) (hd := dX6_setColour_8) (hq := ?_)
    have hqq : qSetColour S xa xb = (-1, S) := by simp only [qSetColour, if_neg c_4]
    rw [hqq]
    exact ⟨rfl, ⟨row, hi, sn, tx, C, P, hM, hR, hH, hS, hT⟩⟩

theorem dX6_blended_0 : decode cX6_blended 0 = .ok (.iload_n 3, 1) := by decide +kernel
theorem dX6_blended_1 : decode cX6_blended 1 = .ok (.iload 4, 2) := by decide +kernel
theorem dX6_blended_3 : decode cX6_blended 3 = .ok (.iload 5, 2) := by decide +kernel
theorem dX6_blended_5 : decode cX6_blended 5 = .ok (.iload_n 1, 1) := by decide +kernel
theorem dX6_blended_6 : decode cX6_blended 6 = .ok (.isub, 1) := by decide +kernel
theorem dX6_blended_7 : decode cX6_blended 7 = .ok (.iload_n 2, 1) := by decide +kernel
theorem dX6_blended_8 : decode cX6_blended 8 = .ok (.iload_n 1, 1) := by decide +kernel
theorem dX6_blended_9 : decode cX6_blended 9 = .ok (.isub, 1) := by decide +kernel
theorem dX6_blended_10 : decode cX6_blended 10 = .ok (.invokestatic 92, 3) := by decide +kernel
theorem dX6_blended_13 : decode cX6_blended 13 = .ok (.ireturn, 1) := by decide +kernel
set_option maxHeartbeats 4000000 in
set_option maxRecDepth 100000 in
theorem c_X6_blended (l : Launch) (E : gE) (g : Mem) (row : Nat → Int32) (B : GB) (C : GC) (D : GD) (P : GP) (hM : MX E g row B C D P) (p q i : Nat) (u v : Int32) (hp : p ≤ i) (hpq : p < q) (hq : q < 32) : Mt l E yX6_blended cX6_blended 6 (some .int) 2 47 [rf E (0), .int (nI (p)), .int (nI (q)), .int (u), .int (v), .int (nI (i))] g (pI (fun z g' => z = blS p q u v i ∧ g' = g)) := by
  have hK := hM.k
  refine mt_go (own := RX6) (by decide) rfl (lo := [some (rf E (0)), some (.int (nI (p))), some (.int (nI (q))), some (.int (u)), some (.int (v)), some (.int (nI (i)))]) rfl (Nat.le_of_ble_eq_true rfl) (fun X hC => ?_)
  refine y_iload_n hC dX6_blended_0 (i := 3) rfl rfl ?_
  refine y_iload hC dX6_blended_1 rfl ?_
  refine y_iload hC dX6_blended_3 rfl ?_
  refine y_iload_n hC dX6_blended_5 (i := 1) rfl rfl ?_
  refine y_isub_n hC dX6_blended_6 (hp) ?_
  refine y_iload_n hC dX6_blended_7 (i := 2) rfl rfl ?_
  refine y_iload_n hC dX6_blended_8 (i := 1) rfl rfl ?_
  refine y_isub_n hC dX6_blended_9 (by omega) ?_
  refine y_callS hC mX6_between kX6_92 dX6_blended_10 (As := [.int (u), .int (v), .int (nI (i - (p))), .int (nI (q - (p)))]) (rest := []) (c_X6_between l E g u v (nI (i - (p))) (nI (q - (p))) (fun z => absurd ((nI_z (by omega)).mp z) (by omega))) rfl rfl rfl (Nat.le_of_ble_eq_true rfl) ⟨Nat.le_of_ble_eq_true rfl, Nat.le_of_ble_eq_true rfl⟩ (pk_i ?_)
  rintro r_10 g_10 ⟨hr_10, hq_10⟩
  obtain rfl := hq_10.symm
  rw [hr_10]
  clear hr_10 r_10
  refine y_iret (hC := hC) (hd := dX6_blended_13) (hq := ?_)
  exact ⟨rfl, rfl⟩

theorem dX6_blend_0 : decode cX6_blend 0 = .ok (.iload_n 1, 1) := by decide +kernel
theorem dX6_blend_1 : decode cX6_blend 1 = .ok (.invokestatic 99, 3) := by decide +kernel
theorem dX6_blend_4 : decode cX6_blend 4 = .ok (.ifCond .ne 5, 3) := by decide +kernel
theorem dX6_blend_7 : decode cX6_blend 7 = .ok (.iconst (-1), 1) := by decide +kernel
theorem dX6_blend_8 : decode cX6_blend 8 = .ok (.ireturn, 1) := by decide +kernel
theorem dX6_blend_9 : decode cX6_blend 9 = .ok (.iload_n 2, 1) := by decide +kernel
theorem dX6_blend_10 : decode cX6_blend 10 = .ok (.iload_n 1, 1) := by decide +kernel
theorem dX6_blend_11 : decode cX6_blend 11 = .ok (.iconst 1, 1) := by decide +kernel
theorem dX6_blend_12 : decode cX6_blend 12 = .ok (.iadd, 1) := by decide +kernel
theorem dX6_blend_13 : decode cX6_blend 13 = .ok (.bipush 31, 2) := by decide +kernel
theorem dX6_blend_15 : decode cX6_blend 15 = .ok (.invokestatic 44, 3) := by decide +kernel
theorem dX6_blend_18 : decode cX6_blend 18 = .ok (.ifCond .eq 18, 3) := by decide +kernel
theorem dX6_blend_21 : decode cX6_blend 21 = .ok (.iload_n 3, 1) := by decide +kernel
theorem dX6_blend_22 : decode cX6_blend 22 = .ok (.invokestatic 103, 3) := by decide +kernel
theorem dX6_blend_25 : decode cX6_blend 25 = .ok (.ifCond .eq 11, 3) := by decide +kernel
theorem dX6_blend_28 : decode cX6_blend 28 = .ok (.iload 4, 2) := by decide +kernel
theorem dX6_blend_30 : decode cX6_blend 30 = .ok (.invokestatic 103, 3) := by decide +kernel
theorem dX6_blend_33 : decode cX6_blend 33 = .ok (.ifCond .ne 6, 3) := by decide +kernel
theorem dX6_blend_36 : decode cX6_blend 36 = .ok (.bipush (-2), 2) := by decide +kernel
theorem dX6_blend_38 : decode cX6_blend 38 = .ok (.ireturn, 1) := by decide +kernel
theorem dX6_blend_39 : decode cX6_blend 39 = .ok (.iconst 0, 1) := by decide +kernel
theorem dX6_blend_40 : decode cX6_blend 40 = .ok (.istore 5, 2) := by decide +kernel
theorem dX6_blend_42 : decode cX6_blend 42 = .ok (.iload_n 1, 1) := by decide +kernel
theorem dX6_blend_43 : decode cX6_blend 43 = .ok (.istore 6, 2) := by decide +kernel
theorem dX6_blend_45 : decode cX6_blend 45 = .ok (.iload 6, 2) := by decide +kernel
theorem dX6_blend_47 : decode cX6_blend 47 = .ok (.iload_n 2, 1) := by decide +kernel
theorem dX6_blend_48 : decode cX6_blend 48 = .ok (.if_icmp .gt 40, 3) := by decide +kernel
theorem dX6_blend_51 : decode cX6_blend 51 = .ok (.iload 5, 2) := by decide +kernel
theorem dX6_blend_53 : decode cX6_blend 53 = .ok (.aload_n 0, 1) := by decide +kernel
theorem dX6_blend_54 : decode cX6_blend 54 = .ok (.getfield 7, 3) := by decide +kernel
theorem dX6_blend_57 : decode cX6_blend 57 = .ok (.iload 6, 2) := by decide +kernel
theorem dX6_blend_59 : decode cX6_blend 59 = .ok (.iaload, 1) := by decide +kernel
theorem dX6_blend_60 : decode cX6_blend 60 = .ok (.aload_n 0, 1) := by decide +kernel
theorem dX6_blend_61 : decode cX6_blend 61 = .ok (.iload_n 1, 1) := by decide +kernel
theorem dX6_blend_62 : decode cX6_blend 62 = .ok (.iload_n 2, 1) := by decide +kernel
theorem dX6_blend_63 : decode cX6_blend 63 = .ok (.iload_n 3, 1) := by decide +kernel
theorem dX6_blend_64 : decode cX6_blend 64 = .ok (.iload 4, 2) := by decide +kernel
theorem dX6_blend_66 : decode cX6_blend 66 = .ok (.iload 6, 2) := by decide +kernel
theorem dX6_blend_68 : decode cX6_blend 68 = .ok (.invokevirtual 106, 3) := by decide +kernel
theorem dX6_blend_71 : decode cX6_blend 71 = .ok (.if_icmp .eq 7, 3) := by decide +kernel
theorem dX6_blend_74 : decode cX6_blend 74 = .ok (.iconst 1, 1) := by decide +kernel
theorem dX6_blend_75 : decode cX6_blend 75 = .ok (.goto 4, 3) := by decide +kernel
theorem dX6_blend_78 : decode cX6_blend 78 = .ok (.iconst 0, 1) := by decide +kernel
theorem dX6_blend_79 : decode cX6_blend 79 = .ok (.iadd, 1) := by decide +kernel
theorem dX6_blend_80 : decode cX6_blend 80 = .ok (.istore 5, 2) := by decide +kernel
theorem dX6_blend_82 : decode cX6_blend 82 = .ok (.iinc 6 1, 3) := by decide +kernel
theorem dX6_blend_85 : decode cX6_blend 85 = .ok (.goto (-40), 3) := by decide +kernel
theorem dX6_blend_88 : decode cX6_blend 88 = .ok (.iload 5, 2) := by decide +kernel
theorem dX6_blend_90 : decode cX6_blend 90 = .ok (.ifCond .ne 6, 3) := by decide +kernel
theorem dX6_blend_93 : decode cX6_blend 93 = .ok (.bipush (-5), 2) := by decide +kernel
theorem dX6_blend_95 : decode cX6_blend 95 = .ok (.ireturn, 1) := by decide +kernel
theorem dX6_blend_96 : decode cX6_blend 96 = .ok (.aload_n 0, 1) := by decide +kernel
theorem dX6_blend_97 : decode cX6_blend 97 = .ok (.invokevirtual 57, 3) := by decide +kernel
theorem dX6_blend_100 : decode cX6_blend 100 = .ok (.iload_n 1, 1) := by decide +kernel
theorem dX6_blend_101 : decode cX6_blend 101 = .ok (.istore 6, 2) := by decide +kernel
theorem dX6_blend_103 : decode cX6_blend 103 = .ok (.iload 6, 2) := by decide +kernel
theorem dX6_blend_105 : decode cX6_blend 105 = .ok (.iload_n 2, 1) := by decide +kernel
theorem dX6_blend_106 : decode cX6_blend 106 = .ok (.if_icmp .gt 27, 3) := by decide +kernel
theorem dX6_blend_109 : decode cX6_blend 109 = .ok (.aload_n 0, 1) := by decide +kernel
theorem dX6_blend_110 : decode cX6_blend 110 = .ok (.getfield 7, 3) := by decide +kernel
theorem dX6_blend_113 : decode cX6_blend 113 = .ok (.iload 6, 2) := by decide +kernel
theorem dX6_blend_115 : decode cX6_blend 115 = .ok (.aload_n 0, 1) := by decide +kernel
theorem dX6_blend_116 : decode cX6_blend 116 = .ok (.iload_n 1, 1) := by decide +kernel
theorem dX6_blend_117 : decode cX6_blend 117 = .ok (.iload_n 2, 1) := by decide +kernel
theorem dX6_blend_118 : decode cX6_blend 118 = .ok (.iload_n 3, 1) := by decide +kernel
theorem dX6_blend_119 : decode cX6_blend 119 = .ok (.iload 4, 2) := by decide +kernel
theorem dX6_blend_121 : decode cX6_blend 121 = .ok (.iload 6, 2) := by decide +kernel
theorem dX6_blend_123 : decode cX6_blend 123 = .ok (.invokevirtual 106, 3) := by decide +kernel
theorem dX6_blend_126 : decode cX6_blend 126 = .ok (.iastore, 1) := by decide +kernel
theorem dX6_blend_127 : decode cX6_blend 127 = .ok (.iinc 6 1, 3) := by decide +kernel
theorem dX6_blend_130 : decode cX6_blend 130 = .ok (.goto (-27), 3) := by decide +kernel
theorem dX6_blend_133 : decode cX6_blend 133 = .ok (.iload 5, 2) := by decide +kernel
theorem dX6_blend_135 : decode cX6_blend 135 = .ok (.ireturn, 1) := by decide +kernel
set_option maxHeartbeats 4000000 in
set_option maxRecDepth 100000 in
theorem c_X6_blend (l : Launch) (E : gE) (g : Mem) (S : AS) (Bd : Nat) (hB : Bd < 90000000) (ho : OK S Bd) (hZ : MZ E g S) (xa xb xu xv : Int32) : Mt l E yX6_blend cX6_blend 7 (some .int) 3 72 [rf E (0), .int (xa), .int (xb), .int (xu), .int (xv)] g (pI (fun z g' => z = (qBlend S xa xb xu xv).1 ∧ MZ E g' (qBlend S xa xb xu xv).2)) := by
  have hv := ho.v
  have hrc : rc S.r ≤ 6 := hv.1.2
  have hgc : gc S.r ≤ 4 := hv.2.1.2
  have hc4 := ho.c4
  have hkp1 := ho.2.2.1
  have hl60 : S.ln ≤ 60 := ho.2.2.2.2.2.1
  refine mt_go (own := RX6) (by decide) rfl (lo := [some (rf E (0)), some (.int (xa)), some (.int (xb)), some (.int (xu)), some (.int (xv)), none, none]) rfl (Nat.le_of_ble_eq_true rfl) (fun X hC => ?_)
  obtain ⟨row, hi, sn, tx, C, P, hM, hR, hH, hS, hT⟩ := hZ
  have hK := hM.k
  refine y_iload_n hC dX6_blend_0 (i := 1) rfl rfl ?_
  refine y_callS hC mX6_isPlace kX6_99 dX6_blend_1 (As := [.int (xa)]) (rest := []) (c_X6_isPlace l E g ((xa))) rfl rfl rfl (Nat.le_of_ble_eq_true rfl) ⟨Nat.le_of_ble_eq_true rfl, Nat.le_of_ble_eq_true rfl⟩ (pk_i ?_)
  rintro r_1 g_1 ⟨hr_1, hq_1⟩
  obtain rfl := hq_1.symm
  rw [hr_1]
  clear hr_1 r_1
  refine y_if_ne_b (tgt := 9) hC dX6_blend_4 (by decide) (fun c_4 => ?_) (fun c_4 => ?_)
  · obtain ⟨p, hp, hpx⟩ := zN (m := 31) c_4
    subst hpx
    refine y_iload_n hC dX6_blend_9 (i := 2) rfl rfl ?_
    refine y_iload_n hC dX6_blend_10 (i := 1) rfl rfl ?_
    refine y_iconst (v := nI 1) hC dX6_blend_11 (by decide) ?_
    refine y_iadd_n hC dX6_blend_12 ?_
    refine y_bipush (v := nI 31) hC dX6_blend_13 (by decide) ?_
    refine y_callS hC mX6_in kX6_44 dX6_blend_15 (As := [.int (xb), .int (nI (p + 1)), .int (nI (31))]) (rest := []) (c_X6_inN l E g xb (p + 1) 31 (by omega) (by omega)) rfl rfl rfl (Nat.le_of_ble_eq_true rfl) ⟨Nat.le_of_ble_eq_true rfl, Nat.le_of_ble_eq_true rfl⟩ (pk_i ?_)
    rintro r_15 g_15 ⟨hr_15, hq_15⟩
    obtain rfl := hq_15.symm
    rw [hr_15]
    clear hr_15 r_15
    refine y_if_eq_b (tgt := 36) hC dX6_blend_18 (by decide) (fun c_18 => ?_) (fun c_18 => ?_)
    · refine y_bipush (v := (-2)) hC dX6_blend_36 (by decide) ?_
      refine y_iret (hC := hC) (hd := dX6_blend_38) (hq := ?_)
      have hqq : qBlend S (nI p) xb xu xv = (-2, S) := by simp only [qBlend, nn_I (show p < 2147483648 by omega), if_pos c_4]; exact if_neg (fun q => c_18 (by
          have h1 := q.1.1.1
          have h2 := q.1.1.2
          have h3 := q.1.2
          have h4 : nn xb = xb.toInt.toNat := rfl
          omega))
      rw [hqq]
      exact ⟨rfl, ⟨row, hi, sn, tx, C, P, hM, hR, hH, hS, hT⟩⟩
    · obtain ⟨q, hq1, hq, hqx⟩ := zNg (a := p + 1) (m := 31) (show ((p + 1 : Nat) : Int) ≤ xb.toInt ∧ xb.toInt ≤ ((31 : Nat) : Int) from c_18)
      subst hqx
      have hq31 : 0 ≤ (nI q).toInt ∧ (nI q).toInt ≤ 31 := by rw [tI (by omega)]; omega
      refine y_iload_n hC dX6_blend_21 (i := 3) rfl rfl ?_
      refine y_callS hC mX6_isColour kX6_103 dX6_blend_22 (As := [.int (xu)]) (rest := []) (c_X6_isColour l E g ((xu))) rfl rfl rfl (Nat.le_of_ble_eq_true rfl) ⟨Nat.le_of_ble_eq_true rfl, Nat.le_of_ble_eq_true rfl⟩ (pk_i ?_)
      rintro r_22 g_22 ⟨hr_22, hq_22⟩
      obtain rfl := hq_22.symm
      rw [hr_22]
      clear hr_22 r_22
      refine y_if_eq_b (tgt := 36) hC dX6_blend_25 (by decide) (fun c_25 => ?_) (fun c_25 => ?_)
      · refine y_bipush (v := (-2)) hC dX6_blend_36 (by decide) ?_
        refine y_iret (hC := hC) (hd := dX6_blend_38) (hq := ?_)
        have hqq : qBlend S (nI p) (nI q) xu xv = (-2, S) := by simp only [qBlend, nn_I (show p < 2147483648 by omega), nn_I (show q < 2147483648 by omega), if_pos c_4]; exact if_neg (fun q => c_25 q.2.1)
        rw [hqq]
        exact ⟨rfl, ⟨row, hi, sn, tx, C, P, hM, hR, hH, hS, hT⟩⟩
      · refine y_iload hC dX6_blend_28 rfl ?_
        refine y_callS hC mX6_isColour kX6_103 dX6_blend_30 (As := [.int (xv)]) (rest := []) (c_X6_isColour l E g ((xv))) rfl rfl rfl (Nat.le_of_ble_eq_true rfl) ⟨Nat.le_of_ble_eq_true rfl, Nat.le_of_ble_eq_true rfl⟩ (pk_i ?_)
        rintro r_30 g_30 ⟨hr_30, hq_30⟩
        obtain rfl := hq_30.symm
        rw [hr_30]
        clear hr_30 r_30
        refine y_if_ne_b (tgt := 39) hC dX6_blend_33 (by decide) (fun c_33 => ?_) (fun c_33 => ?_)
        · refine y_iconst (v := nI 0) hC dX6_blend_39 (by decide) ?_
          refine y_istore hC dX6_blend_40 (Nat.le_of_ble_eq_true rfl) rfl (lo' := [some (rf E (0)), some (.int (nI (p))), some (.int (nI (q))), some (.int (xu)), some (.int (xv)), some (.int (nI (0))), none]) rfl ?_
          refine y_iload_n hC dX6_blend_42 (i := 1) rfl rfl ?_
          refine y_istore hC dX6_blend_43 (Nat.le_of_ble_eq_true rfl) rfl (lo' := [some (rf E (0)), some (.int (nI (p))), some (.int (nI (q))), some (.int (xu)), some (.int (xv)), some (.int (nI (0))), some (.int (nI (p)))]) rfl ?_
          have L_45 : ∀ (m : Nat) (i c : Nat), (hm : q + 1 - (p + i) < m) → (hil : p + i ≤ q + 1) → (hc : c = cn i (fun i => decide (¬ blS p q xu xv (p + i) = S.r (p + i)))) → Y l E X (pI (fun z g' => z = (qBlend S (nI p) (nI q) xu xv).1 ∧ MZ E g' (qBlend S (nI p) (nI q) xu xv).2)) 45 [some (rf E (0)), some (.int (nI (p))), some (.int (nI (q))), some (.int (xu)), some (.int (xv)), some (.int (nI (c))), some (.int (nI (p + i)))] [] g := by
            intro m
            induction m with
            | zero => intro i c hm hil hc; exact absurd hm (Nat.not_lt_zero _)
            | succ m ih_45 =>
              intro i c hm hil hc
              refine y_iload hC dX6_blend_45 rfl ?_
              refine y_iload_n hC dX6_blend_47 (i := 2) rfl rfl ?_
              refine y_icmp_gt_n (tgt := 88) hC dX6_blend_48 (by decide) (by omega) (by omega) (fun c_48 => ?_) (fun c_48 => ?_)
              · refine y_iload hC dX6_blend_88 rfl ?_
                have hce : c = oth (blS p q xu xv) S.r p q := by rw [hc]; unfold oth; rw [show i = q + 1 - p by omega]
                have hol : oth (blS p q xu xv) S.r p q ≤ q + 1 - p := cn_le _ _
                refine y_if_ne_n (tgt := 96) hC dX6_blend_90 (by decide) (by omega) (fun c_90 => ?_) (fun c_90 => ?_)
                · refine y_aload_n hC dX6_blend_96 (i := 0) rfl rfl ?_
                  refine y_callV hC mX6_record kX6_57 dX6_blend_97 (b := 0) (As := []) (rest := []) (c_X6_record l E g S Bd hB ho ⟨row, hi, sn, tx, C, P, hM, hR, hH, hS, hT⟩) (by omega) hM.a0 rfl rfl rfl (Nat.le_of_ble_eq_true rfl) ⟨Nat.le_of_ble_eq_true rfl, Nat.le_of_ble_eq_true rfl⟩ (pk_v ?_)
                  rintro g_97 hz_97
                  obtain ⟨row_97, hi_97, sn_97, tx_97, C_97, P_97, hM_97, hR_97, hH_97, hS_97, hT_97⟩ := hz_97
                  have hK_97 := hM_97.k
                  refine y_iload_n hC dX6_blend_100 (i := 1) rfl rfl ?_
                  refine y_istore hC dX6_blend_101 (Nat.le_of_ble_eq_true rfl) rfl (lo' := [some (rf E (0)), some (.int (nI (p))), some (.int (nI (q))), some (.int (xu)), some (.int (xv)), some (.int (nI (c))), some (.int (nI (p)))]) rfl ?_
                  have L_103 : ∀ (m : Nat) (i : Nat) (g1 : Mem) (row1 : Nat → Int32), (hm2 : q + 1 - (p + i) < m) → (hi2 : p + i ≤ q + 1) → (hM1 : MX E g1 row1 (hi_97, nI S.rec.c, sn_97, nI S.rec.kp) C_97 (tx_97, nI S.rec.ln) P_97) → (hk0 : ∀ k, k < 158 → row1 k = if p ≤ k ∧ k < p + i then blS p q xu xv k else S.r k) → Y l E X (pI (fun z g' => z = (qBlend S (nI p) (nI q) xu xv).1 ∧ MZ E g' (qBlend S (nI p) (nI q) xu xv).2)) 103 [some (rf E (0)), some (.int (nI (p))), some (.int (nI (q))), some (.int (xu)), some (.int (xv)), some (.int (nI (c))), some (.int (nI (p + i)))] [] g1 := by
                    intro m
                    induction m with
                    | zero => intro i g1 row1 hm2 hi2 hM1 hk0; exact absurd hm2 (Nat.not_lt_zero _)
                    | succ m ih_103 =>
                      intro i g1 row1 hm2 hi2 hM1 hk0
                      refine y_iload hC dX6_blend_103 rfl ?_
                      refine y_iload_n hC dX6_blend_105 (i := 2) rfl rfl ?_
                      refine y_icmp_gt_n (tgt := 133) hC dX6_blend_106 (by decide) (by omega) (by omega) (fun c_106 => ?_) (fun c_106 => ?_)
                      · refine y_iload hC dX6_blend_133 rfl ?_
                        refine y_iret (hC := hC) (hd := dX6_blend_135) (hq := ?_)
                        have hqq : qBlend S (nI p) (nI q) xu xv = (nI (oth (blS p q xu xv) S.r p q), S.rec.row (putR S.r p q (blS p q xu xv))) := by simp only [qBlend, nn_I (show p < 2147483648 by omega), nn_I (show q < 2147483648 by omega), if_pos c_4, if_pos (show ((0 ≤ (nI q).toInt ∧ (nI q).toInt ≤ 31) ∧ p < q) ∧ (0 ≤ xu.toInt ∧ xu.toInt ≤ 262143) ∧ 0 ≤ xv.toInt ∧ xv.toInt ≤ 262143 from ⟨⟨hq31, by omega⟩, c_25, c_33⟩), if_neg (show ¬ oth (blS p q xu xv) S.r p q = 0 from hce ▸ c_90)]
                        rw [hqq]
                        exact ⟨congrArg nI hce, ⟨row1, hi_97, sn_97, tx_97, C_97, P_97, hM1, (fun k hk => by
                          rw [hk0 k hk]
                          show _ = putR S.r p q (blS p q xu xv) k
                          unfold putR
                          by_cases z : p ≤ k ∧ k ≤ q
                          · rw [if_pos z, if_pos (by omega)]
                          · rw [if_neg z, if_neg (by omega)]), hH_97, hS_97, hT_97⟩⟩
                      · refine y_aload_n hC dX6_blend_109 (i := 0) rfl rfl ?_
                        refine y_get hC fX6_7 dX6_blend_110 (k := 0) (by omega) hM1.a0 rfl ?_
                        refine y_iload hC dX6_blend_113 rfl ?_
                        refine y_aload_n hC dX6_blend_115 (i := 0) rfl rfl ?_
                        refine y_iload_n hC dX6_blend_116 (i := 1) rfl rfl ?_
                        refine y_iload_n hC dX6_blend_117 (i := 2) rfl rfl ?_
                        refine y_iload_n hC dX6_blend_118 (i := 3) rfl rfl ?_
                        refine y_iload hC dX6_blend_119 rfl ?_
                        refine y_iload hC dX6_blend_121 rfl ?_
                        refine y_callV hC mX6_blended kX6_106 dX6_blend_123 (b := 0) (As := [.int (nI (p)), .int (nI (q)), .int (xu), .int (xv), .int (nI (p + i))]) (rest := [.int (nI (p + i)), rf E (1)]) (c_X6_blended l E g1 row1 (hi_97, nI (S.rec.c), sn_97, nI (S.rec.kp)) C_97 (tx_97, nI (S.rec.ln)) P_97 hM1 p q (p + i) xu xv (by omega) (by omega) (by omega)) (by omega) hM1.a0 rfl rfl rfl (Nat.le_of_ble_eq_true rfl) ⟨Nat.le_of_ble_eq_true rfl, Nat.le_of_ble_eq_true rfl⟩ (pk_i ?_)
                        rintro r_123 g_123 ⟨hr_123, hq_123⟩
                        obtain rfl := hq_123.symm
                        rw [hr_123]
                        clear hr_123 r_123
                        refine y_iast hC dX6_blend_126 (k := 1) (j := p + i) (by omega) hM1.a1 (rfl) (by omega) (by decide) ?_
                        have hM_126 : MX E (va_up g1 (1) (aI E 0 158 (upd row1 (p + i) ((blS p q xu xv (p + i)))))) ((upd row1 (p + i) ((blS p q xu xv (p + i))))) (hi_97, nI (S.rec.c), sn_97, nI (S.rec.kp)) C_97 (tx_97, nI (S.rec.ln)) P_97 := hM1.u1 _
                        generalize (va_up g1 (1) (aI E 0 158 (upd row1 (p + i) ((blS p q xu xv (p + i)))))) = g_126 at hM_126 ⊢
                        refine y_iinc_n hC dX6_blend_127 (a := p + i) (k := 1) rfl (by decide) (Nat.le_of_ble_eq_true rfl) rfl (lo' := [some (rf E (0)), some (.int (nI (p))), some (.int (nI (q))), some (.int (xu)), some (.int (xv)), some (.int (nI (c))), some (.int (nI (p + i + 1)))]) rfl ?_
                        refine y_goto (tgt := 103) hC dX6_blend_130 (by decide) ?_
                        exact ih_103 (i + 1) g_126 _ (by omega) (by omega) hM_126 (fun k hk => by
                            by_cases e : k = p + i
                            · rw [e, pk_us, if_pos (by omega)]
                            · rw [pk_un e, hk0 k hk]
                              by_cases z : p ≤ k ∧ k < p + i
                              · rw [if_pos z, if_pos (by omega)]
                              · rw [if_neg z, if_neg (by omega)])
                  exact L_103 (q + 2) 0 g_97 row_97 (by omega) (by omega) hM_97 (fun k hk => by rw [if_neg (by omega)]; exact hR_97 k hk)
                · refine y_bipush (v := (-5)) hC dX6_blend_93 (by decide) ?_
                  refine y_iret (hC := hC) (hd := dX6_blend_95) (hq := ?_)
                  have hqq : qBlend S (nI p) (nI q) xu xv = (-5, S) := by simp only [qBlend, nn_I (show p < 2147483648 by omega), nn_I (show q < 2147483648 by omega), if_pos c_4, if_pos (show ((0 ≤ (nI q).toInt ∧ (nI q).toInt ≤ 31) ∧ p < q) ∧ (0 ≤ xu.toInt ∧ xu.toInt ≤ 262143) ∧ 0 ≤ xv.toInt ∧ xv.toInt ≤ 262143 from ⟨⟨hq31, by omega⟩, c_25, c_33⟩), if_pos (show oth (blS p q xu xv) S.r p q = 0 from hce ▸ c_90)]
                  rw [hqq]
                  exact ⟨rfl, ⟨row, hi, sn, tx, C, P, hM, hR, hH, hS, hT⟩⟩
              · have hcl := cn_le i (fun i => decide (¬ blS p q xu xv (p + i) = S.r (p + i)))
                refine y_iload hC dX6_blend_51 rfl ?_
                refine y_aload_n hC dX6_blend_53 (i := 0) rfl rfl ?_
                refine y_get hC fX6_7 dX6_blend_54 (k := 0) (by omega) hM.a0 rfl ?_
                refine y_iload hC dX6_blend_57 rfl ?_
                refine y_iald hC dX6_blend_59 (k := 1) (j := p + i) (by omega) hM.a1 (rfl) (by omega) (by decide) ?_
                refine y_top (y := (S.r (p + i))) (hR (p + i) (by omega)) ?_
                refine y_aload_n hC dX6_blend_60 (i := 0) rfl rfl ?_
                refine y_iload_n hC dX6_blend_61 (i := 1) rfl rfl ?_
                refine y_iload_n hC dX6_blend_62 (i := 2) rfl rfl ?_
                refine y_iload_n hC dX6_blend_63 (i := 3) rfl rfl ?_
                refine y_iload hC dX6_blend_64 rfl ?_
                refine y_iload hC dX6_blend_66 rfl ?_
                refine y_callV hC mX6_blended kX6_106 dX6_blend_68 (b := 0) (As := [.int (nI (p)), .int (nI (q)), .int (xu), .int (xv), .int (nI (p + i))]) (rest := [.int (S.r (p + i)), .int (nI (c))]) (c_X6_blended l E g row (hi, nI (S.c), sn, nI (S.kp)) C (tx, nI (S.ln)) P hM p q (p + i) xu xv (by omega) (by omega) (by omega)) (by omega) hM.a0 rfl rfl rfl (Nat.le_of_ble_eq_true rfl) ⟨Nat.le_of_ble_eq_true rfl, Nat.le_of_ble_eq_true rfl⟩ (pk_i ?_)
                rintro r_68 g_68 ⟨hr_68, hq_68⟩
                obtain rfl := hq_68.symm
                rw [hr_68]
                clear hr_68 r_68
                refine y_icmp_eq (tgt := 78) hC dX6_blend_71 (by decide) (fun c_71 => ?_) (fun c_71 => ?_)
                · refine y_iconst (v := nI 0) hC dX6_blend_78 (by decide) ?_
                  refine y_iadd_n hC dX6_blend_79 ?_
                  refine y_istore hC dX6_blend_80 (Nat.le_of_ble_eq_true rfl) rfl (lo' := [some (rf E (0)), some (.int (nI (p))), some (.int (nI (q))), some (.int (xu)), some (.int (xv)), some (.int (nI (c + 0))), some (.int (nI (p + i)))]) rfl ?_
                  refine y_iinc_n hC dX6_blend_82 (a := p + i) (k := 1) rfl (by decide) (Nat.le_of_ble_eq_true rfl) rfl (lo' := [some (rf E (0)), some (.int (nI (p))), some (.int (nI (q))), some (.int (xu)), some (.int (xv)), some (.int (nI (c + 0))), some (.int (nI (p + i + 1)))]) rfl ?_
                  refine y_goto (tgt := 45) hC dX6_blend_85 (by decide) ?_
                  exact ih_45 (i + 1) _ (by omega) (by omega) (by rw [cn_s, ← hc]; simp only [decide_eq_true_eq]; first | rw [if_pos (fun z => c_71 z.symm)] | rw [if_neg (fun z => z c_71.symm)])
                · refine y_iconst (v := nI 1) hC dX6_blend_74 (by decide) ?_
                  refine y_goto (tgt := 79) hC dX6_blend_75 (by decide) ?_
                  refine y_iadd_n hC dX6_blend_79 ?_
                  refine y_istore hC dX6_blend_80 (Nat.le_of_ble_eq_true rfl) rfl (lo' := [some (rf E (0)), some (.int (nI (p))), some (.int (nI (q))), some (.int (xu)), some (.int (xv)), some (.int (nI (c + 1))), some (.int (nI (p + i)))]) rfl ?_
                  refine y_iinc_n hC dX6_blend_82 (a := p + i) (k := 1) rfl (by decide) (Nat.le_of_ble_eq_true rfl) rfl (lo' := [some (rf E (0)), some (.int (nI (p))), some (.int (nI (q))), some (.int (xu)), some (.int (xv)), some (.int (nI (c + 1))), some (.int (nI (p + i + 1)))]) rfl ?_
                  refine y_goto (tgt := 45) hC dX6_blend_85 (by decide) ?_
                  exact ih_45 (i + 1) _ (by omega) (by omega) (by rw [cn_s, ← hc]; simp only [decide_eq_true_eq]; first | rw [if_pos (fun z => c_71 z.symm)] | rw [if_neg (fun z => z c_71.symm)])
          exact L_45 (q + 2) 0 0 (by omega) (by omega) rfl
        · refine y_bipush (v := (-2)) hC dX6_blend_36 (by decide) ?_
          refine y_iret (hC := hC) (hd := dX6_blend_38) (hq := ?_)
          have hqq : qBlend S (nI p) (nI q) xu xv = (-2, S) := by simp only [qBlend, nn_I (show p < 2147483648 by omega), nn_I (show q < 2147483648 by omega), if_pos c_4]; exact if_neg (fun q => c_33 q.2.2)
          rw [hqq]
          exact ⟨rfl, ⟨row, hi, sn, tx, C, P, hM, hR, hH, hS, hT⟩⟩
  · refine y_iconst (v := (-1)) hC dX6_blend_7 (by decide) ?_
    refine y_iret (hC := hC) (hd := dX6_blend_8) (hq := ?_)
    have hqq : qBlend S xa xb xu xv = (-1, S) := by simp only [qBlend, if_neg c_4]
    rw [hqq]
    exact ⟨rfl, ⟨row, hi, sn, tx, C, P, hM, hR, hH, hS, hT⟩⟩

