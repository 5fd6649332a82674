/-! ===== the model: history, snapshot, and the calls that change it ===== -/
theorem dX6_record_0 : decode cX6_record 0 = .ok (.aload_n 0, 1) := by decide +kernel
theorem dX6_record_1 : decode cX6_record 1 = .ok (.getfield 49, 3) := by decide +kernel
theorem dX6_record_4 : decode cX6_record 4 = .ok (.iconst 4, 1) := by decide +kernel
theorem dX6_record_5 : decode cX6_record 5 = .ok (.if_icmp .ne 44, 3) := by decide +kernel
theorem dX6_record_8 : decode cX6_record 8 = .ok (.iconst 0, 1) := by decide +kernel
theorem dX6_record_9 : decode cX6_record 9 = .ok (.istore_n 1, 1) := by decide +kernel
theorem dX6_record_10 : decode cX6_record 10 = .ok (.iload_n 1, 1) := by decide +kernel
theorem dX6_record_11 : decode cX6_record 11 = .ok (.sipush 474, 3) := by decide +kernel
theorem dX6_record_14 : decode cX6_record 14 = .ok (.if_icmp .ge 25, 3) := by decide +kernel
theorem dX6_record_17 : decode cX6_record 17 = .ok (.aload_n 0, 1) := by decide +kernel
theorem dX6_record_18 : decode cX6_record 18 = .ok (.getfield 13, 3) := by decide +kernel
theorem dX6_record_21 : decode cX6_record 21 = .ok (.iload_n 1, 1) := by decide +kernel
theorem dX6_record_22 : decode cX6_record 22 = .ok (.aload_n 0, 1) := by decide +kernel
theorem dX6_record_23 : decode cX6_record 23 = .ok (.getfield 13, 3) := by decide +kernel
theorem dX6_record_26 : decode cX6_record 26 = .ok (.iload_n 1, 1) := by decide +kernel
theorem dX6_record_27 : decode cX6_record 27 = .ok (.sipush 158, 3) := by decide +kernel
theorem dX6_record_30 : decode cX6_record 30 = .ok (.iadd, 1) := by decide +kernel
theorem dX6_record_31 : decode cX6_record 31 = .ok (.iaload, 1) := by decide +kernel
theorem dX6_record_32 : decode cX6_record 32 = .ok (.iastore, 1) := by decide +kernel
theorem dX6_record_33 : decode cX6_record 33 = .ok (.iinc 1 1, 3) := by decide +kernel
theorem dX6_record_36 : decode cX6_record 36 = .ok (.goto (-26), 3) := by decide +kernel
theorem dX6_record_39 : decode cX6_record 39 = .ok (.aload_n 0, 1) := by decide +kernel
theorem dX6_record_40 : decode cX6_record 40 = .ok (.dup, 1) := by decide +kernel
theorem dX6_record_41 : decode cX6_record 41 = .ok (.getfield 49, 3) := by decide +kernel
theorem dX6_record_44 : decode cX6_record 44 = .ok (.iconst 1, 1) := by decide +kernel
theorem dX6_record_45 : decode cX6_record 45 = .ok (.isub, 1) := by decide +kernel
theorem dX6_record_46 : decode cX6_record 46 = .ok (.putfield 49, 3) := by decide +kernel
theorem dX6_record_49 : decode cX6_record 49 = .ok (.iconst 0, 1) := by decide +kernel
theorem dX6_record_50 : decode cX6_record 50 = .ok (.istore_n 1, 1) := by decide +kernel
theorem dX6_record_51 : decode cX6_record 51 = .ok (.iload_n 1, 1) := by decide +kernel
theorem dX6_record_52 : decode cX6_record 52 = .ok (.sipush 158, 3) := by decide +kernel
theorem dX6_record_55 : decode cX6_record 55 = .ok (.if_icmp .ge 30, 3) := by decide +kernel
theorem dX6_record_58 : decode cX6_record 58 = .ok (.aload_n 0, 1) := by decide +kernel
theorem dX6_record_59 : decode cX6_record 59 = .ok (.getfield 13, 3) := by decide +kernel
theorem dX6_record_62 : decode cX6_record 62 = .ok (.sipush 158, 3) := by decide +kernel
theorem dX6_record_65 : decode cX6_record 65 = .ok (.aload_n 0, 1) := by decide +kernel
theorem dX6_record_66 : decode cX6_record 66 = .ok (.getfield 49, 3) := by decide +kernel
theorem dX6_record_69 : decode cX6_record 69 = .ok (.imul, 1) := by decide +kernel
theorem dX6_record_70 : decode cX6_record 70 = .ok (.iload_n 1, 1) := by decide +kernel
theorem dX6_record_71 : decode cX6_record 71 = .ok (.iadd, 1) := by decide +kernel
theorem dX6_record_72 : decode cX6_record 72 = .ok (.aload_n 0, 1) := by decide +kernel
theorem dX6_record_73 : decode cX6_record 73 = .ok (.getfield 7, 3) := by decide +kernel
theorem dX6_record_76 : decode cX6_record 76 = .ok (.iload_n 1, 1) := by decide +kernel
theorem dX6_record_77 : decode cX6_record 77 = .ok (.iaload, 1) := by decide +kernel
theorem dX6_record_78 : decode cX6_record 78 = .ok (.iastore, 1) := by decide +kernel
theorem dX6_record_79 : decode cX6_record 79 = .ok (.iinc 1 1, 3) := by decide +kernel
theorem dX6_record_82 : decode cX6_record 82 = .ok (.goto (-31), 3) := by decide +kernel
theorem dX6_record_85 : decode cX6_record 85 = .ok (.aload_n 0, 1) := by decide +kernel
theorem dX6_record_86 : decode cX6_record 86 = .ok (.dup, 1) := by decide +kernel
theorem dX6_record_87 : decode cX6_record 87 = .ok (.getfield 49, 3) := by decide +kernel
theorem dX6_record_90 : decode cX6_record 90 = .ok (.iconst 1, 1) := by decide +kernel
theorem dX6_record_91 : decode cX6_record 91 = .ok (.iadd, 1) := by decide +kernel
theorem dX6_record_92 : decode cX6_record 92 = .ok (.putfield 49, 3) := by decide +kernel
theorem dX6_record_95 : decode cX6_record 95 = .ok (.return_, 1) := by decide +kernel
set_option maxHeartbeats 4000000 in
set_option maxRecDepth 100000 in
theorem c_X6_record (l : Launch) (E : gE) (g : Mem) (S : AS) (Bd : Nat) (hB : Bd < 90000000) (ho : OK S Bd) (hZ : MZ E g S) : Mt l E yX6_record cX6_record 2 none 0 0 [rf E (0)] g (pV (fun g' => MZ E g' S.rec)) := by
  have hv := ho.v
  have hrc : rc S.r ≤ 6 := hv.1.2
  have hgc : gc S.r ≤ 4 := hv.2.1.2
  have hc4 := ho.c4
  have hkp1 := ho.2.2.1
  have hl60 : S.ln ≤ 60 := ho.2.2.2.2.2.1
  refine mt_go (own := RX6) (by decide) rfl (lo := [some (rf E (0)), none]) rfl (Nat.le_of_ble_eq_true rfl) (fun X hC => ?_)
  obtain ⟨row, hi, sn, tx, C, P, hM, hR, hH, hS, hT⟩ := hZ
  have hK := hM.k
  have J_49 : ∀ (g1 : Mem) (hi1 : Nat → Int32) (c1 : Nat), (hM1 : MX E g1 row (hi1, nI c1, sn, nI S.kp) C (tx, nI S.ln) P) → (hc1 : c1 ≤ 3) → (hH1 : ∀ i, i < c1 → ∀ k, k < 158 → hi1 (158 * i + k) = recH S.c S.hr S.r i k) → (e1 : recC S.c = c1 + 1) → (e3 : recH S.c S.hr S.r c1 = S.r) → Y l E X (pV (fun g' => MZ E g' S.rec)) 49 [some (rf E (0)), none] [] g1 := by
    intro g1 hi1 c1 hM1 hc1 hH1 e1 e3
    refine y_iconst (v := nI 0) hC dX6_record_49 (by decide) ?_
    refine y_istore_n hC dX6_record_50 (i := 1) rfl (Nat.le_of_ble_eq_true rfl) rfl (lo' := [some (rf E (0)), some (.int (nI (0)))]) rfl ?_
    have L_51 : ∀ (m : Nat) (k : Nat) (g3 : Mem) (hi3 : Nat → Int32), (hm : 158 - k < m) → (hk : k ≤ 158) → (hM3 : MX E g3 row (hi3, nI c1, sn, nI S.kp) C (tx, nI S.ln) P) → (hka : ∀ j, j < 158 * c1 → hi3 j = hi1 j) → (hkb : ∀ j, j < k → hi3 (158 * c1 + j) = row j) → Y l E X (pV (fun g' => MZ E g' S.rec)) 51 [some (rf E (0)), some (.int (nI (k)))] [] g3 := by
      intro m
      induction m with
      | zero => intro k g3 hi3 hm hk hM3 hka hkb; exact absurd hm (Nat.not_lt_zero _)
      | succ m ih_51 =>
        intro k g3 hi3 hm hk hM3 hka hkb
        refine y_iload_n hC dX6_record_51 (i := 1) rfl rfl ?_
        refine y_sipush (v := nI 158) hC dX6_record_52 (by decide) ?_
        refine y_icmp_ge_n (tgt := 85) hC dX6_record_55 (by decide) (by omega) (by omega) (fun c_55 => ?_) (fun c_55 => ?_)
        · refine y_aload_n hC dX6_record_85 (i := 0) rfl rfl ?_
          refine y_dup hC dX6_record_86 rfl ?_
          refine y_get hC fX6_49 dX6_record_87 (k := 0) (by omega) hM3.a0 rfl ?_
          refine y_iconst (v := nI 1) hC dX6_record_90 (by decide) ?_
          refine y_iadd_n hC dX6_record_91 ?_
          refine y_put hC fpX6_49 dX6_record_92 (k := 0) (by omega) hM3.a0 (Nat.le_of_ble_eq_true rfl) (rfl) (rfl) (fs' := [rf E (1), rf E (2), .int (nI (c1 + 1)), rf E (3), .int (nI (S.kp)), rf E (4), rf E (5), rf E (6), .int (nI (S.ln)), .int (P.1), .int (P.2.1), rf E (7), rf E (8), rf E (9), .int (P.2.2.2.2.2.1), .int (P.2.2.2.2.2.2.1), .int (P.2.2.2.2.2.2.2), rf E (10), rf E (11)]) rfl ?_
          have hM_92 : MX E (va_up g3 (0) (oB 6 [rf E (1), rf E (2), .int (nI (c1 + 1)), rf E (3), .int (nI (S.kp)), rf E (4), rf E (5), rf E (6), .int (nI (S.ln)), .int (P.1), .int (P.2.1), rf E (7), rf E (8), rf E (9), .int (P.2.2.2.2.2.1), .int (P.2.2.2.2.2.2.1), .int (P.2.2.2.2.2.2.2), rf E (10), rf E (11)])) row (hi3, nI (c1 + 1), sn, nI (S.kp)) C (tx, nI (S.ln)) P := hM3.u0 (nI (c1 + 1)) (nI (S.kp)) (nI (S.ln)) ((P.1)) ((P.2.1)) ((P.2.2.2.2.2.1)) ((P.2.2.2.2.2.2.1)) ((P.2.2.2.2.2.2.2))
          generalize (va_up g3 (0) (oB 6 [rf E (1), rf E (2), .int (nI (c1 + 1)), rf E (3), .int (nI (S.kp)), rf E (4), rf E (5), rf E (6), .int (nI (S.ln)), .int (P.1), .int (P.2.1), rf E (7), rf E (8), rf E (9), .int (P.2.2.2.2.2.1), .int (P.2.2.2.2.2.2.1), .int (P.2.2.2.2.2.2.2), rf E (10), rf E (11)])) = g_92 at hM_92 ⊢
          refine y_vret (hC := hC) (hd := dX6_record_95) (hq := ?_)
          refine ⟨row, hi3, sn, tx, C, P, ?_, hR, fun i hi4 k2 hk2 => ?_, hS, hT⟩
          · show MX E _ row (hi3, nI (recC S.c), sn, nI S.kp) C (tx, nI S.ln) P
            rw [e1]
            exact hM_92
          · have hi5 : i < c1 + 1 := by rw [← e1]; exact hi4
            show hi3 (158 * i + k2) = recH S.c S.hr S.r i k2
            by_cases e : i = c1
            · rw [e, e3, hkb k2 (by omega)]
              exact hR k2 hk2
            · rw [hka _ (by omega)]
              exact hH1 i (by omega) k2 hk2
        · refine y_aload_n hC dX6_record_58 (i := 0) rfl rfl ?_
          refine y_get hC fX6_13 dX6_record_59 (k := 0) (by omega) hM3.a0 rfl ?_
          refine y_sipush (v := nI 158) hC dX6_record_62 (by decide) ?_
          refine y_aload_n hC dX6_record_65 (i := 0) rfl rfl ?_
          refine y_get hC fX6_49 dX6_record_66 (k := 0) (by omega) hM3.a0 rfl ?_
          refine y_imul_n hC dX6_record_69 ?_
          refine y_iload_n hC dX6_record_70 (i := 1) rfl rfl ?_
          refine y_iadd_n hC dX6_record_71 ?_
          refine y_aload_n hC dX6_record_72 (i := 0) rfl rfl ?_
          refine y_get hC fX6_7 dX6_record_73 (k := 0) (by omega) hM3.a0 rfl ?_
          refine y_iload_n hC dX6_record_76 (i := 1) rfl rfl ?_
          refine y_iald hC dX6_record_77 (k := 1) (j := k) (by omega) hM3.a1 (rfl) (by omega) (by decide) ?_
          refine y_iast hC dX6_record_78 (k := 2) (j := (158 * c1) + k) (by omega) hM3.a2 (rfl) (by omega) (by decide) ?_
          have hM_78 : MX E (va_up g3 (2) (aI E 0 632 (upd hi3 ((158 * c1) + k) ((row (k)))))) row ((upd hi3 ((158 * c1) + k) ((row (k)))), nI (c1), sn, nI (S.kp)) C (tx, nI (S.ln)) P := hM3.u2 _
          generalize (va_up g3 (2) (aI E 0 632 (upd hi3 ((158 * c1) + k) ((row (k)))))) = g_78 at hM_78 ⊢
          refine y_iinc_n hC dX6_record_79 (a := k) (k := 1) rfl (by decide) (Nat.le_of_ble_eq_true rfl) rfl (lo' := [some (rf E (0)), some (.int (nI (k + 1)))]) rfl ?_
          refine y_goto (tgt := 51) hC dX6_record_82 (by decide) ?_
          exact ih_51 (k + 1) g_78 _ (by omega) (by omega) hM_78 (fun j hj => by rw [pk_un (by omega)]; exact hka j hj) (fun j hj => by
              by_cases e : j = k
              · rw [e, pk_us]
              · rw [pk_un (by omega)]; exact hkb j (by omega))
    exact L_51 159 0 g1 hi1 (by omega) (by omega) hM1 (fun _ _ => rfl) (fun _ hj => absurd hj (Nat.not_lt_zero _))
  refine y_aload_n hC dX6_record_0 (i := 0) rfl rfl ?_
  refine y_get hC fX6_49 dX6_record_1 (k := 0) (by omega) hM.a0 rfl ?_
  refine y_iconst (v := nI 4) hC dX6_record_4 (by decide) ?_
  refine y_icmp_ne_n (tgt := 49) hC dX6_record_5 (by decide) (by omega) (by omega) (fun c_5 => ?_) (fun c_5 => ?_)
  · exact J_49 g hi S.c hM (by omega) (fun i hi2 k hk => by unfold recH; rw [if_neg c_5, if_pos hi2]; exact hH i hi2 k hk) (if_neg c_5) (by unfold recH; rw [if_neg c_5, if_neg (Nat.lt_irrefl _)])
  · refine y_iconst (v := nI 0) hC dX6_record_8 (by decide) ?_
    refine y_istore_n hC dX6_record_9 (i := 1) rfl (Nat.le_of_ble_eq_true rfl) rfl (lo' := [some (rf E (0)), some (.int (nI (0)))]) rfl ?_
    have L_10 : ∀ (m : Nat) (k : Nat) (g2 : Mem) (hi2 : Nat → Int32), (hm : 474 - k < m) → (hk : k ≤ 474) → (hM2 : MX E g2 row (hi2, nI S.c, sn, nI S.kp) C (tx, nI S.ln) P) → (hk0 : ∀ j, j < 632 → hi2 j = if j < k then hi (j + 158) else hi j) → Y l E X (pV (fun g' => MZ E g' S.rec)) 10 [some (rf E (0)), some (.int (nI (k)))] [] g2 := by
      intro m
      induction m with
      | zero => intro k g2 hi2 hm hk hM2 hk0; exact absurd hm (Nat.not_lt_zero _)
      | succ m ih_10 =>
        intro k g2 hi2 hm hk hM2 hk0
        refine y_iload_n hC dX6_record_10 (i := 1) rfl rfl ?_
        refine y_sipush (v := nI 474) hC dX6_record_11 (by decide) ?_
        refine y_icmp_ge_n (tgt := 39) hC dX6_record_14 (by decide) (by omega) (by omega) (fun c_14 => ?_) (fun c_14 => ?_)
        · have hk474 : k = 474 := by omega
          subst hk474
          refine y_aload_n hC dX6_record_39 (i := 0) rfl rfl ?_
          refine y_dup hC dX6_record_40 rfl ?_
          refine y_get hC fX6_49 dX6_record_41 (k := 0) (by omega) hM2.a0 rfl ?_
          refine y_iconst (v := nI 1) hC dX6_record_44 (by decide) ?_
          refine y_isub_n hC dX6_record_45 (by omega) ?_
          refine y_put hC fpX6_49 dX6_record_46 (k := 0) (by omega) hM2.a0 (Nat.le_of_ble_eq_true rfl) (rfl) (rfl) (fs' := [rf E (1), rf E (2), .int (nI (S.c - (1))), rf E (3), .int (nI (S.kp)), rf E (4), rf E (5), rf E (6), .int (nI (S.ln)), .int (P.1), .int (P.2.1), rf E (7), rf E (8), rf E (9), .int (P.2.2.2.2.2.1), .int (P.2.2.2.2.2.2.1), .int (P.2.2.2.2.2.2.2), rf E (10), rf E (11)]) rfl ?_
          have hM_46 : MX E (va_up g2 (0) (oB 6 [rf E (1), rf E (2), .int (nI (S.c - (1))), rf E (3), .int (nI (S.kp)), rf E (4), rf E (5), rf E (6), .int (nI (S.ln)), .int (P.1), .int (P.2.1), rf E (7), rf E (8), rf E (9), .int (P.2.2.2.2.2.1), .int (P.2.2.2.2.2.2.1), .int (P.2.2.2.2.2.2.2), rf E (10), rf E (11)])) row (hi2, nI (S.c - (1)), sn, nI (S.kp)) C (tx, nI (S.ln)) P := hM2.u0 (nI (S.c - (1))) (nI (S.kp)) (nI (S.ln)) ((P.1)) ((P.2.1)) ((P.2.2.2.2.2.1)) ((P.2.2.2.2.2.2.1)) ((P.2.2.2.2.2.2.2))
          generalize (va_up g2 (0) (oB 6 [rf E (1), rf E (2), .int (nI (S.c - (1))), rf E (3), .int (nI (S.kp)), rf E (4), rf E (5), rf E (6), .int (nI (S.ln)), .int (P.1), .int (P.2.1), rf E (7), rf E (8), rf E (9), .int (P.2.2.2.2.2.1), .int (P.2.2.2.2.2.2.1), .int (P.2.2.2.2.2.2.2), rf E (10), rf E (11)])) = g_46 at hM_46 ⊢
          have c_5n : S.c - 1 = 3 := by omega
          rw [c_5n] at hM_46
          refine y_fg 1 (lo' := [some (rf E (0)), none]) rfl ?_
          exact J_49 g_46 hi2 3 hM_46 (by omega) (fun i hi3 k hk2 => by unfold recH; rw [if_pos c_5, if_pos (show i < 3 by omega), hk0 _ (by omega), if_pos (by omega), show 158 * i + k + 158 = 158 * (i + 1) + k by omega]; exact hH (i + 1) (by omega) k hk2) (if_pos c_5) (by unfold recH; rw [if_pos c_5, if_neg (by decide)])
        · refine y_aload_n hC dX6_record_17 (i := 0) rfl rfl ?_
          refine y_get hC fX6_13 dX6_record_18 (k := 0) (by omega) hM2.a0 rfl ?_
          refine y_iload_n hC dX6_record_21 (i := 1) rfl rfl ?_
          refine y_aload_n hC dX6_record_22 (i := 0) rfl rfl ?_
          refine y_get hC fX6_13 dX6_record_23 (k := 0) (by omega) hM2.a0 rfl ?_
          refine y_iload_n hC dX6_record_26 (i := 1) rfl rfl ?_
          refine y_sipush (v := nI 158) hC dX6_record_27 (by decide) ?_
          refine y_iadd_n hC dX6_record_30 ?_
          refine y_iald hC dX6_record_31 (k := 2) (j := k + 158) (by omega) hM2.a2 (rfl) (by omega) (by decide) ?_
          refine y_iast hC dX6_record_32 (k := 2) (j := k) (by omega) hM2.a2 (rfl) (by omega) (by decide) ?_
          have hM_32 : MX E (va_up g2 (2) (aI E 0 632 (upd hi2 (k) ((hi2 (k + 158)))))) row ((upd hi2 (k) ((hi2 (k + 158)))), nI (S.c), sn, nI (S.kp)) C (tx, nI (S.ln)) P := hM2.u2 _
          generalize (va_up g2 (2) (aI E 0 632 (upd hi2 (k) ((hi2 (k + 158)))))) = g_32 at hM_32 ⊢
          refine y_iinc_n hC dX6_record_33 (a := k) (k := 1) rfl (by decide) (Nat.le_of_ble_eq_true rfl) rfl (lo' := [some (rf E (0)), some (.int (nI (k + 1)))]) rfl ?_
          refine y_goto (tgt := 10) hC dX6_record_36 (by decide) ?_
          exact ih_10 (k + 1) g_32 _ (by omega) (by omega) hM_32 (fun j hj => by
              by_cases e : j = k
              · rw [e, pk_us, if_pos (by omega), hk0 _ (by omega), if_neg (by omega)]
              · rw [pk_un e, hk0 j hj]
                by_cases q : j < k
                · rw [if_pos q, if_pos (by omega)]
                · rw [if_neg q, if_neg (by omega)])
    exact L_10 475 0 g hi (by omega) (by omega) hM (fun j hj => by rw [if_neg (Nat.not_lt_zero j)])

