/-! ===== the model: more of the calls that change it ===== -/
theorem begR_put {r : Row} {a c : Nat} {sh : Nat → Int32} (hc : c < 32) : rc (putR r a c sh) = rc r ∧ gc (putR r a c sh) = gc r := ⟨rc_of (putR_lo hc (by decide)), gc_of (putR_lo hc (by decide))⟩
theorem dX6_freeze_0 : decode cX6_freeze 0 = .ok (.aload_n 0, 1) := by decide +kernel
theorem dX6_freeze_1 : decode cX6_freeze 1 = .ok (.invokevirtual 57, 3) := by decide +kernel
theorem dX6_freeze_4 : decode cX6_freeze 4 = .ok (.aload_n 0, 1) := by decide +kernel
theorem dX6_freeze_5 : decode cX6_freeze 5 = .ok (.invokevirtual 110, 3) := by decide +kernel
theorem dX6_freeze_8 : decode cX6_freeze 8 = .ok (.iconst 0, 1) := by decide +kernel
theorem dX6_freeze_9 : decode cX6_freeze 9 = .ok (.istore_n 1, 1) := by decide +kernel
theorem dX6_freeze_10 : decode cX6_freeze 10 = .ok (.iconst 0, 1) := by decide +kernel
theorem dX6_freeze_11 : decode cX6_freeze 11 = .ok (.istore_n 2, 1) := by decide +kernel
theorem dX6_freeze_12 : decode cX6_freeze 12 = .ok (.iload_n 2, 1) := by decide +kernel
theorem dX6_freeze_13 : decode cX6_freeze 13 = .ok (.bipush 32, 2) := by decide +kernel
theorem dX6_freeze_15 : decode cX6_freeze 15 = .ok (.if_icmp .ge 44, 3) := by decide +kernel
theorem dX6_freeze_18 : decode cX6_freeze 18 = .ok (.iload_n 1, 1) := by decide +kernel
theorem dX6_freeze_19 : decode cX6_freeze 19 = .ok (.aload_n 0, 1) := by decide +kernel
theorem dX6_freeze_20 : decode cX6_freeze 20 = .ok (.getfield 7, 3) := by decide +kernel
theorem dX6_freeze_23 : decode cX6_freeze 23 = .ok (.iload_n 2, 1) := by decide +kernel
theorem dX6_freeze_24 : decode cX6_freeze 24 = .ok (.iaload, 1) := by decide +kernel
theorem dX6_freeze_25 : decode cX6_freeze 25 = .ok (.aload_n 0, 1) := by decide +kernel
theorem dX6_freeze_26 : decode cX6_freeze 26 = .ok (.getfield 22, 3) := by decide +kernel
theorem dX6_freeze_29 : decode cX6_freeze 29 = .ok (.iload_n 2, 1) := by decide +kernel
theorem dX6_freeze_30 : decode cX6_freeze 30 = .ok (.iaload, 1) := by decide +kernel
theorem dX6_freeze_31 : decode cX6_freeze 31 = .ok (.if_icmp .eq 7, 3) := by decide +kernel
theorem dX6_freeze_34 : decode cX6_freeze 34 = .ok (.iconst 1, 1) := by decide +kernel
theorem dX6_freeze_35 : decode cX6_freeze 35 = .ok (.goto 4, 3) := by decide +kernel
theorem dX6_freeze_38 : decode cX6_freeze 38 = .ok (.iconst 0, 1) := by decide +kernel
theorem dX6_freeze_39 : decode cX6_freeze 39 = .ok (.iadd, 1) := by decide +kernel
theorem dX6_freeze_40 : decode cX6_freeze 40 = .ok (.istore_n 1, 1) := by decide +kernel
theorem dX6_freeze_41 : decode cX6_freeze 41 = .ok (.aload_n 0, 1) := by decide +kernel
theorem dX6_freeze_42 : decode cX6_freeze 42 = .ok (.getfield 7, 3) := by decide +kernel
theorem dX6_freeze_45 : decode cX6_freeze 45 = .ok (.iload_n 2, 1) := by decide +kernel
theorem dX6_freeze_46 : decode cX6_freeze 46 = .ok (.aload_n 0, 1) := by decide +kernel
theorem dX6_freeze_47 : decode cX6_freeze 47 = .ok (.getfield 22, 3) := by decide +kernel
theorem dX6_freeze_50 : decode cX6_freeze 50 = .ok (.iload_n 2, 1) := by decide +kernel
theorem dX6_freeze_51 : decode cX6_freeze 51 = .ok (.iaload, 1) := by decide +kernel
theorem dX6_freeze_52 : decode cX6_freeze 52 = .ok (.iastore, 1) := by decide +kernel
theorem dX6_freeze_53 : decode cX6_freeze 53 = .ok (.iinc 2 1, 3) := by decide +kernel
theorem dX6_freeze_56 : decode cX6_freeze 56 = .ok (.goto (-44), 3) := by decide +kernel
theorem dX6_freeze_59 : decode cX6_freeze 59 = .ok (.iconst 0, 1) := by decide +kernel
theorem dX6_freeze_60 : decode cX6_freeze 60 = .ok (.istore_n 2, 1) := by decide +kernel
theorem dX6_freeze_61 : decode cX6_freeze 61 = .ok (.iload_n 2, 1) := by decide +kernel
theorem dX6_freeze_62 : decode cX6_freeze 62 = .ok (.aload_n 0, 1) := by decide +kernel
theorem dX6_freeze_63 : decode cX6_freeze 63 = .ok (.getfield 7, 3) := by decide +kernel
theorem dX6_freeze_66 : decode cX6_freeze 66 = .ok (.bipush 32, 2) := by decide +kernel
theorem dX6_freeze_68 : decode cX6_freeze 68 = .ok (.iaload, 1) := by decide +kernel
theorem dX6_freeze_69 : decode cX6_freeze 69 = .ok (.if_icmp .ge 40, 3) := by decide +kernel
theorem dX6_freeze_72 : decode cX6_freeze 72 = .ok (.aload_n 0, 1) := by decide +kernel
theorem dX6_freeze_73 : decode cX6_freeze 73 = .ok (.getfield 7, 3) := by decide +kernel
theorem dX6_freeze_76 : decode cX6_freeze 76 = .ok (.bipush 33, 2) := by decide +kernel
theorem dX6_freeze_78 : decode cX6_freeze 78 = .ok (.bipush 7, 2) := by decide +kernel
theorem dX6_freeze_80 : decode cX6_freeze 80 = .ok (.iload_n 2, 1) := by decide +kernel
theorem dX6_freeze_81 : decode cX6_freeze 81 = .ok (.imul, 1) := by decide +kernel
theorem dX6_freeze_82 : decode cX6_freeze 82 = .ok (.iadd, 1) := by decide +kernel
theorem dX6_freeze_83 : decode cX6_freeze 83 = .ok (.iconst 5, 1) := by decide +kernel
theorem dX6_freeze_84 : decode cX6_freeze 84 = .ok (.iadd, 1) := by decide +kernel
theorem dX6_freeze_85 : decode cX6_freeze 85 = .ok (.iconst 0, 1) := by decide +kernel
theorem dX6_freeze_86 : decode cX6_freeze 86 = .ok (.iastore, 1) := by decide +kernel
theorem dX6_freeze_87 : decode cX6_freeze 87 = .ok (.aload_n 0, 1) := by decide +kernel
theorem dX6_freeze_88 : decode cX6_freeze 88 = .ok (.getfield 7, 3) := by decide +kernel
theorem dX6_freeze_91 : decode cX6_freeze 91 = .ok (.bipush 33, 2) := by decide +kernel
theorem dX6_freeze_93 : decode cX6_freeze 93 = .ok (.bipush 7, 2) := by decide +kernel
theorem dX6_freeze_95 : decode cX6_freeze 95 = .ok (.iload_n 2, 1) := by decide +kernel
theorem dX6_freeze_96 : decode cX6_freeze 96 = .ok (.imul, 1) := by decide +kernel
theorem dX6_freeze_97 : decode cX6_freeze 97 = .ok (.iadd, 1) := by decide +kernel
theorem dX6_freeze_98 : decode cX6_freeze 98 = .ok (.bipush 6, 2) := by decide +kernel
theorem dX6_freeze_100 : decode cX6_freeze 100 = .ok (.iadd, 1) := by decide +kernel
theorem dX6_freeze_101 : decode cX6_freeze 101 = .ok (.iconst 0, 1) := by decide +kernel
theorem dX6_freeze_102 : decode cX6_freeze 102 = .ok (.iastore, 1) := by decide +kernel
theorem dX6_freeze_103 : decode cX6_freeze 103 = .ok (.iinc 2 1, 3) := by decide +kernel
theorem dX6_freeze_106 : decode cX6_freeze 106 = .ok (.goto (-45), 3) := by decide +kernel
theorem dX6_freeze_109 : decode cX6_freeze 109 = .ok (.iconst 0, 1) := by decide +kernel
theorem dX6_freeze_110 : decode cX6_freeze 110 = .ok (.istore_n 2, 1) := by decide +kernel
theorem dX6_freeze_111 : decode cX6_freeze 111 = .ok (.iload_n 2, 1) := by decide +kernel
theorem dX6_freeze_112 : decode cX6_freeze 112 = .ok (.aload_n 0, 1) := by decide +kernel
theorem dX6_freeze_113 : decode cX6_freeze 113 = .ok (.getfield 7, 3) := by decide +kernel
theorem dX6_freeze_116 : decode cX6_freeze 116 = .ok (.bipush 75, 2) := by decide +kernel
theorem dX6_freeze_118 : decode cX6_freeze 118 = .ok (.iaload, 1) := by decide +kernel
theorem dX6_freeze_119 : decode cX6_freeze 119 = .ok (.if_icmp .ge 23, 3) := by decide +kernel
theorem dX6_freeze_122 : decode cX6_freeze 122 = .ok (.aload_n 0, 1) := by decide +kernel
theorem dX6_freeze_123 : decode cX6_freeze 123 = .ok (.getfield 7, 3) := by decide +kernel
theorem dX6_freeze_126 : decode cX6_freeze 126 = .ok (.bipush 76, 2) := by decide +kernel
theorem dX6_freeze_128 : decode cX6_freeze 128 = .ok (.iconst 4, 1) := by decide +kernel
theorem dX6_freeze_129 : decode cX6_freeze 129 = .ok (.iload_n 2, 1) := by decide +kernel
theorem dX6_freeze_130 : decode cX6_freeze 130 = .ok (.imul, 1) := by decide +kernel
theorem dX6_freeze_131 : decode cX6_freeze 131 = .ok (.iadd, 1) := by decide +kernel
theorem dX6_freeze_132 : decode cX6_freeze 132 = .ok (.iconst 3, 1) := by decide +kernel
theorem dX6_freeze_133 : decode cX6_freeze 133 = .ok (.iadd, 1) := by decide +kernel
theorem dX6_freeze_134 : decode cX6_freeze 134 = .ok (.iconst 0, 1) := by decide +kernel
theorem dX6_freeze_135 : decode cX6_freeze 135 = .ok (.iastore, 1) := by decide +kernel
theorem dX6_freeze_136 : decode cX6_freeze 136 = .ok (.iinc 2 1, 3) := by decide +kernel
theorem dX6_freeze_139 : decode cX6_freeze 139 = .ok (.goto (-28), 3) := by decide +kernel
theorem dX6_freeze_142 : decode cX6_freeze 142 = .ok (.iload_n 1, 1) := by decide +kernel
theorem dX6_freeze_143 : decode cX6_freeze 143 = .ok (.ireturn, 1) := by decide +kernel
set_option maxHeartbeats 4000000 in
set_option maxRecDepth 100000 in
theorem c_X6_freeze (l : Launch) (E : gE) (g : Mem) (S : AS) (Bd : Nat) (hB : Bd < 90000000) (ho : OK S Bd) (hZ : MZ E g S) : Mt l E yX6_freeze cX6_freeze 3 (some .int) 6 133 [rf E (0)] g (pI (fun z g' => z = (qFreeze S ).1 ∧ MZ E g' (qFreeze S ).2)) := by
  have hv := ho.v
  have hrc : rc S.r ≤ 6 := hv.1.2
  have hgc : gc S.r ≤ 4 := hv.2.1.2
  have hc4 := ho.c4
  have hkp1 := ho.2.2.1
  have hl60 : S.ln ≤ 60 := ho.2.2.2.2.2.1
  refine mt_go (own := RX6) (by decide) rfl (lo := [some (rf E (0)), none, none]) rfl (Nat.le_of_ble_eq_true rfl) (fun X hC => ?_)
  obtain ⟨row, hi, sn, tx, C, P, hM, hR, hH, hS, hT⟩ := hZ
  have hK := hM.k
  refine y_aload_n hC dX6_freeze_0 (i := 0) rfl rfl ?_
  refine y_callV hC mX6_record kX6_57 dX6_freeze_1 (b := 0) (As := []) (rest := []) (c_X6_record l E g S Bd hB ho ⟨row, hi, sn, tx, C, P, hM, hR, hH, hS, hT⟩) (by omega) hM.a0 rfl rfl rfl (Nat.le_of_ble_eq_true rfl) ⟨Nat.le_of_ble_eq_true rfl, Nat.le_of_ble_eq_true rfl⟩ (pk_v ?_)
  rintro g_1 hz_1
  obtain ⟨row_1, hi_1, sn_1, tx_1, C_1, P_1, hM_1, hR_1, hH_1, hS_1, hT_1⟩ := hz_1
  have hK_1 := hM_1.k
  refine y_aload_n hC dX6_freeze_4 (i := 0) rfl rfl ?_
  refine y_callV hC mX6_show kX6_110 dX6_freeze_5 (b := 0) (As := []) (rest := []) (c_X6_show l E g_1 row_1 (hi_1, nI (S.rec.c), sn_1, nI (S.rec.kp)) C_1 (tx_1, nI (S.rec.ln)) P_1 hM_1 S.r Bd (by omega) hR_1 hv) (by omega) hM_1.a0 rfl rfl rfl (Nat.le_of_ble_eq_true rfl) ⟨Nat.le_of_ble_eq_true rfl, Nat.le_of_ble_eq_true rfl⟩ (pk_v ?_)
  rintro g_5 ⟨co_5, hco_5, hM_5⟩
  refine y_iconst (v := nI 0) hC dX6_freeze_8 (by decide) ?_
  refine y_istore_n hC dX6_freeze_9 (i := 1) rfl (Nat.le_of_ble_eq_true rfl) rfl (lo' := [some (rf E (0)), some (.int (nI (0))), none]) rfl ?_
  refine y_iconst (v := nI 0) hC dX6_freeze_10 (by decide) ?_
  refine y_istore_n hC dX6_freeze_11 (i := 2) rfl (Nat.le_of_ble_eq_true rfl) rfl (lo' := [some (rf E (0)), some (.int (nI (0))), some (.int (nI (0)))]) rfl ?_
  have L_12 : ∀ (m : Nat) (i c : Nat) (g1 : Mem) (row1 : Nat → Int32), (hm : 32 - i < m) → (hil : i ≤ 32) → (hM1 : MX E g1 row1 (hi_1, nI S.rec.c, sn_1, nI S.rec.kp) (C_1.1, co_5, C_1.2.2.1, C_1.2.2.2) (tx_1, nI S.rec.ln) P_1) → (hk0 : ∀ k, k < 158 → row1 k = if k < i then shS S.r k else S.r k) → (hc : c = cn i (fun i => decide (¬ shS S.r (0 + i) = S.r (0 + i)))) → Y l E X (pI (fun z g' => z = (qFreeze S ).1 ∧ MZ E g' (qFreeze S ).2)) 12 [some (rf E (0)), some (.int (nI (c))), some (.int (nI (i)))] [] g1 := by
    intro m
    induction m with
    | zero => intro i c g1 row1 hm hil hM1 hk0 hc; exact absurd hm (Nat.not_lt_zero _)
    | succ m ih_12 =>
      intro i c g1 row1 hm hil hM1 hk0 hc
      refine y_iload_n hC dX6_freeze_12 (i := 2) rfl rfl ?_
      refine y_bipush (v := nI 32) hC dX6_freeze_13 (by decide) ?_
      refine y_icmp_ge_n (tgt := 59) hC dX6_freeze_15 (by decide) (by omega) (by omega) (fun c_15 => ?_) (fun c_15 => ?_)
      · have hk1 : ∀ k, k < 158 → row1 k = putR S.r 0 31 (shS S.r) k := fun k hk => by
          rw [hk0 k hk]
          unfold putR
          by_cases z : k < i
          · rw [if_pos z, if_pos (by omega)]
          · rw [if_neg z, if_neg (by omega)]
        have hce : c = oth (shS S.r) S.r 0 31 := by rw [hc]; unfold oth; rw [show i = 31 + 1 - 0 by omega]
        have hbp := begR_put (r := S.r) (a := 0) (c := 31) (sh := shS S.r) (by decide)
        clear hk0 ih_12 hc hil
        refine y_iconst (v := nI 0) hC dX6_freeze_59 (by decide) ?_
        refine y_istore_n hC dX6_freeze_60 (i := 2) rfl (Nat.le_of_ble_eq_true rfl) rfl (lo' := [some (rf E (0)), some (.int (nI (c))), some (.int (nI (0)))]) rfl ?_
        have L_61 : ∀ (m : Nat) (i : Nat) (g1 : Mem) (row1 : Nat → Int32), (hm : rc S.r - i < m) → (hil : i ≤ rc S.r) → (hM1 : MX E g1 row1 (hi_1, nI S.rec.c, sn_1, nI S.rec.kp) (C_1.1, co_5, C_1.2.2.1, C_1.2.2.2) (tx_1, nI S.rec.ln) P_1) → (hk2 : ∀ k, k < 158 → row1 k = if 33 ≤ k ∧ k < 33 + 7 * i ∧ 5 ≤ (k - 33) % 7 then nI 0 else putR S.r 0 31 (shS S.r) k) → Y l E X (pI (fun z g' => z = (qFreeze S ).1 ∧ MZ E g' (qFreeze S ).2)) 61 [some (rf E (0)), some (.int (nI (c))), some (.int (nI (i)))] [] g1 := by
          intro m
          induction m with
          | zero => intro i g1 row1 hm hil hM1 hk2; exact absurd hm (Nat.not_lt_zero _)
          | succ m ih_61 =>
            intro i g1 row1 hm hil hM1 hk2
            refine y_iload_n hC dX6_freeze_61 (i := 2) rfl rfl ?_
            refine y_aload_n hC dX6_freeze_62 (i := 0) rfl rfl ?_
            refine y_get hC fX6_7 dX6_freeze_63 (k := 0) (by omega) hM1.a0 rfl ?_
            refine y_bipush (v := nI 32) hC dX6_freeze_66 (by decide) ?_
            refine y_iald hC dX6_freeze_68 (k := 1) (j := 32) (by omega) hM1.a1 (rfl) (by omega) (by decide) ?_
            refine y_top (y := nI (rc S.r)) ((hk2 32 (by decide)).trans ((if_neg (by omega)).trans ((putR_lo (by decide) (by decide)).trans hv.1.1))) ?_
            refine y_icmp_ge_n (tgt := 109) hC dX6_freeze_69 (by decide) (by omega) (by omega) (fun c_69 => ?_) (fun c_69 => ?_)
            · refine y_iconst (v := nI 0) hC dX6_freeze_109 (by decide) ?_
              refine y_istore_n hC dX6_freeze_110 (i := 2) rfl (Nat.le_of_ble_eq_true rfl) rfl (lo' := [some (rf E (0)), some (.int (nI (c))), some (.int (nI (0)))]) rfl ?_
              have hk2n : ∀ k, k < 158 → row1 k = if 33 ≤ k ∧ k < 33 + 7 * rc S.r ∧ 5 ≤ (k - 33) % 7 then nI 0 else putR S.r 0 31 (shS S.r) k := fun k hk => by rw [hk2 k hk, show i = rc S.r by omega]
              have L_111 : ∀ (m : Nat) (i : Nat) (g1 : Mem) (row2 : Nat → Int32), (hm : gc S.r - i < m) → (hil3 : i ≤ gc S.r) → (hM1 : MX E g1 row2 (hi_1, nI S.rec.c, sn_1, nI S.rec.kp) (C_1.1, co_5, C_1.2.2.1, C_1.2.2.2) (tx_1, nI S.rec.ln) P_1) → (hk3 : ∀ k, k < 158 → row2 k = if 33 ≤ k ∧ k < 33 + 7 * rc S.r ∧ 5 ≤ (k - 33) % 7 then nI 0 else if 76 ≤ k ∧ k < 76 + 4 * i ∧ (k - 76) % 4 = 3 then nI 0 else putR S.r 0 31 (shS S.r) k) → Y l E X (pI (fun z g' => z = (qFreeze S ).1 ∧ MZ E g' (qFreeze S ).2)) 111 [some (rf E (0)), some (.int (nI (c))), some (.int (nI (i)))] [] g1 := by
                intro m
                induction m with
                | zero => intro i g1 row2 hm hil3 hM1 hk3; exact absurd hm (Nat.not_lt_zero _)
                | succ m ih_111 =>
                  intro i g1 row2 hm hil3 hM1 hk3
                  refine y_iload_n hC dX6_freeze_111 (i := 2) rfl rfl ?_
                  refine y_aload_n hC dX6_freeze_112 (i := 0) rfl rfl ?_
                  refine y_get hC fX6_7 dX6_freeze_113 (k := 0) (by omega) hM1.a0 rfl ?_
                  refine y_bipush (v := nI 75) hC dX6_freeze_116 (by decide) ?_
                  refine y_iald hC dX6_freeze_118 (k := 1) (j := 75) (by omega) hM1.a1 (rfl) (by omega) (by decide) ?_
                  refine y_top (y := nI (gc S.r)) ((hk3 75 (by decide)).trans ((if_neg (by omega)).trans ((if_neg (by omega)).trans ((putR_lo (by decide) (by decide)).trans hv.2.1.1)))) ?_
                  refine y_icmp_ge_n (tgt := 142) hC dX6_freeze_119 (by decide) (by omega) (by omega) (fun c_119 => ?_) (fun c_119 => ?_)
                  · refine y_iload_n hC dX6_freeze_142 (i := 1) rfl rfl ?_
                    refine y_iret (hC := hC) (hd := dX6_freeze_143) (hq := ?_)
                    have hqq : qFreeze S  = (nI (oth (shS S.r) S.r 0 31), S.rec.row (begR (putR S.r 0 31 (shS S.r)))) := by simp only [qFreeze]
                    rw [hqq]
                    exact ⟨congrArg nI hce, ⟨row2, hi_1, sn_1, tx_1, (C_1.1, co_5, C_1.2.2.1, C_1.2.2.2), P_1, hM1, (fun k hk => by
                      rw [hk3 k hk]
                      show _ = begR (putR S.r 0 31 (shS S.r)) k
                      unfold begR
                      rw [hbp.1, hbp.2, show i = gc S.r by omega]), hH_1, hS_1, hT_1⟩⟩
                  · refine y_aload_n hC dX6_freeze_122 (i := 0) rfl rfl ?_
                    refine y_get hC fX6_7 dX6_freeze_123 (k := 0) (by omega) hM1.a0 rfl ?_
                    refine y_bipush (v := nI 76) hC dX6_freeze_126 (by decide) ?_
                    refine y_iconst (v := nI 4) hC dX6_freeze_128 (by decide) ?_
                    refine y_iload_n hC dX6_freeze_129 (i := 2) rfl rfl ?_
                    refine y_imul_n hC dX6_freeze_130 ?_
                    refine y_iadd_n hC dX6_freeze_131 ?_
                    refine y_iconst (v := nI 3) hC dX6_freeze_132 (by decide) ?_
                    refine y_iadd_n hC dX6_freeze_133 ?_
                    refine y_iconst (v := nI 0) hC dX6_freeze_134 (by decide) ?_
                    refine y_iast hC dX6_freeze_135 (k := 1) (j := (76 + (4 * i)) + 3) (by omega) hM1.a1 (rfl) (by omega) (by decide) ?_
                    have hM_135 : MX E (va_up g1 (1) (aI E 0 158 (upd row2 ((76 + (4 * i)) + 3) (nI (0))))) ((upd row2 ((76 + (4 * i)) + 3) (nI (0)))) (hi_1, nI (S.rec.c), sn_1, nI (S.rec.kp)) (C_1.1, co_5, C_1.2.2.1, C_1.2.2.2) (tx_1, nI (S.rec.ln)) P_1 := hM1.u1 _
                    generalize (va_up g1 (1) (aI E 0 158 (upd row2 ((76 + (4 * i)) + 3) (nI (0))))) = g_135 at hM_135 ⊢
                    refine y_iinc_n hC dX6_freeze_136 (a := i) (k := 1) rfl (by decide) (Nat.le_of_ble_eq_true rfl) rfl (lo' := [some (rf E (0)), some (.int (nI (c))), some (.int (nI (i + 1)))]) rfl ?_
                    refine y_goto (tgt := 111) hC dX6_freeze_139 (by decide) ?_
                    exact ih_111 (i + 1) g_135 _ (by omega) (by omega) hM_135 (fun k hk => by
                        by_cases e : k = 76 + 4 * i + 3
                        · rw [e, pk_us, if_neg (by omega), if_pos (by omega)]
                        · rw [pk_un e, hk3 k hk]
                          by_cases z : 33 ≤ k ∧ k < 33 + 7 * rc S.r ∧ 5 ≤ (k - 33) % 7
                          · rw [if_pos z, if_pos z]
                          · rw [if_neg z, if_neg z]
                            by_cases z2 : 76 ≤ k ∧ k < 76 + 4 * i ∧ (k - 76) % 4 = 3
                            · rw [if_pos z2, if_pos (by omega)]
                            · rw [if_neg z2, if_neg (by omega)])
              exact L_111 (gc S.r + 1) 0 g1 row1 (by omega) (by omega) hM1 (fun k hk => by rw [hk2n k hk, if_neg (show ¬ (76 ≤ k ∧ k < 76 + 4 * 0 ∧ (k - 76) % 4 = 3) by omega)])
            · refine y_aload_n hC dX6_freeze_72 (i := 0) rfl rfl ?_
              refine y_get hC fX6_7 dX6_freeze_73 (k := 0) (by omega) hM1.a0 rfl ?_
              refine y_bipush (v := nI 33) hC dX6_freeze_76 (by decide) ?_
              refine y_bipush (v := nI 7) hC dX6_freeze_78 (by decide) ?_
              refine y_iload_n hC dX6_freeze_80 (i := 2) rfl rfl ?_
              refine y_imul_n hC dX6_freeze_81 ?_
              refine y_iadd_n hC dX6_freeze_82 ?_
              refine y_iconst (v := nI 5) hC dX6_freeze_83 (by decide) ?_
              refine y_iadd_n hC dX6_freeze_84 ?_
              refine y_iconst (v := nI 0) hC dX6_freeze_85 (by decide) ?_
              refine y_iast hC dX6_freeze_86 (k := 1) (j := (33 + (7 * i)) + 5) (by omega) hM1.a1 (rfl) (by omega) (by decide) ?_
              have hM_86 : MX E (va_up g1 (1) (aI E 0 158 (upd row1 ((33 + (7 * i)) + 5) (nI (0))))) ((upd row1 ((33 + (7 * i)) + 5) (nI (0)))) (hi_1, nI (S.rec.c), sn_1, nI (S.rec.kp)) (C_1.1, co_5, C_1.2.2.1, C_1.2.2.2) (tx_1, nI (S.rec.ln)) P_1 := hM1.u1 _
              generalize (va_up g1 (1) (aI E 0 158 (upd row1 ((33 + (7 * i)) + 5) (nI (0))))) = g_86 at hM_86 ⊢
              refine y_aload_n hC dX6_freeze_87 (i := 0) rfl rfl ?_
              refine y_get hC fX6_7 dX6_freeze_88 (k := 0) (by omega) hM_86.a0 rfl ?_
              refine y_bipush (v := nI 33) hC dX6_freeze_91 (by decide) ?_
              refine y_bipush (v := nI 7) hC dX6_freeze_93 (by decide) ?_
              refine y_iload_n hC dX6_freeze_95 (i := 2) rfl rfl ?_
              refine y_imul_n hC dX6_freeze_96 ?_
              refine y_iadd_n hC dX6_freeze_97 ?_
              refine y_bipush (v := nI 6) hC dX6_freeze_98 (by decide) ?_
              refine y_iadd_n hC dX6_freeze_100 ?_
              refine y_iconst (v := nI 0) hC dX6_freeze_101 (by decide) ?_
              refine y_iast hC dX6_freeze_102 (k := 1) (j := (33 + (7 * i)) + 6) (by omega) hM_86.a1 (rfl) (by omega) (by decide) ?_
              have hM_102 : MX E (va_up g_86 (1) (aI E 0 158 (upd ((upd row1 ((33 + (7 * i)) + 5) (nI (0)))) ((33 + (7 * i)) + 6) (nI (0))))) ((upd ((upd row1 ((33 + (7 * i)) + 5) (nI (0)))) ((33 + (7 * i)) + 6) (nI (0)))) (hi_1, nI (S.rec.c), sn_1, nI (S.rec.kp)) (C_1.1, co_5, C_1.2.2.1, C_1.2.2.2) (tx_1, nI (S.rec.ln)) P_1 := hM_86.u1 _
              generalize (va_up g_86 (1) (aI E 0 158 (upd ((upd row1 ((33 + (7 * i)) + 5) (nI (0)))) ((33 + (7 * i)) + 6) (nI (0))))) = g_102 at hM_102 ⊢
              refine y_iinc_n hC dX6_freeze_103 (a := i) (k := 1) rfl (by decide) (Nat.le_of_ble_eq_true rfl) rfl (lo' := [some (rf E (0)), some (.int (nI (c))), some (.int (nI (i + 1)))]) rfl ?_
              refine y_goto (tgt := 61) hC dX6_freeze_106 (by decide) ?_
              exact ih_61 (i + 1) g_102 _ (by omega) (by omega) hM_102 (fun k hk => by
                  by_cases e2 : k = 33 + 7 * i + 6
                  · rw [e2, pk_us, if_pos (by omega)]
                  · rw [pk_un e2]
                    by_cases e : k = 33 + 7 * i + 5
                    · rw [e, pk_us, if_pos (by omega)]
                    · rw [pk_un e, hk2 k hk]
                      by_cases z : 33 ≤ k ∧ k < 33 + 7 * i ∧ 5 ≤ (k - 33) % 7
                      · rw [if_pos z, if_pos (by omega)]
                      · rw [if_neg z, if_neg (by omega)])
        exact L_61 (rc S.r + 1) 0 g1 row1 (by omega) (by omega) hM1 (fun k hk => by rw [if_neg (by omega)]; exact hk1 k hk)
      · have hcl := cn_le i (fun i => decide (¬ shS S.r (0 + i) = S.r (0 + i)))
        refine y_iload_n hC dX6_freeze_18 (i := 1) rfl rfl ?_
        refine y_aload_n hC dX6_freeze_19 (i := 0) rfl rfl ?_
        refine y_get hC fX6_7 dX6_freeze_20 (k := 0) (by omega) hM1.a0 rfl ?_
        refine y_iload_n hC dX6_freeze_23 (i := 2) rfl rfl ?_
        refine y_iald hC dX6_freeze_24 (k := 1) (j := i) (by omega) hM1.a1 (rfl) (by omega) (by decide) ?_
        refine y_top (y := (S.r (i))) ((hk0 i (by omega)).trans (if_neg (Nat.lt_irrefl i))) ?_
        refine y_aload_n hC dX6_freeze_25 (i := 0) rfl rfl ?_
        refine y_get hC fX6_22 dX6_freeze_26 (k := 0) (by omega) hM1.a0 rfl ?_
        refine y_iload_n hC dX6_freeze_29 (i := 2) rfl rfl ?_
        refine y_iald hC dX6_freeze_30 (k := 5) (j := i) (by omega) hM1.a5 (rfl) (by omega) (by decide) ?_
        refine y_top (y := (shS S.r (i))) (hco_5 i (by omega)) ?_
        refine y_icmp_eq (tgt := 38) hC dX6_freeze_31 (by decide) (fun c_31 => ?_) (fun c_31 => ?_)
        · refine y_iconst (v := nI 0) hC dX6_freeze_38 (by decide) ?_
          refine y_iadd_n hC dX6_freeze_39 ?_
          refine y_istore_n hC dX6_freeze_40 (i := 1) rfl (Nat.le_of_ble_eq_true rfl) rfl (lo' := [some (rf E (0)), some (.int (nI (c + 0))), some (.int (nI (i)))]) rfl ?_
          refine y_aload_n hC dX6_freeze_41 (i := 0) rfl rfl ?_
          refine y_get hC fX6_7 dX6_freeze_42 (k := 0) (by omega) hM1.a0 rfl ?_
          refine y_iload_n hC dX6_freeze_45 (i := 2) rfl rfl ?_
          refine y_aload_n hC dX6_freeze_46 (i := 0) rfl rfl ?_
          refine y_get hC fX6_22 dX6_freeze_47 (k := 0) (by omega) hM1.a0 rfl ?_
          refine y_iload_n hC dX6_freeze_50 (i := 2) rfl rfl ?_
          refine y_iald hC dX6_freeze_51 (k := 5) (j := i) (by omega) hM1.a5 (rfl) (by omega) (by decide) ?_
          refine y_top (y := (shS S.r (i))) (hco_5 i (by omega)) ?_
          refine y_iast hC dX6_freeze_52 (k := 1) (j := i) (by omega) hM1.a1 (rfl) (by omega) (by decide) ?_
          have hM_52 : MX E (va_up g1 (1) (aI E 0 158 (upd row1 (i) ((shS S.r (i)))))) ((upd row1 (i) ((shS S.r (i))))) (hi_1, nI (S.rec.c), sn_1, nI (S.rec.kp)) (C_1.1, co_5, C_1.2.2.1, C_1.2.2.2) (tx_1, nI (S.rec.ln)) P_1 := hM1.u1 _
          generalize (va_up g1 (1) (aI E 0 158 (upd row1 (i) ((shS S.r (i)))))) = g_52 at hM_52 ⊢
          refine y_iinc_n hC dX6_freeze_53 (a := i) (k := 1) rfl (by decide) (Nat.le_of_ble_eq_true rfl) rfl (lo' := [some (rf E (0)), some (.int (nI (c + 0))), some (.int (nI (i + 1)))]) rfl ?_
          refine y_goto (tgt := 12) hC dX6_freeze_56 (by decide) ?_
          exact ih_12 (i + 1) _ g_52 _ (by omega) (by omega) hM_52 (fun k hk => by
              by_cases e : k = i
              · rw [e, pk_us, if_pos (by omega)]
              · rw [pk_un e, hk0 k hk]
                by_cases z : k < i
                · rw [if_pos z, if_pos (by omega)]
                · rw [if_neg z, if_neg (by omega)]) (by rw [cn_s, ← hc]; simp only [decide_eq_true_eq, Nat.zero_add]; first | rw [if_pos (fun z => c_31 z.symm)] | rw [if_neg (fun z => z c_31.symm)])
        · refine y_iconst (v := nI 1) hC dX6_freeze_34 (by decide) ?_
          refine y_goto (tgt := 39) hC dX6_freeze_35 (by decide) ?_
          refine y_iadd_n hC dX6_freeze_39 ?_
          refine y_istore_n hC dX6_freeze_40 (i := 1) rfl (Nat.le_of_ble_eq_true rfl) rfl (lo' := [some (rf E (0)), some (.int (nI (c + 1))), some (.int (nI (i)))]) rfl ?_
          refine y_aload_n hC dX6_freeze_41 (i := 0) rfl rfl ?_
          refine y_get hC fX6_7 dX6_freeze_42 (k := 0) (by omega) hM1.a0 rfl ?_
          refine y_iload_n hC dX6_freeze_45 (i := 2) rfl rfl ?_
          refine y_aload_n hC dX6_freeze_46 (i := 0) rfl rfl ?_
          refine y_get hC fX6_22 dX6_freeze_47 (k := 0) (by omega) hM1.a0 rfl ?_
          refine y_iload_n hC dX6_freeze_50 (i := 2) rfl rfl ?_
          refine y_iald hC dX6_freeze_51 (k := 5) (j := i) (by omega) hM1.a5 (rfl) (by omega) (by decide) ?_
          refine y_top (y := (shS S.r (i))) (hco_5 i (by omega)) ?_
          refine y_iast hC dX6_freeze_52 (k := 1) (j := i) (by omega) hM1.a1 (rfl) (by omega) (by decide) ?_
          have hM_52 : MX E (va_up g1 (1) (aI E 0 158 (upd row1 (i) ((shS S.r (i)))))) ((upd row1 (i) ((shS S.r (i))))) (hi_1, nI (S.rec.c), sn_1, nI (S.rec.kp)) (C_1.1, co_5, C_1.2.2.1, C_1.2.2.2) (tx_1, nI (S.rec.ln)) P_1 := hM1.u1 _
          generalize (va_up g1 (1) (aI E 0 158 (upd row1 (i) ((shS S.r (i)))))) = g_52 at hM_52 ⊢
          refine y_iinc_n hC dX6_freeze_53 (a := i) (k := 1) rfl (by decide) (Nat.le_of_ble_eq_true rfl) rfl (lo' := [some (rf E (0)), some (.int (nI (c + 1))), some (.int (nI (i + 1)))]) rfl ?_
          refine y_goto (tgt := 12) hC dX6_freeze_56 (by decide) ?_
          exact ih_12 (i + 1) _ g_52 _ (by omega) (by omega) hM_52 (fun k hk => by
              by_cases e : k = i
              · rw [e, pk_us, if_pos (by omega)]
              · rw [pk_un e, hk0 k hk]
                by_cases z : k < i
                · rw [if_pos z, if_pos (by omega)]
                · rw [if_neg z, if_neg (by omega)]) (by rw [cn_s, ← hc]; simp only [decide_eq_true_eq, Nat.zero_add]; first | rw [if_pos (fun z => c_31 z.symm)] | rw [if_neg (fun z => z c_31.symm)])
  exact L_12 33 0 0 g_5 row_1 (by omega) (by omega) hM_5 (fun k hk => by rw [if_neg (Nat.not_lt_zero k)]; exact hR_1 k hk) rfl

theorem dX6_addRange_0 : decode cX6_addRange 0 = .ok (.iload_n 1, 1) := by decide +kernel
theorem dX6_addRange_1 : decode cX6_addRange 1 = .ok (.invokestatic 99, 3) := by decide +kernel
theorem dX6_addRange_4 : decode cX6_addRange 4 = .ok (.ifCond .ne 5, 3) := by decide +kernel
theorem dX6_addRange_7 : decode cX6_addRange 7 = .ok (.iconst (-1), 1) := by decide +kernel
theorem dX6_addRange_8 : decode cX6_addRange 8 = .ok (.ireturn, 1) := by decide +kernel
theorem dX6_addRange_9 : decode cX6_addRange 9 = .ok (.iload_n 2, 1) := by decide +kernel
theorem dX6_addRange_10 : decode cX6_addRange 10 = .ok (.iload_n 1, 1) := by decide +kernel
theorem dX6_addRange_11 : decode cX6_addRange 11 = .ok (.iconst 1, 1) := by decide +kernel
theorem dX6_addRange_12 : decode cX6_addRange 12 = .ok (.iadd, 1) := by decide +kernel
theorem dX6_addRange_13 : decode cX6_addRange 13 = .ok (.bipush 31, 2) := by decide +kernel
theorem dX6_addRange_15 : decode cX6_addRange 15 = .ok (.invokestatic 44, 3) := by decide +kernel
theorem dX6_addRange_18 : decode cX6_addRange 18 = .ok (.ifCond .eq 23, 3) := by decide +kernel
theorem dX6_addRange_21 : decode cX6_addRange 21 = .ok (.iload_n 3, 1) := by decide +kernel
theorem dX6_addRange_22 : decode cX6_addRange 22 = .ok (.iconst 1, 1) := by decide +kernel
theorem dX6_addRange_23 : decode cX6_addRange 23 = .ok (.bipush 30, 2) := by decide +kernel
theorem dX6_addRange_25 : decode cX6_addRange 25 = .ok (.invokestatic 44, 3) := by decide +kernel
theorem dX6_addRange_28 : decode cX6_addRange 28 = .ok (.ifCond .eq 13, 3) := by decide +kernel
theorem dX6_addRange_31 : decode cX6_addRange 31 = .ok (.iload 4, 2) := by decide +kernel
theorem dX6_addRange_33 : decode cX6_addRange 33 = .ok (.iconst 0, 1) := by decide +kernel
theorem dX6_addRange_34 : decode cX6_addRange 34 = .ok (.iconst 2, 1) := by decide +kernel
theorem dX6_addRange_35 : decode cX6_addRange 35 = .ok (.invokestatic 44, 3) := by decide +kernel
theorem dX6_addRange_38 : decode cX6_addRange 38 = .ok (.ifCond .ne 6, 3) := by decide +kernel
theorem dX6_addRange_41 : decode cX6_addRange 41 = .ok (.bipush (-2), 2) := by decide +kernel
theorem dX6_addRange_43 : decode cX6_addRange 43 = .ok (.ireturn, 1) := by decide +kernel
theorem dX6_addRange_44 : decode cX6_addRange 44 = .ok (.aload_n 0, 1) := by decide +kernel
theorem dX6_addRange_45 : decode cX6_addRange 45 = .ok (.iload_n 1, 1) := by decide +kernel
theorem dX6_addRange_46 : decode cX6_addRange 46 = .ok (.iload_n 2, 1) := by decide +kernel
theorem dX6_addRange_47 : decode cX6_addRange 47 = .ok (.invokevirtual 113, 3) := by decide +kernel
theorem dX6_addRange_50 : decode cX6_addRange 50 = .ok (.ifCond .eq 6, 3) := by decide +kernel
theorem dX6_addRange_53 : decode cX6_addRange 53 = .ok (.bipush (-4), 2) := by decide +kernel
theorem dX6_addRange_55 : decode cX6_addRange 55 = .ok (.ireturn, 1) := by decide +kernel
theorem dX6_addRange_56 : decode cX6_addRange 56 = .ok (.aload_n 0, 1) := by decide +kernel
theorem dX6_addRange_57 : decode cX6_addRange 57 = .ok (.getfield 7, 3) := by decide +kernel
theorem dX6_addRange_60 : decode cX6_addRange 60 = .ok (.bipush 32, 2) := by decide +kernel
theorem dX6_addRange_62 : decode cX6_addRange 62 = .ok (.iaload, 1) := by decide +kernel
theorem dX6_addRange_63 : decode cX6_addRange 63 = .ok (.bipush 6, 2) := by decide +kernel
theorem dX6_addRange_65 : decode cX6_addRange 65 = .ok (.if_icmp .ne 6, 3) := by decide +kernel
theorem dX6_addRange_68 : decode cX6_addRange 68 = .ok (.bipush (-3), 2) := by decide +kernel
theorem dX6_addRange_70 : decode cX6_addRange 70 = .ok (.ireturn, 1) := by decide +kernel
theorem dX6_addRange_71 : decode cX6_addRange 71 = .ok (.aload_n 0, 1) := by decide +kernel
theorem dX6_addRange_72 : decode cX6_addRange 72 = .ok (.invokevirtual 57, 3) := by decide +kernel
theorem dX6_addRange_75 : decode cX6_addRange 75 = .ok (.bipush 33, 2) := by decide +kernel
theorem dX6_addRange_77 : decode cX6_addRange 77 = .ok (.bipush 7, 2) := by decide +kernel
theorem dX6_addRange_79 : decode cX6_addRange 79 = .ok (.aload_n 0, 1) := by decide +kernel
theorem dX6_addRange_80 : decode cX6_addRange 80 = .ok (.getfield 7, 3) := by decide +kernel
theorem dX6_addRange_83 : decode cX6_addRange 83 = .ok (.bipush 32, 2) := by decide +kernel
theorem dX6_addRange_85 : decode cX6_addRange 85 = .ok (.iaload, 1) := by decide +kernel
theorem dX6_addRange_86 : decode cX6_addRange 86 = .ok (.imul, 1) := by decide +kernel
theorem dX6_addRange_87 : decode cX6_addRange 87 = .ok (.iadd, 1) := by decide +kernel
theorem dX6_addRange_88 : decode cX6_addRange 88 = .ok (.istore 5, 2) := by decide +kernel
theorem dX6_addRange_90 : decode cX6_addRange 90 = .ok (.aload_n 0, 1) := by decide +kernel
theorem dX6_addRange_91 : decode cX6_addRange 91 = .ok (.getfield 7, 3) := by decide +kernel
theorem dX6_addRange_94 : decode cX6_addRange 94 = .ok (.iload 5, 2) := by decide +kernel
theorem dX6_addRange_96 : decode cX6_addRange 96 = .ok (.iconst 0, 1) := by decide +kernel
theorem dX6_addRange_97 : decode cX6_addRange 97 = .ok (.iadd, 1) := by decide +kernel
theorem dX6_addRange_98 : decode cX6_addRange 98 = .ok (.iload_n 1, 1) := by decide +kernel
theorem dX6_addRange_99 : decode cX6_addRange 99 = .ok (.iastore, 1) := by decide +kernel
theorem dX6_addRange_100 : decode cX6_addRange 100 = .ok (.aload_n 0, 1) := by decide +kernel
theorem dX6_addRange_101 : decode cX6_addRange 101 = .ok (.getfield 7, 3) := by decide +kernel
theorem dX6_addRange_104 : decode cX6_addRange 104 = .ok (.iload 5, 2) := by decide +kernel
theorem dX6_addRange_106 : decode cX6_addRange 106 = .ok (.iconst 1, 1) := by decide +kernel
theorem dX6_addRange_107 : decode cX6_addRange 107 = .ok (.iadd, 1) := by decide +kernel
theorem dX6_addRange_108 : decode cX6_addRange 108 = .ok (.iload_n 2, 1) := by decide +kernel
theorem dX6_addRange_109 : decode cX6_addRange 109 = .ok (.iastore, 1) := by decide +kernel
theorem dX6_addRange_110 : decode cX6_addRange 110 = .ok (.aload_n 0, 1) := by decide +kernel
theorem dX6_addRange_111 : decode cX6_addRange 111 = .ok (.getfield 7, 3) := by decide +kernel
theorem dX6_addRange_114 : decode cX6_addRange 114 = .ok (.iload 5, 2) := by decide +kernel
theorem dX6_addRange_116 : decode cX6_addRange 116 = .ok (.iconst 2, 1) := by decide +kernel
theorem dX6_addRange_117 : decode cX6_addRange 117 = .ok (.iadd, 1) := by decide +kernel
theorem dX6_addRange_118 : decode cX6_addRange 118 = .ok (.iload_n 3, 1) := by decide +kernel
theorem dX6_addRange_119 : decode cX6_addRange 119 = .ok (.iastore, 1) := by decide +kernel
theorem dX6_addRange_120 : decode cX6_addRange 120 = .ok (.aload_n 0, 1) := by decide +kernel
theorem dX6_addRange_121 : decode cX6_addRange 121 = .ok (.getfield 7, 3) := by decide +kernel
theorem dX6_addRange_124 : decode cX6_addRange 124 = .ok (.iload 5, 2) := by decide +kernel
theorem dX6_addRange_126 : decode cX6_addRange 126 = .ok (.iconst 3, 1) := by decide +kernel
theorem dX6_addRange_127 : decode cX6_addRange 127 = .ok (.iadd, 1) := by decide +kernel
theorem dX6_addRange_128 : decode cX6_addRange 128 = .ok (.iload 4, 2) := by decide +kernel
theorem dX6_addRange_130 : decode cX6_addRange 130 = .ok (.iastore, 1) := by decide +kernel
theorem dX6_addRange_131 : decode cX6_addRange 131 = .ok (.aload_n 0, 1) := by decide +kernel
theorem dX6_addRange_132 : decode cX6_addRange 132 = .ok (.getfield 7, 3) := by decide +kernel
theorem dX6_addRange_135 : decode cX6_addRange 135 = .ok (.iload 5, 2) := by decide +kernel
theorem dX6_addRange_137 : decode cX6_addRange 137 = .ok (.iconst 4, 1) := by decide +kernel
theorem dX6_addRange_138 : decode cX6_addRange 138 = .ok (.iadd, 1) := by decide +kernel
theorem dX6_addRange_139 : decode cX6_addRange 139 = .ok (.iconst 1, 1) := by decide +kernel
theorem dX6_addRange_140 : decode cX6_addRange 140 = .ok (.iastore, 1) := by decide +kernel
theorem dX6_addRange_141 : decode cX6_addRange 141 = .ok (.aload_n 0, 1) := by decide +kernel
theorem dX6_addRange_142 : decode cX6_addRange 142 = .ok (.getfield 7, 3) := by decide +kernel
theorem dX6_addRange_145 : decode cX6_addRange 145 = .ok (.iload 5, 2) := by decide +kernel
theorem dX6_addRange_147 : decode cX6_addRange 147 = .ok (.iconst 5, 1) := by decide +kernel
theorem dX6_addRange_148 : decode cX6_addRange 148 = .ok (.iadd, 1) := by decide +kernel
theorem dX6_addRange_149 : decode cX6_addRange 149 = .ok (.iconst 0, 1) := by decide +kernel
theorem dX6_addRange_150 : decode cX6_addRange 150 = .ok (.iastore, 1) := by decide +kernel
theorem dX6_addRange_151 : decode cX6_addRange 151 = .ok (.aload_n 0, 1) := by decide +kernel
theorem dX6_addRange_152 : decode cX6_addRange 152 = .ok (.getfield 7, 3) := by decide +kernel
theorem dX6_addRange_155 : decode cX6_addRange 155 = .ok (.iload 5, 2) := by decide +kernel
theorem dX6_addRange_157 : decode cX6_addRange 157 = .ok (.bipush 6, 2) := by decide +kernel
theorem dX6_addRange_159 : decode cX6_addRange 159 = .ok (.iadd, 1) := by decide +kernel
theorem dX6_addRange_160 : decode cX6_addRange 160 = .ok (.iconst 0, 1) := by decide +kernel
theorem dX6_addRange_161 : decode cX6_addRange 161 = .ok (.iastore, 1) := by decide +kernel
theorem dX6_addRange_162 : decode cX6_addRange 162 = .ok (.aload_n 0, 1) := by decide +kernel
theorem dX6_addRange_163 : decode cX6_addRange 163 = .ok (.getfield 7, 3) := by decide +kernel
theorem dX6_addRange_166 : decode cX6_addRange 166 = .ok (.bipush 32, 2) := by decide +kernel
theorem dX6_addRange_168 : decode cX6_addRange 168 = .ok (.dup2, 1) := by decide +kernel
theorem dX6_addRange_169 : decode cX6_addRange 169 = .ok (.iaload, 1) := by decide +kernel
theorem dX6_addRange_170 : decode cX6_addRange 170 = .ok (.iconst 1, 1) := by decide +kernel
theorem dX6_addRange_171 : decode cX6_addRange 171 = .ok (.iadd, 1) := by decide +kernel
theorem dX6_addRange_172 : decode cX6_addRange 172 = .ok (.iastore, 1) := by decide +kernel
theorem dX6_addRange_173 : decode cX6_addRange 173 = .ok (.aload_n 0, 1) := by decide +kernel
theorem dX6_addRange_174 : decode cX6_addRange 174 = .ok (.getfield 7, 3) := by decide +kernel
theorem dX6_addRange_177 : decode cX6_addRange 177 = .ok (.bipush 32, 2) := by decide +kernel
theorem dX6_addRange_179 : decode cX6_addRange 179 = .ok (.iaload, 1) := by decide +kernel
theorem dX6_addRange_180 : decode cX6_addRange 180 = .ok (.iconst 1, 1) := by decide +kernel
theorem dX6_addRange_181 : decode cX6_addRange 181 = .ok (.isub, 1) := by decide +kernel
theorem dX6_addRange_182 : decode cX6_addRange 182 = .ok (.ireturn, 1) := by decide +kernel
set_option maxHeartbeats 4000000 in
set_option maxRecDepth 100000 in
theorem c_X6_addRange (l : Launch) (E : gE) (g : Mem) (S : AS) (Bd : Nat) (hB : Bd < 90000000) (ho : OK S Bd) (hZ : MZ E g S) (xa xb xs xw : Int32) : Mt l E yX6_addRange cX6_addRange 6 (some .int) 2 46 [rf E (0), .int (xa), .int (xb), .int (xs), .int (xw)] g (pI (fun z g' => z = (qAddRange S xa xb xs xw).1 ∧ MZ E g' (qAddRange S xa xb xs xw).2)) := by
  have hv := ho.v
  have hrc : rc S.r ≤ 6 := hv.1.2
  have hgc : gc S.r ≤ 4 := hv.2.1.2
  have hc4 := ho.c4
  have hkp1 := ho.2.2.1
  have hl60 : S.ln ≤ 60 := ho.2.2.2.2.2.1
  refine mt_go (own := RX6) (by decide) rfl (lo := [some (rf E (0)), some (.int (xa)), some (.int (xb)), some (.int (xs)), some (.int (xw)), none]) rfl (Nat.le_of_ble_eq_true rfl) (fun X hC => ?_)
  obtain ⟨row, hi, sn, tx, C, P, hM, hR, hH, hS, hT⟩ := hZ
  have hK := hM.k
  refine y_iload_n hC dX6_addRange_0 (i := 1) rfl rfl ?_
  refine y_callS hC mX6_isPlace kX6_99 dX6_addRange_1 (As := [.int (xa)]) (rest := []) (c_X6_isPlace l E g ((xa))) rfl rfl rfl (Nat.le_of_ble_eq_true rfl) ⟨Nat.le_of_ble_eq_true rfl, Nat.le_of_ble_eq_true rfl⟩ (pk_i ?_)
  rintro r_1 g_1 ⟨hr_1, hq_1⟩
  obtain rfl := hq_1.symm
  rw [hr_1]
  clear hr_1 r_1
  refine y_if_ne_b (tgt := 9) hC dX6_addRange_4 (by decide) (fun c_4 => ?_) (fun c_4 => ?_)
  · obtain ⟨p, hp, hpx⟩ := zN (m := 31) c_4
    subst hpx
    refine y_iload_n hC dX6_addRange_9 (i := 2) rfl rfl ?_
    refine y_iload_n hC dX6_addRange_10 (i := 1) rfl rfl ?_
    refine y_iconst (v := nI 1) hC dX6_addRange_11 (by decide) ?_
    refine y_iadd_n hC dX6_addRange_12 ?_
    refine y_bipush (v := nI 31) hC dX6_addRange_13 (by decide) ?_
    refine y_callS hC mX6_in kX6_44 dX6_addRange_15 (As := [.int (xb), .int (nI (p + 1)), .int (nI (31))]) (rest := []) (c_X6_inN l E g xb (p + 1) 31 (by omega) (by omega)) rfl rfl rfl (Nat.le_of_ble_eq_true rfl) ⟨Nat.le_of_ble_eq_true rfl, Nat.le_of_ble_eq_true rfl⟩ (pk_i ?_)
    rintro r_15 g_15 ⟨hr_15, hq_15⟩
    obtain rfl := hq_15.symm
    rw [hr_15]
    clear hr_15 r_15
    refine y_if_eq_b (tgt := 41) hC dX6_addRange_18 (by decide) (fun c_18 => ?_) (fun c_18 => ?_)
    · refine y_bipush (v := (-2)) hC dX6_addRange_41 (by decide) ?_
      refine y_iret (hC := hC) (hd := dX6_addRange_43) (hq := ?_)
      have hqq : qAddRange S (nI p) xb xs xw = (-2, S) := by simp only [qAddRange, nn_I (show p < 2147483648 by omega), if_pos c_4]; exact if_neg (fun q => c_18 (by
          have h1 := q.1.1.1
          have h2 := q.1.1.2
          have h3 := q.1.2
          have h4 : nn xb = xb.toInt.toNat := rfl
          omega))
      rw [hqq]
      exact ⟨rfl, ⟨row, hi, sn, tx, C, P, hM, hR, hH, hS, hT⟩⟩
    · obtain ⟨q, hq1, hq, hqx⟩ := zNg (a := p + 1) (m := 31) (show ((p + 1 : Nat) : Int) ≤ xb.toInt ∧ xb.toInt ≤ ((31 : Nat) : Int) from c_18)
      subst hqx
      have hq31 : 0 ≤ (nI q).toInt ∧ (nI q).toInt ≤ 31 := by rw [tI (by omega)]; omega
      refine y_iload_n hC dX6_addRange_21 (i := 3) rfl rfl ?_
      refine y_iconst (v := nI 1) hC dX6_addRange_22 (by decide) ?_
      refine y_bipush (v := nI 30) hC dX6_addRange_23 (by decide) ?_
      refine y_callS hC mX6_in kX6_44 dX6_addRange_25 (As := [.int (xs), .int (nI (1)), .int (nI (30))]) (rest := []) (c_X6_inN l E g (xs) (1) (30) (by omega) (by omega)) rfl rfl rfl (Nat.le_of_ble_eq_true rfl) ⟨Nat.le_of_ble_eq_true rfl, Nat.le_of_ble_eq_true rfl⟩ (pk_i ?_)
      rintro r_25 g_25 ⟨hr_25, hq_25⟩
      obtain rfl := hq_25.symm
      rw [hr_25]
      clear hr_25 r_25
      refine y_if_eq_b (tgt := 41) hC dX6_addRange_28 (by decide) (fun c_28 => ?_) (fun c_28 => ?_)
      · refine y_bipush (v := (-2)) hC dX6_addRange_41 (by decide) ?_
        refine y_iret (hC := hC) (hd := dX6_addRange_43) (hq := ?_)
        have hqq : qAddRange S (nI p) (nI q) xs xw = (-2, S) := by simp only [qAddRange, nn_I (show p < 2147483648 by omega), nn_I (show q < 2147483648 by omega), if_pos c_4]; exact if_neg (fun q => c_28 q.2.1)
        rw [hqq]
        exact ⟨rfl, ⟨row, hi, sn, tx, C, P, hM, hR, hH, hS, hT⟩⟩
      · refine y_iload hC dX6_addRange_31 rfl ?_
        refine y_iconst (v := nI 0) hC dX6_addRange_33 (by decide) ?_
        refine y_iconst (v := nI 2) hC dX6_addRange_34 (by decide) ?_
        refine y_callS hC mX6_in kX6_44 dX6_addRange_35 (As := [.int (xw), .int (nI (0)), .int (nI (2))]) (rest := []) (c_X6_inN l E g (xw) (0) (2) (by omega) (by omega)) rfl rfl rfl (Nat.le_of_ble_eq_true rfl) ⟨Nat.le_of_ble_eq_true rfl, Nat.le_of_ble_eq_true rfl⟩ (pk_i ?_)
        rintro r_35 g_35 ⟨hr_35, hq_35⟩
        obtain rfl := hq_35.symm
        rw [hr_35]
        clear hr_35 r_35
        refine y_if_ne_b (tgt := 44) hC dX6_addRange_38 (by decide) (fun c_38 => ?_) (fun c_38 => ?_)
        · refine y_aload_n hC dX6_addRange_44 (i := 0) rfl rfl ?_
          refine y_iload_n hC dX6_addRange_45 (i := 1) rfl rfl ?_
          refine y_iload_n hC dX6_addRange_46 (i := 2) rfl rfl ?_
          refine y_callV hC mX6_isTaken kX6_113 dX6_addRange_47 (b := 0) (As := [.int (nI (p)), .int (nI (q))]) (rest := []) (c_X6_isTaken l E g row (hi, nI (S.c), sn, nI (S.kp)) C (tx, nI (S.ln)) P hM S.r Bd (by omega) hR hv p q (by omega) (by omega)) (by omega) hM.a0 rfl rfl rfl (Nat.le_of_ble_eq_true rfl) ⟨Nat.le_of_ble_eq_true rfl, Nat.le_of_ble_eq_true rfl⟩ (pk_i ?_)
          rintro r_47 g_47 ⟨hr_47, hq_47⟩
          obtain rfl := hq_47.symm
          rw [hr_47]
          clear hr_47 r_47
          refine y_if_eq_b (tgt := 56) hC dX6_addRange_50 (by decide) (fun c_50 => ?_) (fun c_50 => ?_)
          · refine y_aload_n hC dX6_addRange_56 (i := 0) rfl rfl ?_
            refine y_get hC fX6_7 dX6_addRange_57 (k := 0) (by omega) hM.a0 rfl ?_
            refine y_bipush (v := nI 32) hC dX6_addRange_60 (by decide) ?_
            refine y_iald hC dX6_addRange_62 (k := 1) (j := 32) (by omega) hM.a1 (rfl) (by omega) (by decide) ?_
            refine y_top (y := nI (rc S.r)) ((hR 32 (by decide)).trans hv.1.1) ?_
            refine y_bipush (v := nI 6) hC dX6_addRange_63 (by decide) ?_
            refine y_icmp_ne_n (tgt := 71) hC dX6_addRange_65 (by decide) (by omega) (by omega) (fun c_65 => ?_) (fun c_65 => ?_)
            · refine y_aload_n hC dX6_addRange_71 (i := 0) rfl rfl ?_
              refine y_callV hC mX6_record kX6_57 dX6_addRange_72 (b := 0) (As := []) (rest := []) (c_X6_record l E g S Bd hB ho ⟨row, hi, sn, tx, C, P, hM, hR, hH, hS, hT⟩) (by omega) hM.a0 rfl rfl rfl (Nat.le_of_ble_eq_true rfl) ⟨Nat.le_of_ble_eq_true rfl, Nat.le_of_ble_eq_true rfl⟩ (pk_v ?_)
              rintro g_72 hz_72
              obtain ⟨row_72, hi_72, sn_72, tx_72, C_72, P_72, hM_72, hR_72, hH_72, hS_72, hT_72⟩ := hz_72
              have hK_72 := hM_72.k
              refine y_bipush (v := nI 33) hC dX6_addRange_75 (by decide) ?_
              refine y_bipush (v := nI 7) hC dX6_addRange_77 (by decide) ?_
              refine y_aload_n hC dX6_addRange_79 (i := 0) rfl rfl ?_
              refine y_get hC fX6_7 dX6_addRange_80 (k := 0) (by omega) hM_72.a0 rfl ?_
              refine y_bipush (v := nI 32) hC dX6_addRange_83 (by decide) ?_
              refine y_iald hC dX6_addRange_85 (k := 1) (j := 32) (by omega) hM_72.a1 (rfl) (by omega) (by decide) ?_
              refine y_top (y := nI (rc S.r)) ((hR_72 32 (by decide)).trans hv.1.1) ?_
              refine y_imul_n hC dX6_addRange_86 ?_
              refine y_iadd_n hC dX6_addRange_87 ?_
              refine y_istore hC dX6_addRange_88 (Nat.le_of_ble_eq_true rfl) rfl (lo' := [some (rf E (0)), some (.int (nI (p))), some (.int (nI (q))), some (.int (xs)), some (.int (xw)), some (.int (nI (33 + (7 * (rc S.r)))))]) rfl ?_
              refine y_aload_n hC dX6_addRange_90 (i := 0) rfl rfl ?_
              refine y_get hC fX6_7 dX6_addRange_91 (k := 0) (by omega) hM_72.a0 rfl ?_
              refine y_iload hC dX6_addRange_94 rfl ?_
              refine y_iconst (v := nI 0) hC dX6_addRange_96 (by decide) ?_
              refine y_iadd_n hC dX6_addRange_97 ?_
              refine y_iload_n hC dX6_addRange_98 (i := 1) rfl rfl ?_
              refine y_iast hC dX6_addRange_99 (k := 1) (j := (33 + (7 * (rc S.r))) + 0) (by omega) hM_72.a1 (rfl) (by omega) (by decide) ?_
              have hM_99 : MX E (va_up g_72 (1) (aI E 0 158 (upd row_72 ((33 + (7 * (rc S.r))) + 0) (nI (p))))) ((upd row_72 ((33 + (7 * (rc S.r))) + 0) (nI (p)))) (hi_72, nI (S.rec.c), sn_72, nI (S.rec.kp)) C_72 (tx_72, nI (S.rec.ln)) P_72 := hM_72.u1 _
              generalize (va_up g_72 (1) (aI E 0 158 (upd row_72 ((33 + (7 * (rc S.r))) + 0) (nI (p))))) = g_99 at hM_99 ⊢
              refine y_aload_n hC dX6_addRange_100 (i := 0) rfl rfl ?_
              refine y_get hC fX6_7 dX6_addRange_101 (k := 0) (by omega) hM_99.a0 rfl ?_
              refine y_iload hC dX6_addRange_104 rfl ?_
              refine y_iconst (v := nI 1) hC dX6_addRange_106 (by decide) ?_
              refine y_iadd_n hC dX6_addRange_107 ?_
              refine y_iload_n hC dX6_addRange_108 (i := 2) rfl rfl ?_
              refine y_iast hC dX6_addRange_109 (k := 1) (j := (33 + (7 * (rc S.r))) + 1) (by omega) hM_99.a1 (rfl) (by omega) (by decide) ?_
              have hM_109 : MX E (va_up g_99 (1) (aI E 0 158 (upd ((upd row_72 ((33 + (7 * (rc S.r))) + 0) (nI (p)))) ((33 + (7 * (rc S.r))) + 1) (nI (q))))) ((upd ((upd row_72 ((33 + (7 * (rc S.r))) + 0) (nI (p)))) ((33 + (7 * (rc S.r))) + 1) (nI (q)))) (hi_72, nI (S.rec.c), sn_72, nI (S.rec.kp)) C_72 (tx_72, nI (S.rec.ln)) P_72 := hM_99.u1 _
              generalize (va_up g_99 (1) (aI E 0 158 (upd ((upd row_72 ((33 + (7 * (rc S.r))) + 0) (nI (p)))) ((33 + (7 * (rc S.r))) + 1) (nI (q))))) = g_109 at hM_109 ⊢
              refine y_aload_n hC dX6_addRange_110 (i := 0) rfl rfl ?_
              refine y_get hC fX6_7 dX6_addRange_111 (k := 0) (by omega) hM_109.a0 rfl ?_
              refine y_iload hC dX6_addRange_114 rfl ?_
              refine y_iconst (v := nI 2) hC dX6_addRange_116 (by decide) ?_
              refine y_iadd_n hC dX6_addRange_117 ?_
              refine y_iload_n hC dX6_addRange_118 (i := 3) rfl rfl ?_
              refine y_iast hC dX6_addRange_119 (k := 1) (j := (33 + (7 * (rc S.r))) + 2) (by omega) hM_109.a1 (rfl) (by omega) (by decide) ?_
              have hM_119 : MX E (va_up g_109 (1) (aI E 0 158 (upd ((upd ((upd row_72 ((33 + (7 * (rc S.r))) + 0) (nI (p)))) ((33 + (7 * (rc S.r))) + 1) (nI (q)))) ((33 + (7 * (rc S.r))) + 2) ((xs))))) ((upd ((upd ((upd row_72 ((33 + (7 * (rc S.r))) + 0) (nI (p)))) ((33 + (7 * (rc S.r))) + 1) (nI (q)))) ((33 + (7 * (rc S.r))) + 2) ((xs)))) (hi_72, nI (S.rec.c), sn_72, nI (S.rec.kp)) C_72 (tx_72, nI (S.rec.ln)) P_72 := hM_109.u1 _
              generalize (va_up g_109 (1) (aI E 0 158 (upd ((upd ((upd row_72 ((33 + (7 * (rc S.r))) + 0) (nI (p)))) ((33 + (7 * (rc S.r))) + 1) (nI (q)))) ((33 + (7 * (rc S.r))) + 2) ((xs))))) = g_119 at hM_119 ⊢
              refine y_aload_n hC dX6_addRange_120 (i := 0) rfl rfl ?_
              refine y_get hC fX6_7 dX6_addRange_121 (k := 0) (by omega) hM_119.a0 rfl ?_
              refine y_iload hC dX6_addRange_124 rfl ?_
              refine y_iconst (v := nI 3) hC dX6_addRange_126 (by decide) ?_
              refine y_iadd_n hC dX6_addRange_127 ?_
              refine y_iload hC dX6_addRange_128 rfl ?_
              refine y_iast hC dX6_addRange_130 (k := 1) (j := (33 + (7 * (rc S.r))) + 3) (by omega) hM_119.a1 (rfl) (by omega) (by decide) ?_
              have hM_130 : MX E (va_up g_119 (1) (aI E 0 158 (upd ((upd ((upd ((upd row_72 ((33 + (7 * (rc S.r))) + 0) (nI (p)))) ((33 + (7 * (rc S.r))) + 1) (nI (q)))) ((33 + (7 * (rc S.r))) + 2) ((xs)))) ((33 + (7 * (rc S.r))) + 3) ((xw))))) ((upd ((upd ((upd ((upd row_72 ((33 + (7 * (rc S.r))) + 0) (nI (p)))) ((33 + (7 * (rc S.r))) + 1) (nI (q)))) ((33 + (7 * (rc S.r))) + 2) ((xs)))) ((33 + (7 * (rc S.r))) + 3) ((xw)))) (hi_72, nI (S.rec.c), sn_72, nI (S.rec.kp)) C_72 (tx_72, nI (S.rec.ln)) P_72 := hM_119.u1 _
              generalize (va_up g_119 (1) (aI E 0 158 (upd ((upd ((upd ((upd row_72 ((33 + (7 * (rc S.r))) + 0) (nI (p)))) ((33 + (7 * (rc S.r))) + 1) (nI (q)))) ((33 + (7 * (rc S.r))) + 2) ((xs)))) ((33 + (7 * (rc S.r))) + 3) ((xw))))) = g_130 at hM_130 ⊢
              refine y_aload_n hC dX6_addRange_131 (i := 0) rfl rfl ?_
              refine y_get hC fX6_7 dX6_addRange_132 (k := 0) (by omega) hM_130.a0 rfl ?_
              refine y_iload hC dX6_addRange_135 rfl ?_
              refine y_iconst (v := nI 4) hC dX6_addRange_137 (by decide) ?_
              refine y_iadd_n hC dX6_addRange_138 ?_
              refine y_iconst (v := nI 1) hC dX6_addRange_139 (by decide) ?_
              refine y_iast hC dX6_addRange_140 (k := 1) (j := (33 + (7 * (rc S.r))) + 4) (by omega) hM_130.a1 (rfl) (by omega) (by decide) ?_
              have hM_140 : MX E (va_up g_130 (1) (aI E 0 158 (upd ((upd ((upd ((upd ((upd row_72 ((33 + (7 * (rc S.r))) + 0) (nI (p)))) ((33 + (7 * (rc S.r))) + 1) (nI (q)))) ((33 + (7 * (rc S.r))) + 2) ((xs)))) ((33 + (7 * (rc S.r))) + 3) ((xw)))) ((33 + (7 * (rc S.r))) + 4) (nI (1))))) ((upd ((upd ((upd ((upd ((upd row_72 ((33 + (7 * (rc S.r))) + 0) (nI (p)))) ((33 + (7 * (rc S.r))) + 1) (nI (q)))) ((33 + (7 * (rc S.r))) + 2) ((xs)))) ((33 + (7 * (rc S.r))) + 3) ((xw)))) ((33 + (7 * (rc S.r))) + 4) (nI (1)))) (hi_72, nI (S.rec.c), sn_72, nI (S.rec.kp)) C_72 (tx_72, nI (S.rec.ln)) P_72 := hM_130.u1 _
              generalize (va_up g_130 (1) (aI E 0 158 (upd ((upd ((upd ((upd ((upd row_72 ((33 + (7 * (rc S.r))) + 0) (nI (p)))) ((33 + (7 * (rc S.r))) + 1) (nI (q)))) ((33 + (7 * (rc S.r))) + 2) ((xs)))) ((33 + (7 * (rc S.r))) + 3) ((xw)))) ((33 + (7 * (rc S.r))) + 4) (nI (1))))) = g_140 at hM_140 ⊢
              refine y_aload_n hC dX6_addRange_141 (i := 0) rfl rfl ?_
              refine y_get hC fX6_7 dX6_addRange_142 (k := 0) (by omega) hM_140.a0 rfl ?_
              refine y_iload hC dX6_addRange_145 rfl ?_
              refine y_iconst (v := nI 5) hC dX6_addRange_147 (by decide) ?_
              refine y_iadd_n hC dX6_addRange_148 ?_
              refine y_iconst (v := nI 0) hC dX6_addRange_149 (by decide) ?_
              refine y_iast hC dX6_addRange_150 (k := 1) (j := (33 + (7 * (rc S.r))) + 5) (by omega) hM_140.a1 (rfl) (by omega) (by decide) ?_
              have hM_150 : MX E (va_up g_140 (1) (aI E 0 158 (upd ((upd ((upd ((upd ((upd ((upd row_72 ((33 + (7 * (rc S.r))) + 0) (nI (p)))) ((33 + (7 * (rc S.r))) + 1) (nI (q)))) ((33 + (7 * (rc S.r))) + 2) ((xs)))) ((33 + (7 * (rc S.r))) + 3) ((xw)))) ((33 + (7 * (rc S.r))) + 4) (nI (1)))) ((33 + (7 * (rc S.r))) + 5) (nI (0))))) ((upd ((upd ((upd ((upd ((upd ((upd row_72 ((33 + (7 * (rc S.r))) + 0) (nI (p)))) ((33 + (7 * (rc S.r))) + 1) (nI (q)))) ((33 + (7 * (rc S.r))) + 2) ((xs)))) ((33 + (7 * (rc S.r))) + 3) ((xw)))) ((33 + (7 * (rc S.r))) + 4) (nI (1)))) ((33 + (7 * (rc S.r))) + 5) (nI (0)))) (hi_72, nI (S.rec.c), sn_72, nI (S.rec.kp)) C_72 (tx_72, nI (S.rec.ln)) P_72 := hM_140.u1 _
              generalize (va_up g_140 (1) (aI E 0 158 (upd ((upd ((upd ((upd ((upd ((upd row_72 ((33 + (7 * (rc S.r))) + 0) (nI (p)))) ((33 + (7 * (rc S.r))) + 1) (nI (q)))) ((33 + (7 * (rc S.r))) + 2) ((xs)))) ((33 + (7 * (rc S.r))) + 3) ((xw)))) ((33 + (7 * (rc S.r))) + 4) (nI (1)))) ((33 + (7 * (rc S.r))) + 5) (nI (0))))) = g_150 at hM_150 ⊢
              refine y_aload_n hC dX6_addRange_151 (i := 0) rfl rfl ?_
              refine y_get hC fX6_7 dX6_addRange_152 (k := 0) (by omega) hM_150.a0 rfl ?_
              refine y_iload hC dX6_addRange_155 rfl ?_
              refine y_bipush (v := nI 6) hC dX6_addRange_157 (by decide) ?_
              refine y_iadd_n hC dX6_addRange_159 ?_
              refine y_iconst (v := nI 0) hC dX6_addRange_160 (by decide) ?_
              refine y_iast hC dX6_addRange_161 (k := 1) (j := (33 + (7 * (rc S.r))) + 6) (by omega) hM_150.a1 (rfl) (by omega) (by decide) ?_
              have hM_161 : MX E (va_up g_150 (1) (aI E 0 158 (upd ((upd ((upd ((upd ((upd ((upd ((upd row_72 ((33 + (7 * (rc S.r))) + 0) (nI (p)))) ((33 + (7 * (rc S.r))) + 1) (nI (q)))) ((33 + (7 * (rc S.r))) + 2) ((xs)))) ((33 + (7 * (rc S.r))) + 3) ((xw)))) ((33 + (7 * (rc S.r))) + 4) (nI (1)))) ((33 + (7 * (rc S.r))) + 5) (nI (0)))) ((33 + (7 * (rc S.r))) + 6) (nI (0))))) ((upd ((upd ((upd ((upd ((upd ((upd ((upd row_72 ((33 + (7 * (rc S.r))) + 0) (nI (p)))) ((33 + (7 * (rc S.r))) + 1) (nI (q)))) ((33 + (7 * (rc S.r))) + 2) ((xs)))) ((33 + (7 * (rc S.r))) + 3) ((xw)))) ((33 + (7 * (rc S.r))) + 4) (nI (1)))) ((33 + (7 * (rc S.r))) + 5) (nI (0)))) ((33 + (7 * (rc S.r))) + 6) (nI (0)))) (hi_72, nI (S.rec.c), sn_72, nI (S.rec.kp)) C_72 (tx_72, nI (S.rec.ln)) P_72 := hM_150.u1 _
              generalize (va_up g_150 (1) (aI E 0 158 (upd ((upd ((upd ((upd ((upd ((upd ((upd row_72 ((33 + (7 * (rc S.r))) + 0) (nI (p)))) ((33 + (7 * (rc S.r))) + 1) (nI (q)))) ((33 + (7 * (rc S.r))) + 2) ((xs)))) ((33 + (7 * (rc S.r))) + 3) ((xw)))) ((33 + (7 * (rc S.r))) + 4) (nI (1)))) ((33 + (7 * (rc S.r))) + 5) (nI (0)))) ((33 + (7 * (rc S.r))) + 6) (nI (0))))) = g_161 at hM_161 ⊢
              refine y_aload_n hC dX6_addRange_162 (i := 0) rfl rfl ?_
              refine y_get hC fX6_7 dX6_addRange_163 (k := 0) (by omega) hM_161.a0 rfl ?_
              refine y_bipush (v := nI 32) hC dX6_addRange_166 (by decide) ?_
              refine y_dup2 hC dX6_addRange_168 rfl rfl ?_
              refine y_iald hC dX6_addRange_169 (k := 1) (j := 32) (by omega) hM_161.a1 (rfl) (by omega) (by decide) ?_
              refine y_top (y := nI (rc S.r)) ((pk_un (by omega)).trans ((pk_un (by omega)).trans ((pk_un (by omega)).trans ((pk_un (by omega)).trans ((pk_un (by omega)).trans ((pk_un (by omega)).trans ((pk_un (by omega)).trans ((hR_72 32 (by decide)).trans hv.1.1)))))))) ?_
              refine y_iconst (v := nI 1) hC dX6_addRange_170 (by decide) ?_
              refine y_iadd_n hC dX6_addRange_171 ?_
              refine y_iast hC dX6_addRange_172 (k := 1) (j := 32) (by omega) hM_161.a1 (rfl) (by omega) (by decide) ?_
              have hM_172 : MX E (va_up g_161 (1) (aI E 0 158 (upd ((upd ((upd ((upd ((upd ((upd ((upd ((upd row_72 ((33 + (7 * (rc S.r))) + 0) (nI (p)))) ((33 + (7 * (rc S.r))) + 1) (nI (q)))) ((33 + (7 * (rc S.r))) + 2) ((xs)))) ((33 + (7 * (rc S.r))) + 3) ((xw)))) ((33 + (7 * (rc S.r))) + 4) (nI (1)))) ((33 + (7 * (rc S.r))) + 5) (nI (0)))) ((33 + (7 * (rc S.r))) + 6) (nI (0)))) (32) (nI ((rc S.r) + 1))))) ((upd ((upd ((upd ((upd ((upd ((upd ((upd ((upd row_72 ((33 + (7 * (rc S.r))) + 0) (nI (p)))) ((33 + (7 * (rc S.r))) + 1) (nI (q)))) ((33 + (7 * (rc S.r))) + 2) ((xs)))) ((33 + (7 * (rc S.r))) + 3) ((xw)))) ((33 + (7 * (rc S.r))) + 4) (nI (1)))) ((33 + (7 * (rc S.r))) + 5) (nI (0)))) ((33 + (7 * (rc S.r))) + 6) (nI (0)))) (32) (nI ((rc S.r) + 1)))) (hi_72, nI (S.rec.c), sn_72, nI (S.rec.kp)) C_72 (tx_72, nI (S.rec.ln)) P_72 := hM_161.u1 _
              generalize (va_up g_161 (1) (aI E 0 158 (upd ((upd ((upd ((upd ((upd ((upd ((upd ((upd row_72 ((33 + (7 * (rc S.r))) + 0) (nI (p)))) ((33 + (7 * (rc S.r))) + 1) (nI (q)))) ((33 + (7 * (rc S.r))) + 2) ((xs)))) ((33 + (7 * (rc S.r))) + 3) ((xw)))) ((33 + (7 * (rc S.r))) + 4) (nI (1)))) ((33 + (7 * (rc S.r))) + 5) (nI (0)))) ((33 + (7 * (rc S.r))) + 6) (nI (0)))) (32) (nI ((rc S.r) + 1))))) = g_172 at hM_172 ⊢
              refine y_aload_n hC dX6_addRange_173 (i := 0) rfl rfl ?_
              refine y_get hC fX6_7 dX6_addRange_174 (k := 0) (by omega) hM_172.a0 rfl ?_
              refine y_bipush (v := nI 32) hC dX6_addRange_177 (by decide) ?_
              refine y_iald hC dX6_addRange_179 (k := 1) (j := 32) (by omega) hM_172.a1 (rfl) (by omega) (by decide) ?_
              refine y_top (y := nI (rc S.r + 1)) (pk_us) ?_
              refine y_iconst (v := nI 1) hC dX6_addRange_180 (by decide) ?_
              refine y_isub_n hC dX6_addRange_181 (by omega) ?_
              refine y_top (y := nI (rc S.r)) (congrArg nI (by omega)) ?_
              refine y_iret (hC := hC) (hd := dX6_addRange_182) (hq := ?_)
              have hqq : qAddRange S (nI p) (nI q) xs xw = (nI (rc S.r), S.rec.row (addR S.r (nI p) (nI q) xs xw)) := by simp only [qAddRange, nn_I (show p < 2147483648 by omega), nn_I (show q < 2147483648 by omega), if_pos c_4, if_pos (show ((0 ≤ (nI q).toInt ∧ (nI q).toInt ≤ 31) ∧ p < q) ∧ (1 ≤ xs.toInt ∧ xs.toInt ≤ 30) ∧ 0 ≤ xw.toInt ∧ xw.toInt ≤ 2 from ⟨⟨hq31, by omega⟩, c_28, c_38⟩), if_neg c_50, if_pos (show rc S.r < 6 by omega)]
              rw [hqq]
              exact ⟨rfl, ⟨(upd ((upd ((upd ((upd ((upd ((upd ((upd ((upd row_72 ((33 + (7 * (rc S.r))) + 0) (nI (p)))) ((33 + (7 * (rc S.r))) + 1) (nI (q)))) ((33 + (7 * (rc S.r))) + 2) ((xs)))) ((33 + (7 * (rc S.r))) + 3) ((xw)))) ((33 + (7 * (rc S.r))) + 4) (nI (1)))) ((33 + (7 * (rc S.r))) + 5) (nI (0)))) ((33 + (7 * (rc S.r))) + 6) (nI (0)))) (32) (nI ((rc S.r) + 1))), hi_72, sn_72, tx_72, C_72, P_72, hM_172, (fun k hk => by
                show _ = addR S.r (nI p) (nI q) xs xw k
                unfold addR
                by_cases e : k = 32
                · rw [e, pk_us, if_pos rfl]
                · rw [pk_un e, if_neg e, up7]
                  by_cases z : 33 + 7 * rc S.r ≤ k ∧ k < 40 + 7 * rc S.r
                  · rw [if_pos (by omega), if_pos z]
                  · rw [if_neg (by omega), if_neg z]
                    exact hR_72 k hk), hH_72, hS_72, hT_72⟩⟩
            · refine y_bipush (v := (-3)) hC dX6_addRange_68 (by decide) ?_
              refine y_iret (hC := hC) (hd := dX6_addRange_70) (hq := ?_)
              have hqq : qAddRange S (nI p) (nI q) xs xw = (-3, S) := by simp only [qAddRange, nn_I (show p < 2147483648 by omega), nn_I (show q < 2147483648 by omega), if_pos c_4, if_pos (show ((0 ≤ (nI q).toInt ∧ (nI q).toInt ≤ 31) ∧ p < q) ∧ (1 ≤ xs.toInt ∧ xs.toInt ≤ 30) ∧ 0 ≤ xw.toInt ∧ xw.toInt ≤ 2 from ⟨⟨hq31, by omega⟩, c_28, c_38⟩), if_neg c_50, if_neg (show ¬ rc S.r < 6 by omega)]
              rw [hqq]
              exact ⟨rfl, ⟨row, hi, sn, tx, C, P, hM, hR, hH, hS, hT⟩⟩
          · refine y_bipush (v := (-4)) hC dX6_addRange_53 (by decide) ?_
            refine y_iret (hC := hC) (hd := dX6_addRange_55) (hq := ?_)
            have hqq : qAddRange S (nI p) (nI q) xs xw = (-4, S) := by simp only [qAddRange, nn_I (show p < 2147483648 by omega), nn_I (show q < 2147483648 by omega), if_pos c_4, if_pos (show ((0 ≤ (nI q).toInt ∧ (nI q).toInt ≤ 31) ∧ p < q) ∧ (1 ≤ xs.toInt ∧ xs.toInt ≤ 30) ∧ 0 ≤ xw.toInt ∧ xw.toInt ≤ 2 from ⟨⟨hq31, by omega⟩, c_28, c_38⟩), if_pos c_50]
            rw [hqq]
            exact ⟨rfl, ⟨row, hi, sn, tx, C, P, hM, hR, hH, hS, hT⟩⟩
        · refine y_bipush (v := (-2)) hC dX6_addRange_41 (by decide) ?_
          refine y_iret (hC := hC) (hd := dX6_addRange_43) (hq := ?_)
          have hqq : qAddRange S (nI p) (nI q) xs xw = (-2, S) := by simp only [qAddRange, nn_I (show p < 2147483648 by omega), nn_I (show q < 2147483648 by omega), if_pos c_4]; exact if_neg (fun q => c_38 q.2.2)
          rw [hqq]
          exact ⟨rfl, ⟨row, hi, sn, tx, C, P, hM, hR, hH, hS, hT⟩⟩
  · refine y_iconst (v := (-1)) hC dX6_addRange_7 (by decide) ?_
    refine y_iret (hC := hC) (hd := dX6_addRange_8) (hq := ?_)
    have hqq : qAddRange S xa xb xs xw = (-1, S) := by simp only [qAddRange, if_neg c_4]
    rw [hqq]
    exact ⟨rfl, ⟨row, hi, sn, tx, C, P, hM, hR, hH, hS, hT⟩⟩

theorem dX6_removeRange_0 : decode cX6_removeRange 0 = .ok (.aload_n 0, 1) := by decide +kernel
theorem dX6_removeRange_1 : decode cX6_removeRange 1 = .ok (.iload_n 1, 1) := by decide +kernel
theorem dX6_removeRange_2 : decode cX6_removeRange 2 = .ok (.invokevirtual 117, 3) := by decide +kernel
theorem dX6_removeRange_5 : decode cX6_removeRange 5 = .ok (.ifCond .ne 5, 3) := by decide +kernel
theorem dX6_removeRange_8 : decode cX6_removeRange 8 = .ok (.iconst (-1), 1) := by decide +kernel
theorem dX6_removeRange_9 : decode cX6_removeRange 9 = .ok (.ireturn, 1) := by decide +kernel
theorem dX6_removeRange_10 : decode cX6_removeRange 10 = .ok (.aload_n 0, 1) := by decide +kernel
theorem dX6_removeRange_11 : decode cX6_removeRange 11 = .ok (.invokevirtual 57, 3) := by decide +kernel
theorem dX6_removeRange_14 : decode cX6_removeRange 14 = .ok (.aload_n 0, 1) := by decide +kernel
theorem dX6_removeRange_15 : decode cX6_removeRange 15 = .ok (.getfield 7, 3) := by decide +kernel
theorem dX6_removeRange_18 : decode cX6_removeRange 18 = .ok (.bipush 32, 2) := by decide +kernel
theorem dX6_removeRange_20 : decode cX6_removeRange 20 = .ok (.dup2, 1) := by decide +kernel
theorem dX6_removeRange_21 : decode cX6_removeRange 21 = .ok (.iaload, 1) := by decide +kernel
theorem dX6_removeRange_22 : decode cX6_removeRange 22 = .ok (.iconst 1, 1) := by decide +kernel
theorem dX6_removeRange_23 : decode cX6_removeRange 23 = .ok (.isub, 1) := by decide +kernel
theorem dX6_removeRange_24 : decode cX6_removeRange 24 = .ok (.iastore, 1) := by decide +kernel
theorem dX6_removeRange_25 : decode cX6_removeRange 25 = .ok (.bipush 33, 2) := by decide +kernel
theorem dX6_removeRange_27 : decode cX6_removeRange 27 = .ok (.bipush 7, 2) := by decide +kernel
theorem dX6_removeRange_29 : decode cX6_removeRange 29 = .ok (.iload_n 1, 1) := by decide +kernel
theorem dX6_removeRange_30 : decode cX6_removeRange 30 = .ok (.imul, 1) := by decide +kernel
theorem dX6_removeRange_31 : decode cX6_removeRange 31 = .ok (.iadd, 1) := by decide +kernel
theorem dX6_removeRange_32 : decode cX6_removeRange 32 = .ok (.istore_n 2, 1) := by decide +kernel
theorem dX6_removeRange_33 : decode cX6_removeRange 33 = .ok (.iload_n 2, 1) := by decide +kernel
theorem dX6_removeRange_34 : decode cX6_removeRange 34 = .ok (.bipush 33, 2) := by decide +kernel
theorem dX6_removeRange_36 : decode cX6_removeRange 36 = .ok (.bipush 7, 2) := by decide +kernel
theorem dX6_removeRange_38 : decode cX6_removeRange 38 = .ok (.aload_n 0, 1) := by decide +kernel
theorem dX6_removeRange_39 : decode cX6_removeRange 39 = .ok (.getfield 7, 3) := by decide +kernel
theorem dX6_removeRange_42 : decode cX6_removeRange 42 = .ok (.bipush 32, 2) := by decide +kernel
theorem dX6_removeRange_44 : decode cX6_removeRange 44 = .ok (.iaload, 1) := by decide +kernel
theorem dX6_removeRange_45 : decode cX6_removeRange 45 = .ok (.imul, 1) := by decide +kernel
theorem dX6_removeRange_46 : decode cX6_removeRange 46 = .ok (.iadd, 1) := by decide +kernel
theorem dX6_removeRange_47 : decode cX6_removeRange 47 = .ok (.if_icmp .ge 24, 3) := by decide +kernel
theorem dX6_removeRange_50 : decode cX6_removeRange 50 = .ok (.aload_n 0, 1) := by decide +kernel
theorem dX6_removeRange_51 : decode cX6_removeRange 51 = .ok (.getfield 7, 3) := by decide +kernel
theorem dX6_removeRange_54 : decode cX6_removeRange 54 = .ok (.iload_n 2, 1) := by decide +kernel
theorem dX6_removeRange_55 : decode cX6_removeRange 55 = .ok (.aload_n 0, 1) := by decide +kernel
theorem dX6_removeRange_56 : decode cX6_removeRange 56 = .ok (.getfield 7, 3) := by decide +kernel
theorem dX6_removeRange_59 : decode cX6_removeRange 59 = .ok (.iload_n 2, 1) := by decide +kernel
theorem dX6_removeRange_60 : decode cX6_removeRange 60 = .ok (.bipush 7, 2) := by decide +kernel
theorem dX6_removeRange_62 : decode cX6_removeRange 62 = .ok (.iadd, 1) := by decide +kernel
theorem dX6_removeRange_63 : decode cX6_removeRange 63 = .ok (.iaload, 1) := by decide +kernel
theorem dX6_removeRange_64 : decode cX6_removeRange 64 = .ok (.iastore, 1) := by decide +kernel
theorem dX6_removeRange_65 : decode cX6_removeRange 65 = .ok (.iinc 2 1, 3) := by decide +kernel
theorem dX6_removeRange_68 : decode cX6_removeRange 68 = .ok (.goto (-35), 3) := by decide +kernel
theorem dX6_removeRange_71 : decode cX6_removeRange 71 = .ok (.aload_n 0, 1) := by decide +kernel
theorem dX6_removeRange_72 : decode cX6_removeRange 72 = .ok (.getfield 7, 3) := by decide +kernel
theorem dX6_removeRange_75 : decode cX6_removeRange 75 = .ok (.bipush 32, 2) := by decide +kernel
theorem dX6_removeRange_77 : decode cX6_removeRange 77 = .ok (.iaload, 1) := by decide +kernel
theorem dX6_removeRange_78 : decode cX6_removeRange 78 = .ok (.ireturn, 1) := by decide +kernel
set_option maxHeartbeats 4000000 in
set_option maxRecDepth 100000 in
theorem c_X6_removeRange (l : Launch) (E : gE) (g : Mem) (S : AS) (Bd : Nat) (hB : Bd < 90000000) (ho : OK S Bd) (hZ : MZ E g S) (xa : Int32) : Mt l E yX6_removeRange cX6_removeRange 3 (some .int) 2 43 [rf E (0), .int (xa)] g (pI (fun z g' => z = (qRemoveRange S xa).1 ∧ MZ E g' (qRemoveRange S xa).2)) := by
  have hv := ho.v
  have hrc : rc S.r ≤ 6 := hv.1.2
  have hgc : gc S.r ≤ 4 := hv.2.1.2
  have hc4 := ho.c4
  have hkp1 := ho.2.2.1
  have hl60 : S.ln ≤ 60 := ho.2.2.2.2.2.1
  refine mt_go (own := RX6) (by decide) rfl (lo := [some (rf E (0)), some (.int (xa)), none]) rfl (Nat.le_of_ble_eq_true rfl) (fun X hC => ?_)
  obtain ⟨row, hi, sn, tx, C, P, hM, hR, hH, hS, hT⟩ := hZ
  have hK := hM.k
  refine y_aload_n hC dX6_removeRange_0 (i := 0) rfl rfl ?_
  refine y_iload_n hC dX6_removeRange_1 (i := 1) rfl rfl ?_
  refine y_callV hC mX6_isRange kX6_117 dX6_removeRange_2 (b := 0) (As := [.int (xa)]) (rest := []) (c_X6_isRange l E g row (hi, nI (S.c), sn, nI (S.kp)) C (tx, nI (S.ln)) P hM S.r Bd (by omega) hR hv ((xa))) (by omega) hM.a0 rfl rfl rfl (Nat.le_of_ble_eq_true rfl) ⟨Nat.le_of_ble_eq_true rfl, Nat.le_of_ble_eq_true rfl⟩ (pk_i ?_)
  rintro r_2 g_2 ⟨hr_2, hq_2⟩
  obtain rfl := hq_2.symm
  rw [hr_2]
  clear hr_2 r_2
  refine y_if_ne_b (tgt := 10) hC dX6_removeRange_5 (by decide) (fun c_5 => ?_) (fun c_5 => ?_)
  · obtain ⟨a, ha, hax⟩ := zNl (m := rc S.r) c_5
    subst hax
    refine y_aload_n hC dX6_removeRange_10 (i := 0) rfl rfl ?_
    refine y_callV hC mX6_record kX6_57 dX6_removeRange_11 (b := 0) (As := []) (rest := []) (c_X6_record l E g S Bd hB ho ⟨row, hi, sn, tx, C, P, hM, hR, hH, hS, hT⟩) (by omega) hM.a0 rfl rfl rfl (Nat.le_of_ble_eq_true rfl) ⟨Nat.le_of_ble_eq_true rfl, Nat.le_of_ble_eq_true rfl⟩ (pk_v ?_)
    rintro g_11 hz_11
    obtain ⟨row_11, hi_11, sn_11, tx_11, C_11, P_11, hM_11, hR_11, hH_11, hS_11, hT_11⟩ := hz_11
    have hK_11 := hM_11.k
    refine y_aload_n hC dX6_removeRange_14 (i := 0) rfl rfl ?_
    refine y_get hC fX6_7 dX6_removeRange_15 (k := 0) (by omega) hM_11.a0 rfl ?_
    refine y_bipush (v := nI 32) hC dX6_removeRange_18 (by decide) ?_
    refine y_dup2 hC dX6_removeRange_20 rfl rfl ?_
    refine y_iald hC dX6_removeRange_21 (k := 1) (j := 32) (by omega) hM_11.a1 (rfl) (by omega) (by decide) ?_
    refine y_top (y := nI (rc S.r)) ((hR_11 32 (by decide)).trans hv.1.1) ?_
    refine y_iconst (v := nI 1) hC dX6_removeRange_22 (by decide) ?_
    refine y_isub_n hC dX6_removeRange_23 (by omega) ?_
    refine y_iast hC dX6_removeRange_24 (k := 1) (j := 32) (by omega) hM_11.a1 (rfl) (by omega) (by decide) ?_
    have hM_24 : MX E (va_up g_11 (1) (aI E 0 158 (upd row_11 (32) (nI ((rc S.r) - (1)))))) ((upd row_11 (32) (nI ((rc S.r) - (1))))) (hi_11, nI (S.rec.c), sn_11, nI (S.rec.kp)) C_11 (tx_11, nI (S.rec.ln)) P_11 := hM_11.u1 _
    generalize (va_up g_11 (1) (aI E 0 158 (upd row_11 (32) (nI ((rc S.r) - (1)))))) = g_24 at hM_24 ⊢
    refine y_bipush (v := nI 33) hC dX6_removeRange_25 (by decide) ?_
    refine y_bipush (v := nI 7) hC dX6_removeRange_27 (by decide) ?_
    refine y_iload_n hC dX6_removeRange_29 (i := 1) rfl rfl ?_
    refine y_imul_n hC dX6_removeRange_30 ?_
    refine y_iadd_n hC dX6_removeRange_31 ?_
    refine y_istore_n hC dX6_removeRange_32 (i := 2) rfl (Nat.le_of_ble_eq_true rfl) rfl (lo' := [some (rf E (0)), some (.int (nI (a))), some (.int (nI (33 + (7 * a))))]) rfl ?_
    have L_33 : ∀ (m : Nat) (i : Nat) (g1 : Mem) (row1 : Nat → Int32), (hm : 7 * (rc S.r - 1) - (7 * a + i) < m) → (hil : 7 * a + i ≤ 7 * (rc S.r - 1)) → (hM1 : MX E g1 row1 (hi_11, nI S.rec.c, sn_11, nI S.rec.kp) C_11 (tx_11, nI S.rec.ln) P_11) → (hk0 : ∀ k, k < 158 → row1 k = if 33 + 7 * a ≤ k ∧ k < 33 + 7 * a + i then S.r (k + 7) else if k = 32 then nI (rc S.r - 1) else S.r k) → Y l E X (pI (fun z g' => z = (qRemoveRange S (nI a)).1 ∧ MZ E g' (qRemoveRange S (nI a)).2)) 33 [some (rf E (0)), some (.int (nI (a))), some (.int (nI (33 + 7 * a + i)))] [] g1 := by
      intro m
      induction m with
      | zero => intro i g1 row1 hm hil hM1 hk0; exact absurd hm (Nat.not_lt_zero _)
      | succ m ih_33 =>
        intro i g1 row1 hm hil hM1 hk0
        refine y_iload_n hC dX6_removeRange_33 (i := 2) rfl rfl ?_
        refine y_bipush (v := nI 33) hC dX6_removeRange_34 (by decide) ?_
        refine y_bipush (v := nI 7) hC dX6_removeRange_36 (by decide) ?_
        refine y_aload_n hC dX6_removeRange_38 (i := 0) rfl rfl ?_
        refine y_get hC fX6_7 dX6_removeRange_39 (k := 0) (by omega) hM1.a0 rfl ?_
        refine y_bipush (v := nI 32) hC dX6_removeRange_42 (by decide) ?_
        refine y_iald hC dX6_removeRange_44 (k := 1) (j := 32) (by omega) hM1.a1 (rfl) (by omega) (by decide) ?_
        refine y_top (y := nI (rc S.r - 1)) ((hk0 32 (by decide)).trans ((if_neg (by omega)).trans (if_pos rfl))) ?_
        refine y_imul_n hC dX6_removeRange_45 ?_
        refine y_iadd_n hC dX6_removeRange_46 ?_
        refine y_icmp_ge_n (tgt := 71) hC dX6_removeRange_47 (by decide) (by omega) (by omega) (fun c_47 => ?_) (fun c_47 => ?_)
        · refine y_aload_n hC dX6_removeRange_71 (i := 0) rfl rfl ?_
          refine y_get hC fX6_7 dX6_removeRange_72 (k := 0) (by omega) hM1.a0 rfl ?_
          refine y_bipush (v := nI 32) hC dX6_removeRange_75 (by decide) ?_
          refine y_iald hC dX6_removeRange_77 (k := 1) (j := 32) (by omega) hM1.a1 (rfl) (by omega) (by decide) ?_
          refine y_top (y := nI (rc S.r - 1)) ((hk0 32 (by decide)).trans ((if_neg (by omega)).trans (if_pos rfl))) ?_
          refine y_iret (hC := hC) (hd := dX6_removeRange_78) (hq := ?_)
          have hqq : qRemoveRange S (nI a) = (nI (rc S.r - 1), S.rec.row (remR S.r a)) := by simp only [qRemoveRange, nn_I (show a < 2147483648 by omega), if_pos c_5]
          rw [hqq]
          exact ⟨rfl, ⟨row1, hi_11, sn_11, tx_11, C_11, P_11, hM1, (fun k hk => by
            rw [hk0 k hk]
            show _ = remR S.r a k
            unfold remR
            by_cases z : 33 + 7 * a ≤ k ∧ k < 33 + 7 * a + i
            · rw [if_pos z, if_neg (by omega), if_pos (by omega)]
            · rw [if_neg z]
              by_cases e : k = 32
              · rw [if_pos e, if_pos e]
              · rw [if_neg e, if_neg e, if_neg (by omega)]), hH_11, hS_11, hT_11⟩⟩
        · refine y_aload_n hC dX6_removeRange_50 (i := 0) rfl rfl ?_
          refine y_get hC fX6_7 dX6_removeRange_51 (k := 0) (by omega) hM1.a0 rfl ?_
          refine y_iload_n hC dX6_removeRange_54 (i := 2) rfl rfl ?_
          refine y_aload_n hC dX6_removeRange_55 (i := 0) rfl rfl ?_
          refine y_get hC fX6_7 dX6_removeRange_56 (k := 0) (by omega) hM1.a0 rfl ?_
          refine y_iload_n hC dX6_removeRange_59 (i := 2) rfl rfl ?_
          refine y_bipush (v := nI 7) hC dX6_removeRange_60 (by decide) ?_
          refine y_iadd_n hC dX6_removeRange_62 ?_
          refine y_iald hC dX6_removeRange_63 (k := 1) (j := (33 + 7 * a + i) + 7) (by omega) hM1.a1 (rfl) (by omega) (by decide) ?_
          refine y_iast hC dX6_removeRange_64 (k := 1) (j := 33 + 7 * a + i) (by omega) hM1.a1 (rfl) (by omega) (by decide) ?_
          have hM_64 : MX E (va_up g1 (1) (aI E 0 158 (upd row1 (33 + 7 * a + i) ((row1 ((33 + 7 * a + i) + 7)))))) ((upd row1 (33 + 7 * a + i) ((row1 ((33 + 7 * a + i) + 7))))) (hi_11, nI (S.rec.c), sn_11, nI (S.rec.kp)) C_11 (tx_11, nI (S.rec.ln)) P_11 := hM1.u1 _
          generalize (va_up g1 (1) (aI E 0 158 (upd row1 (33 + 7 * a + i) ((row1 ((33 + 7 * a + i) + 7)))))) = g_64 at hM_64 ⊢
          refine y_iinc_n hC dX6_removeRange_65 (a := 33 + 7 * a + i) (k := 1) rfl (by decide) (Nat.le_of_ble_eq_true rfl) rfl (lo' := [some (rf E (0)), some (.int (nI (a))), some (.int (nI (33 + 7 * a + i + 1)))]) rfl ?_
          refine y_goto (tgt := 33) hC dX6_removeRange_68 (by decide) ?_
          exact ih_33 (i + 1) g_64 _ (by omega) (by omega) hM_64 (fun k hk => by
              by_cases e : k = 33 + 7 * a + i
              · rw [e, pk_us, if_pos (by omega), hk0 _ (by omega), if_neg (by omega), if_neg (by omega)]
              · rw [pk_un e, hk0 k hk]
                by_cases z : 33 + 7 * a ≤ k ∧ k < 33 + 7 * a + i
                · rw [if_pos z, if_pos (by omega)]
                · rw [if_neg z, if_neg (show ¬ (33 + 7 * a ≤ k ∧ k < 33 + 7 * a + (i + 1)) by omega)])
    exact L_33 (7 * (rc S.r - 1) + 1) 0 g_24 _ (by omega) (by omega) hM_24 (fun k hk => by
        rw [if_neg (by omega)]
        by_cases e : k = 32
        · rw [e, pk_us, if_pos rfl]
        · rw [pk_un e, if_neg e]; exact hR_11 k hk)
  · refine y_iconst (v := (-1)) hC dX6_removeRange_8 (by decide) ?_
    refine y_iret (hC := hC) (hd := dX6_removeRange_9) (hq := ?_)
    have hqq : qRemoveRange S xa = (-1, S) := by simp only [qRemoveRange, if_neg c_5]
    rw [hqq]
    exact ⟨rfl, ⟨row, hi, sn, tx, C, P, hM, hR, hH, hS, hT⟩⟩

theorem dX6_removeGlow_0 : decode cX6_removeGlow 0 = .ok (.aload_n 0, 1) := by decide +kernel
theorem dX6_removeGlow_1 : decode cX6_removeGlow 1 = .ok (.iload_n 1, 1) := by decide +kernel
theorem dX6_removeGlow_2 : decode cX6_removeGlow 2 = .ok (.invokevirtual 124, 3) := by decide +kernel
theorem dX6_removeGlow_5 : decode cX6_removeGlow 5 = .ok (.ifCond .ne 5, 3) := by decide +kernel
theorem dX6_removeGlow_8 : decode cX6_removeGlow 8 = .ok (.iconst (-1), 1) := by decide +kernel
theorem dX6_removeGlow_9 : decode cX6_removeGlow 9 = .ok (.ireturn, 1) := by decide +kernel
theorem dX6_removeGlow_10 : decode cX6_removeGlow 10 = .ok (.aload_n 0, 1) := by decide +kernel
theorem dX6_removeGlow_11 : decode cX6_removeGlow 11 = .ok (.invokevirtual 57, 3) := by decide +kernel
theorem dX6_removeGlow_14 : decode cX6_removeGlow 14 = .ok (.aload_n 0, 1) := by decide +kernel
theorem dX6_removeGlow_15 : decode cX6_removeGlow 15 = .ok (.getfield 7, 3) := by decide +kernel
theorem dX6_removeGlow_18 : decode cX6_removeGlow 18 = .ok (.bipush 75, 2) := by decide +kernel
theorem dX6_removeGlow_20 : decode cX6_removeGlow 20 = .ok (.dup2, 1) := by decide +kernel
theorem dX6_removeGlow_21 : decode cX6_removeGlow 21 = .ok (.iaload, 1) := by decide +kernel
theorem dX6_removeGlow_22 : decode cX6_removeGlow 22 = .ok (.iconst 1, 1) := by decide +kernel
theorem dX6_removeGlow_23 : decode cX6_removeGlow 23 = .ok (.isub, 1) := by decide +kernel
theorem dX6_removeGlow_24 : decode cX6_removeGlow 24 = .ok (.iastore, 1) := by decide +kernel
theorem dX6_removeGlow_25 : decode cX6_removeGlow 25 = .ok (.bipush 76, 2) := by decide +kernel
theorem dX6_removeGlow_27 : decode cX6_removeGlow 27 = .ok (.iconst 4, 1) := by decide +kernel
theorem dX6_removeGlow_28 : decode cX6_removeGlow 28 = .ok (.iload_n 1, 1) := by decide +kernel
theorem dX6_removeGlow_29 : decode cX6_removeGlow 29 = .ok (.imul, 1) := by decide +kernel
theorem dX6_removeGlow_30 : decode cX6_removeGlow 30 = .ok (.iadd, 1) := by decide +kernel
theorem dX6_removeGlow_31 : decode cX6_removeGlow 31 = .ok (.istore_n 2, 1) := by decide +kernel
theorem dX6_removeGlow_32 : decode cX6_removeGlow 32 = .ok (.iload_n 2, 1) := by decide +kernel
theorem dX6_removeGlow_33 : decode cX6_removeGlow 33 = .ok (.bipush 76, 2) := by decide +kernel
theorem dX6_removeGlow_35 : decode cX6_removeGlow 35 = .ok (.iconst 4, 1) := by decide +kernel
theorem dX6_removeGlow_36 : decode cX6_removeGlow 36 = .ok (.aload_n 0, 1) := by decide +kernel
theorem dX6_removeGlow_37 : decode cX6_removeGlow 37 = .ok (.getfield 7, 3) := by decide +kernel
theorem dX6_removeGlow_40 : decode cX6_removeGlow 40 = .ok (.bipush 75, 2) := by decide +kernel
theorem dX6_removeGlow_42 : decode cX6_removeGlow 42 = .ok (.iaload, 1) := by decide +kernel
theorem dX6_removeGlow_43 : decode cX6_removeGlow 43 = .ok (.imul, 1) := by decide +kernel
theorem dX6_removeGlow_44 : decode cX6_removeGlow 44 = .ok (.iadd, 1) := by decide +kernel
theorem dX6_removeGlow_45 : decode cX6_removeGlow 45 = .ok (.if_icmp .ge 23, 3) := by decide +kernel
theorem dX6_removeGlow_48 : decode cX6_removeGlow 48 = .ok (.aload_n 0, 1) := by decide +kernel
theorem dX6_removeGlow_49 : decode cX6_removeGlow 49 = .ok (.getfield 7, 3) := by decide +kernel
theorem dX6_removeGlow_52 : decode cX6_removeGlow 52 = .ok (.iload_n 2, 1) := by decide +kernel
theorem dX6_removeGlow_53 : decode cX6_removeGlow 53 = .ok (.aload_n 0, 1) := by decide +kernel
theorem dX6_removeGlow_54 : decode cX6_removeGlow 54 = .ok (.getfield 7, 3) := by decide +kernel
theorem dX6_removeGlow_57 : decode cX6_removeGlow 57 = .ok (.iload_n 2, 1) := by decide +kernel
theorem dX6_removeGlow_58 : decode cX6_removeGlow 58 = .ok (.iconst 4, 1) := by decide +kernel
theorem dX6_removeGlow_59 : decode cX6_removeGlow 59 = .ok (.iadd, 1) := by decide +kernel
theorem dX6_removeGlow_60 : decode cX6_removeGlow 60 = .ok (.iaload, 1) := by decide +kernel
theorem dX6_removeGlow_61 : decode cX6_removeGlow 61 = .ok (.iastore, 1) := by decide +kernel
theorem dX6_removeGlow_62 : decode cX6_removeGlow 62 = .ok (.iinc 2 1, 3) := by decide +kernel
theorem dX6_removeGlow_65 : decode cX6_removeGlow 65 = .ok (.goto (-33), 3) := by decide +kernel
theorem dX6_removeGlow_68 : decode cX6_removeGlow 68 = .ok (.aload_n 0, 1) := by decide +kernel
theorem dX6_removeGlow_69 : decode cX6_removeGlow 69 = .ok (.getfield 7, 3) := by decide +kernel
theorem dX6_removeGlow_72 : decode cX6_removeGlow 72 = .ok (.bipush 75, 2) := by decide +kernel
theorem dX6_removeGlow_74 : decode cX6_removeGlow 74 = .ok (.iaload, 1) := by decide +kernel
theorem dX6_removeGlow_75 : decode cX6_removeGlow 75 = .ok (.ireturn, 1) := by decide +kernel
set_option maxHeartbeats 4000000 in
set_option maxRecDepth 100000 in
theorem c_X6_removeGlow (l : Launch) (E : gE) (g : Mem) (S : AS) (Bd : Nat) (hB : Bd < 90000000) (ho : OK S Bd) (hZ : MZ E g S) (xa : Int32) : Mt l E yX6_removeGlow cX6_removeGlow 3 (some .int) 2 43 [rf E (0), .int (xa)] g (pI (fun z g' => z = (qRemoveGlow S xa).1 ∧ MZ E g' (qRemoveGlow S xa).2)) := by
  have hv := ho.v
  have hrc : rc S.r ≤ 6 := hv.1.2
  have hgc : gc S.r ≤ 4 := hv.2.1.2
  have hc4 := ho.c4
  have hkp1 := ho.2.2.1
  have hl60 : S.ln ≤ 60 := ho.2.2.2.2.2.1
  refine mt_go (own := RX6) (by decide) rfl (lo := [some (rf E (0)), some (.int (xa)), none]) rfl (Nat.le_of_ble_eq_true rfl) (fun X hC => ?_)
  obtain ⟨row, hi, sn, tx, C, P, hM, hR, hH, hS, hT⟩ := hZ
  have hK := hM.k
  refine y_aload_n hC dX6_removeGlow_0 (i := 0) rfl rfl ?_
  refine y_iload_n hC dX6_removeGlow_1 (i := 1) rfl rfl ?_
  refine y_callV hC mX6_isGlow kX6_124 dX6_removeGlow_2 (b := 0) (As := [.int (xa)]) (rest := []) (c_X6_isGlow l E g row (hi, nI (S.c), sn, nI (S.kp)) C (tx, nI (S.ln)) P hM S.r Bd (by omega) hR hv ((xa))) (by omega) hM.a0 rfl rfl rfl (Nat.le_of_ble_eq_true rfl) ⟨Nat.le_of_ble_eq_true rfl, Nat.le_of_ble_eq_true rfl⟩ (pk_i ?_)
  rintro r_2 g_2 ⟨hr_2, hq_2⟩
  obtain rfl := hq_2.symm
  rw [hr_2]
  clear hr_2 r_2
  refine y_if_ne_b (tgt := 10) hC dX6_removeGlow_5 (by decide) (fun c_5 => ?_) (fun c_5 => ?_)
  · obtain ⟨a, ha, hax⟩ := zNl (m := gc S.r) c_5
    subst hax
    refine y_aload_n hC dX6_removeGlow_10 (i := 0) rfl rfl ?_
    refine y_callV hC mX6_record kX6_57 dX6_removeGlow_11 (b := 0) (As := []) (rest := []) (c_X6_record l E g S Bd hB ho ⟨row, hi, sn, tx, C, P, hM, hR, hH, hS, hT⟩) (by omega) hM.a0 rfl rfl rfl (Nat.le_of_ble_eq_true rfl) ⟨Nat.le_of_ble_eq_true rfl, Nat.le_of_ble_eq_true rfl⟩ (pk_v ?_)
    rintro g_11 hz_11
    obtain ⟨row_11, hi_11, sn_11, tx_11, C_11, P_11, hM_11, hR_11, hH_11, hS_11, hT_11⟩ := hz_11
    have hK_11 := hM_11.k
    refine y_aload_n hC dX6_removeGlow_14 (i := 0) rfl rfl ?_
    refine y_get hC fX6_7 dX6_removeGlow_15 (k := 0) (by omega) hM_11.a0 rfl ?_
    refine y_bipush (v := nI 75) hC dX6_removeGlow_18 (by decide) ?_
    refine y_dup2 hC dX6_removeGlow_20 rfl rfl ?_
    refine y_iald hC dX6_removeGlow_21 (k := 1) (j := 75) (by omega) hM_11.a1 (rfl) (by omega) (by decide) ?_
    refine y_top (y := nI (gc S.r)) ((hR_11 75 (by decide)).trans hv.2.1.1) ?_
    refine y_iconst (v := nI 1) hC dX6_removeGlow_22 (by decide) ?_
    refine y_isub_n hC dX6_removeGlow_23 (by omega) ?_
    refine y_iast hC dX6_removeGlow_24 (k := 1) (j := 75) (by omega) hM_11.a1 (rfl) (by omega) (by decide) ?_
    have hM_24 : MX E (va_up g_11 (1) (aI E 0 158 (upd row_11 (75) (nI ((gc S.r) - (1)))))) ((upd row_11 (75) (nI ((gc S.r) - (1))))) (hi_11, nI (S.rec.c), sn_11, nI (S.rec.kp)) C_11 (tx_11, nI (S.rec.ln)) P_11 := hM_11.u1 _
    generalize (va_up g_11 (1) (aI E 0 158 (upd row_11 (75) (nI ((gc S.r) - (1)))))) = g_24 at hM_24 ⊢
    refine y_bipush (v := nI 76) hC dX6_removeGlow_25 (by decide) ?_
    refine y_iconst (v := nI 4) hC dX6_removeGlow_27 (by decide) ?_
    refine y_iload_n hC dX6_removeGlow_28 (i := 1) rfl rfl ?_
    refine y_imul_n hC dX6_removeGlow_29 ?_
    refine y_iadd_n hC dX6_removeGlow_30 ?_
    refine y_istore_n hC dX6_removeGlow_31 (i := 2) rfl (Nat.le_of_ble_eq_true rfl) rfl (lo' := [some (rf E (0)), some (.int (nI (a))), some (.int (nI (76 + (4 * a))))]) rfl ?_
    have L_32 : ∀ (m : Nat) (i : Nat) (g1 : Mem) (row1 : Nat → Int32), (hm : 4 * (gc S.r - 1) - (4 * a + i) < m) → (hil : 4 * a + i ≤ 4 * (gc S.r - 1)) → (hM1 : MX E g1 row1 (hi_11, nI S.rec.c, sn_11, nI S.rec.kp) C_11 (tx_11, nI S.rec.ln) P_11) → (hk0 : ∀ k, k < 158 → row1 k = if 76 + 4 * a ≤ k ∧ k < 76 + 4 * a + i then S.r (k + 4) else if k = 75 then nI (gc S.r - 1) else S.r k) → Y l E X (pI (fun z g' => z = (qRemoveGlow S (nI a)).1 ∧ MZ E g' (qRemoveGlow S (nI a)).2)) 32 [some (rf E (0)), some (.int (nI (a))), some (.int (nI (76 + 4 * a + i)))] [] g1 := by
      intro m
      induction m with
      | zero => intro i g1 row1 hm hil hM1 hk0; exact absurd hm (Nat.not_lt_zero _)
      | succ m ih_32 =>
        intro i g1 row1 hm hil hM1 hk0
        refine y_iload_n hC dX6_removeGlow_32 (i := 2) rfl rfl ?_
        refine y_bipush (v := nI 76) hC dX6_removeGlow_33 (by decide) ?_
        refine y_iconst (v := nI 4) hC dX6_removeGlow_35 (by decide) ?_
        refine y_aload_n hC dX6_removeGlow_36 (i := 0) rfl rfl ?_
        refine y_get hC fX6_7 dX6_removeGlow_37 (k := 0) (by omega) hM1.a0 rfl ?_
        refine y_bipush (v := nI 75) hC dX6_removeGlow_40 (by decide) ?_
        refine y_iald hC dX6_removeGlow_42 (k := 1) (j := 75) (by omega) hM1.a1 (rfl) (by omega) (by decide) ?_
        refine y_top (y := nI (gc S.r - 1)) ((hk0 75 (by decide)).trans ((if_neg (by omega)).trans (if_pos rfl))) ?_
        refine y_imul_n hC dX6_removeGlow_43 ?_
        refine y_iadd_n hC dX6_removeGlow_44 ?_
        refine y_icmp_ge_n (tgt := 68) hC dX6_removeGlow_45 (by decide) (by omega) (by omega) (fun c_45 => ?_) (fun c_45 => ?_)
        · refine y_aload_n hC dX6_removeGlow_68 (i := 0) rfl rfl ?_
          refine y_get hC fX6_7 dX6_removeGlow_69 (k := 0) (by omega) hM1.a0 rfl ?_
          refine y_bipush (v := nI 75) hC dX6_removeGlow_72 (by decide) ?_
          refine y_iald hC dX6_removeGlow_74 (k := 1) (j := 75) (by omega) hM1.a1 (rfl) (by omega) (by decide) ?_
          refine y_top (y := nI (gc S.r - 1)) ((hk0 75 (by decide)).trans ((if_neg (by omega)).trans (if_pos rfl))) ?_
          refine y_iret (hC := hC) (hd := dX6_removeGlow_75) (hq := ?_)
          have hqq : qRemoveGlow S (nI a) = (nI (gc S.r - 1), S.rec.row (remG S.r a)) := by simp only [qRemoveGlow, nn_I (show a < 2147483648 by omega), if_pos c_5]
          rw [hqq]
          exact ⟨rfl, ⟨row1, hi_11, sn_11, tx_11, C_11, P_11, hM1, (fun k hk => by
            rw [hk0 k hk]
            show _ = remG S.r a k
            unfold remG
            by_cases z : 76 + 4 * a ≤ k ∧ k < 76 + 4 * a + i
            · rw [if_pos z, if_neg (by omega), if_pos (by omega)]
            · rw [if_neg z]
              by_cases e : k = 75
              · rw [if_pos e, if_pos e]
              · rw [if_neg e, if_neg e, if_neg (by omega)]), hH_11, hS_11, hT_11⟩⟩
        · refine y_aload_n hC dX6_removeGlow_48 (i := 0) rfl rfl ?_
          refine y_get hC fX6_7 dX6_removeGlow_49 (k := 0) (by omega) hM1.a0 rfl ?_
          refine y_iload_n hC dX6_removeGlow_52 (i := 2) rfl rfl ?_
          refine y_aload_n hC dX6_removeGlow_53 (i := 0) rfl rfl ?_
          refine y_get hC fX6_7 dX6_removeGlow_54 (k := 0) (by omega) hM1.a0 rfl ?_
          refine y_iload_n hC dX6_removeGlow_57 (i := 2) rfl rfl ?_
          refine y_iconst (v := nI 4) hC dX6_removeGlow_58 (by decide) ?_
          refine y_iadd_n hC dX6_removeGlow_59 ?_
          refine y_iald hC dX6_removeGlow_60 (k := 1) (j := (76 + 4 * a + i) + 4) (by omega) hM1.a1 (rfl) (by omega) (by decide) ?_
          refine y_iast hC dX6_removeGlow_61 (k := 1) (j := 76 + 4 * a + i) (by omega) hM1.a1 (rfl) (by omega) (by decide) ?_
          have hM_61 : MX E (va_up g1 (1) (aI E 0 158 (upd row1 (76 + 4 * a + i) ((row1 ((76 + 4 * a + i) + 4)))))) ((upd row1 (76 + 4 * a + i) ((row1 ((76 + 4 * a + i) + 4))))) (hi_11, nI (S.rec.c), sn_11, nI (S.rec.kp)) C_11 (tx_11, nI (S.rec.ln)) P_11 := hM1.u1 _
          generalize (va_up g1 (1) (aI E 0 158 (upd row1 (76 + 4 * a + i) ((row1 ((76 + 4 * a + i) + 4)))))) = g_61 at hM_61 ⊢
          refine y_iinc_n hC dX6_removeGlow_62 (a := 76 + 4 * a + i) (k := 1) rfl (by decide) (Nat.le_of_ble_eq_true rfl) rfl (lo' := [some (rf E (0)), some (.int (nI (a))), some (.int (nI (76 + 4 * a + i + 1)))]) rfl ?_
          refine y_goto (tgt := 32) hC dX6_removeGlow_65 (by decide) ?_
          exact ih_32 (i + 1) g_61 _ (by omega) (by omega) hM_61 (fun k hk => by
              by_cases e : k = 76 + 4 * a + i
              · rw [e, pk_us, if_pos (by omega), hk0 _ (by omega), if_neg (by omega), if_neg (by omega)]
              · rw [pk_un e, hk0 k hk]
                by_cases z : 76 + 4 * a ≤ k ∧ k < 76 + 4 * a + i
                · rw [if_pos z, if_pos (by omega)]
                · rw [if_neg z, if_neg (show ¬ (76 + 4 * a ≤ k ∧ k < 76 + 4 * a + (i + 1)) by omega)])
    exact L_32 (4 * (gc S.r - 1) + 1) 0 g_24 _ (by omega) (by omega) hM_24 (fun k hk => by
        rw [if_neg (by omega)]
        by_cases e : k = 75
        · rw [e, pk_us, if_pos rfl]
        · rw [pk_un e, if_neg e]; exact hR_11 k hk)
  · refine y_iconst (v := (-1)) hC dX6_removeGlow_8 (by decide) ?_
    refine y_iret (hC := hC) (hd := dX6_removeGlow_9) (hq := ?_)
    have hqq : qRemoveGlow S xa = (-1, S) := by simp only [qRemoveGlow, if_neg c_5]
    rw [hqq]
    exact ⟨rfl, ⟨row, hi, sn, tx, C, P, hM, hR, hH, hS, hT⟩⟩

theorem dX6_setSpeed_0 : decode cX6_setSpeed 0 = .ok (.aload_n 0, 1) := by decide +kernel
theorem dX6_setSpeed_1 : decode cX6_setSpeed 1 = .ok (.iload_n 1, 1) := by decide +kernel
theorem dX6_setSpeed_2 : decode cX6_setSpeed 2 = .ok (.invokevirtual 117, 3) := by decide +kernel
theorem dX6_setSpeed_5 : decode cX6_setSpeed 5 = .ok (.ifCond .ne 5, 3) := by decide +kernel
theorem dX6_setSpeed_8 : decode cX6_setSpeed 8 = .ok (.iconst (-1), 1) := by decide +kernel
theorem dX6_setSpeed_9 : decode cX6_setSpeed 9 = .ok (.ireturn, 1) := by decide +kernel
theorem dX6_setSpeed_10 : decode cX6_setSpeed 10 = .ok (.iload_n 2, 1) := by decide +kernel
theorem dX6_setSpeed_11 : decode cX6_setSpeed 11 = .ok (.iconst 1, 1) := by decide +kernel
theorem dX6_setSpeed_12 : decode cX6_setSpeed 12 = .ok (.bipush 30, 2) := by decide +kernel
theorem dX6_setSpeed_14 : decode cX6_setSpeed 14 = .ok (.invokestatic 44, 3) := by decide +kernel
theorem dX6_setSpeed_17 : decode cX6_setSpeed 17 = .ok (.ifCond .eq 12, 3) := by decide +kernel
theorem dX6_setSpeed_20 : decode cX6_setSpeed 20 = .ok (.iload_n 3, 1) := by decide +kernel
theorem dX6_setSpeed_21 : decode cX6_setSpeed 21 = .ok (.iconst 0, 1) := by decide +kernel
theorem dX6_setSpeed_22 : decode cX6_setSpeed 22 = .ok (.iconst 2, 1) := by decide +kernel
theorem dX6_setSpeed_23 : decode cX6_setSpeed 23 = .ok (.invokestatic 44, 3) := by decide +kernel
theorem dX6_setSpeed_26 : decode cX6_setSpeed 26 = .ok (.ifCond .ne 6, 3) := by decide +kernel
theorem dX6_setSpeed_29 : decode cX6_setSpeed 29 = .ok (.bipush (-2), 2) := by decide +kernel
theorem dX6_setSpeed_31 : decode cX6_setSpeed 31 = .ok (.ireturn, 1) := by decide +kernel
theorem dX6_setSpeed_32 : decode cX6_setSpeed 32 = .ok (.aload_n 0, 1) := by decide +kernel
theorem dX6_setSpeed_33 : decode cX6_setSpeed 33 = .ok (.invokevirtual 57, 3) := by decide +kernel
theorem dX6_setSpeed_36 : decode cX6_setSpeed 36 = .ok (.bipush 33, 2) := by decide +kernel
theorem dX6_setSpeed_38 : decode cX6_setSpeed 38 = .ok (.bipush 7, 2) := by decide +kernel
theorem dX6_setSpeed_40 : decode cX6_setSpeed 40 = .ok (.iload_n 1, 1) := by decide +kernel
theorem dX6_setSpeed_41 : decode cX6_setSpeed 41 = .ok (.imul, 1) := by decide +kernel
theorem dX6_setSpeed_42 : decode cX6_setSpeed 42 = .ok (.iadd, 1) := by decide +kernel
theorem dX6_setSpeed_43 : decode cX6_setSpeed 43 = .ok (.istore 4, 2) := by decide +kernel
theorem dX6_setSpeed_45 : decode cX6_setSpeed 45 = .ok (.aload_n 0, 1) := by decide +kernel
theorem dX6_setSpeed_46 : decode cX6_setSpeed 46 = .ok (.getfield 7, 3) := by decide +kernel
theorem dX6_setSpeed_49 : decode cX6_setSpeed 49 = .ok (.iload 4, 2) := by decide +kernel
theorem dX6_setSpeed_51 : decode cX6_setSpeed 51 = .ok (.iconst 2, 1) := by decide +kernel
theorem dX6_setSpeed_52 : decode cX6_setSpeed 52 = .ok (.iadd, 1) := by decide +kernel
theorem dX6_setSpeed_53 : decode cX6_setSpeed 53 = .ok (.iaload, 1) := by decide +kernel
theorem dX6_setSpeed_54 : decode cX6_setSpeed 54 = .ok (.istore 5, 2) := by decide +kernel
theorem dX6_setSpeed_56 : decode cX6_setSpeed 56 = .ok (.aload_n 0, 1) := by decide +kernel
theorem dX6_setSpeed_57 : decode cX6_setSpeed 57 = .ok (.getfield 7, 3) := by decide +kernel
theorem dX6_setSpeed_60 : decode cX6_setSpeed 60 = .ok (.iload 4, 2) := by decide +kernel
theorem dX6_setSpeed_62 : decode cX6_setSpeed 62 = .ok (.iconst 2, 1) := by decide +kernel
theorem dX6_setSpeed_63 : decode cX6_setSpeed 63 = .ok (.iadd, 1) := by decide +kernel
theorem dX6_setSpeed_64 : decode cX6_setSpeed 64 = .ok (.iload_n 2, 1) := by decide +kernel
theorem dX6_setSpeed_65 : decode cX6_setSpeed 65 = .ok (.iastore, 1) := by decide +kernel
theorem dX6_setSpeed_66 : decode cX6_setSpeed 66 = .ok (.aload_n 0, 1) := by decide +kernel
theorem dX6_setSpeed_67 : decode cX6_setSpeed 67 = .ok (.getfield 7, 3) := by decide +kernel
theorem dX6_setSpeed_70 : decode cX6_setSpeed 70 = .ok (.iload 4, 2) := by decide +kernel
theorem dX6_setSpeed_72 : decode cX6_setSpeed 72 = .ok (.iconst 3, 1) := by decide +kernel
theorem dX6_setSpeed_73 : decode cX6_setSpeed 73 = .ok (.iadd, 1) := by decide +kernel
theorem dX6_setSpeed_74 : decode cX6_setSpeed 74 = .ok (.iload_n 3, 1) := by decide +kernel
theorem dX6_setSpeed_75 : decode cX6_setSpeed 75 = .ok (.iastore, 1) := by decide +kernel
theorem dX6_setSpeed_76 : decode cX6_setSpeed 76 = .ok (.aload_n 0, 1) := by decide +kernel
theorem dX6_setSpeed_77 : decode cX6_setSpeed 77 = .ok (.getfield 7, 3) := by decide +kernel
theorem dX6_setSpeed_80 : decode cX6_setSpeed 80 = .ok (.iload 4, 2) := by decide +kernel
theorem dX6_setSpeed_82 : decode cX6_setSpeed 82 = .ok (.iconst 5, 1) := by decide +kernel
theorem dX6_setSpeed_83 : decode cX6_setSpeed 83 = .ok (.iadd, 1) := by decide +kernel
theorem dX6_setSpeed_84 : decode cX6_setSpeed 84 = .ok (.iconst 0, 1) := by decide +kernel
theorem dX6_setSpeed_85 : decode cX6_setSpeed 85 = .ok (.iastore, 1) := by decide +kernel
theorem dX6_setSpeed_86 : decode cX6_setSpeed 86 = .ok (.aload_n 0, 1) := by decide +kernel
theorem dX6_setSpeed_87 : decode cX6_setSpeed 87 = .ok (.getfield 7, 3) := by decide +kernel
theorem dX6_setSpeed_90 : decode cX6_setSpeed 90 = .ok (.iload 4, 2) := by decide +kernel
theorem dX6_setSpeed_92 : decode cX6_setSpeed 92 = .ok (.bipush 6, 2) := by decide +kernel
theorem dX6_setSpeed_94 : decode cX6_setSpeed 94 = .ok (.iadd, 1) := by decide +kernel
theorem dX6_setSpeed_95 : decode cX6_setSpeed 95 = .ok (.iconst 0, 1) := by decide +kernel
theorem dX6_setSpeed_96 : decode cX6_setSpeed 96 = .ok (.iastore, 1) := by decide +kernel
theorem dX6_setSpeed_97 : decode cX6_setSpeed 97 = .ok (.iload 5, 2) := by decide +kernel
theorem dX6_setSpeed_99 : decode cX6_setSpeed 99 = .ok (.ireturn, 1) := by decide +kernel
set_option maxHeartbeats 4000000 in
set_option maxRecDepth 100000 in
theorem c_X6_setSpeed (l : Launch) (E : gE) (g : Mem) (S : AS) (Bd : Nat) (hB : Bd < 90000000) (ho : OK S Bd) (hZ : MZ E g S) (xa xs xw : Int32) : Mt l E yX6_setSpeed cX6_setSpeed 6 (some .int) 2 43 [rf E (0), .int (xa), .int (xs), .int (xw)] g (pI (fun z g' => z = (qSetSpeed S xa xs xw).1 ∧ MZ E g' (qSetSpeed S xa xs xw).2)) := by
  have hv := ho.v
  have hrc : rc S.r ≤ 6 := hv.1.2
  have hgc : gc S.r ≤ 4 := hv.2.1.2
  have hc4 := ho.c4
  have hkp1 := ho.2.2.1
  have hl60 : S.ln ≤ 60 := ho.2.2.2.2.2.1
  refine mt_go (own := RX6) (by decide) rfl (lo := [some (rf E (0)), some (.int (xa)), some (.int (xs)), some (.int (xw)), none, none]) rfl (Nat.le_of_ble_eq_true rfl) (fun X hC => ?_)
  obtain ⟨row, hi, sn, tx, C, P, hM, hR, hH, hS, hT⟩ := hZ
  have hK := hM.k
  refine y_aload_n hC dX6_setSpeed_0 (i := 0) rfl rfl ?_
  refine y_iload_n hC dX6_setSpeed_1 (i := 1) rfl rfl ?_
  refine y_callV hC mX6_isRange kX6_117 dX6_setSpeed_2 (b := 0) (As := [.int (xa)]) (rest := []) (c_X6_isRange l E g row (hi, nI (S.c), sn, nI (S.kp)) C (tx, nI (S.ln)) P hM S.r Bd (by omega) hR hv ((xa))) (by omega) hM.a0 rfl rfl rfl (Nat.le_of_ble_eq_true rfl) ⟨Nat.le_of_ble_eq_true rfl, Nat.le_of_ble_eq_true rfl⟩ (pk_i ?_)
  rintro r_2 g_2 ⟨hr_2, hq_2⟩
  obtain rfl := hq_2.symm
  rw [hr_2]
  clear hr_2 r_2
  refine y_if_ne_b (tgt := 10) hC dX6_setSpeed_5 (by decide) (fun c_5 => ?_) (fun c_5 => ?_)
  · obtain ⟨a, ha, hax⟩ := zNl (m := rc S.r) c_5
    subst hax
    refine y_iload_n hC dX6_setSpeed_10 (i := 2) rfl rfl ?_
    refine y_iconst (v := nI 1) hC dX6_setSpeed_11 (by decide) ?_
    refine y_bipush (v := nI 30) hC dX6_setSpeed_12 (by decide) ?_
    refine y_callS hC mX6_in kX6_44 dX6_setSpeed_14 (As := [.int (xs), .int (nI (1)), .int (nI (30))]) (rest := []) (c_X6_inN l E g (xs) (1) (30) (by omega) (by omega)) rfl rfl rfl (Nat.le_of_ble_eq_true rfl) ⟨Nat.le_of_ble_eq_true rfl, Nat.le_of_ble_eq_true rfl⟩ (pk_i ?_)
    rintro r_14 g_14 ⟨hr_14, hq_14⟩
    obtain rfl := hq_14.symm
    rw [hr_14]
    clear hr_14 r_14
    refine y_if_eq_b (tgt := 29) hC dX6_setSpeed_17 (by decide) (fun c_17 => ?_) (fun c_17 => ?_)
    · refine y_bipush (v := (-2)) hC dX6_setSpeed_29 (by decide) ?_
      refine y_iret (hC := hC) (hd := dX6_setSpeed_31) (hq := ?_)
      have hqq : qSetSpeed S (nI a) xs xw = (-2, S) := by simp only [qSetSpeed, nn_I (show a < 2147483648 by omega), if_pos c_5]; exact if_neg (fun q => c_17 q.1)
      rw [hqq]
      exact ⟨rfl, ⟨row, hi, sn, tx, C, P, hM, hR, hH, hS, hT⟩⟩
    · refine y_iload_n hC dX6_setSpeed_20 (i := 3) rfl rfl ?_
      refine y_iconst (v := nI 0) hC dX6_setSpeed_21 (by decide) ?_
      refine y_iconst (v := nI 2) hC dX6_setSpeed_22 (by decide) ?_
      refine y_callS hC mX6_in kX6_44 dX6_setSpeed_23 (As := [.int (xw), .int (nI (0)), .int (nI (2))]) (rest := []) (c_X6_inN l E g (xw) (0) (2) (by omega) (by omega)) rfl rfl rfl (Nat.le_of_ble_eq_true rfl) ⟨Nat.le_of_ble_eq_true rfl, Nat.le_of_ble_eq_true rfl⟩ (pk_i ?_)
      rintro r_23 g_23 ⟨hr_23, hq_23⟩
      obtain rfl := hq_23.symm
      rw [hr_23]
      clear hr_23 r_23
      refine y_if_ne_b (tgt := 32) hC dX6_setSpeed_26 (by decide) (fun c_26 => ?_) (fun c_26 => ?_)
      · refine y_aload_n hC dX6_setSpeed_32 (i := 0) rfl rfl ?_
        refine y_callV hC mX6_record kX6_57 dX6_setSpeed_33 (b := 0) (As := []) (rest := []) (c_X6_record l E g S Bd hB ho ⟨row, hi, sn, tx, C, P, hM, hR, hH, hS, hT⟩) (by omega) hM.a0 rfl rfl rfl (Nat.le_of_ble_eq_true rfl) ⟨Nat.le_of_ble_eq_true rfl, Nat.le_of_ble_eq_true rfl⟩ (pk_v ?_)
        rintro g_33 hz_33
        obtain ⟨row_33, hi_33, sn_33, tx_33, C_33, P_33, hM_33, hR_33, hH_33, hS_33, hT_33⟩ := hz_33
        have hK_33 := hM_33.k
        refine y_bipush (v := nI 33) hC dX6_setSpeed_36 (by decide) ?_
        refine y_bipush (v := nI 7) hC dX6_setSpeed_38 (by decide) ?_
        refine y_iload_n hC dX6_setSpeed_40 (i := 1) rfl rfl ?_
        refine y_imul_n hC dX6_setSpeed_41 ?_
        refine y_iadd_n hC dX6_setSpeed_42 ?_
        refine y_istore hC dX6_setSpeed_43 (Nat.le_of_ble_eq_true rfl) rfl (lo' := [some (rf E (0)), some (.int (nI (a))), some (.int (xs)), some (.int (xw)), some (.int (nI (33 + (7 * a)))), none]) rfl ?_
        refine y_aload_n hC dX6_setSpeed_45 (i := 0) rfl rfl ?_
        refine y_get hC fX6_7 dX6_setSpeed_46 (k := 0) (by omega) hM_33.a0 rfl ?_
        refine y_iload hC dX6_setSpeed_49 rfl ?_
        refine y_iconst (v := nI 2) hC dX6_setSpeed_51 (by decide) ?_
        refine y_iadd_n hC dX6_setSpeed_52 ?_
        refine y_iald hC dX6_setSpeed_53 (k := 1) (j := (33 + (7 * a)) + 2) (by omega) hM_33.a1 (rfl) (by omega) (by decide) ?_
        refine y_top (y := nI (rg S.r a 2)) ((hR_33 _ (by omega)).trans ((hv.rg (i := a) (by omega)).1 2 (by decide))) ?_
        refine y_istore hC dX6_setSpeed_54 (Nat.le_of_ble_eq_true rfl) rfl (lo' := [some (rf E (0)), some (.int (nI (a))), some (.int (xs)), some (.int (xw)), some (.int (nI (33 + (7 * a)))), some (.int (nI (rg S.r a 2)))]) rfl ?_
        refine y_aload_n hC dX6_setSpeed_56 (i := 0) rfl rfl ?_
        refine y_get hC fX6_7 dX6_setSpeed_57 (k := 0) (by omega) hM_33.a0 rfl ?_
        refine y_iload hC dX6_setSpeed_60 rfl ?_
        refine y_iconst (v := nI 2) hC dX6_setSpeed_62 (by decide) ?_
        refine y_iadd_n hC dX6_setSpeed_63 ?_
        refine y_iload_n hC dX6_setSpeed_64 (i := 2) rfl rfl ?_
        refine y_iast hC dX6_setSpeed_65 (k := 1) (j := (33 + (7 * a)) + 2) (by omega) hM_33.a1 (rfl) (by omega) (by decide) ?_
        have hM_65 : MX E (va_up g_33 (1) (aI E 0 158 (upd row_33 ((33 + (7 * a)) + 2) ((xs))))) ((upd row_33 ((33 + (7 * a)) + 2) ((xs)))) (hi_33, nI (S.rec.c), sn_33, nI (S.rec.kp)) C_33 (tx_33, nI (S.rec.ln)) P_33 := hM_33.u1 _
        generalize (va_up g_33 (1) (aI E 0 158 (upd row_33 ((33 + (7 * a)) + 2) ((xs))))) = g_65 at hM_65 ⊢
        refine y_aload_n hC dX6_setSpeed_66 (i := 0) rfl rfl ?_
        refine y_get hC fX6_7 dX6_setSpeed_67 (k := 0) (by omega) hM_65.a0 rfl ?_
        refine y_iload hC dX6_setSpeed_70 rfl ?_
        refine y_iconst (v := nI 3) hC dX6_setSpeed_72 (by decide) ?_
        refine y_iadd_n hC dX6_setSpeed_73 ?_
        refine y_iload_n hC dX6_setSpeed_74 (i := 3) rfl rfl ?_
        refine y_iast hC dX6_setSpeed_75 (k := 1) (j := (33 + (7 * a)) + 3) (by omega) hM_65.a1 (rfl) (by omega) (by decide) ?_
        have hM_75 : MX E (va_up g_65 (1) (aI E 0 158 (upd ((upd row_33 ((33 + (7 * a)) + 2) ((xs)))) ((33 + (7 * a)) + 3) ((xw))))) ((upd ((upd row_33 ((33 + (7 * a)) + 2) ((xs)))) ((33 + (7 * a)) + 3) ((xw)))) (hi_33, nI (S.rec.c), sn_33, nI (S.rec.kp)) C_33 (tx_33, nI (S.rec.ln)) P_33 := hM_65.u1 _
        generalize (va_up g_65 (1) (aI E 0 158 (upd ((upd row_33 ((33 + (7 * a)) + 2) ((xs)))) ((33 + (7 * a)) + 3) ((xw))))) = g_75 at hM_75 ⊢
        refine y_aload_n hC dX6_setSpeed_76 (i := 0) rfl rfl ?_
        refine y_get hC fX6_7 dX6_setSpeed_77 (k := 0) (by omega) hM_75.a0 rfl ?_
        refine y_iload hC dX6_setSpeed_80 rfl ?_
        refine y_iconst (v := nI 5) hC dX6_setSpeed_82 (by decide) ?_
        refine y_iadd_n hC dX6_setSpeed_83 ?_
        refine y_iconst (v := nI 0) hC dX6_setSpeed_84 (by decide) ?_
        refine y_iast hC dX6_setSpeed_85 (k := 1) (j := (33 + (7 * a)) + 5) (by omega) hM_75.a1 (rfl) (by omega) (by decide) ?_
        have hM_85 : MX E (va_up g_75 (1) (aI E 0 158 (upd ((upd ((upd row_33 ((33 + (7 * a)) + 2) ((xs)))) ((33 + (7 * a)) + 3) ((xw)))) ((33 + (7 * a)) + 5) (nI (0))))) ((upd ((upd ((upd row_33 ((33 + (7 * a)) + 2) ((xs)))) ((33 + (7 * a)) + 3) ((xw)))) ((33 + (7 * a)) + 5) (nI (0)))) (hi_33, nI (S.rec.c), sn_33, nI (S.rec.kp)) C_33 (tx_33, nI (S.rec.ln)) P_33 := hM_75.u1 _
        generalize (va_up g_75 (1) (aI E 0 158 (upd ((upd ((upd row_33 ((33 + (7 * a)) + 2) ((xs)))) ((33 + (7 * a)) + 3) ((xw)))) ((33 + (7 * a)) + 5) (nI (0))))) = g_85 at hM_85 ⊢
        refine y_aload_n hC dX6_setSpeed_86 (i := 0) rfl rfl ?_
        refine y_get hC fX6_7 dX6_setSpeed_87 (k := 0) (by omega) hM_85.a0 rfl ?_
        refine y_iload hC dX6_setSpeed_90 rfl ?_
        refine y_bipush (v := nI 6) hC dX6_setSpeed_92 (by decide) ?_
        refine y_iadd_n hC dX6_setSpeed_94 ?_
        refine y_iconst (v := nI 0) hC dX6_setSpeed_95 (by decide) ?_
        refine y_iast hC dX6_setSpeed_96 (k := 1) (j := (33 + (7 * a)) + 6) (by omega) hM_85.a1 (rfl) (by omega) (by decide) ?_
        have hM_96 : MX E (va_up g_85 (1) (aI E 0 158 (upd ((upd ((upd ((upd row_33 ((33 + (7 * a)) + 2) ((xs)))) ((33 + (7 * a)) + 3) ((xw)))) ((33 + (7 * a)) + 5) (nI (0)))) ((33 + (7 * a)) + 6) (nI (0))))) ((upd ((upd ((upd ((upd row_33 ((33 + (7 * a)) + 2) ((xs)))) ((33 + (7 * a)) + 3) ((xw)))) ((33 + (7 * a)) + 5) (nI (0)))) ((33 + (7 * a)) + 6) (nI (0)))) (hi_33, nI (S.rec.c), sn_33, nI (S.rec.kp)) C_33 (tx_33, nI (S.rec.ln)) P_33 := hM_85.u1 _
        generalize (va_up g_85 (1) (aI E 0 158 (upd ((upd ((upd ((upd row_33 ((33 + (7 * a)) + 2) ((xs)))) ((33 + (7 * a)) + 3) ((xw)))) ((33 + (7 * a)) + 5) (nI (0)))) ((33 + (7 * a)) + 6) (nI (0))))) = g_96 at hM_96 ⊢
        refine y_iload hC dX6_setSpeed_97 rfl ?_
        refine y_iret (hC := hC) (hd := dX6_setSpeed_99) (hq := ?_)
        have hqq : qSetSpeed S (nI a) xs xw = (nI (rg S.r a 2), S.rec.row (spdR S.r a xs xw)) := by simp only [qSetSpeed, nn_I (show a < 2147483648 by omega), if_pos c_5, if_pos (show (1 ≤ xs.toInt ∧ xs.toInt ≤ 30) ∧ 0 ≤ xw.toInt ∧ xw.toInt ≤ 2 from ⟨c_17, c_26⟩)]
        rw [hqq]
        exact ⟨rfl, ⟨(upd ((upd ((upd ((upd row_33 ((33 + (7 * a)) + 2) ((xs)))) ((33 + (7 * a)) + 3) ((xw)))) ((33 + (7 * a)) + 5) (nI (0)))) ((33 + (7 * a)) + 6) (nI (0))), hi_33, sn_33, tx_33, C_33, P_33, hM_96, (fun k hk => by
          show _ = spdR S.r a xs xw k
          unfold spdR
          by_cases e1 : k = 39 + 7 * a
          · rw [show 33 + 7 * a + 6 = k by omega, pk_us, if_neg (by omega), if_neg (by omega), if_neg (by omega), if_pos e1]
          · rw [pk_un (by omega)]
            by_cases e2 : k = 38 + 7 * a
            · rw [show 33 + 7 * a + 5 = k by omega, pk_us, if_neg (by omega), if_neg (by omega), if_pos e2]
            · rw [pk_un (by omega)]
              by_cases e3 : k = 36 + 7 * a
              · rw [show 33 + 7 * a + 3 = k by omega, pk_us, if_neg (by omega), if_pos e3]
              · rw [pk_un (by omega)]
                by_cases e4 : k = 35 + 7 * a
                · rw [show 33 + 7 * a + 2 = k by omega, pk_us, if_pos e4]
                · rw [pk_un (by omega), if_neg e4, if_neg e3, if_neg e2, if_neg e1]
                  exact hR_33 k hk), hH_33, hS_33, hT_33⟩⟩
      · refine y_bipush (v := (-2)) hC dX6_setSpeed_29 (by decide) ?_
        refine y_iret (hC := hC) (hd := dX6_setSpeed_31) (hq := ?_)
        have hqq : qSetSpeed S (nI a) xs xw = (-2, S) := by simp only [qSetSpeed, nn_I (show a < 2147483648 by omega), if_pos c_5]; exact if_neg (fun q => c_26 q.2)
        rw [hqq]
        exact ⟨rfl, ⟨row, hi, sn, tx, C, P, hM, hR, hH, hS, hT⟩⟩
  · refine y_iconst (v := (-1)) hC dX6_setSpeed_8 (by decide) ?_
    refine y_iret (hC := hC) (hd := dX6_setSpeed_9) (hq := ?_)
    have hqq : qSetSpeed S xa xs xw = (-1, S) := by simp only [qSetSpeed, if_neg c_5]
    rw [hqq]
    exact ⟨rfl, ⟨row, hi, sn, tx, C, P, hM, hR, hH, hS, hT⟩⟩

theorem dX6_run_0 : decode cX6_run 0 = .ok (.aload_n 0, 1) := by decide +kernel
theorem dX6_run_1 : decode cX6_run 1 = .ok (.iload_n 1, 1) := by decide +kernel
theorem dX6_run_2 : decode cX6_run 2 = .ok (.invokevirtual 117, 3) := by decide +kernel
theorem dX6_run_5 : decode cX6_run 5 = .ok (.ifCond .ne 5, 3) := by decide +kernel
theorem dX6_run_8 : decode cX6_run 8 = .ok (.iconst (-1), 1) := by decide +kernel
theorem dX6_run_9 : decode cX6_run 9 = .ok (.ireturn, 1) := by decide +kernel
theorem dX6_run_10 : decode cX6_run 10 = .ok (.aload_n 0, 1) := by decide +kernel
theorem dX6_run_11 : decode cX6_run 11 = .ok (.iload_n 1, 1) := by decide +kernel
theorem dX6_run_12 : decode cX6_run 12 = .ok (.iconst 4, 1) := by decide +kernel
theorem dX6_run_13 : decode cX6_run 13 = .ok (.invokevirtual 60, 3) := by decide +kernel
theorem dX6_run_16 : decode cX6_run 16 = .ok (.iconst 1, 1) := by decide +kernel
theorem dX6_run_17 : decode cX6_run 17 = .ok (.if_icmp .ne 7, 3) := by decide +kernel
theorem dX6_run_20 : decode cX6_run 20 = .ok (.iconst 1, 1) := by decide +kernel
theorem dX6_run_21 : decode cX6_run 21 = .ok (.goto 4, 3) := by decide +kernel
theorem dX6_run_24 : decode cX6_run 24 = .ok (.iconst 0, 1) := by decide +kernel
theorem dX6_run_25 : decode cX6_run 25 = .ok (.iload_n 2, 1) := by decide +kernel
theorem dX6_run_26 : decode cX6_run 26 = .ok (.if_icmp .ne 6, 3) := by decide +kernel
theorem dX6_run_29 : decode cX6_run 29 = .ok (.bipush (-5), 2) := by decide +kernel
theorem dX6_run_31 : decode cX6_run 31 = .ok (.ireturn, 1) := by decide +kernel
theorem dX6_run_32 : decode cX6_run 32 = .ok (.aload_n 0, 1) := by decide +kernel
theorem dX6_run_33 : decode cX6_run 33 = .ok (.invokevirtual 57, 3) := by decide +kernel
theorem dX6_run_36 : decode cX6_run 36 = .ok (.aload_n 0, 1) := by decide +kernel
theorem dX6_run_37 : decode cX6_run 37 = .ok (.getfield 7, 3) := by decide +kernel
theorem dX6_run_40 : decode cX6_run 40 = .ok (.bipush 33, 2) := by decide +kernel
theorem dX6_run_42 : decode cX6_run 42 = .ok (.bipush 7, 2) := by decide +kernel
theorem dX6_run_44 : decode cX6_run 44 = .ok (.iload_n 1, 1) := by decide +kernel
theorem dX6_run_45 : decode cX6_run 45 = .ok (.imul, 1) := by decide +kernel
theorem dX6_run_46 : decode cX6_run 46 = .ok (.iadd, 1) := by decide +kernel
theorem dX6_run_47 : decode cX6_run 47 = .ok (.iconst 4, 1) := by decide +kernel
theorem dX6_run_48 : decode cX6_run 48 = .ok (.iadd, 1) := by decide +kernel
theorem dX6_run_49 : decode cX6_run 49 = .ok (.iload_n 2, 1) := by decide +kernel
theorem dX6_run_50 : decode cX6_run 50 = .ok (.ifCond .eq 7, 3) := by decide +kernel
theorem dX6_run_53 : decode cX6_run 53 = .ok (.iconst 1, 1) := by decide +kernel
theorem dX6_run_54 : decode cX6_run 54 = .ok (.goto 4, 3) := by decide +kernel
theorem dX6_run_57 : decode cX6_run 57 = .ok (.iconst 0, 1) := by decide +kernel
theorem dX6_run_58 : decode cX6_run 58 = .ok (.iastore, 1) := by decide +kernel
theorem dX6_run_59 : decode cX6_run 59 = .ok (.aload_n 0, 1) := by decide +kernel
theorem dX6_run_60 : decode cX6_run 60 = .ok (.invokevirtual 120, 3) := by decide +kernel
theorem dX6_run_63 : decode cX6_run 63 = .ok (.ireturn, 1) := by decide +kernel
set_option maxHeartbeats 4000000 in
set_option maxRecDepth 100000 in
theorem c_X6_run (l : Launch) (E : gE) (g : Mem) (S : AS) (Bd : Nat) (hB : Bd < 90000000) (ho : OK S Bd) (hZ : MZ E g S) (xa : Int32) (zb : Nat) (hz : zb ≤ 1) : Mt l E yX6_run cX6_run 3 (some .int) 2 44 [rf E (0), .int (xa), .int (nI (zb))] g (pI (fun z g' => z = (qRun S xa zb).1 ∧ MZ E g' (qRun S xa zb).2)) := by
  have hv := ho.v
  have hrc : rc S.r ≤ 6 := hv.1.2
  have hgc : gc S.r ≤ 4 := hv.2.1.2
  have hc4 := ho.c4
  have hkp1 := ho.2.2.1
  have hl60 : S.ln ≤ 60 := ho.2.2.2.2.2.1
  refine mt_go (own := RX6) (by decide) rfl (lo := [some (rf E (0)), some (.int (xa)), some (.int (nI (zb)))]) rfl (Nat.le_of_ble_eq_true rfl) (fun X hC => ?_)
  obtain ⟨row, hi, sn, tx, C, P, hM, hR, hH, hS, hT⟩ := hZ
  have hK := hM.k
  refine y_aload_n hC dX6_run_0 (i := 0) rfl rfl ?_
  refine y_iload_n hC dX6_run_1 (i := 1) rfl rfl ?_
  refine y_callV hC mX6_isRange kX6_117 dX6_run_2 (b := 0) (As := [.int (xa)]) (rest := []) (c_X6_isRange l E g row (hi, nI (S.c), sn, nI (S.kp)) C (tx, nI (S.ln)) P hM S.r Bd (by omega) hR hv ((xa))) (by omega) hM.a0 rfl rfl rfl (Nat.le_of_ble_eq_true rfl) ⟨Nat.le_of_ble_eq_true rfl, Nat.le_of_ble_eq_true rfl⟩ (pk_i ?_)
  rintro r_2 g_2 ⟨hr_2, hq_2⟩
  obtain rfl := hq_2.symm
  rw [hr_2]
  clear hr_2 r_2
  refine y_if_ne_b (tgt := 10) hC dX6_run_5 (by decide) (fun c_5 => ?_) (fun c_5 => ?_)
  · obtain ⟨a, ha, hax⟩ := zNl (m := rc S.r) c_5
    subst hax
    have hrl := (hv.rg (i := a) (by omega)).2.2.2.2.2.2.1
    refine y_aload_n hC dX6_run_10 (i := 0) rfl rfl ?_
    refine y_iload_n hC dX6_run_11 (i := 1) rfl rfl ?_
    refine y_iconst (v := nI 4) hC dX6_run_12 (by decide) ?_
    refine y_callV hC mX6_of kX6_60 dX6_run_13 (b := 0) (As := [.int (nI (a)), .int (nI (4))]) (rest := []) (c_X6_of l E g row (hi, nI (S.c), sn, nI (S.kp)) C (tx, nI (S.ln)) P hM S.r Bd (by omega) hR hv (a) 4 (by omega) (by decide)) (by omega) hM.a0 rfl rfl rfl (Nat.le_of_ble_eq_true rfl) ⟨Nat.le_of_ble_eq_true rfl, Nat.le_of_ble_eq_true rfl⟩ (pk_i ?_)
    rintro r_13 g_13 ⟨hr_13, hq_13⟩
    obtain rfl := hq_13.symm
    rw [hr_13]
    clear hr_13 r_13
    refine y_iconst (v := nI 1) hC dX6_run_16 (by decide) ?_
    refine y_icmp_ne_n (tgt := 24) hC dX6_run_17 (by decide) (by omega) (by omega) (fun c_17 => ?_) (fun c_17 => ?_)
    · refine y_iconst (v := nI 0) hC dX6_run_24 (by decide) ?_
      refine y_iload_n hC dX6_run_25 (i := 2) rfl rfl ?_
      refine y_icmp_ne_n (tgt := 32) hC dX6_run_26 (by decide) (by omega) (by omega) (fun c_26 => ?_) (fun c_26 => ?_)
      · refine y_aload_n hC dX6_run_32 (i := 0) rfl rfl ?_
        refine y_callV hC mX6_record kX6_57 dX6_run_33 (b := 0) (As := []) (rest := []) (c_X6_record l E g S Bd hB ho ⟨row, hi, sn, tx, C, P, hM, hR, hH, hS, hT⟩) (by omega) hM.a0 rfl rfl rfl (Nat.le_of_ble_eq_true rfl) ⟨Nat.le_of_ble_eq_true rfl, Nat.le_of_ble_eq_true rfl⟩ (pk_v ?_)
        rintro g_33 hz_33
        obtain ⟨row_33, hi_33, sn_33, tx_33, C_33, P_33, hM_33, hR_33, hH_33, hS_33, hT_33⟩ := hz_33
        have hK_33 := hM_33.k
        refine y_aload_n hC dX6_run_36 (i := 0) rfl rfl ?_
        refine y_get hC fX6_7 dX6_run_37 (k := 0) (by omega) hM_33.a0 rfl ?_
        refine y_bipush (v := nI 33) hC dX6_run_40 (by decide) ?_
        refine y_bipush (v := nI 7) hC dX6_run_42 (by decide) ?_
        refine y_iload_n hC dX6_run_44 (i := 1) rfl rfl ?_
        refine y_imul_n hC dX6_run_45 ?_
        refine y_iadd_n hC dX6_run_46 ?_
        refine y_iconst (v := nI 4) hC dX6_run_47 (by decide) ?_
        refine y_iadd_n hC dX6_run_48 ?_
        refine y_iload_n hC dX6_run_49 (i := 2) rfl rfl ?_
        refine y_if_eq_n (tgt := 57) hC dX6_run_50 (by decide) (by omega) (fun c_50 => ?_) (fun c_50 => ?_)
        · refine y_iconst (v := nI 0) hC dX6_run_57 (by decide) ?_
          refine y_iast hC dX6_run_58 (k := 1) (j := (33 + (7 * a)) + 4) (by omega) hM_33.a1 (rfl) (by omega) (by decide) ?_
          have hM_58 : MX E (va_up g_33 (1) (aI E 0 158 (upd row_33 ((33 + (7 * a)) + 4) (nI (0))))) ((upd row_33 ((33 + (7 * a)) + 4) (nI (0)))) (hi_33, nI (S.rec.c), sn_33, nI (S.rec.kp)) C_33 (tx_33, nI (S.rec.ln)) P_33 := hM_33.u1 _
          generalize (va_up g_33 (1) (aI E 0 158 (upd row_33 ((33 + (7 * a)) + 4) (nI (0))))) = g_58 at hM_58 ⊢
          have hvn := vr_runz (z := zb) hv hB (show a < rc S.r by omega) hz
          have hRn : ∀ k, k < 158 → (upd row_33 ((33 + (7 * a)) + 4) (nI (0))) k = upd S.r (37 + 7 * a) (nI zb) k := fun k hk => by
            by_cases e : k = 33 + 7 * a + 4
            · rw [e, pk_us, show 33 + 7 * a + 4 = 37 + 7 * a by omega, pk_us]; exact congrArg nI (by omega)
            · rw [pk_un e, pk_un (by omega)]; exact hR_33 k hk
          refine y_aload_n hC dX6_run_59 (i := 0) rfl rfl ?_
          refine y_callV hC mX6_running kX6_120 dX6_run_60 (b := 0) (As := []) (rest := []) (c_X6_running l E g_58 ((upd row_33 ((33 + (7 * a)) + 4) (nI (0)))) (hi_33, nI (S.rec.c), sn_33, nI (S.rec.kp)) C_33 (tx_33, nI (S.rec.ln)) P_33 hM_58 (upd S.r (37 + 7 * a) (nI zb)) Bd (by omega) hRn hvn) (by omega) hM_58.a0 rfl rfl rfl (Nat.le_of_ble_eq_true rfl) ⟨Nat.le_of_ble_eq_true rfl, Nat.le_of_ble_eq_true rfl⟩ (pk_i ?_)
          rintro r_60 g_60 ⟨hr_60, hq_60⟩
          obtain rfl := hq_60.symm
          rw [hr_60]
          clear hr_60 r_60
          refine y_iret (hC := hC) (hd := dX6_run_63) (hq := ?_)
          have hqq : qRun S (nI a) zb = (nI (rnC (upd S.r (37 + 7 * a) (nI zb))), S.rec.row (upd S.r (37 + 7 * a) (nI zb))) := by simp only [qRun, nn_I (show a < 2147483648 by omega), if_pos c_5, if_neg (show ¬ rg S.r a 4 = zb by omega)]
          rw [hqq]
          exact ⟨rfl, ⟨(upd row_33 ((33 + (7 * a)) + 4) (nI (0))), hi_33, sn_33, tx_33, C_33, P_33, hM_58, hRn, hH_33, hS_33, hT_33⟩⟩
        · refine y_iconst (v := nI 1) hC dX6_run_53 (by decide) ?_
          refine y_goto (tgt := 58) hC dX6_run_54 (by decide) ?_
          refine y_iast hC dX6_run_58 (k := 1) (j := (33 + (7 * a)) + 4) (by omega) hM_33.a1 (rfl) (by omega) (by decide) ?_
          have hM_58 : MX E (va_up g_33 (1) (aI E 0 158 (upd row_33 ((33 + (7 * a)) + 4) (nI (1))))) ((upd row_33 ((33 + (7 * a)) + 4) (nI (1)))) (hi_33, nI (S.rec.c), sn_33, nI (S.rec.kp)) C_33 (tx_33, nI (S.rec.ln)) P_33 := hM_33.u1 _
          generalize (va_up g_33 (1) (aI E 0 158 (upd row_33 ((33 + (7 * a)) + 4) (nI (1))))) = g_58 at hM_58 ⊢
          have hvn := vr_runz (z := zb) hv hB (show a < rc S.r by omega) hz
          have hRn : ∀ k, k < 158 → (upd row_33 ((33 + (7 * a)) + 4) (nI (1))) k = upd S.r (37 + 7 * a) (nI zb) k := fun k hk => by
            by_cases e : k = 33 + 7 * a + 4
            · rw [e, pk_us, show 33 + 7 * a + 4 = 37 + 7 * a by omega, pk_us]; exact congrArg nI (by omega)
            · rw [pk_un e, pk_un (by omega)]; exact hR_33 k hk
          refine y_aload_n hC dX6_run_59 (i := 0) rfl rfl ?_
          refine y_callV hC mX6_running kX6_120 dX6_run_60 (b := 0) (As := []) (rest := []) (c_X6_running l E g_58 ((upd row_33 ((33 + (7 * a)) + 4) (nI (1)))) (hi_33, nI (S.rec.c), sn_33, nI (S.rec.kp)) C_33 (tx_33, nI (S.rec.ln)) P_33 hM_58 (upd S.r (37 + 7 * a) (nI zb)) Bd (by omega) hRn hvn) (by omega) hM_58.a0 rfl rfl rfl (Nat.le_of_ble_eq_true rfl) ⟨Nat.le_of_ble_eq_true rfl, Nat.le_of_ble_eq_true rfl⟩ (pk_i ?_)
          rintro r_60 g_60 ⟨hr_60, hq_60⟩
          obtain rfl := hq_60.symm
          rw [hr_60]
          clear hr_60 r_60
          refine y_iret (hC := hC) (hd := dX6_run_63) (hq := ?_)
          have hqq : qRun S (nI a) zb = (nI (rnC (upd S.r (37 + 7 * a) (nI zb))), S.rec.row (upd S.r (37 + 7 * a) (nI zb))) := by simp only [qRun, nn_I (show a < 2147483648 by omega), if_pos c_5, if_neg (show ¬ rg S.r a 4 = zb by omega)]
          rw [hqq]
          exact ⟨rfl, ⟨(upd row_33 ((33 + (7 * a)) + 4) (nI (1))), hi_33, sn_33, tx_33, C_33, P_33, hM_58, hRn, hH_33, hS_33, hT_33⟩⟩
      · refine y_bipush (v := (-5)) hC dX6_run_29 (by decide) ?_
        refine y_iret (hC := hC) (hd := dX6_run_31) (hq := ?_)
        have hqq : qRun S (nI a) zb = (-5, S) := by simp only [qRun, nn_I (show a < 2147483648 by omega), if_pos c_5, if_pos (show rg S.r a 4 = zb by omega)]
        rw [hqq]
        exact ⟨rfl, ⟨row, hi, sn, tx, C, P, hM, hR, hH, hS, hT⟩⟩
    · refine y_iconst (v := nI 1) hC dX6_run_20 (by decide) ?_
      refine y_goto (tgt := 25) hC dX6_run_21 (by decide) ?_
      refine y_iload_n hC dX6_run_25 (i := 2) rfl rfl ?_
      refine y_icmp_ne_n (tgt := 32) hC dX6_run_26 (by decide) (by omega) (by omega) (fun c_26 => ?_) (fun c_26 => ?_)
      · refine y_aload_n hC dX6_run_32 (i := 0) rfl rfl ?_
        refine y_callV hC mX6_record kX6_57 dX6_run_33 (b := 0) (As := []) (rest := []) (c_X6_record l E g S Bd hB ho ⟨row, hi, sn, tx, C, P, hM, hR, hH, hS, hT⟩) (by omega) hM.a0 rfl rfl rfl (Nat.le_of_ble_eq_true rfl) ⟨Nat.le_of_ble_eq_true rfl, Nat.le_of_ble_eq_true rfl⟩ (pk_v ?_)
        rintro g_33 hz_33
        obtain ⟨row_33, hi_33, sn_33, tx_33, C_33, P_33, hM_33, hR_33, hH_33, hS_33, hT_33⟩ := hz_33
        have hK_33 := hM_33.k
        refine y_aload_n hC dX6_run_36 (i := 0) rfl rfl ?_
        refine y_get hC fX6_7 dX6_run_37 (k := 0) (by omega) hM_33.a0 rfl ?_
        refine y_bipush (v := nI 33) hC dX6_run_40 (by decide) ?_
        refine y_bipush (v := nI 7) hC dX6_run_42 (by decide) ?_
        refine y_iload_n hC dX6_run_44 (i := 1) rfl rfl ?_
        refine y_imul_n hC dX6_run_45 ?_
        refine y_iadd_n hC dX6_run_46 ?_
        refine y_iconst (v := nI 4) hC dX6_run_47 (by decide) ?_
        refine y_iadd_n hC dX6_run_48 ?_
        refine y_iload_n hC dX6_run_49 (i := 2) rfl rfl ?_
        refine y_if_eq_n (tgt := 57) hC dX6_run_50 (by decide) (by omega) (fun c_50 => ?_) (fun c_50 => ?_)
        · refine y_iconst (v := nI 0) hC dX6_run_57 (by decide) ?_
          refine y_iast hC dX6_run_58 (k := 1) (j := (33 + (7 * a)) + 4) (by omega) hM_33.a1 (rfl) (by omega) (by decide) ?_
          have hM_58 : MX E (va_up g_33 (1) (aI E 0 158 (upd row_33 ((33 + (7 * a)) + 4) (nI (0))))) ((upd row_33 ((33 + (7 * a)) + 4) (nI (0)))) (hi_33, nI (S.rec.c), sn_33, nI (S.rec.kp)) C_33 (tx_33, nI (S.rec.ln)) P_33 := hM_33.u1 _
          generalize (va_up g_33 (1) (aI E 0 158 (upd row_33 ((33 + (7 * a)) + 4) (nI (0))))) = g_58 at hM_58 ⊢
          have hvn := vr_runz (z := zb) hv hB (show a < rc S.r by omega) hz
          have hRn : ∀ k, k < 158 → (upd row_33 ((33 + (7 * a)) + 4) (nI (0))) k = upd S.r (37 + 7 * a) (nI zb) k := fun k hk => by
            by_cases e : k = 33 + 7 * a + 4
            · rw [e, pk_us, show 33 + 7 * a + 4 = 37 + 7 * a by omega, pk_us]; exact congrArg nI (by omega)
            · rw [pk_un e, pk_un (by omega)]; exact hR_33 k hk
          refine y_aload_n hC dX6_run_59 (i := 0) rfl rfl ?_
          refine y_callV hC mX6_running kX6_120 dX6_run_60 (b := 0) (As := []) (rest := []) (c_X6_running l E g_58 ((upd row_33 ((33 + (7 * a)) + 4) (nI (0)))) (hi_33, nI (S.rec.c), sn_33, nI (S.rec.kp)) C_33 (tx_33, nI (S.rec.ln)) P_33 hM_58 (upd S.r (37 + 7 * a) (nI zb)) Bd (by omega) hRn hvn) (by omega) hM_58.a0 rfl rfl rfl (Nat.le_of_ble_eq_true rfl) ⟨Nat.le_of_ble_eq_true rfl, Nat.le_of_ble_eq_true rfl⟩ (pk_i ?_)
          rintro r_60 g_60 ⟨hr_60, hq_60⟩
          obtain rfl := hq_60.symm
          rw [hr_60]
          clear hr_60 r_60
          refine y_iret (hC := hC) (hd := dX6_run_63) (hq := ?_)
          have hqq : qRun S (nI a) zb = (nI (rnC (upd S.r (37 + 7 * a) (nI zb))), S.rec.row (upd S.r (37 + 7 * a) (nI zb))) := by simp only [qRun, nn_I (show a < 2147483648 by omega), if_pos c_5, if_neg (show ¬ rg S.r a 4 = zb by omega)]
          rw [hqq]
          exact ⟨rfl, ⟨(upd row_33 ((33 + (7 * a)) + 4) (nI (0))), hi_33, sn_33, tx_33, C_33, P_33, hM_58, hRn, hH_33, hS_33, hT_33⟩⟩
        · refine y_iconst (v := nI 1) hC dX6_run_53 (by decide) ?_
          refine y_goto (tgt := 58) hC dX6_run_54 (by decide) ?_
          refine y_iast hC dX6_run_58 (k := 1) (j := (33 + (7 * a)) + 4) (by omega) hM_33.a1 (rfl) (by omega) (by decide) ?_
          have hM_58 : MX E (va_up g_33 (1) (aI E 0 158 (upd row_33 ((33 + (7 * a)) + 4) (nI (1))))) ((upd row_33 ((33 + (7 * a)) + 4) (nI (1)))) (hi_33, nI (S.rec.c), sn_33, nI (S.rec.kp)) C_33 (tx_33, nI (S.rec.ln)) P_33 := hM_33.u1 _
          generalize (va_up g_33 (1) (aI E 0 158 (upd row_33 ((33 + (7 * a)) + 4) (nI (1))))) = g_58 at hM_58 ⊢
          have hvn := vr_runz (z := zb) hv hB (show a < rc S.r by omega) hz
          have hRn : ∀ k, k < 158 → (upd row_33 ((33 + (7 * a)) + 4) (nI (1))) k = upd S.r (37 + 7 * a) (nI zb) k := fun k hk => by
            by_cases e : k = 33 + 7 * a + 4
            · rw [e, pk_us, show 33 + 7 * a + 4 = 37 + 7 * a by omega, pk_us]; exact congrArg nI (by omega)
            · rw [pk_un e, pk_un (by omega)]; exact hR_33 k hk
          refine y_aload_n hC dX6_run_59 (i := 0) rfl rfl ?_
          refine y_callV hC mX6_running kX6_120 dX6_run_60 (b := 0) (As := []) (rest := []) (c_X6_running l E g_58 ((upd row_33 ((33 + (7 * a)) + 4) (nI (1)))) (hi_33, nI (S.rec.c), sn_33, nI (S.rec.kp)) C_33 (tx_33, nI (S.rec.ln)) P_33 hM_58 (upd S.r (37 + 7 * a) (nI zb)) Bd (by omega) hRn hvn) (by omega) hM_58.a0 rfl rfl rfl (Nat.le_of_ble_eq_true rfl) ⟨Nat.le_of_ble_eq_true rfl, Nat.le_of_ble_eq_true rfl⟩ (pk_i ?_)
          rintro r_60 g_60 ⟨hr_60, hq_60⟩
          obtain rfl := hq_60.symm
          rw [hr_60]
          clear hr_60 r_60
          refine y_iret (hC := hC) (hd := dX6_run_63) (hq := ?_)
          have hqq : qRun S (nI a) zb = (nI (rnC (upd S.r (37 + 7 * a) (nI zb))), S.rec.row (upd S.r (37 + 7 * a) (nI zb))) := by simp only [qRun, nn_I (show a < 2147483648 by omega), if_pos c_5, if_neg (show ¬ rg S.r a 4 = zb by omega)]
          rw [hqq]
          exact ⟨rfl, ⟨(upd row_33 ((33 + (7 * a)) + 4) (nI (1))), hi_33, sn_33, tx_33, C_33, P_33, hM_58, hRn, hH_33, hS_33, hT_33⟩⟩
      · refine y_bipush (v := (-5)) hC dX6_run_29 (by decide) ?_
        refine y_iret (hC := hC) (hd := dX6_run_31) (hq := ?_)
        have hqq : qRun S (nI a) zb = (-5, S) := by simp only [qRun, nn_I (show a < 2147483648 by omega), if_pos c_5, if_pos (show rg S.r a 4 = zb by omega)]
        rw [hqq]
        exact ⟨rfl, ⟨row, hi, sn, tx, C, P, hM, hR, hH, hS, hT⟩⟩
  · refine y_iconst (v := (-1)) hC dX6_run_8 (by decide) ?_
    refine y_iret (hC := hC) (hd := dX6_run_9) (hq := ?_)
    have hqq : qRun S xa zb = (-1, S) := by simp only [qRun, if_neg c_5]
    rw [hqq]
    exact ⟨rfl, ⟨row, hi, sn, tx, C, P, hM, hR, hH, hS, hT⟩⟩

theorem dX6_addGlow_0 : decode cX6_addGlow 0 = .ok (.iload_n 1, 1) := by decide +kernel
theorem dX6_addGlow_1 : decode cX6_addGlow 1 = .ok (.invokestatic 99, 3) := by decide +kernel
theorem dX6_addGlow_4 : decode cX6_addGlow 4 = .ok (.ifCond .ne 5, 3) := by decide +kernel
theorem dX6_addGlow_7 : decode cX6_addGlow 7 = .ok (.iconst (-1), 1) := by decide +kernel
theorem dX6_addGlow_8 : decode cX6_addGlow 8 = .ok (.ireturn, 1) := by decide +kernel
theorem dX6_addGlow_9 : decode cX6_addGlow 9 = .ok (.iload_n 2, 1) := by decide +kernel
theorem dX6_addGlow_10 : decode cX6_addGlow 10 = .ok (.invokestatic 103, 3) := by decide +kernel
theorem dX6_addGlow_13 : decode cX6_addGlow 13 = .ok (.ifCond .eq 13, 3) := by decide +kernel
theorem dX6_addGlow_16 : decode cX6_addGlow 16 = .ok (.iload_n 3, 1) := by decide +kernel
theorem dX6_addGlow_17 : decode cX6_addGlow 17 = .ok (.iconst 1, 1) := by decide +kernel
theorem dX6_addGlow_18 : decode cX6_addGlow 18 = .ok (.bipush 30, 2) := by decide +kernel
theorem dX6_addGlow_20 : decode cX6_addGlow 20 = .ok (.invokestatic 44, 3) := by decide +kernel
theorem dX6_addGlow_23 : decode cX6_addGlow 23 = .ok (.ifCond .ne 6, 3) := by decide +kernel
theorem dX6_addGlow_26 : decode cX6_addGlow 26 = .ok (.bipush (-2), 2) := by decide +kernel
theorem dX6_addGlow_28 : decode cX6_addGlow 28 = .ok (.ireturn, 1) := by decide +kernel
theorem dX6_addGlow_29 : decode cX6_addGlow 29 = .ok (.aload_n 0, 1) := by decide +kernel
theorem dX6_addGlow_30 : decode cX6_addGlow 30 = .ok (.iload_n 1, 1) := by decide +kernel
theorem dX6_addGlow_31 : decode cX6_addGlow 31 = .ok (.invokevirtual 83, 3) := by decide +kernel
theorem dX6_addGlow_34 : decode cX6_addGlow 34 = .ok (.bipush (-5), 2) := by decide +kernel
theorem dX6_addGlow_36 : decode cX6_addGlow 36 = .ok (.if_icmp .eq 6, 3) := by decide +kernel
theorem dX6_addGlow_39 : decode cX6_addGlow 39 = .ok (.bipush (-4), 2) := by decide +kernel
theorem dX6_addGlow_41 : decode cX6_addGlow 41 = .ok (.ireturn, 1) := by decide +kernel
theorem dX6_addGlow_42 : decode cX6_addGlow 42 = .ok (.aload_n 0, 1) := by decide +kernel
theorem dX6_addGlow_43 : decode cX6_addGlow 43 = .ok (.getfield 7, 3) := by decide +kernel
theorem dX6_addGlow_46 : decode cX6_addGlow 46 = .ok (.bipush 75, 2) := by decide +kernel
theorem dX6_addGlow_48 : decode cX6_addGlow 48 = .ok (.iaload, 1) := by decide +kernel
theorem dX6_addGlow_49 : decode cX6_addGlow 49 = .ok (.iconst 4, 1) := by decide +kernel
theorem dX6_addGlow_50 : decode cX6_addGlow 50 = .ok (.if_icmp .ne 6, 3) := by decide +kernel
theorem dX6_addGlow_53 : decode cX6_addGlow 53 = .ok (.bipush (-3), 2) := by decide +kernel
theorem dX6_addGlow_55 : decode cX6_addGlow 55 = .ok (.ireturn, 1) := by decide +kernel
theorem dX6_addGlow_56 : decode cX6_addGlow 56 = .ok (.aload_n 0, 1) := by decide +kernel
theorem dX6_addGlow_57 : decode cX6_addGlow 57 = .ok (.invokevirtual 57, 3) := by decide +kernel
theorem dX6_addGlow_60 : decode cX6_addGlow 60 = .ok (.bipush 76, 2) := by decide +kernel
theorem dX6_addGlow_62 : decode cX6_addGlow 62 = .ok (.iconst 4, 1) := by decide +kernel
theorem dX6_addGlow_63 : decode cX6_addGlow 63 = .ok (.aload_n 0, 1) := by decide +kernel
theorem dX6_addGlow_64 : decode cX6_addGlow 64 = .ok (.getfield 7, 3) := by decide +kernel
theorem dX6_addGlow_67 : decode cX6_addGlow 67 = .ok (.bipush 75, 2) := by decide +kernel
theorem dX6_addGlow_69 : decode cX6_addGlow 69 = .ok (.iaload, 1) := by decide +kernel
theorem dX6_addGlow_70 : decode cX6_addGlow 70 = .ok (.imul, 1) := by decide +kernel
theorem dX6_addGlow_71 : decode cX6_addGlow 71 = .ok (.iadd, 1) := by decide +kernel
theorem dX6_addGlow_72 : decode cX6_addGlow 72 = .ok (.istore 4, 2) := by decide +kernel
theorem dX6_addGlow_74 : decode cX6_addGlow 74 = .ok (.aload_n 0, 1) := by decide +kernel
theorem dX6_addGlow_75 : decode cX6_addGlow 75 = .ok (.getfield 7, 3) := by decide +kernel
theorem dX6_addGlow_78 : decode cX6_addGlow 78 = .ok (.iload 4, 2) := by decide +kernel
theorem dX6_addGlow_80 : decode cX6_addGlow 80 = .ok (.iconst 0, 1) := by decide +kernel
theorem dX6_addGlow_81 : decode cX6_addGlow 81 = .ok (.iadd, 1) := by decide +kernel
theorem dX6_addGlow_82 : decode cX6_addGlow 82 = .ok (.iload_n 1, 1) := by decide +kernel
theorem dX6_addGlow_83 : decode cX6_addGlow 83 = .ok (.iastore, 1) := by decide +kernel
theorem dX6_addGlow_84 : decode cX6_addGlow 84 = .ok (.aload_n 0, 1) := by decide +kernel
theorem dX6_addGlow_85 : decode cX6_addGlow 85 = .ok (.getfield 7, 3) := by decide +kernel
theorem dX6_addGlow_88 : decode cX6_addGlow 88 = .ok (.iload 4, 2) := by decide +kernel
theorem dX6_addGlow_90 : decode cX6_addGlow 90 = .ok (.iconst 1, 1) := by decide +kernel
theorem dX6_addGlow_91 : decode cX6_addGlow 91 = .ok (.iadd, 1) := by decide +kernel
theorem dX6_addGlow_92 : decode cX6_addGlow 92 = .ok (.iload_n 2, 1) := by decide +kernel
theorem dX6_addGlow_93 : decode cX6_addGlow 93 = .ok (.iastore, 1) := by decide +kernel
theorem dX6_addGlow_94 : decode cX6_addGlow 94 = .ok (.aload_n 0, 1) := by decide +kernel
theorem dX6_addGlow_95 : decode cX6_addGlow 95 = .ok (.getfield 7, 3) := by decide +kernel
theorem dX6_addGlow_98 : decode cX6_addGlow 98 = .ok (.iload 4, 2) := by decide +kernel
theorem dX6_addGlow_100 : decode cX6_addGlow 100 = .ok (.iconst 2, 1) := by decide +kernel
theorem dX6_addGlow_101 : decode cX6_addGlow 101 = .ok (.iadd, 1) := by decide +kernel
theorem dX6_addGlow_102 : decode cX6_addGlow 102 = .ok (.iload_n 3, 1) := by decide +kernel
theorem dX6_addGlow_103 : decode cX6_addGlow 103 = .ok (.iastore, 1) := by decide +kernel
theorem dX6_addGlow_104 : decode cX6_addGlow 104 = .ok (.aload_n 0, 1) := by decide +kernel
theorem dX6_addGlow_105 : decode cX6_addGlow 105 = .ok (.getfield 7, 3) := by decide +kernel
theorem dX6_addGlow_108 : decode cX6_addGlow 108 = .ok (.iload 4, 2) := by decide +kernel
theorem dX6_addGlow_110 : decode cX6_addGlow 110 = .ok (.iconst 3, 1) := by decide +kernel
theorem dX6_addGlow_111 : decode cX6_addGlow 111 = .ok (.iadd, 1) := by decide +kernel
theorem dX6_addGlow_112 : decode cX6_addGlow 112 = .ok (.iconst 0, 1) := by decide +kernel
theorem dX6_addGlow_113 : decode cX6_addGlow 113 = .ok (.iastore, 1) := by decide +kernel
theorem dX6_addGlow_114 : decode cX6_addGlow 114 = .ok (.aload_n 0, 1) := by decide +kernel
theorem dX6_addGlow_115 : decode cX6_addGlow 115 = .ok (.getfield 7, 3) := by decide +kernel
theorem dX6_addGlow_118 : decode cX6_addGlow 118 = .ok (.bipush 75, 2) := by decide +kernel
theorem dX6_addGlow_120 : decode cX6_addGlow 120 = .ok (.dup2, 1) := by decide +kernel
theorem dX6_addGlow_121 : decode cX6_addGlow 121 = .ok (.iaload, 1) := by decide +kernel
theorem dX6_addGlow_122 : decode cX6_addGlow 122 = .ok (.iconst 1, 1) := by decide +kernel
theorem dX6_addGlow_123 : decode cX6_addGlow 123 = .ok (.iadd, 1) := by decide +kernel
theorem dX6_addGlow_124 : decode cX6_addGlow 124 = .ok (.iastore, 1) := by decide +kernel
theorem dX6_addGlow_125 : decode cX6_addGlow 125 = .ok (.aload_n 0, 1) := by decide +kernel
theorem dX6_addGlow_126 : decode cX6_addGlow 126 = .ok (.getfield 7, 3) := by decide +kernel
theorem dX6_addGlow_129 : decode cX6_addGlow 129 = .ok (.bipush 75, 2) := by decide +kernel
theorem dX6_addGlow_131 : decode cX6_addGlow 131 = .ok (.iaload, 1) := by decide +kernel
theorem dX6_addGlow_132 : decode cX6_addGlow 132 = .ok (.iconst 1, 1) := by decide +kernel
theorem dX6_addGlow_133 : decode cX6_addGlow 133 = .ok (.isub, 1) := by decide +kernel
theorem dX6_addGlow_134 : decode cX6_addGlow 134 = .ok (.ireturn, 1) := by decide +kernel
set_option maxHeartbeats 4000000 in
set_option maxRecDepth 100000 in
theorem c_X6_addGlow (l : Launch) (E : gE) (g : Mem) (S : AS) (Bd : Nat) (hB : Bd < 90000000) (ho : OK S Bd) (hZ : MZ E g S) (xa xb xs : Int32) : Mt l E yX6_addGlow cX6_addGlow 5 (some .int) 2 45 [rf E (0), .int (xa), .int (xb), .int (xs)] g (pI (fun z g' => z = (qAddGlow S xa xb xs).1 ∧ MZ E g' (qAddGlow S xa xb xs).2)) := by
  have hv := ho.v
  have hrc : rc S.r ≤ 6 := hv.1.2
  have hgc : gc S.r ≤ 4 := hv.2.1.2
  have hc4 := ho.c4
  have hkp1 := ho.2.2.1
  have hl60 : S.ln ≤ 60 := ho.2.2.2.2.2.1
  refine mt_go (own := RX6) (by decide) rfl (lo := [some (rf E (0)), some (.int (xa)), some (.int (xb)), some (.int (xs)), none]) rfl (Nat.le_of_ble_eq_true rfl) (fun X hC => ?_)
  obtain ⟨row, hi, sn, tx, C, P, hM, hR, hH, hS, hT⟩ := hZ
  have hK := hM.k
  refine y_iload_n hC dX6_addGlow_0 (i := 1) rfl rfl ?_
  refine y_callS hC mX6_isPlace kX6_99 dX6_addGlow_1 (As := [.int (xa)]) (rest := []) (c_X6_isPlace l E g ((xa))) rfl rfl rfl (Nat.le_of_ble_eq_true rfl) ⟨Nat.le_of_ble_eq_true rfl, Nat.le_of_ble_eq_true rfl⟩ (pk_i ?_)
  rintro r_1 g_1 ⟨hr_1, hq_1⟩
  obtain rfl := hq_1.symm
  rw [hr_1]
  clear hr_1 r_1
  refine y_if_ne_b (tgt := 9) hC dX6_addGlow_4 (by decide) (fun c_4 => ?_) (fun c_4 => ?_)
  · obtain ⟨p, hp, hpx⟩ := zN (m := 31) c_4
    subst hpx
    refine y_iload_n hC dX6_addGlow_9 (i := 2) rfl rfl ?_
    refine y_callS hC mX6_isColour kX6_103 dX6_addGlow_10 (As := [.int (xb)]) (rest := []) (c_X6_isColour l E g ((xb))) rfl rfl rfl (Nat.le_of_ble_eq_true rfl) ⟨Nat.le_of_ble_eq_true rfl, Nat.le_of_ble_eq_true rfl⟩ (pk_i ?_)
    rintro r_10 g_10 ⟨hr_10, hq_10⟩
    obtain rfl := hq_10.symm
    rw [hr_10]
    clear hr_10 r_10
    refine y_if_eq_b (tgt := 26) hC dX6_addGlow_13 (by decide) (fun c_13 => ?_) (fun c_13 => ?_)
    · refine y_bipush (v := (-2)) hC dX6_addGlow_26 (by decide) ?_
      refine y_iret (hC := hC) (hd := dX6_addGlow_28) (hq := ?_)
      have hqq : qAddGlow S (nI p) xb xs = (-2, S) := by simp only [qAddGlow, nn_I (show p < 2147483648 by omega), if_pos c_4]; exact if_neg (fun q => c_13 q.1)
      rw [hqq]
      exact ⟨rfl, ⟨row, hi, sn, tx, C, P, hM, hR, hH, hS, hT⟩⟩
    · refine y_iload_n hC dX6_addGlow_16 (i := 3) rfl rfl ?_
      refine y_iconst (v := nI 1) hC dX6_addGlow_17 (by decide) ?_
      refine y_bipush (v := nI 30) hC dX6_addGlow_18 (by decide) ?_
      refine y_callS hC mX6_in kX6_44 dX6_addGlow_20 (As := [.int (xs), .int (nI (1)), .int (nI (30))]) (rest := []) (c_X6_inN l E g (xs) (1) (30) (by omega) (by omega)) rfl rfl rfl (Nat.le_of_ble_eq_true rfl) ⟨Nat.le_of_ble_eq_true rfl, Nat.le_of_ble_eq_true rfl⟩ (pk_i ?_)
      rintro r_20 g_20 ⟨hr_20, hq_20⟩
      obtain rfl := hq_20.symm
      rw [hr_20]
      clear hr_20 r_20
      refine y_if_ne_b (tgt := 29) hC dX6_addGlow_23 (by decide) (fun c_23 => ?_) (fun c_23 => ?_)
      · refine y_aload_n hC dX6_addGlow_29 (i := 0) rfl rfl ?_
        refine y_iload_n hC dX6_addGlow_30 (i := 1) rfl rfl ?_
        refine y_callV hC mX6_glowAt kX6_83 dX6_addGlow_31 (b := 0) (As := [.int (nI (p))]) (rest := []) (c_X6_glowAt l E g row (hi, nI (S.c), sn, nI (S.kp)) C (tx, nI (S.ln)) P hM S.r Bd (by omega) hR hv p (by omega)) (by omega) hM.a0 rfl rfl rfl (Nat.le_of_ble_eq_true rfl) ⟨Nat.le_of_ble_eq_true rfl, Nat.le_of_ble_eq_true rfl⟩ (pk_i ?_)
        rintro r_31 g_31 ⟨hr_31, hq_31⟩
        obtain rfl := hq_31.symm
        rw [hr_31]
        clear hr_31 r_31
        rcases hga : gAt S.r p with _ | gi
        · refine y_top (y := -5) rfl ?_
          refine y_bipush (v := (-5)) hC dX6_addGlow_34 (by decide) ?_
          refine y_icmp_eq (tgt := 42) hC dX6_addGlow_36 (by decide) (fun c_36 => ?_) (fun c_36 => ?_)
          · refine y_aload_n hC dX6_addGlow_42 (i := 0) rfl rfl ?_
            refine y_get hC fX6_7 dX6_addGlow_43 (k := 0) (by omega) hM.a0 rfl ?_
            refine y_bipush (v := nI 75) hC dX6_addGlow_46 (by decide) ?_
            refine y_iald hC dX6_addGlow_48 (k := 1) (j := 75) (by omega) hM.a1 (rfl) (by omega) (by decide) ?_
            refine y_top (y := nI (gc S.r)) ((hR 75 (by decide)).trans hv.2.1.1) ?_
            refine y_iconst (v := nI 4) hC dX6_addGlow_49 (by decide) ?_
            refine y_icmp_ne_n (tgt := 56) hC dX6_addGlow_50 (by decide) (by omega) (by omega) (fun c_50 => ?_) (fun c_50 => ?_)
            · refine y_aload_n hC dX6_addGlow_56 (i := 0) rfl rfl ?_
              refine y_callV hC mX6_record kX6_57 dX6_addGlow_57 (b := 0) (As := []) (rest := []) (c_X6_record l E g S Bd hB ho ⟨row, hi, sn, tx, C, P, hM, hR, hH, hS, hT⟩) (by omega) hM.a0 rfl rfl rfl (Nat.le_of_ble_eq_true rfl) ⟨Nat.le_of_ble_eq_true rfl, Nat.le_of_ble_eq_true rfl⟩ (pk_v ?_)
              rintro g_57 hz_57
              obtain ⟨row_57, hi_57, sn_57, tx_57, C_57, P_57, hM_57, hR_57, hH_57, hS_57, hT_57⟩ := hz_57
              have hK_57 := hM_57.k
              refine y_bipush (v := nI 76) hC dX6_addGlow_60 (by decide) ?_
              refine y_iconst (v := nI 4) hC dX6_addGlow_62 (by decide) ?_
              refine y_aload_n hC dX6_addGlow_63 (i := 0) rfl rfl ?_
              refine y_get hC fX6_7 dX6_addGlow_64 (k := 0) (by omega) hM_57.a0 rfl ?_
              refine y_bipush (v := nI 75) hC dX6_addGlow_67 (by decide) ?_
              refine y_iald hC dX6_addGlow_69 (k := 1) (j := 75) (by omega) hM_57.a1 (rfl) (by omega) (by decide) ?_
              refine y_top (y := nI (gc S.r)) ((hR_57 75 (by decide)).trans hv.2.1.1) ?_
              refine y_imul_n hC dX6_addGlow_70 ?_
              refine y_iadd_n hC dX6_addGlow_71 ?_
              refine y_istore hC dX6_addGlow_72 (Nat.le_of_ble_eq_true rfl) rfl (lo' := [some (rf E (0)), some (.int (nI (p))), some (.int (xb)), some (.int (xs)), some (.int (nI (76 + (4 * (gc S.r)))))]) rfl ?_
              refine y_aload_n hC dX6_addGlow_74 (i := 0) rfl rfl ?_
              refine y_get hC fX6_7 dX6_addGlow_75 (k := 0) (by omega) hM_57.a0 rfl ?_
              refine y_iload hC dX6_addGlow_78 rfl ?_
              refine y_iconst (v := nI 0) hC dX6_addGlow_80 (by decide) ?_
              refine y_iadd_n hC dX6_addGlow_81 ?_
              refine y_iload_n hC dX6_addGlow_82 (i := 1) rfl rfl ?_
              refine y_iast hC dX6_addGlow_83 (k := 1) (j := (76 + (4 * (gc S.r))) + 0) (by omega) hM_57.a1 (rfl) (by omega) (by decide) ?_
              have hM_83 : MX E (va_up g_57 (1) (aI E 0 158 (upd row_57 ((76 + (4 * (gc S.r))) + 0) (nI (p))))) ((upd row_57 ((76 + (4 * (gc S.r))) + 0) (nI (p)))) (hi_57, nI (S.rec.c), sn_57, nI (S.rec.kp)) C_57 (tx_57, nI (S.rec.ln)) P_57 := hM_57.u1 _
              generalize (va_up g_57 (1) (aI E 0 158 (upd row_57 ((76 + (4 * (gc S.r))) + 0) (nI (p))))) = g_83 at hM_83 ⊢
              refine y_aload_n hC dX6_addGlow_84 (i := 0) rfl rfl ?_
              refine y_get hC fX6_7 dX6_addGlow_85 (k := 0) (by omega) hM_83.a0 rfl ?_
              refine y_iload hC dX6_addGlow_88 rfl ?_
              refine y_iconst (v := nI 1) hC dX6_addGlow_90 (by decide) ?_
              refine y_iadd_n hC dX6_addGlow_91 ?_
              refine y_iload_n hC dX6_addGlow_92 (i := 2) rfl rfl ?_
              refine y_iast hC dX6_addGlow_93 (k := 1) (j := (76 + (4 * (gc S.r))) + 1) (by omega) hM_83.a1 (rfl) (by omega) (by decide) ?_
              have hM_93 : MX E (va_up g_83 (1) (aI E 0 158 (upd ((upd row_57 ((76 + (4 * (gc S.r))) + 0) (nI (p)))) ((76 + (4 * (gc S.r))) + 1) ((xb))))) ((upd ((upd row_57 ((76 + (4 * (gc S.r))) + 0) (nI (p)))) ((76 + (4 * (gc S.r))) + 1) ((xb)))) (hi_57, nI (S.rec.c), sn_57, nI (S.rec.kp)) C_57 (tx_57, nI (S.rec.ln)) P_57 := hM_83.u1 _
              generalize (va_up g_83 (1) (aI E 0 158 (upd ((upd row_57 ((76 + (4 * (gc S.r))) + 0) (nI (p)))) ((76 + (4 * (gc S.r))) + 1) ((xb))))) = g_93 at hM_93 ⊢
              refine y_aload_n hC dX6_addGlow_94 (i := 0) rfl rfl ?_
              refine y_get hC fX6_7 dX6_addGlow_95 (k := 0) (by omega) hM_93.a0 rfl ?_
              refine y_iload hC dX6_addGlow_98 rfl ?_
              refine y_iconst (v := nI 2) hC dX6_addGlow_100 (by decide) ?_
              refine y_iadd_n hC dX6_addGlow_101 ?_
              refine y_iload_n hC dX6_addGlow_102 (i := 3) rfl rfl ?_
              refine y_iast hC dX6_addGlow_103 (k := 1) (j := (76 + (4 * (gc S.r))) + 2) (by omega) hM_93.a1 (rfl) (by omega) (by decide) ?_
              have hM_103 : MX E (va_up g_93 (1) (aI E 0 158 (upd ((upd ((upd row_57 ((76 + (4 * (gc S.r))) + 0) (nI (p)))) ((76 + (4 * (gc S.r))) + 1) ((xb)))) ((76 + (4 * (gc S.r))) + 2) ((xs))))) ((upd ((upd ((upd row_57 ((76 + (4 * (gc S.r))) + 0) (nI (p)))) ((76 + (4 * (gc S.r))) + 1) ((xb)))) ((76 + (4 * (gc S.r))) + 2) ((xs)))) (hi_57, nI (S.rec.c), sn_57, nI (S.rec.kp)) C_57 (tx_57, nI (S.rec.ln)) P_57 := hM_93.u1 _
              generalize (va_up g_93 (1) (aI E 0 158 (upd ((upd ((upd row_57 ((76 + (4 * (gc S.r))) + 0) (nI (p)))) ((76 + (4 * (gc S.r))) + 1) ((xb)))) ((76 + (4 * (gc S.r))) + 2) ((xs))))) = g_103 at hM_103 ⊢
              refine y_aload_n hC dX6_addGlow_104 (i := 0) rfl rfl ?_
              refine y_get hC fX6_7 dX6_addGlow_105 (k := 0) (by omega) hM_103.a0 rfl ?_
              refine y_iload hC dX6_addGlow_108 rfl ?_
              refine y_iconst (v := nI 3) hC dX6_addGlow_110 (by decide) ?_
              refine y_iadd_n hC dX6_addGlow_111 ?_
              refine y_iconst (v := nI 0) hC dX6_addGlow_112 (by decide) ?_
              refine y_iast hC dX6_addGlow_113 (k := 1) (j := (76 + (4 * (gc S.r))) + 3) (by omega) hM_103.a1 (rfl) (by omega) (by decide) ?_
              have hM_113 : MX E (va_up g_103 (1) (aI E 0 158 (upd ((upd ((upd ((upd row_57 ((76 + (4 * (gc S.r))) + 0) (nI (p)))) ((76 + (4 * (gc S.r))) + 1) ((xb)))) ((76 + (4 * (gc S.r))) + 2) ((xs)))) ((76 + (4 * (gc S.r))) + 3) (nI (0))))) ((upd ((upd ((upd ((upd row_57 ((76 + (4 * (gc S.r))) + 0) (nI (p)))) ((76 + (4 * (gc S.r))) + 1) ((xb)))) ((76 + (4 * (gc S.r))) + 2) ((xs)))) ((76 + (4 * (gc S.r))) + 3) (nI (0)))) (hi_57, nI (S.rec.c), sn_57, nI (S.rec.kp)) C_57 (tx_57, nI (S.rec.ln)) P_57 := hM_103.u1 _
              generalize (va_up g_103 (1) (aI E 0 158 (upd ((upd ((upd ((upd row_57 ((76 + (4 * (gc S.r))) + 0) (nI (p)))) ((76 + (4 * (gc S.r))) + 1) ((xb)))) ((76 + (4 * (gc S.r))) + 2) ((xs)))) ((76 + (4 * (gc S.r))) + 3) (nI (0))))) = g_113 at hM_113 ⊢
              refine y_aload_n hC dX6_addGlow_114 (i := 0) rfl rfl ?_
              refine y_get hC fX6_7 dX6_addGlow_115 (k := 0) (by omega) hM_113.a0 rfl ?_
              refine y_bipush (v := nI 75) hC dX6_addGlow_118 (by decide) ?_
              refine y_dup2 hC dX6_addGlow_120 rfl rfl ?_
              refine y_iald hC dX6_addGlow_121 (k := 1) (j := 75) (by omega) hM_113.a1 (rfl) (by omega) (by decide) ?_
              refine y_top (y := nI (gc S.r)) ((pk_un (by omega)).trans ((pk_un (by omega)).trans ((pk_un (by omega)).trans ((pk_un (by omega)).trans ((hR_57 75 (by decide)).trans hv.2.1.1))))) ?_
              refine y_iconst (v := nI 1) hC dX6_addGlow_122 (by decide) ?_
              refine y_iadd_n hC dX6_addGlow_123 ?_
              refine y_iast hC dX6_addGlow_124 (k := 1) (j := 75) (by omega) hM_113.a1 (rfl) (by omega) (by decide) ?_
              have hM_124 : MX E (va_up g_113 (1) (aI E 0 158 (upd ((upd ((upd ((upd ((upd row_57 ((76 + (4 * (gc S.r))) + 0) (nI (p)))) ((76 + (4 * (gc S.r))) + 1) ((xb)))) ((76 + (4 * (gc S.r))) + 2) ((xs)))) ((76 + (4 * (gc S.r))) + 3) (nI (0)))) (75) (nI ((gc S.r) + 1))))) ((upd ((upd ((upd ((upd ((upd row_57 ((76 + (4 * (gc S.r))) + 0) (nI (p)))) ((76 + (4 * (gc S.r))) + 1) ((xb)))) ((76 + (4 * (gc S.r))) + 2) ((xs)))) ((76 + (4 * (gc S.r))) + 3) (nI (0)))) (75) (nI ((gc S.r) + 1)))) (hi_57, nI (S.rec.c), sn_57, nI (S.rec.kp)) C_57 (tx_57, nI (S.rec.ln)) P_57 := hM_113.u1 _
              generalize (va_up g_113 (1) (aI E 0 158 (upd ((upd ((upd ((upd ((upd row_57 ((76 + (4 * (gc S.r))) + 0) (nI (p)))) ((76 + (4 * (gc S.r))) + 1) ((xb)))) ((76 + (4 * (gc S.r))) + 2) ((xs)))) ((76 + (4 * (gc S.r))) + 3) (nI (0)))) (75) (nI ((gc S.r) + 1))))) = g_124 at hM_124 ⊢
              refine y_aload_n hC dX6_addGlow_125 (i := 0) rfl rfl ?_
              refine y_get hC fX6_7 dX6_addGlow_126 (k := 0) (by omega) hM_124.a0 rfl ?_
              refine y_bipush (v := nI 75) hC dX6_addGlow_129 (by decide) ?_
              refine y_iald hC dX6_addGlow_131 (k := 1) (j := 75) (by omega) hM_124.a1 (rfl) (by omega) (by decide) ?_
              refine y_top (y := nI (gc S.r + 1)) (pk_us) ?_
              refine y_iconst (v := nI 1) hC dX6_addGlow_132 (by decide) ?_
              refine y_isub_n hC dX6_addGlow_133 (by omega) ?_
              refine y_top (y := nI (gc S.r)) (congrArg nI (by omega)) ?_
              refine y_iret (hC := hC) (hd := dX6_addGlow_134) (hq := ?_)
              have hqq : qAddGlow S (nI p) xb xs = (nI (gc S.r), S.rec.row (addG S.r (nI p) xb xs)) := by simp only [qAddGlow, nn_I (show p < 2147483648 by omega), if_pos c_4, if_pos (show (0 ≤ xb.toInt ∧ xb.toInt ≤ 262143) ∧ 1 ≤ xs.toInt ∧ xs.toInt ≤ 30 from ⟨c_13, c_23⟩), if_neg (show ¬ (gAt S.r p).isSome = true from by rw [hga]; decide), if_pos (show gc S.r < 4 by omega)]
              rw [hqq]
              exact ⟨rfl, ⟨(upd ((upd ((upd ((upd ((upd row_57 ((76 + (4 * (gc S.r))) + 0) (nI (p)))) ((76 + (4 * (gc S.r))) + 1) ((xb)))) ((76 + (4 * (gc S.r))) + 2) ((xs)))) ((76 + (4 * (gc S.r))) + 3) (nI (0)))) (75) (nI ((gc S.r) + 1))), hi_57, sn_57, tx_57, C_57, P_57, hM_124, (fun k hk => by
                show _ = addG S.r (nI p) xb xs k
                unfold addG
                by_cases e : k = 75
                · rw [e, pk_us, if_pos rfl]
                · rw [pk_un e, if_neg e, up4]
                  by_cases z : 76 + 4 * gc S.r ≤ k ∧ k < 80 + 4 * gc S.r
                  · rw [if_pos (by omega), if_pos z]
                  · rw [if_neg (by omega), if_neg z]
                    exact hR_57 k hk), hH_57, hS_57, hT_57⟩⟩
            · refine y_bipush (v := (-3)) hC dX6_addGlow_53 (by decide) ?_
              refine y_iret (hC := hC) (hd := dX6_addGlow_55) (hq := ?_)
              have hqq : qAddGlow S (nI p) xb xs = (-3, S) := by simp only [qAddGlow, nn_I (show p < 2147483648 by omega), if_pos c_4, if_pos (show (0 ≤ xb.toInt ∧ xb.toInt ≤ 262143) ∧ 1 ≤ xs.toInt ∧ xs.toInt ≤ 30 from ⟨c_13, c_23⟩), if_neg (show ¬ (gAt S.r p).isSome = true from by rw [hga]; decide), if_neg (show ¬ gc S.r < 4 by omega)]
              rw [hqq]
              exact ⟨rfl, ⟨row, hi, sn, tx, C, P, hM, hR, hH, hS, hT⟩⟩
          · exact absurd rfl c_36
        · obtain ⟨a1, a2⟩ := gAt_in hga
          refine y_top (y := nI (gi)) rfl ?_
          refine y_bipush (v := (-5)) hC dX6_addGlow_34 (by decide) ?_
          refine y_icmp_eq (tgt := 42) hC dX6_addGlow_36 (by decide) (fun c_36 => ?_) (fun c_36 => ?_)
          · exact absurd c_36 (nI_m5 (by omega))
          · refine y_bipush (v := (-4)) hC dX6_addGlow_39 (by decide) ?_
            refine y_iret (hC := hC) (hd := dX6_addGlow_41) (hq := ?_)
            have hqq : qAddGlow S (nI p) xb xs = (-4, S) := by simp only [qAddGlow, nn_I (show p < 2147483648 by omega), if_pos c_4, if_pos (show (0 ≤ xb.toInt ∧ xb.toInt ≤ 262143) ∧ 1 ≤ xs.toInt ∧ xs.toInt ≤ 30 from ⟨c_13, c_23⟩), if_pos (show (gAt S.r p).isSome = true from by rw [hga]; rfl)]
            rw [hqq]
            exact ⟨rfl, ⟨row, hi, sn, tx, C, P, hM, hR, hH, hS, hT⟩⟩
      · refine y_bipush (v := (-2)) hC dX6_addGlow_26 (by decide) ?_
        refine y_iret (hC := hC) (hd := dX6_addGlow_28) (hq := ?_)
        have hqq : qAddGlow S (nI p) xb xs = (-2, S) := by simp only [qAddGlow, nn_I (show p < 2147483648 by omega), if_pos c_4]; exact if_neg (fun q => c_23 q.2)
        rw [hqq]
        exact ⟨rfl, ⟨row, hi, sn, tx, C, P, hM, hR, hH, hS, hT⟩⟩
  · refine y_iconst (v := (-1)) hC dX6_addGlow_7 (by decide) ?_
    refine y_iret (hC := hC) (hd := dX6_addGlow_8) (hq := ?_)
    have hqq : qAddGlow S xa xb xs = (-1, S) := by simp only [qAddGlow, if_neg c_4]
    rw [hqq]
    exact ⟨rfl, ⟨row, hi, sn, tx, C, P, hM, hR, hH, hS, hT⟩⟩

theorem dX6_type_0 : decode cX6_type 0 = .ok (.aload_n 0, 1) := by decide +kernel
theorem dX6_type_1 : decode cX6_type 1 = .ok (.getfield 140, 3) := by decide +kernel
theorem dX6_type_4 : decode cX6_type 4 = .ok (.bipush 60, 2) := by decide +kernel
theorem dX6_type_6 : decode cX6_type 6 = .ok (.if_icmp .ne 6, 3) := by decide +kernel
theorem dX6_type_9 : decode cX6_type 9 = .ok (.bipush (-3), 2) := by decide +kernel
theorem dX6_type_11 : decode cX6_type 11 = .ok (.ireturn, 1) := by decide +kernel
theorem dX6_type_12 : decode cX6_type 12 = .ok (.aload_n 0, 1) := by decide +kernel
theorem dX6_type_13 : decode cX6_type 13 = .ok (.getfield 25, 3) := by decide +kernel
theorem dX6_type_16 : decode cX6_type 16 = .ok (.aload_n 0, 1) := by decide +kernel
theorem dX6_type_17 : decode cX6_type 17 = .ok (.getfield 140, 3) := by decide +kernel
theorem dX6_type_20 : decode cX6_type 20 = .ok (.iload_n 1, 1) := by decide +kernel
theorem dX6_type_21 : decode cX6_type 21 = .ok (.iastore, 1) := by decide +kernel
theorem dX6_type_22 : decode cX6_type 22 = .ok (.aload_n 0, 1) := by decide +kernel
theorem dX6_type_23 : decode cX6_type 23 = .ok (.dup, 1) := by decide +kernel
theorem dX6_type_24 : decode cX6_type 24 = .ok (.getfield 140, 3) := by decide +kernel
theorem dX6_type_27 : decode cX6_type 27 = .ok (.iconst 1, 1) := by decide +kernel
theorem dX6_type_28 : decode cX6_type 28 = .ok (.iadd, 1) := by decide +kernel
theorem dX6_type_29 : decode cX6_type 29 = .ok (.putfield 140, 3) := by decide +kernel
theorem dX6_type_32 : decode cX6_type 32 = .ok (.aload_n 0, 1) := by decide +kernel
theorem dX6_type_33 : decode cX6_type 33 = .ok (.getfield 140, 3) := by decide +kernel
theorem dX6_type_36 : decode cX6_type 36 = .ok (.ireturn, 1) := by decide +kernel
set_option maxHeartbeats 4000000 in
set_option maxRecDepth 100000 in
theorem c_X6_type (l : Launch) (E : gE) (g : Mem) (S : AS) (Bd : Nat) (hB : Bd < 90000000) (ho : OK S Bd) (hZ : MZ E g S) (c : Nat) (hc : c < 65536) : Mt l E yX6_type cX6_type 2 (some .int) 0 0 [rf E (0), .int (nI (c))] g (pI (fun z g' => z = (qType S c).1 ∧ MZ E g' (qType S c).2)) := by
  have hv := ho.v
  have hrc : rc S.r ≤ 6 := hv.1.2
  have hgc : gc S.r ≤ 4 := hv.2.1.2
  have hc4 := ho.c4
  have hkp1 := ho.2.2.1
  have hl60 : S.ln ≤ 60 := ho.2.2.2.2.2.1
  refine mt_go (own := RX6) (by decide) rfl (lo := [some (rf E (0)), some (.int (nI (c)))]) rfl (Nat.le_of_ble_eq_true rfl) (fun X hC => ?_)
  obtain ⟨row, hi, sn, tx, C, P, hM, hR, hH, hS, hT⟩ := hZ
  have hK := hM.k
  refine y_aload_n hC dX6_type_0 (i := 0) rfl rfl ?_
  refine y_get hC fX6_140 dX6_type_1 (k := 0) (by omega) hM.a0 rfl ?_
  refine y_bipush (v := nI 60) hC dX6_type_4 (by decide) ?_
  refine y_icmp_ne_n (tgt := 12) hC dX6_type_6 (by decide) (by omega) (by omega) (fun c_6 => ?_) (fun c_6 => ?_)
  · refine y_aload_n hC dX6_type_12 (i := 0) rfl rfl ?_
    refine y_get hC fX6_25 dX6_type_13 (k := 0) (by omega) hM.a0 rfl ?_
    refine y_aload_n hC dX6_type_16 (i := 0) rfl rfl ?_
    refine y_get hC fX6_140 dX6_type_17 (k := 0) (by omega) hM.a0 rfl ?_
    refine y_iload_n hC dX6_type_20 (i := 1) rfl rfl ?_
    refine y_iast hC dX6_type_21 (k := 6) (j := S.ln) (by omega) hM.a6 (rfl) (by omega) (by decide) ?_
    have hM_21 : MX E (va_up g (6) (aI E 0 60 (upd tx (S.ln) (nI (c))))) row (hi, nI (S.c), sn, nI (S.kp)) C ((upd tx (S.ln) (nI (c))), nI (S.ln)) P := hM.u6 _
    generalize (va_up g (6) (aI E 0 60 (upd tx (S.ln) (nI (c))))) = g_21 at hM_21 ⊢
    refine y_aload_n hC dX6_type_22 (i := 0) rfl rfl ?_
    refine y_dup hC dX6_type_23 rfl ?_
    refine y_get hC fX6_140 dX6_type_24 (k := 0) (by omega) hM_21.a0 rfl ?_
    refine y_iconst (v := nI 1) hC dX6_type_27 (by decide) ?_
    refine y_iadd_n hC dX6_type_28 ?_
    refine y_put hC fpX6_140 dX6_type_29 (k := 0) (by omega) hM_21.a0 (Nat.le_of_ble_eq_true rfl) (rfl) (rfl) (fs' := [rf E (1), rf E (2), .int (nI (S.c)), rf E (3), .int (nI (S.kp)), rf E (4), rf E (5), rf E (6), .int (nI (S.ln + 1)), .int (P.1), .int (P.2.1), rf E (7), rf E (8), rf E (9), .int (P.2.2.2.2.2.1), .int (P.2.2.2.2.2.2.1), .int (P.2.2.2.2.2.2.2), rf E (10), rf E (11)]) rfl ?_
    have hM_29 : MX E (va_up g_21 (0) (oB 6 [rf E (1), rf E (2), .int (nI (S.c)), rf E (3), .int (nI (S.kp)), rf E (4), rf E (5), rf E (6), .int (nI (S.ln + 1)), .int (P.1), .int (P.2.1), rf E (7), rf E (8), rf E (9), .int (P.2.2.2.2.2.1), .int (P.2.2.2.2.2.2.1), .int (P.2.2.2.2.2.2.2), rf E (10), rf E (11)])) row (hi, nI (S.c), sn, nI (S.kp)) C ((upd tx (S.ln) (nI (c))), nI (S.ln + 1)) P := hM_21.u0 (nI (S.c)) (nI (S.kp)) (nI (S.ln + 1)) ((P.1)) ((P.2.1)) ((P.2.2.2.2.2.1)) ((P.2.2.2.2.2.2.1)) ((P.2.2.2.2.2.2.2))
    generalize (va_up g_21 (0) (oB 6 [rf E (1), rf E (2), .int (nI (S.c)), rf E (3), .int (nI (S.kp)), rf E (4), rf E (5), rf E (6), .int (nI (S.ln + 1)), .int (P.1), .int (P.2.1), rf E (7), rf E (8), rf E (9), .int (P.2.2.2.2.2.1), .int (P.2.2.2.2.2.2.1), .int (P.2.2.2.2.2.2.2), rf E (10), rf E (11)])) = g_29 at hM_29 ⊢
    refine y_aload_n hC dX6_type_32 (i := 0) rfl rfl ?_
    refine y_get hC fX6_140 dX6_type_33 (k := 0) (by omega) hM_29.a0 rfl ?_
    refine y_iret (hC := hC) (hd := dX6_type_36) (hq := ?_)
    have hqq : qType S c = (nI (S.ln + 1), .mk S.r S.c S.kp S.hr S.sn (S.ln + 1) (va_up S.tx S.ln c)) := by simp only [qType, if_pos (show S.ln < 60 by omega)]
    rw [hqq]
    exact ⟨rfl, ⟨row, hi, sn, (upd tx (S.ln) (nI (c))), C, P, hM_29, hR, hH, hS, (fun k hk => by
      have hk2 : k < S.ln + 1 := hk
      show upd tx S.ln (nI c) k = nI (va_up S.tx S.ln c k)
      by_cases e : k = S.ln
      · rw [e, pk_us, va_up_self]
      · rw [pk_un e, va_up_ne _ _ e]; exact hT k (by omega))⟩⟩
  · refine y_bipush (v := (-3)) hC dX6_type_9 (by decide) ?_
    refine y_iret (hC := hC) (hd := dX6_type_11) (hq := ?_)
    have hqq : qType S c = (-3, S) := by simp only [qType, if_neg (show ¬ S.ln < 60 by omega)]
    rw [hqq]
    exact ⟨rfl, ⟨row, hi, sn, tx, C, P, hM, hR, hH, hS, hT⟩⟩

theorem dX6_clearText_0 : decode cX6_clearText 0 = .ok (.aload_n 0, 1) := by decide +kernel
theorem dX6_clearText_1 : decode cX6_clearText 1 = .ok (.getfield 140, 3) := by decide +kernel
theorem dX6_clearText_4 : decode cX6_clearText 4 = .ok (.istore_n 1, 1) := by decide +kernel
theorem dX6_clearText_5 : decode cX6_clearText 5 = .ok (.aload_n 0, 1) := by decide +kernel
theorem dX6_clearText_6 : decode cX6_clearText 6 = .ok (.iconst 0, 1) := by decide +kernel
theorem dX6_clearText_7 : decode cX6_clearText 7 = .ok (.putfield 140, 3) := by decide +kernel
theorem dX6_clearText_10 : decode cX6_clearText 10 = .ok (.iload_n 1, 1) := by decide +kernel
theorem dX6_clearText_11 : decode cX6_clearText 11 = .ok (.ireturn, 1) := by decide +kernel
set_option maxHeartbeats 4000000 in
set_option maxRecDepth 100000 in
theorem c_X6_clearText (l : Launch) (E : gE) (g : Mem) (S : AS) (Bd : Nat) (hB : Bd < 90000000) (ho : OK S Bd) (hZ : MZ E g S) : Mt l E yX6_clearText cX6_clearText 2 (some .int) 0 0 [rf E (0)] g (pI (fun z g' => z = (qClearText S ).1 ∧ MZ E g' (qClearText S ).2)) := by
  have hv := ho.v
  have hrc : rc S.r ≤ 6 := hv.1.2
  have hgc : gc S.r ≤ 4 := hv.2.1.2
  have hc4 := ho.c4
  have hkp1 := ho.2.2.1
  have hl60 : S.ln ≤ 60 := ho.2.2.2.2.2.1
  refine mt_go (own := RX6) (by decide) rfl (lo := [some (rf E (0)), none]) rfl (Nat.le_of_ble_eq_true rfl) (fun X hC => ?_)
  obtain ⟨row, hi, sn, tx, C, P, hM, hR, hH, hS, hT⟩ := hZ
  have hK := hM.k
  refine y_aload_n hC dX6_clearText_0 (i := 0) rfl rfl ?_
  refine y_get hC fX6_140 dX6_clearText_1 (k := 0) (by omega) hM.a0 rfl ?_
  refine y_istore_n hC dX6_clearText_4 (i := 1) rfl (Nat.le_of_ble_eq_true rfl) rfl (lo' := [some (rf E (0)), some (.int (nI (S.ln)))]) rfl ?_
  refine y_aload_n hC dX6_clearText_5 (i := 0) rfl rfl ?_
  refine y_iconst (v := nI 0) hC dX6_clearText_6 (by decide) ?_
  refine y_put hC fpX6_140 dX6_clearText_7 (k := 0) (by omega) hM.a0 (Nat.le_of_ble_eq_true rfl) (rfl) (rfl) (fs' := [rf E (1), rf E (2), .int (nI (S.c)), rf E (3), .int (nI (S.kp)), rf E (4), rf E (5), rf E (6), .int (nI (0)), .int (P.1), .int (P.2.1), rf E (7), rf E (8), rf E (9), .int (P.2.2.2.2.2.1), .int (P.2.2.2.2.2.2.1), .int (P.2.2.2.2.2.2.2), rf E (10), rf E (11)]) rfl ?_
  have hM_7 : MX E (va_up g (0) (oB 6 [rf E (1), rf E (2), .int (nI (S.c)), rf E (3), .int (nI (S.kp)), rf E (4), rf E (5), rf E (6), .int (nI (0)), .int (P.1), .int (P.2.1), rf E (7), rf E (8), rf E (9), .int (P.2.2.2.2.2.1), .int (P.2.2.2.2.2.2.1), .int (P.2.2.2.2.2.2.2), rf E (10), rf E (11)])) row (hi, nI (S.c), sn, nI (S.kp)) C (tx, nI (0)) P := hM.u0 (nI (S.c)) (nI (S.kp)) (nI (0)) ((P.1)) ((P.2.1)) ((P.2.2.2.2.2.1)) ((P.2.2.2.2.2.2.1)) ((P.2.2.2.2.2.2.2))
  generalize (va_up g (0) (oB 6 [rf E (1), rf E (2), .int (nI (S.c)), rf E (3), .int (nI (S.kp)), rf E (4), rf E (5), rf E (6), .int (nI (0)), .int (P.1), .int (P.2.1), rf E (7), rf E (8), rf E (9), .int (P.2.2.2.2.2.1), .int (P.2.2.2.2.2.2.1), .int (P.2.2.2.2.2.2.2), rf E (10), rf E (11)])) = g_7 at hM_7 ⊢
  refine y_iload_n hC dX6_clearText_10 (i := 1) rfl rfl ?_
  refine y_iret (hC := hC) (hd := dX6_clearText_11) (hq := ?_)
  have hqq : qClearText S  = (nI S.ln, .mk S.r S.c S.kp S.hr S.sn 0 S.tx) := by simp only [qClearText]
  rw [hqq]
  exact ⟨rfl, ⟨row, hi, sn, tx, C, P, hM_7, hR, hH, hS, (fun k hk => absurd hk (Nat.not_lt_zero k))⟩⟩

theorem dX6_pixelAt_0 : decode cX6_pixelAt 0 = .ok (.aload_n 0, 1) := by decide +kernel
theorem dX6_pixelAt_1 : decode cX6_pixelAt 1 = .ok (.getfield 7, 3) := by decide +kernel
theorem dX6_pixelAt_4 : decode cX6_pixelAt 4 = .ok (.bipush 92, 2) := by decide +kernel
theorem dX6_pixelAt_6 : decode cX6_pixelAt 6 = .ok (.bipush 8, 2) := by decide +kernel
theorem dX6_pixelAt_8 : decode cX6_pixelAt 8 = .ok (.iload_n 1, 1) := by decide +kernel
theorem dX6_pixelAt_9 : decode cX6_pixelAt 9 = .ok (.imul, 1) := by decide +kernel
theorem dX6_pixelAt_10 : decode cX6_pixelAt 10 = .ok (.iadd, 1) := by decide +kernel
theorem dX6_pixelAt_11 : decode cX6_pixelAt 11 = .ok (.iload_n 2, 1) := by decide +kernel
theorem dX6_pixelAt_12 : decode cX6_pixelAt 12 = .ok (.iadd, 1) := by decide +kernel
theorem dX6_pixelAt_13 : decode cX6_pixelAt 13 = .ok (.iaload, 1) := by decide +kernel
theorem dX6_pixelAt_14 : decode cX6_pixelAt 14 = .ok (.ireturn, 1) := by decide +kernel
set_option maxHeartbeats 4000000 in
set_option maxRecDepth 100000 in
theorem c_X6_pixelAt (l : Launch) (E : gE) (g : Mem) (row : Nat → Int32) (B : GB) (C : GC) (D : GD) (P : GP) (hM : MX E g row B C D P) (r : Row) (Bd : Nat) (hB : Bd < 95000000) (hR : ∀ k, k < 158 → row k = r k) (hv : Vr r Bd) (p q : Nat) (hp : p ≤ 7) (hq : q ≤ 7) : Mt l E yX6_pixelAt cX6_pixelAt 3 (some .int) 0 0 [rf E (0), .int (nI (p)), .int (nI (q))] g (pI (fun z g' => z = nI (px r (8 * p + q)) ∧ g' = g)) := by
  have hK := hM.k
  have hrc : rc r ≤ 6 := hv.1.2
  have hgc : gc r ≤ 4 := hv.2.1.2
  refine mt_go (own := RX6) (by decide) rfl (lo := [some (rf E (0)), some (.int (nI (p))), some (.int (nI (q)))]) rfl (Nat.le_of_ble_eq_true rfl) (fun X hC => ?_)
  refine y_aload_n hC dX6_pixelAt_0 (i := 0) rfl rfl ?_
  refine y_get hC fX6_7 dX6_pixelAt_1 (k := 0) (by omega) hM.a0 rfl ?_
  refine y_bipush (v := nI 92) hC dX6_pixelAt_4 (by decide) ?_
  refine y_bipush (v := nI 8) hC dX6_pixelAt_6 (by decide) ?_
  refine y_iload_n hC dX6_pixelAt_8 (i := 1) rfl rfl ?_
  refine y_imul_n hC dX6_pixelAt_9 ?_
  refine y_iadd_n hC dX6_pixelAt_10 ?_
  refine y_iload_n hC dX6_pixelAt_11 (i := 2) rfl rfl ?_
  refine y_iadd_n hC dX6_pixelAt_12 ?_
  refine y_iald hC dX6_pixelAt_13 (k := 1) (j := (92 + (8 * p)) + q) (by omega) hM.a1 (rfl) (by omega) (by decide) ?_
  refine y_top (y := nI (px r (8 * p + q))) ((hR (92 + 8 * p + q) (by omega)).trans ((congrArg r (show 92 + 8 * p + q = 92 + (8 * p + q) by omega)).trans (hv.2.2.2.2.2.2.1 (8 * p + q) (by omega)).1)) ?_
  refine y_iret (hC := hC) (hd := dX6_pixelAt_14) (hq := ?_)
  exact ⟨rfl, rfl⟩

theorem dX6_paint_0 : decode cX6_paint 0 = .ok (.iload_n 1, 1) := by decide +kernel
theorem dX6_paint_1 : decode cX6_paint 1 = .ok (.iload_n 2, 1) := by decide +kernel
theorem dX6_paint_2 : decode cX6_paint 2 = .ok (.invokestatic 192, 3) := by decide +kernel
theorem dX6_paint_5 : decode cX6_paint 5 = .ok (.ifCond .ne 5, 3) := by decide +kernel
theorem dX6_paint_8 : decode cX6_paint 8 = .ok (.iconst (-1), 1) := by decide +kernel
theorem dX6_paint_9 : decode cX6_paint 9 = .ok (.ireturn, 1) := by decide +kernel
theorem dX6_paint_10 : decode cX6_paint 10 = .ok (.iload_n 3, 1) := by decide +kernel
theorem dX6_paint_11 : decode cX6_paint 11 = .ok (.invokestatic 99, 3) := by decide +kernel
theorem dX6_paint_14 : decode cX6_paint 14 = .ok (.ifCond .ne 6, 3) := by decide +kernel
theorem dX6_paint_17 : decode cX6_paint 17 = .ok (.bipush (-2), 2) := by decide +kernel
theorem dX6_paint_19 : decode cX6_paint 19 = .ok (.ireturn, 1) := by decide +kernel
theorem dX6_paint_20 : decode cX6_paint 20 = .ok (.aload_n 0, 1) := by decide +kernel
theorem dX6_paint_21 : decode cX6_paint 21 = .ok (.iload_n 1, 1) := by decide +kernel
theorem dX6_paint_22 : decode cX6_paint 22 = .ok (.iload_n 2, 1) := by decide +kernel
theorem dX6_paint_23 : decode cX6_paint 23 = .ok (.invokevirtual 195, 3) := by decide +kernel
theorem dX6_paint_26 : decode cX6_paint 26 = .ok (.istore 4, 2) := by decide +kernel
theorem dX6_paint_28 : decode cX6_paint 28 = .ok (.iload 4, 2) := by decide +kernel
theorem dX6_paint_30 : decode cX6_paint 30 = .ok (.iload_n 3, 1) := by decide +kernel
theorem dX6_paint_31 : decode cX6_paint 31 = .ok (.if_icmp .ne 6, 3) := by decide +kernel
theorem dX6_paint_34 : decode cX6_paint 34 = .ok (.bipush (-5), 2) := by decide +kernel
theorem dX6_paint_36 : decode cX6_paint 36 = .ok (.ireturn, 1) := by decide +kernel
theorem dX6_paint_37 : decode cX6_paint 37 = .ok (.aload_n 0, 1) := by decide +kernel
theorem dX6_paint_38 : decode cX6_paint 38 = .ok (.invokevirtual 57, 3) := by decide +kernel
theorem dX6_paint_41 : decode cX6_paint 41 = .ok (.aload_n 0, 1) := by decide +kernel
theorem dX6_paint_42 : decode cX6_paint 42 = .ok (.getfield 7, 3) := by decide +kernel
theorem dX6_paint_45 : decode cX6_paint 45 = .ok (.bipush 92, 2) := by decide +kernel
theorem dX6_paint_47 : decode cX6_paint 47 = .ok (.bipush 8, 2) := by decide +kernel
theorem dX6_paint_49 : decode cX6_paint 49 = .ok (.iload_n 1, 1) := by decide +kernel
theorem dX6_paint_50 : decode cX6_paint 50 = .ok (.imul, 1) := by decide +kernel
theorem dX6_paint_51 : decode cX6_paint 51 = .ok (.iadd, 1) := by decide +kernel
theorem dX6_paint_52 : decode cX6_paint 52 = .ok (.iload_n 2, 1) := by decide +kernel
theorem dX6_paint_53 : decode cX6_paint 53 = .ok (.iadd, 1) := by decide +kernel
theorem dX6_paint_54 : decode cX6_paint 54 = .ok (.iload_n 3, 1) := by decide +kernel
theorem dX6_paint_55 : decode cX6_paint 55 = .ok (.iastore, 1) := by decide +kernel
theorem dX6_paint_56 : decode cX6_paint 56 = .ok (.iload 4, 2) := by decide +kernel
theorem dX6_paint_58 : decode cX6_paint 58 = .ok (.ireturn, 1) := by decide +kernel
set_option maxHeartbeats 4000000 in
set_option maxRecDepth 100000 in
theorem c_X6_paint (l : Launch) (E : gE) (g : Mem) (S : AS) (Bd : Nat) (hB : Bd < 90000000) (ho : OK S Bd) (hZ : MZ E g S) (xa xb xc : Int32) : Mt l E yX6_paint cX6_paint 5 (some .int) 2 43 [rf E (0), .int (xa), .int (xb), .int (xc)] g (pI (fun z g' => z = (qPaint S xa xb xc).1 ∧ MZ E g' (qPaint S xa xb xc).2)) := by
  have hv := ho.v
  have hrc : rc S.r ≤ 6 := hv.1.2
  have hgc : gc S.r ≤ 4 := hv.2.1.2
  have hc4 := ho.c4
  have hkp1 := ho.2.2.1
  have hl60 : S.ln ≤ 60 := ho.2.2.2.2.2.1
  refine mt_go (own := RX6) (by decide) rfl (lo := [some (rf E (0)), some (.int (xa)), some (.int (xb)), some (.int (xc)), none]) rfl (Nat.le_of_ble_eq_true rfl) (fun X hC => ?_)
  obtain ⟨row, hi, sn, tx, C, P, hM, hR, hH, hS, hT⟩ := hZ
  have hK := hM.k
  refine y_iload_n hC dX6_paint_0 (i := 1) rfl rfl ?_
  refine y_iload_n hC dX6_paint_1 (i := 2) rfl rfl ?_
  refine y_callS hC mX6_isPixel kX6_192 dX6_paint_2 (As := [.int (xa), .int (xb)]) (rest := []) (c_X6_isPixel l E g ((xa)) ((xb))) rfl rfl rfl (Nat.le_of_ble_eq_true rfl) ⟨Nat.le_of_ble_eq_true rfl, Nat.le_of_ble_eq_true rfl⟩ (pk_i ?_)
  rintro r_2 g_2 ⟨hr_2, hq_2⟩
  obtain rfl := hq_2.symm
  rw [hr_2]
  clear hr_2 r_2
  refine y_if_ne_b (tgt := 10) hC dX6_paint_5 (by decide) (fun c_5 => ?_) (fun c_5 => ?_)
  · obtain ⟨p, hp, hpx⟩ := zN (m := 7) c_5.1
    subst hpx
    obtain ⟨q, hq, hqx⟩ := zN (m := 7) c_5.2
    subst hqx
    refine y_iload_n hC dX6_paint_10 (i := 3) rfl rfl ?_
    refine y_callS hC mX6_isPlace kX6_99 dX6_paint_11 (As := [.int (xc)]) (rest := []) (c_X6_isPlace l E g ((xc))) rfl rfl rfl (Nat.le_of_ble_eq_true rfl) ⟨Nat.le_of_ble_eq_true rfl, Nat.le_of_ble_eq_true rfl⟩ (pk_i ?_)
    rintro r_11 g_11 ⟨hr_11, hq_11⟩
    obtain rfl := hq_11.symm
    rw [hr_11]
    clear hr_11 r_11
    refine y_if_ne_b (tgt := 20) hC dX6_paint_14 (by decide) (fun c_14 => ?_) (fun c_14 => ?_)
    · obtain ⟨c, hc, hcx⟩ := zN (m := 31) c_14
      subst hcx
      refine y_aload_n hC dX6_paint_20 (i := 0) rfl rfl ?_
      refine y_iload_n hC dX6_paint_21 (i := 1) rfl rfl ?_
      refine y_iload_n hC dX6_paint_22 (i := 2) rfl rfl ?_
      refine y_callV hC mX6_pixelAt kX6_195 dX6_paint_23 (b := 0) (As := [.int (nI (p)), .int (nI (q))]) (rest := []) (c_X6_pixelAt l E g row (hi, nI (S.c), sn, nI (S.kp)) C (tx, nI (S.ln)) P hM S.r Bd (by omega) hR hv p q (by omega) (by omega)) (by omega) hM.a0 rfl rfl rfl (Nat.le_of_ble_eq_true rfl) ⟨Nat.le_of_ble_eq_true rfl, Nat.le_of_ble_eq_true rfl⟩ (pk_i ?_)
      rintro r_23 g_23 ⟨hr_23, hq_23⟩
      obtain rfl := hq_23.symm
      rw [hr_23]
      clear hr_23 r_23
      have hpb_23 := (hv.2.2.2.2.2.2.1 (8 * p + q) (by omega)).2
      refine y_istore hC dX6_paint_26 (Nat.le_of_ble_eq_true rfl) rfl (lo' := [some (rf E (0)), some (.int (nI (p))), some (.int (nI (q))), some (.int (nI (c))), some (.int (nI (px S.r (8 * p + q))))]) rfl ?_
      refine y_iload hC dX6_paint_28 rfl ?_
      refine y_iload_n hC dX6_paint_30 (i := 3) rfl rfl ?_
      refine y_icmp_ne_n (tgt := 37) hC dX6_paint_31 (by decide) (by omega) (by omega) (fun c_31 => ?_) (fun c_31 => ?_)
      · refine y_aload_n hC dX6_paint_37 (i := 0) rfl rfl ?_
        refine y_callV hC mX6_record kX6_57 dX6_paint_38 (b := 0) (As := []) (rest := []) (c_X6_record l E g S Bd hB ho ⟨row, hi, sn, tx, C, P, hM, hR, hH, hS, hT⟩) (by omega) hM.a0 rfl rfl rfl (Nat.le_of_ble_eq_true rfl) ⟨Nat.le_of_ble_eq_true rfl, Nat.le_of_ble_eq_true rfl⟩ (pk_v ?_)
        rintro g_38 hz_38
        obtain ⟨row_38, hi_38, sn_38, tx_38, C_38, P_38, hM_38, hR_38, hH_38, hS_38, hT_38⟩ := hz_38
        have hK_38 := hM_38.k
        refine y_aload_n hC dX6_paint_41 (i := 0) rfl rfl ?_
        refine y_get hC fX6_7 dX6_paint_42 (k := 0) (by omega) hM_38.a0 rfl ?_
        refine y_bipush (v := nI 92) hC dX6_paint_45 (by decide) ?_
        refine y_bipush (v := nI 8) hC dX6_paint_47 (by decide) ?_
        refine y_iload_n hC dX6_paint_49 (i := 1) rfl rfl ?_
        refine y_imul_n hC dX6_paint_50 ?_
        refine y_iadd_n hC dX6_paint_51 ?_
        refine y_iload_n hC dX6_paint_52 (i := 2) rfl rfl ?_
        refine y_iadd_n hC dX6_paint_53 ?_
        refine y_iload_n hC dX6_paint_54 (i := 3) rfl rfl ?_
        refine y_iast hC dX6_paint_55 (k := 1) (j := (92 + (8 * p)) + q) (by omega) hM_38.a1 (rfl) (by omega) (by decide) ?_
        have hM_55 : MX E (va_up g_38 (1) (aI E 0 158 (upd row_38 ((92 + (8 * p)) + q) (nI (c))))) ((upd row_38 ((92 + (8 * p)) + q) (nI (c)))) (hi_38, nI (S.rec.c), sn_38, nI (S.rec.kp)) C_38 (tx_38, nI (S.rec.ln)) P_38 := hM_38.u1 _
        generalize (va_up g_38 (1) (aI E 0 158 (upd row_38 ((92 + (8 * p)) + q) (nI (c))))) = g_55 at hM_55 ⊢
        refine y_iload hC dX6_paint_56 rfl ?_
        refine y_iret (hC := hC) (hd := dX6_paint_58) (hq := ?_)
        have hqq : qPaint S (nI p) (nI q) (nI c) = (nI (px S.r (8 * p + q)), S.rec.row (upd S.r (92 + (8 * p + q)) (nI c))) := by simp only [qPaint, nn_I (show p < 2147483648 by omega), nn_I (show q < 2147483648 by omega), nn_I (show c < 2147483648 by omega), if_pos c_5, if_pos c_14, if_neg c_31]
        rw [hqq]
        exact ⟨rfl, ⟨(upd row_38 ((92 + (8 * p)) + q) (nI (c))), hi_38, sn_38, tx_38, C_38, P_38, hM_55, (fun k hk => by
          show _ = upd S.r (92 + (8 * p + q)) (nI c) k
          by_cases e : k = 92 + 8 * p + q
          · rw [e, pk_us, show 92 + 8 * p + q = 92 + (8 * p + q) by omega, pk_us]
          · rw [pk_un e, pk_un (by omega)]; exact hR_38 k hk), hH_38, hS_38, hT_38⟩⟩
      · refine y_bipush (v := (-5)) hC dX6_paint_34 (by decide) ?_
        refine y_iret (hC := hC) (hd := dX6_paint_36) (hq := ?_)
        have hqq : qPaint S (nI p) (nI q) (nI c) = (-5, S) := by simp only [qPaint, nn_I (show p < 2147483648 by omega), nn_I (show q < 2147483648 by omega), nn_I (show c < 2147483648 by omega), if_pos c_5, if_pos c_14, if_pos c_31]
        rw [hqq]
        exact ⟨rfl, ⟨row, hi, sn, tx, C, P, hM, hR, hH, hS, hT⟩⟩
    · refine y_bipush (v := (-2)) hC dX6_paint_17 (by decide) ?_
      refine y_iret (hC := hC) (hd := dX6_paint_19) (hq := ?_)
      have hqq : qPaint S (nI p) (nI q) xc = (-2, S) := by simp only [qPaint, nn_I (show p < 2147483648 by omega), nn_I (show q < 2147483648 by omega), if_pos c_5, if_neg c_14]
      rw [hqq]
      exact ⟨rfl, ⟨row, hi, sn, tx, C, P, hM, hR, hH, hS, hT⟩⟩
  · refine y_iconst (v := (-1)) hC dX6_paint_8 (by decide) ?_
    refine y_iret (hC := hC) (hd := dX6_paint_9) (hq := ?_)
    have hqq : qPaint S xa xb xc = (-1, S) := by simp only [qPaint, if_neg c_5]
    rw [hqq]
    exact ⟨rfl, ⟨row, hi, sn, tx, C, P, hM, hR, hH, hS, hT⟩⟩

