/-! ===== the class itself: blend, freeze, the full turn ===== -/
theorem oth_cg {sh sh2 : Nat → Int32} {r : Row} {a c : Nat} (h : ∀ k, a ≤ k → k ≤ c → sh k = sh2 k) : oth sh r a c = oth sh2 r a c := cn_cg (fun k hk => by rw [h (a + k) (by omega) (by omega)])
theorem putR_cg {sh sh2 : Nat → Int32} {r : Row} {a c : Nat} (h : ∀ k, a ≤ k → k ≤ c → sh k = sh2 k) : putR r a c sh = putR r a c sh2 := by
  funext k
  unfold putR
  by_cases q : a ≤ k ∧ k ≤ c
  · rw [if_pos q, if_pos q, h k q.1 q.2]
  · rw [if_neg q, if_neg q]
theorem vr_put {r : Row} {B a c : Nat} {sh : Nat → Int32} (hv : Vr r B) (hc : c < 32) : Vr (putR r a c sh) B := vr_co hv (fun k h1 _ => putR_lo hc h1)
def ftN (r : Row) : Nat := lcG r (gc r)
theorem dX5_blend_0 : decode cX5_blend 0 = .ok (.iload_n 1, 1) := by decide +kernel
theorem dX5_blend_1 : decode cX5_blend 1 = .ok (.invokestatic 41, 3) := by decide +kernel
theorem dX5_blend_4 : decode cX5_blend 4 = .ok (.ifCond .ne 5, 3) := by decide +kernel
theorem dX5_blend_7 : decode cX5_blend 7 = .ok (.iconst (-1), 1) := by decide +kernel
theorem dX5_blend_8 : decode cX5_blend 8 = .ok (.ireturn, 1) := by decide +kernel
theorem dX5_blend_9 : decode cX5_blend 9 = .ok (.iload_n 2, 1) := by decide +kernel
theorem dX5_blend_10 : decode cX5_blend 10 = .ok (.invokestatic 41, 3) := by decide +kernel
theorem dX5_blend_13 : decode cX5_blend 13 = .ok (.ifCond .eq 23, 3) := by decide +kernel
theorem dX5_blend_16 : decode cX5_blend 16 = .ok (.iload_n 2, 1) := by decide +kernel
theorem dX5_blend_17 : decode cX5_blend 17 = .ok (.iload_n 1, 1) := by decide +kernel
theorem dX5_blend_18 : decode cX5_blend 18 = .ok (.if_icmp .le 18, 3) := by decide +kernel
theorem dX5_blend_21 : decode cX5_blend 21 = .ok (.iload_n 3, 1) := by decide +kernel
theorem dX5_blend_22 : decode cX5_blend 22 = .ok (.invokestatic 45, 3) := by decide +kernel
theorem dX5_blend_25 : decode cX5_blend 25 = .ok (.ifCond .eq 11, 3) := by decide +kernel
theorem dX5_blend_28 : decode cX5_blend 28 = .ok (.iload 4, 2) := by decide +kernel
theorem dX5_blend_30 : decode cX5_blend 30 = .ok (.invokestatic 45, 3) := by decide +kernel
theorem dX5_blend_33 : decode cX5_blend 33 = .ok (.ifCond .ne 6, 3) := by decide +kernel
theorem dX5_blend_36 : decode cX5_blend 36 = .ok (.bipush (-2), 2) := by decide +kernel
theorem dX5_blend_38 : decode cX5_blend 38 = .ok (.ireturn, 1) := by decide +kernel
theorem dX5_blend_39 : decode cX5_blend 39 = .ok (.iload_n 1, 1) := by decide +kernel
theorem dX5_blend_40 : decode cX5_blend 40 = .ok (.istore 5, 2) := by decide +kernel
theorem dX5_blend_42 : decode cX5_blend 42 = .ok (.iload 5, 2) := by decide +kernel
theorem dX5_blend_44 : decode cX5_blend 44 = .ok (.iload_n 2, 1) := by decide +kernel
theorem dX5_blend_45 : decode cX5_blend 45 = .ok (.if_icmp .gt 29, 3) := by decide +kernel
theorem dX5_blend_48 : decode cX5_blend 48 = .ok (.aload_n 0, 1) := by decide +kernel
theorem dX5_blend_49 : decode cX5_blend 49 = .ok (.getfield 30, 3) := by decide +kernel
theorem dX5_blend_52 : decode cX5_blend 52 = .ok (.iload 5, 2) := by decide +kernel
theorem dX5_blend_54 : decode cX5_blend 54 = .ok (.iload_n 3, 1) := by decide +kernel
theorem dX5_blend_55 : decode cX5_blend 55 = .ok (.iload 4, 2) := by decide +kernel
theorem dX5_blend_57 : decode cX5_blend 57 = .ok (.iload 5, 2) := by decide +kernel
theorem dX5_blend_59 : decode cX5_blend 59 = .ok (.iload_n 1, 1) := by decide +kernel
theorem dX5_blend_60 : decode cX5_blend 60 = .ok (.isub, 1) := by decide +kernel
theorem dX5_blend_61 : decode cX5_blend 61 = .ok (.iload_n 2, 1) := by decide +kernel
theorem dX5_blend_62 : decode cX5_blend 62 = .ok (.iload_n 1, 1) := by decide +kernel
theorem dX5_blend_63 : decode cX5_blend 63 = .ok (.isub, 1) := by decide +kernel
theorem dX5_blend_64 : decode cX5_blend 64 = .ok (.invokestatic 55, 3) := by decide +kernel
theorem dX5_blend_67 : decode cX5_blend 67 = .ok (.iastore, 1) := by decide +kernel
theorem dX5_blend_68 : decode cX5_blend 68 = .ok (.iinc 5 1, 3) := by decide +kernel
theorem dX5_blend_71 : decode cX5_blend 71 = .ok (.goto (-29), 3) := by decide +kernel
theorem dX5_blend_74 : decode cX5_blend 74 = .ok (.aload_n 0, 1) := by decide +kernel
theorem dX5_blend_75 : decode cX5_blend 75 = .ok (.iload_n 1, 1) := by decide +kernel
theorem dX5_blend_76 : decode cX5_blend 76 = .ok (.iload_n 2, 1) := by decide +kernel
theorem dX5_blend_77 : decode cX5_blend 77 = .ok (.invokevirtual 59, 3) := by decide +kernel
theorem dX5_blend_80 : decode cX5_blend 80 = .ok (.istore 5, 2) := by decide +kernel
theorem dX5_blend_82 : decode cX5_blend 82 = .ok (.iload 5, 2) := by decide +kernel
theorem dX5_blend_84 : decode cX5_blend 84 = .ok (.ifCond .ne 6, 3) := by decide +kernel
theorem dX5_blend_87 : decode cX5_blend 87 = .ok (.bipush (-5), 2) := by decide +kernel
theorem dX5_blend_89 : decode cX5_blend 89 = .ok (.ireturn, 1) := by decide +kernel
theorem dX5_blend_90 : decode cX5_blend 90 = .ok (.aload_n 0, 1) := by decide +kernel
theorem dX5_blend_91 : decode cX5_blend 91 = .ok (.getfield 19, 3) := by decide +kernel
theorem dX5_blend_94 : decode cX5_blend 94 = .ok (.aload_n 0, 1) := by decide +kernel
theorem dX5_blend_95 : decode cX5_blend 95 = .ok (.getfield 12, 3) := by decide +kernel
theorem dX5_blend_98 : decode cX5_blend 98 = .ok (.invokevirtual 51, 3) := by decide +kernel
theorem dX5_blend_101 : decode cX5_blend 101 = .ok (.aload_n 0, 1) := by decide +kernel
theorem dX5_blend_102 : decode cX5_blend 102 = .ok (.iload_n 1, 1) := by decide +kernel
theorem dX5_blend_103 : decode cX5_blend 103 = .ok (.iload_n 2, 1) := by decide +kernel
theorem dX5_blend_104 : decode cX5_blend 104 = .ok (.invokevirtual 63, 3) := by decide +kernel
theorem dX5_blend_107 : decode cX5_blend 107 = .ok (.iload 5, 2) := by decide +kernel
theorem dX5_blend_109 : decode cX5_blend 109 = .ok (.ireturn, 1) := by decide +kernel
set_option maxHeartbeats 4000000 in
set_option maxRecDepth 100000 in
theorem c_X5_blend (l : Launch) (E : gE) (g : Mem) (S : AS) (B : Nat) (hB : B < 90000000) (ho : OK S B) (sh mk wa : Nat → Int32) (h : CQ E g S sh mk wa) (xa xb xu xv : Int32) : Mt l E yX5_blend cX5_blend 6 (some .int) 3 69 [rf E (0), .int (xa), .int (xb), .int (xu), .int (xv)] g (pI (fun z g' => z = (qBlend S xa xb xu xv).1 ∧ CP E g' (qBlend S xa xb xu xv).2)) := by
  have hK := h.k
  have hv := ho.v
  have hrc : rc S.r ≤ 6 := hv.1.2
  have hgc : gc S.r ≤ 4 := hv.2.1.2
  have hc4 := ho.c4
  refine mt_go (own := RX5) (by decide) rfl (lo := [some (rf E (0)), some (.int (xa)), some (.int (xb)), some (.int (xu)), some (.int (xv)), none]) rfl (Nat.le_of_ble_eq_true rfl) (fun X hC => ?_)
  obtain ⟨co, pi, π, ρ, V, U, hX, e1, e2, e3, e4⟩ := zStF (r := S.r) (B := B) h.sta hv
  refine y_iload_n hC dX5_blend_0 (i := 1) rfl rfl ?_
  refine y_callS hC mX5_isPlace kX5_41 dX5_blend_1 (As := [.int (xa)]) (rest := []) (c_X5_isPlace l E g ((xa))) rfl rfl rfl (Nat.le_of_ble_eq_true rfl) ⟨Nat.le_of_ble_eq_true rfl, Nat.le_of_ble_eq_true rfl⟩ (pk_i ?_)
  rintro r_1 g_1 ⟨hr_1, hq_1⟩
  obtain rfl := hq_1.symm
  rw [hr_1]
  clear hr_1 r_1
  refine y_if_ne_b (tgt := 9) hC dX5_blend_4 (by decide) (fun c_4 => ?_) (fun c_4 => ?_)
  · obtain ⟨p, hp, hpx⟩ := zN (m := 31) c_4
    subst hpx
    refine y_iload_n hC dX5_blend_9 (i := 2) rfl rfl ?_
    refine y_callS hC mX5_isPlace kX5_41 dX5_blend_10 (As := [.int (xb)]) (rest := []) (c_X5_isPlace l E g ((xb))) rfl rfl rfl (Nat.le_of_ble_eq_true rfl) ⟨Nat.le_of_ble_eq_true rfl, Nat.le_of_ble_eq_true rfl⟩ (pk_i ?_)
    rintro r_10 g_10 ⟨hr_10, hq_10⟩
    obtain rfl := hq_10.symm
    rw [hr_10]
    clear hr_10 r_10
    refine y_if_eq_b (tgt := 36) hC dX5_blend_13 (by decide) (fun c_13 => ?_) (fun c_13 => ?_)
    · refine y_bipush (v := (-2)) hC dX5_blend_36 (by decide) ?_
      refine y_iret (hC := hC) (hd := dX5_blend_38) (hq := ?_)
      have hqq : qBlend S (nI p) xb xu xv = (-2, S) := by simp only [qBlend, nn_I (show p < 2147483648 by omega), if_pos c_4]; exact if_neg (fun q => c_13 q.1.1)
      rw [hqq]
      exact ⟨rfl, h.cp⟩
    · obtain ⟨q, hq, hqx⟩ := zN (m := 31) c_13
      subst hqx
      refine y_iload_n hC dX5_blend_16 (i := 2) rfl rfl ?_
      refine y_iload_n hC dX5_blend_17 (i := 1) rfl rfl ?_
      refine y_icmp_le_n (tgt := 36) hC dX5_blend_18 (by decide) (by omega) (by omega) (fun c_18 => ?_) (fun c_18 => ?_)
      · refine y_bipush (v := (-2)) hC dX5_blend_36 (by decide) ?_
        refine y_iret (hC := hC) (hd := dX5_blend_38) (hq := ?_)
        have hqq : qBlend S (nI p) (nI q) xu xv = (-2, S) := by simp only [qBlend, nn_I (show p < 2147483648 by omega), nn_I (show q < 2147483648 by omega), if_pos c_4]; exact if_neg (fun q => absurd q.1.2 (by omega))
        rw [hqq]
        exact ⟨rfl, h.cp⟩
      · refine y_iload_n hC dX5_blend_21 (i := 3) rfl rfl ?_
        refine y_callS hC mX5_isColour kX5_45 dX5_blend_22 (As := [.int (xu)]) (rest := []) (c_X5_isColour l E g ((xu))) rfl rfl rfl (Nat.le_of_ble_eq_true rfl) ⟨Nat.le_of_ble_eq_true rfl, Nat.le_of_ble_eq_true rfl⟩ (pk_i ?_)
        rintro r_22 g_22 ⟨hr_22, hq_22⟩
        obtain rfl := hq_22.symm
        rw [hr_22]
        clear hr_22 r_22
        refine y_if_eq_b (tgt := 36) hC dX5_blend_25 (by decide) (fun c_25 => ?_) (fun c_25 => ?_)
        · refine y_bipush (v := (-2)) hC dX5_blend_36 (by decide) ?_
          refine y_iret (hC := hC) (hd := dX5_blend_38) (hq := ?_)
          have hqq : qBlend S (nI p) (nI q) xu xv = (-2, S) := by simp only [qBlend, nn_I (show p < 2147483648 by omega), nn_I (show q < 2147483648 by omega), if_pos c_4]; exact if_neg (fun q => c_25 q.2.1)
          rw [hqq]
          exact ⟨rfl, h.cp⟩
        · refine y_iload hC dX5_blend_28 rfl ?_
          refine y_callS hC mX5_isColour kX5_45 dX5_blend_30 (As := [.int (xv)]) (rest := []) (c_X5_isColour l E g ((xv))) rfl rfl rfl (Nat.le_of_ble_eq_true rfl) ⟨Nat.le_of_ble_eq_true rfl, Nat.le_of_ble_eq_true rfl⟩ (pk_i ?_)
          rintro r_30 g_30 ⟨hr_30, hq_30⟩
          obtain rfl := hq_30.symm
          rw [hr_30]
          clear hr_30 r_30
          refine y_if_ne_b (tgt := 39) hC dX5_blend_33 (by decide) (fun c_33 => ?_) (fun c_33 => ?_)
          · refine y_iload_n hC dX5_blend_39 (i := 1) rfl rfl ?_
            refine y_istore hC dX5_blend_40 (Nat.le_of_ble_eq_true rfl) rfl (lo' := [some (rf E (0)), some (.int (nI (p))), some (.int (nI (q))), some (.int (xu)), some (.int (xv)), some (.int (nI (p)))]) rfl ?_
            have L_42 : ∀ (m : Nat) (i : Nat) (g1 : Mem) (sh1 : Nat → Int32), (hm : q + 1 - (p + i) < m) → (hi : p + i ≤ q + 1) → (hq : CQ E g1 S sh1 mk wa) → (hk : ∀ k, p ≤ k → k < p + i → sh1 k = blS p q xu xv k) → Y l E X (pI (fun z g' => z = (qBlend S (nI p) (nI q) xu xv).1 ∧ CP E g' (qBlend S (nI p) (nI q) xu xv).2)) 42 [some (rf E (0)), some (.int (nI (p))), some (.int (nI (q))), some (.int (xu)), some (.int (xv)), some (.int (nI (p + i)))] [] g1 := by
              intro m
              induction m with
              | zero => intro i g1 sh1 hm hi hq hk; exact absurd hm (Nat.not_lt_zero _)
              | succ m ih_42 =>
                intro i g1 sh1 hm hi hq hk
                refine y_iload hC dX5_blend_42 rfl ?_
                refine y_iload_n hC dX5_blend_44 (i := 2) rfl rfl ?_
                refine y_icmp_gt_n (tgt := 74) hC dX5_blend_45 (by decide) (by omega) (by omega) (fun c_45 => ?_) (fun c_45 => ?_)
                · have hsA : ∀ k, p ≤ k → k ≤ q → sh1 k = blS p q xu xv k := fun k h1 h2 => hk k h1 (by omega)
                  refine y_aload_n hC dX5_blend_74 (i := 0) rfl rfl ?_
                  refine y_iload_n hC dX5_blend_75 (i := 1) rfl rfl ?_
                  refine y_iload_n hC dX5_blend_76 (i := 2) rfl rfl ?_
                  refine y_callV hC mX5_otherShades kX5_59 dX5_blend_77 (b := 0) (As := [.int (nI (p)), .int (nI (q))]) (rest := []) (c_X5_otherShades l E g1 S B hB ho sh1 mk wa hq p q (by omega) (by omega)) (by omega) hq.a0 rfl rfl rfl (Nat.le_of_ble_eq_true rfl) ⟨Nat.le_of_ble_eq_true rfl, Nat.le_of_ble_eq_true rfl⟩ (pk_i ?_)
                  rintro r_77 g_77 ⟨hr_77, hq_77⟩
                  obtain rfl := hq_77.symm
                  rw [hr_77]
                  clear hr_77 r_77
                  have hol : oth (blS p q xu xv) S.r p q ≤ q + 1 - p := cn_le _ _
                  refine y_top (y := nI (oth (blS p q xu xv) S.r p q)) (congrArg nI (oth_cg hsA)) ?_
                  refine y_istore hC dX5_blend_80 (Nat.le_of_ble_eq_true rfl) rfl (lo' := [some (rf E (0)), some (.int (nI (p))), some (.int (nI (q))), some (.int (xu)), some (.int (xv)), some (.int (nI (oth (blS p q xu xv) S.r p q)))]) rfl ?_
                  refine y_iload hC dX5_blend_82 rfl ?_
                  refine y_if_ne_n (tgt := 90) hC dX5_blend_84 (by decide) (by omega) (fun c_84 => ?_) (fun c_84 => ?_)
                  · refine y_aload_n hC dX5_blend_90 (i := 0) rfl rfl ?_
                    refine y_get hC fX5_19 dX5_blend_91 (k := 0) (by omega) hq.a0 rfl ?_
                    refine y_aload_n hC dX5_blend_94 (i := 0) rfl rfl ?_
                    refine y_get hC fX5_12 dX5_blend_95 (k := 0) (by omega) hq.a0 rfl ?_
                    refine y_callV hC mX1_record kX5_51 dX5_blend_98 (b := 16) (As := [rf E (1)]) (rest := []) (c_X1_record l E g1 S.c S.kp S.hr S.sn S.r B hq.ha hq.sta hv) (by omega) hq.a16 rfl rfl rfl (Nat.le_of_ble_eq_true rfl) ⟨Nat.le_of_ble_eq_true rfl, Nat.le_of_ble_eq_true rfl⟩ (pk_v ?_)
                    rintro g_98 hrec_98
                    have hq_98 := hq.uprec hrec_98
                    obtain ⟨co_98, pi_98, π_98, ρ_98, V_98, U_98, hX_98, e1_98, e2_98, e3_98, e4_98⟩ := zStF (r := S.r) (B := B) hq_98.sta hv
                    refine y_aload_n hC dX5_blend_101 (i := 0) rfl rfl ?_
                    refine y_iload_n hC dX5_blend_102 (i := 1) rfl rfl ?_
                    refine y_iload_n hC dX5_blend_103 (i := 2) rfl rfl ?_
                    refine y_callV hC mX5_setShades kX5_63 dX5_blend_104 (b := 0) (As := [.int (nI (p)), .int (nI (q))]) (rest := []) (c_X5_setShades l E g_98 S.rec B hB ho.rec sh1 mk wa hq_98 p q (by omega) (by omega)) (by omega) hq_98.a0 rfl rfl rfl (Nat.le_of_ble_eq_true rfl) ⟨Nat.le_of_ble_eq_true rfl, Nat.le_of_ble_eq_true rfl⟩ (pk_v ?_)
                    rintro g_104 hset
                    rw [putR_cg (r := S.rec.r) hsA] at hset
                    refine y_iload hC dX5_blend_107 rfl ?_
                    refine y_iret (hC := hC) (hd := dX5_blend_109) (hq := ?_)
                    have hqq : qBlend S (nI p) (nI q) xu xv = (nI (oth (blS p q xu xv) S.r p q), S.rec.row (putR S.r p q (blS p q xu xv))) := by simp only [qBlend, nn_I (show p < 2147483648 by omega), nn_I (show q < 2147483648 by omega), if_pos c_4, if_pos (show ((0 ≤ (nI q).toInt ∧ (nI q).toInt ≤ 31) ∧ p < q) ∧ (0 ≤ xu.toInt ∧ xu.toInt ≤ 262143) ∧ 0 ≤ xv.toInt ∧ xv.toInt ≤ 262143 from ⟨⟨c_13, by omega⟩, c_25, c_33⟩), if_neg c_84]
                    rw [hqq]
                    exact ⟨rfl, hset.cp⟩
                  · refine y_bipush (v := (-5)) hC dX5_blend_87 (by decide) ?_
                    refine y_iret (hC := hC) (hd := dX5_blend_89) (hq := ?_)
                    have hqq : qBlend S (nI p) (nI q) xu xv = (-5, S) := by simp only [qBlend, nn_I (show p < 2147483648 by omega), nn_I (show q < 2147483648 by omega), if_pos c_4, if_pos (show ((0 ≤ (nI q).toInt ∧ (nI q).toInt ≤ 31) ∧ p < q) ∧ (0 ≤ xu.toInt ∧ xu.toInt ≤ 262143) ∧ 0 ≤ xv.toInt ∧ xv.toInt ≤ 262143 from ⟨⟨c_13, by omega⟩, c_25, c_33⟩), if_pos c_84]
                    rw [hqq]
                    exact ⟨rfl, hq.cp⟩
                · refine y_aload_n hC dX5_blend_48 (i := 0) rfl rfl ?_
                  refine y_get hC fX5_30 dX5_blend_49 (k := 0) (by omega) hq.a0 rfl ?_
                  refine y_iload hC dX5_blend_52 rfl ?_
                  refine y_iload_n hC dX5_blend_54 (i := 3) rfl rfl ?_
                  refine y_iload hC dX5_blend_55 rfl ?_
                  refine y_iload hC dX5_blend_57 rfl ?_
                  refine y_iload_n hC dX5_blend_59 (i := 1) rfl rfl ?_
                  refine y_isub_n hC dX5_blend_60 (by omega) ?_
                  refine y_iload_n hC dX5_blend_61 (i := 2) rfl rfl ?_
                  refine y_iload_n hC dX5_blend_62 (i := 1) rfl rfl ?_
                  refine y_isub_n hC dX5_blend_63 (by omega) ?_
                  refine y_callS hC mX5_mixed kX5_55 dX5_blend_64 (As := [.int (xu), .int (xv), .int (nI ((p + i) - (p))), .int (nI (q - (p)))]) (rest := [.int (nI (p + i)), rf E (97)]) (c_X5_mixed l E g1 xu xv (nI (p + i - (p))) (nI (q - (p))) (fun z => absurd ((nI_z (by omega)).mp z) (by omega))) rfl rfl rfl (Nat.le_of_ble_eq_true rfl) ⟨Nat.le_of_ble_eq_true rfl, Nat.le_of_ble_eq_true rfl⟩ (pk_i ?_)
                  rintro r_64 g_64 ⟨hr_64, hq_64⟩
                  obtain rfl := hq_64.symm
                  rw [hr_64]
                  clear hr_64 r_64
                  refine y_top (y := blS p q xu xv (p + i)) rfl ?_
                  refine y_iast hC dX5_blend_67 (k := 97) (j := p + i) (by omega) hq.a97 (rfl) (by omega) (by decide) ?_
                  have hq_67 : CQ E (va_up g1 (97) (aI E 0 32 (upd sh1 (p + i) ((blS p q xu xv (p + i)))))) S (upd sh1 (p + i) ((blS p q xu xv (p + i)))) mk wa := hq.up97 _
                  generalize (va_up g1 (97) (aI E 0 32 (upd sh1 (p + i) ((blS p q xu xv (p + i)))))) = g_67 at hq_67 ⊢
                  refine y_iinc_n hC dX5_blend_68 (a := p + i) (k := 1) rfl (by decide) (Nat.le_of_ble_eq_true rfl) rfl (lo' := [some (rf E (0)), some (.int (nI (p))), some (.int (nI (q))), some (.int (xu)), some (.int (xv)), some (.int (nI (p + i + 1)))]) rfl ?_
                  refine y_goto (tgt := 42) hC dX5_blend_71 (by decide) ?_
                  exact ih_42 (i + 1) g_67 _ (by omega) (by omega) hq_67 (fun k h1 h2 => by
                      by_cases e : k = p + i
                      · rw [e, pk_us]
                      · rw [pk_un e]; exact hk k h1 (by omega))
            exact L_42 (q + 2) 0 g sh (by omega) (by omega) h (fun k h1 h2 => absurd h2 (by omega))
          · refine y_bipush (v := (-2)) hC dX5_blend_36 (by decide) ?_
            refine y_iret (hC := hC) (hd := dX5_blend_38) (hq := ?_)
            have hqq : qBlend S (nI p) (nI q) xu xv = (-2, S) := by simp only [qBlend, nn_I (show p < 2147483648 by omega), nn_I (show q < 2147483648 by omega), if_pos c_4]; exact if_neg (fun q => c_33 q.2.2)
            rw [hqq]
            exact ⟨rfl, h.cp⟩
  · refine y_iconst (v := (-1)) hC dX5_blend_7 (by decide) ?_
    refine y_iret (hC := hC) (hd := dX5_blend_8) (hq := ?_)
    have hqq : qBlend S xa xb xu xv = (-1, S) := by simp only [qBlend, if_neg c_4]
    rw [hqq]
    exact ⟨rfl, h.cp⟩

theorem dX5_freeze_0 : decode cX5_freeze 0 = .ok (.aload_n 0, 1) := by decide +kernel
theorem dX5_freeze_1 : decode cX5_freeze 1 = .ok (.invokevirtual 67, 3) := by decide +kernel
theorem dX5_freeze_4 : decode cX5_freeze 4 = .ok (.aload_n 0, 1) := by decide +kernel
theorem dX5_freeze_5 : decode cX5_freeze 5 = .ok (.iconst 0, 1) := by decide +kernel
theorem dX5_freeze_6 : decode cX5_freeze 6 = .ok (.bipush 31, 2) := by decide +kernel
theorem dX5_freeze_8 : decode cX5_freeze 8 = .ok (.invokevirtual 59, 3) := by decide +kernel
theorem dX5_freeze_11 : decode cX5_freeze 11 = .ok (.istore_n 1, 1) := by decide +kernel
theorem dX5_freeze_12 : decode cX5_freeze 12 = .ok (.aload_n 0, 1) := by decide +kernel
theorem dX5_freeze_13 : decode cX5_freeze 13 = .ok (.getfield 19, 3) := by decide +kernel
theorem dX5_freeze_16 : decode cX5_freeze 16 = .ok (.aload_n 0, 1) := by decide +kernel
theorem dX5_freeze_17 : decode cX5_freeze 17 = .ok (.getfield 12, 3) := by decide +kernel
theorem dX5_freeze_20 : decode cX5_freeze 20 = .ok (.invokevirtual 51, 3) := by decide +kernel
theorem dX5_freeze_23 : decode cX5_freeze 23 = .ok (.aload_n 0, 1) := by decide +kernel
theorem dX5_freeze_24 : decode cX5_freeze 24 = .ok (.iconst 0, 1) := by decide +kernel
theorem dX5_freeze_25 : decode cX5_freeze 25 = .ok (.bipush 31, 2) := by decide +kernel
theorem dX5_freeze_27 : decode cX5_freeze 27 = .ok (.invokevirtual 63, 3) := by decide +kernel
theorem dX5_freeze_30 : decode cX5_freeze 30 = .ok (.aload_n 0, 1) := by decide +kernel
theorem dX5_freeze_31 : decode cX5_freeze 31 = .ok (.getfield 12, 3) := by decide +kernel
theorem dX5_freeze_34 : decode cX5_freeze 34 = .ok (.invokevirtual 70, 3) := by decide +kernel
theorem dX5_freeze_37 : decode cX5_freeze 37 = .ok (.iload_n 1, 1) := by decide +kernel
theorem dX5_freeze_38 : decode cX5_freeze 38 = .ok (.ireturn, 1) := by decide +kernel
set_option maxHeartbeats 4000000 in
set_option maxRecDepth 100000 in
theorem c_X5_freeze (l : Launch) (E : gE) (g : Mem) (S : AS) (B : Nat) (hB : B < 90000000) (ho : OK S B) (sh mk wa : Nat → Int32) (h : CQ E g S sh mk wa) : Mt l E yX5_freeze cX5_freeze 2 (some .int) 5 117 [rf E (0)] g (pI (fun z g' => z = (qFreeze S ).1 ∧ CP E g' (qFreeze S ).2)) := by
  have hK := h.k
  have hv := ho.v
  have hrc : rc S.r ≤ 6 := hv.1.2
  have hgc : gc S.r ≤ 4 := hv.2.1.2
  have hc4 := ho.c4
  refine mt_go (own := RX5) (by decide) rfl (lo := [some (rf E (0)), none]) rfl (Nat.le_of_ble_eq_true rfl) (fun X hC => ?_)
  obtain ⟨co, pi, π, ρ, V, U, hX, e1, e2, e3, e4⟩ := zStF (r := S.r) (B := B) h.sta hv
  refine y_aload_n hC dX5_freeze_0 (i := 0) rfl rfl ?_
  refine y_callV hC mX5_findShades kX5_67 dX5_freeze_1 (b := 0) (As := []) (rest := []) (c_X5_findShades l E g S B hB ho sh mk wa h) (by omega) h.a0 rfl rfl rfl (Nat.le_of_ble_eq_true rfl) ⟨Nat.le_of_ble_eq_true rfl, Nat.le_of_ble_eq_true rfl⟩ (pk_v ?_)
  rintro g_1 ⟨sh2, hs2, hq_1⟩
  refine y_aload_n hC dX5_freeze_4 (i := 0) rfl rfl ?_
  refine y_iconst (v := nI 0) hC dX5_freeze_5 (by decide) ?_
  refine y_bipush (v := nI 31) hC dX5_freeze_6 (by decide) ?_
  have hsA : ∀ k, 0 ≤ k → k ≤ 31 → sh2 k = shS S.r k := fun k _ h2 => hs2 k (by omega)
  refine y_callV hC mX5_otherShades kX5_59 dX5_freeze_8 (b := 0) (As := [.int (nI (0)), .int (nI (31))]) (rest := []) (c_X5_otherShades l E g_1 S B hB ho sh2 mk wa hq_1 0 31 (by omega) (by omega)) (by omega) hq_1.a0 rfl rfl rfl (Nat.le_of_ble_eq_true rfl) ⟨Nat.le_of_ble_eq_true rfl, Nat.le_of_ble_eq_true rfl⟩ (pk_i ?_)
  rintro r_8 g_8 ⟨hr_8, hq_8⟩
  obtain rfl := hq_8.symm
  rw [hr_8]
  clear hr_8 r_8
  refine y_top (y := nI (oth (shS S.r) S.r 0 31)) (congrArg nI (oth_cg hsA)) ?_
  refine y_istore_n hC dX5_freeze_11 (i := 1) rfl (Nat.le_of_ble_eq_true rfl) rfl (lo' := [some (rf E (0)), some (.int (nI (oth (shS S.r) S.r 0 31)))]) rfl ?_
  refine y_aload_n hC dX5_freeze_12 (i := 0) rfl rfl ?_
  refine y_get hC fX5_19 dX5_freeze_13 (k := 0) (by omega) hq_1.a0 rfl ?_
  refine y_aload_n hC dX5_freeze_16 (i := 0) rfl rfl ?_
  refine y_get hC fX5_12 dX5_freeze_17 (k := 0) (by omega) hq_1.a0 rfl ?_
  refine y_callV hC mX1_record kX5_51 dX5_freeze_20 (b := 16) (As := [rf E (1)]) (rest := []) (c_X1_record l E g_1 S.c S.kp S.hr S.sn S.r B hq_1.ha hq_1.sta hv) (by omega) hq_1.a16 rfl rfl rfl (Nat.le_of_ble_eq_true rfl) ⟨Nat.le_of_ble_eq_true rfl, Nat.le_of_ble_eq_true rfl⟩ (pk_v ?_)
  rintro g_20 hrec_20
  have hq_20 := hq_1.uprec hrec_20
  obtain ⟨co_20, pi_20, π_20, ρ_20, V_20, U_20, hX_20, e1_20, e2_20, e3_20, e4_20⟩ := zStF (r := S.r) (B := B) hq_20.sta hv
  refine y_aload_n hC dX5_freeze_23 (i := 0) rfl rfl ?_
  refine y_iconst (v := nI 0) hC dX5_freeze_24 (by decide) ?_
  refine y_bipush (v := nI 31) hC dX5_freeze_25 (by decide) ?_
  refine y_callV hC mX5_setShades kX5_63 dX5_freeze_27 (b := 0) (As := [.int (nI (0)), .int (nI (31))]) (rest := []) (c_X5_setShades l E g_20 S.rec B hB ho.rec sh2 mk wa hq_20 0 31 (by omega) (by omega)) (by omega) hq_20.a0 rfl rfl rfl (Nat.le_of_ble_eq_true rfl) ⟨Nat.le_of_ble_eq_true rfl, Nat.le_of_ble_eq_true rfl⟩ (pk_v ?_)
  rintro g_27 hset
  rw [putR_cg (r := S.rec.r) hsA] at hset
  have hvp : Vr (putR S.r 0 31 (shS S.r)) B := vr_put hv (by decide)
  refine y_aload_n hC dX5_freeze_30 (i := 0) rfl rfl ?_
  refine y_get hC fX5_12 dX5_freeze_31 (k := 0) (by omega) hset.a0 rfl ?_
  refine y_callV hC mX4_beginAgain kX5_70 dX5_freeze_34 (b := 1) (As := []) (rest := []) (c_X4_beginAgain l E g_27 1 (putR S.r 0 31 (shS S.r)) B (by omega) hset.sta hvp) (by omega) hset.sta.f1 rfl rfl rfl (Nat.le_of_ble_eq_true rfl) ⟨Nat.le_of_ble_eq_true rfl, Nat.le_of_ble_eq_true rfl⟩ (pk_v ?_)
  rintro g_34 ⟨hst, hfr⟩
  refine y_iload_n hC dX5_freeze_37 (i := 1) rfl rfl ?_
  refine y_iret (hC := hC) (hd := dX5_freeze_38) (hq := ?_)
  have hqq : qFreeze S  = (nI (oth (shS S.r) S.r 0 31), S.rec.row (begR (putR S.r 0 31 (shS S.r)))) := by simp only [qFreeze]
  rw [hqq]
  exact ⟨rfl, (hset.upst hst hfr).cp⟩

theorem dX5_commonDivisor_0 : decode cX5_commonDivisor 0 = .ok (.lload_n 0, 1) := by decide +kernel
theorem dX5_commonDivisor_1 : decode cX5_commonDivisor 1 = .ok (.lstore 4, 2) := by decide +kernel
theorem dX5_commonDivisor_3 : decode cX5_commonDivisor 3 = .ok (.lload_n 2, 1) := by decide +kernel
theorem dX5_commonDivisor_4 : decode cX5_commonDivisor 4 = .ok (.lstore 6, 2) := by decide +kernel
theorem dX5_commonDivisor_6 : decode cX5_commonDivisor 6 = .ok (.iconst 0, 1) := by decide +kernel
theorem dX5_commonDivisor_7 : decode cX5_commonDivisor 7 = .ok (.istore 8, 2) := by decide +kernel
theorem dX5_commonDivisor_9 : decode cX5_commonDivisor 9 = .ok (.iload 8, 2) := by decide +kernel
theorem dX5_commonDivisor_11 : decode cX5_commonDivisor 11 = .ok (.sipush 1000, 3) := by decide +kernel
theorem dX5_commonDivisor_14 : decode cX5_commonDivisor 14 = .ok (.if_icmp .ge 31, 3) := by decide +kernel
theorem dX5_commonDivisor_17 : decode cX5_commonDivisor 17 = .ok (.lload 6, 2) := by decide +kernel
theorem dX5_commonDivisor_19 : decode cX5_commonDivisor 19 = .ok (.lconst 0, 1) := by decide +kernel
theorem dX5_commonDivisor_20 : decode cX5_commonDivisor 20 = .ok (.lcmp, 1) := by decide +kernel
theorem dX5_commonDivisor_21 : decode cX5_commonDivisor 21 = .ok (.ifCond .eq 24, 3) := by decide +kernel
theorem dX5_commonDivisor_24 : decode cX5_commonDivisor 24 = .ok (.lload 4, 2) := by decide +kernel
theorem dX5_commonDivisor_26 : decode cX5_commonDivisor 26 = .ok (.lload 6, 2) := by decide +kernel
theorem dX5_commonDivisor_28 : decode cX5_commonDivisor 28 = .ok (.lrem, 1) := by decide +kernel
theorem dX5_commonDivisor_29 : decode cX5_commonDivisor 29 = .ok (.lstore 9, 2) := by decide +kernel
theorem dX5_commonDivisor_31 : decode cX5_commonDivisor 31 = .ok (.lload 6, 2) := by decide +kernel
theorem dX5_commonDivisor_33 : decode cX5_commonDivisor 33 = .ok (.lstore 4, 2) := by decide +kernel
theorem dX5_commonDivisor_35 : decode cX5_commonDivisor 35 = .ok (.lload 9, 2) := by decide +kernel
theorem dX5_commonDivisor_37 : decode cX5_commonDivisor 37 = .ok (.lstore 6, 2) := by decide +kernel
theorem dX5_commonDivisor_39 : decode cX5_commonDivisor 39 = .ok (.iinc 8 1, 3) := by decide +kernel
theorem dX5_commonDivisor_42 : decode cX5_commonDivisor 42 = .ok (.goto (-33), 3) := by decide +kernel
theorem dX5_commonDivisor_45 : decode cX5_commonDivisor 45 = .ok (.lload 4, 2) := by decide +kernel
theorem dX5_commonDivisor_47 : decode cX5_commonDivisor 47 = .ok (.lreturn, 1) := by decide +kernel
set_option maxHeartbeats 4000000 in
set_option maxRecDepth 100000 in
theorem c_X5_commonDivisor (l : Launch) (E : gE) (g : Mem) (a b : Nat) (ha : 0 < a) (ha2 : a < 2 ^ 63) (hb : 0 < b) (hb2 : b ≤ 1860) : Mt l E yX5_commonDivisor cX5_commonDivisor 11 (some .long) 0 0 [.long (lN (a)), .long (lN (b))] g (pL (fun z g' => z = lN (Nat.gcd a b) ∧ g' = g)) := by
  refine mt_go (own := RX5) (by decide) rfl (lo := [some (.long (lN (a))), none, some (.long (lN (b))), none, none, none, none, none, none, none, none]) rfl (Nat.le_of_ble_eq_true rfl) (fun X hC => ?_)
  refine y_lload_n hC dX5_commonDivisor_0 (i := 0) rfl rfl ?_
  refine y_lstore hC dX5_commonDivisor_1 (Nat.le_of_ble_eq_true rfl) rfl (lo' := [some (.long (lN (a))), none, some (.long (lN (b))), none, some (.long (lN (a))), none, none, none, none, none, none]) rfl ?_
  refine y_lload_n hC dX5_commonDivisor_3 (i := 2) rfl rfl ?_
  refine y_lstore hC dX5_commonDivisor_4 (Nat.le_of_ble_eq_true rfl) rfl (lo' := [some (.long (lN (a))), none, some (.long (lN (b))), none, some (.long (lN (a))), none, some (.long (lN (b))), none, none, none, none]) rfl ?_
  refine y_iconst (v := nI 0) hC dX5_commonDivisor_6 (by decide) ?_
  refine y_istore hC dX5_commonDivisor_7 (Nat.le_of_ble_eq_true rfl) rfl (lo' := [some (.long (lN (a))), none, some (.long (lN (b))), none, some (.long (lN (a))), none, some (.long (lN (b))), none, some (.int (nI (0))), none, none]) rfl ?_
  have L_9 : ∀ (m : Nat) (d e c : Nat), (hm : e < m) → (hd : d < 2 ^ 63) → (he : e ≤ 1860) → (hg : Nat.gcd d e = Nat.gcd a b) → (hc : c = 0 ∨ (c = 1 ∧ e < d ∧ d ≤ 1860) ∨ (2 ≤ c ∧ e < d ∧ e + c ≤ 932)) → Y l E X (pL (fun z g' => z = lN (Nat.gcd a b) ∧ g' = g)) 9 [some (.long (lN (a))), none, some (.long (lN (b))), none, some (.long (lN (d))), none, some (.long (lN (e))), none, some (.int (nI (c))), none, none] [] g := by
    intro m
    induction m with
    | zero => intro d e c hm hd he hg hc; exact absurd hm (Nat.not_lt_zero _)
    | succ m ih_9 =>
      intro d e c hm hd he hg hc
      refine y_iload hC dX5_commonDivisor_9 rfl ?_
      refine y_sipush (v := nI 1000) hC dX5_commonDivisor_11 (by decide) ?_
      refine y_icmp_ge_n (tgt := 45) hC dX5_commonDivisor_14 (by decide) (by omega) (by omega) (fun c_14 => ?_) (fun c_14 => ?_)
      · refine y_lload hC dX5_commonDivisor_45 rfl ?_
        refine y_lret (hC := hC) (hd := dX5_commonDivisor_47) (hq := ?_)
        first
          | exact absurd c_14 (by omega)
          | exact ⟨congrArg lN (by rw [← hg, he0, Nat.gcd_zero_right]), rfl⟩
      · refine y_lload hC dX5_commonDivisor_17 rfl ?_
        refine y_lconst (v := lN 0) hC dX5_commonDivisor_19 (by decide) ?_
        refine y_lcmp hC dX5_commonDivisor_20 ?_
        refine y_if_eq (tgt := 45) hC dX5_commonDivisor_21 (by decide) (fun c_21 => ?_) (fun c_21 => ?_)
        · have he0 : e = 0 := (pk_lEQ (by omega) (by decide)).mp (zcmp0.mp c_21)
          refine y_lload hC dX5_commonDivisor_45 rfl ?_
          refine y_lret (hC := hC) (hd := dX5_commonDivisor_47) (hq := ?_)
          first
            | exact absurd c_14 (by omega)
            | exact ⟨congrArg lN (by rw [← hg, he0, Nat.gcd_zero_right]), rfl⟩
        · have he0 : 0 < e := by
            have : ¬ e = 0 := fun q => c_21 (zcmp0.mpr (by rw [q]))
            omega
          have hml := Nat.mod_lt d he0
          have hmh : e < d → 2 * (d % e) < d := mod_half he0
          have hne : ¬ lN e = 0 := fun q => by
            have := (pk_lEQ (a := e) (b := 0) (by omega) (by decide)).mp q
            omega
          refine y_lload hC dX5_commonDivisor_24 rfl ?_
          refine y_lload hC dX5_commonDivisor_26 rfl ?_
          refine y_lrem hC dX5_commonDivisor_28 (hne) ?_
          refine y_topl (y := lN (d % e)) (pk_lRem (by omega) he0 (by omega)) ?_
          refine y_lstore hC dX5_commonDivisor_29 (Nat.le_of_ble_eq_true rfl) rfl (lo' := [some (.long (lN (a))), none, some (.long (lN (b))), none, some (.long (lN (d))), none, some (.long (lN (e))), none, some (.int (nI (c))), some (.long (lN (d % e))), none]) rfl ?_
          refine y_lload hC dX5_commonDivisor_31 rfl ?_
          refine y_lstore hC dX5_commonDivisor_33 (Nat.le_of_ble_eq_true rfl) rfl (lo' := [some (.long (lN (a))), none, some (.long (lN (b))), none, some (.long (lN (e))), none, some (.long (lN (e))), none, some (.int (nI (c))), some (.long (lN (d % e))), none]) rfl ?_
          refine y_lload hC dX5_commonDivisor_35 rfl ?_
          refine y_lstore hC dX5_commonDivisor_37 (Nat.le_of_ble_eq_true rfl) rfl (lo' := [some (.long (lN (a))), none, some (.long (lN (b))), none, some (.long (lN (e))), none, some (.long (lN (d % e))), none, some (.int (nI (c))), some (.long (lN (d % e))), none]) rfl ?_
          refine y_iinc_n hC dX5_commonDivisor_39 (a := c) (k := 1) rfl (by decide) (Nat.le_of_ble_eq_true rfl) rfl (lo' := [some (.long (lN (a))), none, some (.long (lN (b))), none, some (.long (lN (e))), none, some (.long (lN (d % e))), none, some (.int (nI (c + 1))), some (.long (lN (d % e))), none]) rfl ?_
          refine y_goto (tgt := 9) hC dX5_commonDivisor_42 (by decide) ?_
          refine y_fg 9 (lo' := [some (.long (lN (a))), none, some (.long (lN (b))), none, some (.long (lN (e))), none, some (.long (lN (d % e))), none, some (.int (nI (c + 1))), none, none]) rfl ?_
          exact ih_9 e (d % e) (c + 1) (by omega) (by omega) (by omega) ((gcd_st d e).trans hg) (by omega)
  exact L_9 (b + 1) a b 0 (by omega) ha2 hb2 rfl (Or.inl rfl)

theorem dX5_commonMultiple_0 : decode cX5_commonMultiple 0 = .ok (.lload_n 0, 1) := by decide +kernel
theorem dX5_commonMultiple_1 : decode cX5_commonMultiple 1 = .ok (.lload_n 2, 1) := by decide +kernel
theorem dX5_commonMultiple_2 : decode cX5_commonMultiple 2 = .ok (.invokestatic 283, 3) := by decide +kernel
theorem dX5_commonMultiple_5 : decode cX5_commonMultiple 5 = .ok (.lstore 4, 2) := by decide +kernel
theorem dX5_commonMultiple_7 : decode cX5_commonMultiple 7 = .ok (.lload 4, 2) := by decide +kernel
theorem dX5_commonMultiple_9 : decode cX5_commonMultiple 9 = .ok (.lconst 0, 1) := by decide +kernel
theorem dX5_commonMultiple_10 : decode cX5_commonMultiple 10 = .ok (.lcmp, 1) := by decide +kernel
theorem dX5_commonMultiple_11 : decode cX5_commonMultiple 11 = .ok (.ifCond .le 12, 3) := by decide +kernel
theorem dX5_commonMultiple_14 : decode cX5_commonMultiple 14 = .ok (.lload_n 0, 1) := by decide +kernel
theorem dX5_commonMultiple_15 : decode cX5_commonMultiple 15 = .ok (.lload 4, 2) := by decide +kernel
theorem dX5_commonMultiple_17 : decode cX5_commonMultiple 17 = .ok (.ldiv, 1) := by decide +kernel
theorem dX5_commonMultiple_18 : decode cX5_commonMultiple 18 = .ok (.lload_n 2, 1) := by decide +kernel
theorem dX5_commonMultiple_19 : decode cX5_commonMultiple 19 = .ok (.lmul, 1) := by decide +kernel
theorem dX5_commonMultiple_20 : decode cX5_commonMultiple 20 = .ok (.goto 4, 3) := by decide +kernel
theorem dX5_commonMultiple_23 : decode cX5_commonMultiple 23 = .ok (.lload_n 0, 1) := by decide +kernel
theorem dX5_commonMultiple_24 : decode cX5_commonMultiple 24 = .ok (.lreturn, 1) := by decide +kernel
set_option maxHeartbeats 4000000 in
set_option maxRecDepth 100000 in
theorem c_X5_commonMultiple (l : Launch) (E : gE) (g : Mem) (a b : Nat) (ha : 0 < a) (ha2 : a < 2 ^ 63) (hb : 0 < b) (hb2 : b ≤ 1860) (hl : Nat.lcm a b < 2 ^ 63) : Mt l E yX5_commonMultiple cX5_commonMultiple 6 (some .long) 1 30 [.long (lN (a)), .long (lN (b))] g (pL (fun z g' => z = lN (Nat.lcm a b) ∧ g' = g)) := by
  have hg0 := Nat.gcd_pos_of_pos_left b ha
  have hgl := Nat.le_of_dvd ha (Nat.gcd_dvd_left a b)
  have hne : ¬ lN (Nat.gcd a b) = 0 := fun q => by
    have := (pk_lEQ (a := Nat.gcd a b) (b := 0) (by omega) (by decide)).mp q
    omega
  refine mt_go (own := RX5) (by decide) rfl (lo := [some (.long (lN (a))), none, some (.long (lN (b))), none, none, none]) rfl (Nat.le_of_ble_eq_true rfl) (fun X hC => ?_)
  refine y_lload_n hC dX5_commonMultiple_0 (i := 0) rfl rfl ?_
  refine y_lload_n hC dX5_commonMultiple_1 (i := 2) rfl rfl ?_
  refine y_callS hC mX5_commonDivisor kX5_283 dX5_commonMultiple_2 (As := [.long (lN (a)), .long (lN (b))]) (rest := []) (c_X5_commonDivisor l E g a b ha ha2 hb hb2) rfl rfl rfl (Nat.le_of_ble_eq_true rfl) ⟨Nat.le_of_ble_eq_true rfl, Nat.le_of_ble_eq_true rfl⟩ (pk_l ?_)
  rintro r_2 g_2 ⟨hr_2, hq_2⟩
  obtain rfl := hq_2.symm
  rw [hr_2]
  clear hr_2 r_2
  refine y_lstore hC dX5_commonMultiple_5 (Nat.le_of_ble_eq_true rfl) rfl (lo' := [some (.long (lN (a))), none, some (.long (lN (b))), none, some (.long (lN (Nat.gcd a b))), none]) rfl ?_
  refine y_lload hC dX5_commonMultiple_7 rfl ?_
  refine y_lconst (v := lN 0) hC dX5_commonMultiple_9 (by decide) ?_
  refine y_lcmp hC dX5_commonMultiple_10 ?_
  refine y_if_le (tgt := 23) hC dX5_commonMultiple_11 (by decide) (fun c_11 => ?_) (fun c_11 => ?_)
  · exfalso
    have := (pk_lLE (a := Nat.gcd a b) (b := 0) (by omega) (by decide)).mp ((lg_cmp_le _ _).mp c_11)
    omega
  · refine y_lload_n hC dX5_commonMultiple_14 (i := 0) rfl rfl ?_
    refine y_lload hC dX5_commonMultiple_15 rfl ?_
    refine y_ldiv hC dX5_commonMultiple_17 (hne) ?_
    refine y_lload_n hC dX5_commonMultiple_18 (i := 2) rfl rfl ?_
    refine y_lmul hC dX5_commonMultiple_19 ?_
    refine y_topl (y := lN (Nat.lcm a b)) (by rw [pk_lDiv (by omega) hg0 (by omega), lN_mul, lcm_dm]) ?_
    refine y_goto (tgt := 24) hC dX5_commonMultiple_20 (by decide) ?_
    refine y_lret (hC := hC) (hd := dX5_commonMultiple_24) (hq := ?_)
    exact ⟨rfl, rfl⟩

theorem dX5_fullTurn_0 : decode cX5_fullTurn 0 = .ok (.lconst 1, 1) := by decide +kernel
theorem dX5_fullTurn_1 : decode cX5_fullTurn 1 = .ok (.lstore_n 1, 1) := by decide +kernel
theorem dX5_fullTurn_2 : decode cX5_fullTurn 2 = .ok (.iconst 0, 1) := by decide +kernel
theorem dX5_fullTurn_3 : decode cX5_fullTurn 3 = .ok (.istore_n 3, 1) := by decide +kernel
theorem dX5_fullTurn_4 : decode cX5_fullTurn 4 = .ok (.iload_n 3, 1) := by decide +kernel
theorem dX5_fullTurn_5 : decode cX5_fullTurn 5 = .ok (.aload_n 0, 1) := by decide +kernel
theorem dX5_fullTurn_6 : decode cX5_fullTurn 6 = .ok (.getfield 12, 3) := by decide +kernel
theorem dX5_fullTurn_9 : decode cX5_fullTurn 9 = .ok (.getfield 83, 3) := by decide +kernel
theorem dX5_fullTurn_12 : decode cX5_fullTurn 12 = .ok (.if_icmp .ge 27, 3) := by decide +kernel
theorem dX5_fullTurn_15 : decode cX5_fullTurn 15 = .ok (.lload_n 1, 1) := by decide +kernel
theorem dX5_fullTurn_16 : decode cX5_fullTurn 16 = .ok (.aload_n 0, 1) := by decide +kernel
theorem dX5_fullTurn_17 : decode cX5_fullTurn 17 = .ok (.getfield 12, 3) := by decide +kernel
theorem dX5_fullTurn_20 : decode cX5_fullTurn 20 = .ok (.getfield 97, 3) := by decide +kernel
theorem dX5_fullTurn_23 : decode cX5_fullTurn 23 = .ok (.iload_n 3, 1) := by decide +kernel
theorem dX5_fullTurn_24 : decode cX5_fullTurn 24 = .ok (.aaload, 1) := by decide +kernel
theorem dX5_fullTurn_25 : decode cX5_fullTurn 25 = .ok (.invokevirtual 236, 3) := by decide +kernel
theorem dX5_fullTurn_28 : decode cX5_fullTurn 28 = .ok (.i2l, 1) := by decide +kernel
theorem dX5_fullTurn_29 : decode cX5_fullTurn 29 = .ok (.invokestatic 239, 3) := by decide +kernel
theorem dX5_fullTurn_32 : decode cX5_fullTurn 32 = .ok (.lstore_n 1, 1) := by decide +kernel
theorem dX5_fullTurn_33 : decode cX5_fullTurn 33 = .ok (.iinc 3 1, 3) := by decide +kernel
theorem dX5_fullTurn_36 : decode cX5_fullTurn 36 = .ok (.goto (-32), 3) := by decide +kernel
theorem dX5_fullTurn_39 : decode cX5_fullTurn 39 = .ok (.iconst 0, 1) := by decide +kernel
theorem dX5_fullTurn_40 : decode cX5_fullTurn 40 = .ok (.istore_n 3, 1) := by decide +kernel
theorem dX5_fullTurn_41 : decode cX5_fullTurn 41 = .ok (.iload_n 3, 1) := by decide +kernel
theorem dX5_fullTurn_42 : decode cX5_fullTurn 42 = .ok (.aload_n 0, 1) := by decide +kernel
theorem dX5_fullTurn_43 : decode cX5_fullTurn 43 = .ok (.getfield 12, 3) := by decide +kernel
theorem dX5_fullTurn_46 : decode cX5_fullTurn 46 = .ok (.getfield 121, 3) := by decide +kernel
theorem dX5_fullTurn_49 : decode cX5_fullTurn 49 = .ok (.if_icmp .ge 27, 3) := by decide +kernel
theorem dX5_fullTurn_52 : decode cX5_fullTurn 52 = .ok (.lload_n 1, 1) := by decide +kernel
theorem dX5_fullTurn_53 : decode cX5_fullTurn 53 = .ok (.aload_n 0, 1) := by decide +kernel
theorem dX5_fullTurn_54 : decode cX5_fullTurn 54 = .ok (.getfield 12, 3) := by decide +kernel
theorem dX5_fullTurn_57 : decode cX5_fullTurn 57 = .ok (.getfield 205, 3) := by decide +kernel
theorem dX5_fullTurn_60 : decode cX5_fullTurn 60 = .ok (.iload_n 3, 1) := by decide +kernel
theorem dX5_fullTurn_61 : decode cX5_fullTurn 61 = .ok (.aaload, 1) := by decide +kernel
theorem dX5_fullTurn_62 : decode cX5_fullTurn 62 = .ok (.invokevirtual 243, 3) := by decide +kernel
theorem dX5_fullTurn_65 : decode cX5_fullTurn 65 = .ok (.i2l, 1) := by decide +kernel
theorem dX5_fullTurn_66 : decode cX5_fullTurn 66 = .ok (.invokestatic 239, 3) := by decide +kernel
theorem dX5_fullTurn_69 : decode cX5_fullTurn 69 = .ok (.lstore_n 1, 1) := by decide +kernel
theorem dX5_fullTurn_70 : decode cX5_fullTurn 70 = .ok (.iinc 3 1, 3) := by decide +kernel
theorem dX5_fullTurn_73 : decode cX5_fullTurn 73 = .ok (.goto (-32), 3) := by decide +kernel
theorem dX5_fullTurn_76 : decode cX5_fullTurn 76 = .ok (.lload_n 1, 1) := by decide +kernel
theorem dX5_fullTurn_77 : decode cX5_fullTurn 77 = .ok (.lreturn, 1) := by decide +kernel
set_option maxHeartbeats 4000000 in
set_option maxRecDepth 100000 in
theorem c_X5_fullTurn (l : Launch) (E : gE) (g : Mem) (S : AS) (B : Nat) (hB : B < 90000000) (ho : OK S B) (sh mk wa : Nat → Int32) (h : CQ E g S sh mk wa) : Mt l E yX5_fullTurn cX5_fullTurn 4 (some .long) 2 55 [rf E (0)] g (pL (fun z g' => z = lN (ftN S.r) ∧ CP E g' S)) := by
  have hK := h.k
  have hv := ho.v
  have hrc : rc S.r ≤ 6 := hv.1.2
  have hgc : gc S.r ≤ 4 := hv.2.1.2
  have hc4 := ho.c4
  refine mt_go (own := RX5) (by decide) rfl (lo := [some (rf E (0)), none, none, none]) rfl (Nat.le_of_ble_eq_true rfl) (fun X hC => ?_)
  obtain ⟨co, pi, π, ρ, V, U, hX, e1, e2, e3, e4⟩ := zStF (r := S.r) (B := B) h.sta hv
  refine y_lconst (v := lN 1) hC dX5_fullTurn_0 (by decide) ?_
  refine y_lstore_n hC dX5_fullTurn_1 (i := 1) rfl (Nat.le_of_ble_eq_true rfl) rfl (lo' := [some (rf E (0)), some (.long (lN 1)), none, none]) rfl ?_
  refine y_iconst (v := nI 0) hC dX5_fullTurn_2 (by decide) ?_
  refine y_istore_n hC dX5_fullTurn_3 (i := 3) rfl (Nat.le_of_ble_eq_true rfl) rfl (lo' := [some (rf E (0)), some (.long (lN 1)), none, some (.int (nI (0)))]) rfl ?_
  have L_4 : ∀ (m : Nat) (i : Nat), (hm : rc S.r - i < m) → (hi : i ≤ rc S.r) → Y l E X (pL (fun z g' => z = lN (ftN S.r) ∧ CP E g' S)) 4 [some (rf E (0)), some (.long (lN (lcR S.r i))), none, some (.int (nI (i)))] [] g := by
    intro m
    induction m with
    | zero => intro i hm hi; exact absurd hm (Nat.not_lt_zero _)
    | succ m ih_4 =>
      intro i hm hi
      refine y_iload_n hC dX5_fullTurn_4 (i := 3) rfl rfl ?_
      refine y_aload_n hC dX5_fullTurn_5 (i := 0) rfl rfl ?_
      refine y_get hC fX5_12 dX5_fullTurn_6 (k := 0) (by omega) h.a0 rfl ?_
      refine y_get hC fX5_83 dX5_fullTurn_9 (k := 1) (hX.k (k := 0) (by decide)) hX.s0 rfl ?_
      refine y_icmp_ge_n (tgt := 39) hC dX5_fullTurn_12 (by decide) (by omega) (by omega) (fun c_12 => ?_) (fun c_12 => ?_)
      · refine y_iconst (v := nI 0) hC dX5_fullTurn_39 (by decide) ?_
        refine y_istore_n hC dX5_fullTurn_40 (i := 3) rfl (Nat.le_of_ble_eq_true rfl) rfl (lo' := [some (rf E (0)), some (.long (lN (lcR S.r i))), none, some (.int (nI (0)))]) rfl ?_
        rw [show i = rc S.r by omega]
        have L_41 : ∀ (m : Nat) (i : Nat), (hm : gc S.r - i < m) → (hi : i ≤ gc S.r) → Y l E X (pL (fun z g' => z = lN (ftN S.r) ∧ CP E g' S)) 41 [some (rf E (0)), some (.long (lN (lcG S.r i))), none, some (.int (nI (i)))] [] g := by
          intro m
          induction m with
          | zero => intro i hm hi; exact absurd hm (Nat.not_lt_zero _)
          | succ m ih_41 =>
            intro i hm hi
            refine y_iload_n hC dX5_fullTurn_41 (i := 3) rfl rfl ?_
            refine y_aload_n hC dX5_fullTurn_42 (i := 0) rfl rfl ?_
            refine y_get hC fX5_12 dX5_fullTurn_43 (k := 0) (by omega) h.a0 rfl ?_
            refine y_get hC fX5_121 dX5_fullTurn_46 (k := 1) (hX.k (k := 0) (by decide)) hX.s0 rfl ?_
            refine y_icmp_ge_n (tgt := 76) hC dX5_fullTurn_49 (by decide) (by omega) (by omega) (fun c_49 => ?_) (fun c_49 => ?_)
            · refine y_lload_n hC dX5_fullTurn_76 (i := 1) rfl rfl ?_
              refine y_lret (hC := hC) (hd := dX5_fullTurn_77) (hq := ?_)
              exact ⟨congrArg lN (by unfold ftN; rw [show i = gc S.r by omega]), h.cp⟩
            · have hlt : i < gc S.r := by omega
              obtain ⟨q1, q2, q3, q4, q5⟩ := hv.gl hlt
              have hlp := lcG_pos hv i hi
              have hlb := lcG_b hv hi
              have hlb2 := lcG_b hv (k := i + 1) (by omega)
              refine y_lload_n hC dX5_fullTurn_52 (i := 1) rfl rfl ?_
              refine y_aload_n hC dX5_fullTurn_53 (i := 0) rfl rfl ?_
              refine y_get hC fX5_12 dX5_fullTurn_54 (k := 0) (by omega) h.a0 rfl ?_
              refine y_get hC fX5_205 dX5_fullTurn_57 (k := 1) (hX.k (k := 0) (by decide)) hX.s0 rfl ?_
              refine y_iload_n hC dX5_fullTurn_60 (i := 3) rfl rfl ?_
              refine y_aald hC (Or.inr (Or.inl ⟨rfl, rfl, rfl⟩) : yT 4 0 RX0) dX5_fullTurn_61 (k := 1 + 4) (j := i) (hX.k (k := 4) (by decide)) hX.s4 (rfl) (by omega) (by decide) ?_
              refine y_callV hC mX0_fullTicks kX5_243 dX5_fullTurn_62 (b := 1 + 11 + ρ (i)) (As := []) (rest := [.long (lN (lcG S.r i))]) (c_X0_fullTicks l E g (1 + 11 + ρ (i)) (hX.kU (i := i) (by omega)) _ _ (gl S.r (i) 2) (gl S.r (i) 3) q3 q4 q5 (hX.rU hv (i := i) (by omega) (e4 (i) (by omega)))) (hX.kU (i := i) (by omega)) (hX.rU hv (i := i) (by omega) (e4 (i) (by omega))) rfl rfl rfl (Nat.le_of_ble_eq_true rfl) ⟨Nat.le_of_ble_eq_true rfl, Nat.le_of_ble_eq_true rfl⟩ (pk_i ?_)
              rintro r_62 g_62 ⟨hr_62, hq_62⟩
              obtain rfl := hq_62.symm
              rw [hr_62]
              clear hr_62 r_62
              refine y_i2l hC dX5_fullTurn_65 ?_
              refine y_topl (y := lN (2 * gl S.r i 2)) (nI_l (by omega)) ?_
              refine y_callS hC mX5_commonMultiple kX5_239 dX5_fullTurn_66 (As := [.long (lN (lcG S.r i)), .long (lN (2 * gl S.r i 2))]) (rest := []) (c_X5_commonMultiple l E g (lcG S.r i) (2 * gl S.r i 2) (by omega) (by omega) (by omega) (by omega) (show lcG S.r (i + 1) < 2 ^ 63 by omega)) rfl rfl rfl (Nat.le_of_ble_eq_true rfl) ⟨Nat.le_of_ble_eq_true rfl, Nat.le_of_ble_eq_true rfl⟩ (pk_l ?_)
              rintro r_66 g_66 ⟨hr_66, hq_66⟩
              obtain rfl := hq_66.symm
              rw [hr_66]
              clear hr_66 r_66
              refine y_lstore_n hC dX5_fullTurn_69 (i := 1) rfl (Nat.le_of_ble_eq_true rfl) rfl (lo' := [some (rf E (0)), some (.long (lN (lcG S.r (i + 1)))), none, some (.int (nI (i)))]) rfl ?_
              refine y_iinc_n hC dX5_fullTurn_70 (a := i) (k := 1) rfl (by decide) (Nat.le_of_ble_eq_true rfl) rfl (lo' := [some (rf E (0)), some (.long (lN (lcG S.r (i + 1)))), none, some (.int (nI (i + 1)))]) rfl ?_
              refine y_goto (tgt := 41) hC dX5_fullTurn_73 (by decide) ?_
              exact ih_41 (i + 1) (by omega) (by omega)
        exact L_41 (gc S.r + 1) 0 (by omega) (by omega)
      · have hlt : i < rc S.r := by omega
        obtain ⟨q1, q2, q3, q4, q5, q6, q7, q8, q9⟩ := hv.rg hlt
        have hlp := lcR_pos hv i hi
        have hlb := lcR_b hv hi
        have hlb2 := lcR_b hv (k := i + 1) (by omega)
        have htb := tN_b hv hlt
        refine y_lload_n hC dX5_fullTurn_15 (i := 1) rfl rfl ?_
        refine y_aload_n hC dX5_fullTurn_16 (i := 0) rfl rfl ?_
        refine y_get hC fX5_12 dX5_fullTurn_17 (k := 0) (by omega) h.a0 rfl ?_
        refine y_get hC fX5_97 dX5_fullTurn_20 (k := 1) (hX.k (k := 0) (by decide)) hX.s0 rfl ?_
        refine y_iload_n hC dX5_fullTurn_23 (i := 3) rfl rfl ?_
        refine y_aald hC (Or.inl ⟨rfl, rfl, rfl⟩ : yT 3 3 RX3) dX5_fullTurn_24 (k := 1 + 3) (j := i) (hX.k (k := 3) (by decide)) hX.s3 (rfl) (by omega) (by decide) ?_
        refine y_callV hC mX3_fullTicks kX5_236 dX5_fullTurn_25 (b := 1 + 5 + π (i)) (As := []) (rest := [.long (lN (lcR S.r i))]) (c_X3_fullTicks l E g (1 + 5 + π (i)) (hX.kV (i := i) (by omega)) (rg S.r (i) 0) (rg S.r (i) 1) (rg S.r (i) 2) (rg S.r (i) 3) (rg S.r (i) 4) (rg S.r (i) 5) (rg S.r (i) 6) q2 q3 q4 q5 q6 q7 q8 (by omega) (hX.rV hv (i := i) (by omega) (e3 (i) (by omega)))) (hX.kV (i := i) (by omega)) (hX.rV hv (i := i) (by omega) (e3 (i) (by omega))) rfl rfl rfl (Nat.le_of_ble_eq_true rfl) ⟨Nat.le_of_ble_eq_true rfl, Nat.le_of_ble_eq_true rfl⟩ (pk_i ?_)
        rintro r_25 g_25 ⟨hr_25, hq_25⟩
        obtain rfl := hq_25.symm
        rw [hr_25]
        clear hr_25 r_25
        refine y_top (y := nI (tN S.r i)) rfl ?_
        refine y_i2l hC dX5_fullTurn_28 ?_
        refine y_topl (y := lN (tN S.r i)) (nI_l (by omega)) ?_
        refine y_callS hC mX5_commonMultiple kX5_239 dX5_fullTurn_29 (As := [.long (lN (lcR S.r i)), .long (lN (tN S.r i))]) (rest := []) (c_X5_commonMultiple l E g (lcR S.r i) (tN S.r i) (by omega) (by omega) (by omega) (by omega) (show lcR S.r (i + 1) < 2 ^ 63 by omega)) rfl rfl rfl (Nat.le_of_ble_eq_true rfl) ⟨Nat.le_of_ble_eq_true rfl, Nat.le_of_ble_eq_true rfl⟩ (pk_l ?_)
        rintro r_29 g_29 ⟨hr_29, hq_29⟩
        obtain rfl := hq_29.symm
        rw [hr_29]
        clear hr_29 r_29
        refine y_lstore_n hC dX5_fullTurn_32 (i := 1) rfl (Nat.le_of_ble_eq_true rfl) rfl (lo' := [some (rf E (0)), some (.long (lN (lcR S.r (i + 1)))), none, some (.int (nI (i)))]) rfl ?_
        refine y_iinc_n hC dX5_fullTurn_33 (a := i) (k := 1) rfl (by decide) (Nat.le_of_ble_eq_true rfl) rfl (lo' := [some (rf E (0)), some (.long (lN (lcR S.r (i + 1)))), none, some (.int (nI (i + 1)))]) rfl ?_
        refine y_goto (tgt := 4) hC dX5_fullTurn_36 (by decide) ?_
        exact ih_4 (i + 1) (by omega) (by omega)
  exact L_4 (rc S.r + 1) 0 (by omega) (by omega)

