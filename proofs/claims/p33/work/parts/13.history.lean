/-! ===== a state copied; the history ===== -/
theorem zb01 {n : Nat} (h : n ≤ 1) : nI n = 0 ∨ nI n = 1 := by
  rcases (show n = 0 ∨ n = 1 by omega) with rfl | rfl
  · exact Or.inl rfl
  · exact Or.inr rfl
theorem zcpy0 {f h : Nat → Int32} {n k : Nat} (hk : k < n) : va_cpy f h 0 0 n k = f k := by
  rw [pk_cpy_in (Nat.zero_le _) (by omega)]
  exact congrArg f (by omega)
theorem dX4_copy_0 : decode cX4_copy 0 = .ok (.aload_n 1, 1) := by decide +kernel
theorem dX4_copy_1 : decode cX4_copy 1 = .ok (.getfield 9, 3) := by decide +kernel
theorem dX4_copy_4 : decode cX4_copy 4 = .ok (.iconst 0, 1) := by decide +kernel
theorem dX4_copy_5 : decode cX4_copy 5 = .ok (.aload_n 0, 1) := by decide +kernel
theorem dX4_copy_6 : decode cX4_copy 6 = .ok (.getfield 9, 3) := by decide +kernel
theorem dX4_copy_9 : decode cX4_copy 9 = .ok (.iconst 0, 1) := by decide +kernel
theorem dX4_copy_10 : decode cX4_copy 10 = .ok (.bipush 32, 2) := by decide +kernel
theorem dX4_copy_12 : decode cX4_copy 12 = .ok (.invokestatic 45, 3) := by decide +kernel
theorem dX4_copy_15 : decode cX4_copy 15 = .ok (.aload_n 1, 1) := by decide +kernel
theorem dX4_copy_16 : decode cX4_copy 16 = .ok (.getfield 15, 3) := by decide +kernel
theorem dX4_copy_19 : decode cX4_copy 19 = .ok (.iconst 0, 1) := by decide +kernel
theorem dX4_copy_20 : decode cX4_copy 20 = .ok (.aload_n 0, 1) := by decide +kernel
theorem dX4_copy_21 : decode cX4_copy 21 = .ok (.getfield 15, 3) := by decide +kernel
theorem dX4_copy_24 : decode cX4_copy 24 = .ok (.iconst 0, 1) := by decide +kernel
theorem dX4_copy_25 : decode cX4_copy 25 = .ok (.bipush 64, 2) := by decide +kernel
theorem dX4_copy_27 : decode cX4_copy 27 = .ok (.invokestatic 45, 3) := by decide +kernel
theorem dX4_copy_30 : decode cX4_copy 30 = .ok (.aload_n 0, 1) := by decide +kernel
theorem dX4_copy_31 : decode cX4_copy 31 = .ok (.aload_n 1, 1) := by decide +kernel
theorem dX4_copy_32 : decode cX4_copy 32 = .ok (.getfield 30, 3) := by decide +kernel
theorem dX4_copy_35 : decode cX4_copy 35 = .ok (.putfield 30, 3) := by decide +kernel
theorem dX4_copy_38 : decode cX4_copy 38 = .ok (.iconst 0, 1) := by decide +kernel
theorem dX4_copy_39 : decode cX4_copy 39 = .ok (.istore_n 2, 1) := by decide +kernel
theorem dX4_copy_40 : decode cX4_copy 40 = .ok (.iload_n 2, 1) := by decide +kernel
theorem dX4_copy_41 : decode cX4_copy 41 = .ok (.aload_n 0, 1) := by decide +kernel
theorem dX4_copy_42 : decode cX4_copy 42 = .ok (.getfield 30, 3) := by decide +kernel
theorem dX4_copy_45 : decode cX4_copy 45 = .ok (.if_icmp .ge 24, 3) := by decide +kernel
theorem dX4_copy_48 : decode cX4_copy 48 = .ok (.aload_n 0, 1) := by decide +kernel
theorem dX4_copy_49 : decode cX4_copy 49 = .ok (.getfield 20, 3) := by decide +kernel
theorem dX4_copy_52 : decode cX4_copy 52 = .ok (.iload_n 2, 1) := by decide +kernel
theorem dX4_copy_53 : decode cX4_copy 53 = .ok (.aaload, 1) := by decide +kernel
theorem dX4_copy_54 : decode cX4_copy 54 = .ok (.aload_n 1, 1) := by decide +kernel
theorem dX4_copy_55 : decode cX4_copy 55 = .ok (.getfield 20, 3) := by decide +kernel
theorem dX4_copy_58 : decode cX4_copy 58 = .ok (.iload_n 2, 1) := by decide +kernel
theorem dX4_copy_59 : decode cX4_copy 59 = .ok (.aaload, 1) := by decide +kernel
theorem dX4_copy_60 : decode cX4_copy 60 = .ok (.invokevirtual 51, 3) := by decide +kernel
theorem dX4_copy_63 : decode cX4_copy 63 = .ok (.iinc 2 1, 3) := by decide +kernel
theorem dX4_copy_66 : decode cX4_copy 66 = .ok (.goto (-26), 3) := by decide +kernel
theorem dX4_copy_69 : decode cX4_copy 69 = .ok (.aload_n 0, 1) := by decide +kernel
theorem dX4_copy_70 : decode cX4_copy 70 = .ok (.aload_n 1, 1) := by decide +kernel
theorem dX4_copy_71 : decode cX4_copy 71 = .ok (.getfield 34, 3) := by decide +kernel
theorem dX4_copy_74 : decode cX4_copy 74 = .ok (.putfield 34, 3) := by decide +kernel
theorem dX4_copy_77 : decode cX4_copy 77 = .ok (.iconst 0, 1) := by decide +kernel
theorem dX4_copy_78 : decode cX4_copy 78 = .ok (.istore_n 2, 1) := by decide +kernel
theorem dX4_copy_79 : decode cX4_copy 79 = .ok (.iload_n 2, 1) := by decide +kernel
theorem dX4_copy_80 : decode cX4_copy 80 = .ok (.aload_n 0, 1) := by decide +kernel
theorem dX4_copy_81 : decode cX4_copy 81 = .ok (.getfield 34, 3) := by decide +kernel
theorem dX4_copy_84 : decode cX4_copy 84 = .ok (.if_icmp .ge 24, 3) := by decide +kernel
theorem dX4_copy_87 : decode cX4_copy 87 = .ok (.aload_n 0, 1) := by decide +kernel
theorem dX4_copy_88 : decode cX4_copy 88 = .ok (.getfield 26, 3) := by decide +kernel
theorem dX4_copy_91 : decode cX4_copy 91 = .ok (.iload_n 2, 1) := by decide +kernel
theorem dX4_copy_92 : decode cX4_copy 92 = .ok (.aaload, 1) := by decide +kernel
theorem dX4_copy_93 : decode cX4_copy 93 = .ok (.aload_n 1, 1) := by decide +kernel
theorem dX4_copy_94 : decode cX4_copy 94 = .ok (.getfield 26, 3) := by decide +kernel
theorem dX4_copy_97 : decode cX4_copy 97 = .ok (.iload_n 2, 1) := by decide +kernel
theorem dX4_copy_98 : decode cX4_copy 98 = .ok (.aaload, 1) := by decide +kernel
theorem dX4_copy_99 : decode cX4_copy 99 = .ok (.invokevirtual 55, 3) := by decide +kernel
theorem dX4_copy_102 : decode cX4_copy 102 = .ok (.iinc 2 1, 3) := by decide +kernel
theorem dX4_copy_105 : decode cX4_copy 105 = .ok (.goto (-26), 3) := by decide +kernel
theorem dX4_copy_108 : decode cX4_copy 108 = .ok (.aload_n 0, 1) := by decide +kernel
theorem dX4_copy_109 : decode cX4_copy 109 = .ok (.aload_n 1, 1) := by decide +kernel
theorem dX4_copy_110 : decode cX4_copy 110 = .ok (.getfield 37, 3) := by decide +kernel
theorem dX4_copy_113 : decode cX4_copy 113 = .ok (.putfield 37, 3) := by decide +kernel
theorem dX4_copy_116 : decode cX4_copy 116 = .ok (.aload_n 0, 1) := by decide +kernel
theorem dX4_copy_117 : decode cX4_copy 117 = .ok (.aload_n 1, 1) := by decide +kernel
theorem dX4_copy_118 : decode cX4_copy 118 = .ok (.getfield 40, 3) := by decide +kernel
theorem dX4_copy_121 : decode cX4_copy 121 = .ok (.putfield 40, 3) := by decide +kernel
theorem dX4_copy_124 : decode cX4_copy 124 = .ok (.return_, 1) := by decide +kernel
set_option maxHeartbeats 4000000 in
set_option maxRecDepth 100000 in
theorem c_X4_copy (l : Launch) (E : gE) (g : Mem) (b b2 : Nat) (r r2 : Row) (B : Nat) (h : StA E g b r) (h2 : StA E g b2 r2) (hv2 : Vr r2 B) (hd : b2 + 15 ≤ b ∨ b + 15 ≤ b2) : Mt l E yX4_copy cX4_copy 3 none 1 26 [rf E (b), rf E (b2)] g (pV (fun g' => StA E g' b r2 ∧ Fr b g g')) := by
  obtain ⟨co, pi, π, ρ, V, U, n, hX0, -⟩ := h
  have hX := hX0.eta
  obtain ⟨co2, pi2, π2, ρ2, V2, U2, hZ, f1, f2, f3, f4⟩ := zStF h2 hv2
  have hrc : rc r2 ≤ 6 := hv2.1.2
  have hgc : gc r2 ≤ 4 := hv2.2.1.2
  refine mt_go (own := RX4) (by decide) rfl (lo := [some (rf E (b)), some (rf E (b2)), none]) rfl (Nat.le_of_ble_eq_true rfl) (fun X hC => ?_)
  refine y_aload_n hC dX4_copy_0 (i := 1) rfl rfl ?_
  refine y_get hC fX4_9 dX4_copy_1 (k := b2) (hZ.k (k := 0) (by decide)) hZ.s0 rfl ?_
  refine y_iconst (v := nI 0) hC dX4_copy_4 (by decide) ?_
  refine y_aload_n hC dX4_copy_5 (i := 0) rfl rfl ?_
  refine y_get hC fX4_9 dX4_copy_6 (k := b) (hX.k (k := 0) (by decide)) hX.s0 rfl ?_
  refine y_iconst (v := nI 0) hC dX4_copy_9 (by decide) ?_
  refine y_bipush (v := nI 32) hC dX4_copy_10 (by decide) ?_
  refine y_copy hC rfl kX4_45 wac_n wac_s wsys dX4_copy_12 (k := b2 + 1) (k2 := b + 1) (hZ.k (k := 1) (by decide)) hZ.s1 (hX.k (k := 1) (by decide)) hX.s1 (a := 0) (b := 0) (z := 32) rfl rfl rfl (by decide) (by decide) (by decide) (by decide) (by decide) (Nat.le_of_ble_eq_true rfl) ?_
  have hX_12 : SF E g (va_up g (b + 1) (aI E 0 32 (va_cpy co2 co (0) (0) (32)))) b (va_cpy co2 co (0) (0) (32)) pi π ρ V U (v4 ((n 0)) ((n 1)) ((n 2)) ((n 3))) := hX.upco _
  generalize (va_up g (b + 1) (aI E 0 32 (va_cpy co2 co (0) (0) (32)))) = g_12 at hX_12 ⊢
  have hZ_12 := hZ.on hX_12.fr hd
  refine y_aload_n hC dX4_copy_15 (i := 1) rfl rfl ?_
  refine y_get hC fX4_15 dX4_copy_16 (k := b2) (hZ_12.k (k := 0) (by decide)) hZ_12.s0 rfl ?_
  refine y_iconst (v := nI 0) hC dX4_copy_19 (by decide) ?_
  refine y_aload_n hC dX4_copy_20 (i := 0) rfl rfl ?_
  refine y_get hC fX4_15 dX4_copy_21 (k := b) (hX_12.k (k := 0) (by decide)) hX_12.s0 rfl ?_
  refine y_iconst (v := nI 0) hC dX4_copy_24 (by decide) ?_
  refine y_bipush (v := nI 64) hC dX4_copy_25 (by decide) ?_
  refine y_copy hC rfl kX4_45 wac_n wac_s wsys dX4_copy_27 (k := b2 + 2) (k2 := b + 2) (hZ_12.k (k := 2) (by decide)) hZ_12.s2 (hX_12.k (k := 2) (by decide)) hX_12.s2 (a := 0) (b := 0) (z := 64) rfl rfl rfl (by decide) (by decide) (by decide) (by decide) (by decide) (Nat.le_of_ble_eq_true rfl) ?_
  have hX_27 : SF E g (va_up g_12 (b + 2) (aI E 0 64 (va_cpy pi2 pi (0) (0) (64)))) b (va_cpy co2 co (0) (0) (32)) (va_cpy pi2 pi (0) (0) (64)) π ρ V U (v4 ((n 0)) ((n 1)) ((n 2)) ((n 3))) := hX_12.uppi _
  generalize (va_up g_12 (b + 2) (aI E 0 64 (va_cpy pi2 pi (0) (0) (64)))) = g_27 at hX_27 ⊢
  have hZ_27 := hZ.on hX_27.fr hd
  refine y_aload_n hC dX4_copy_30 (i := 0) rfl rfl ?_
  refine y_aload_n hC dX4_copy_31 (i := 1) rfl rfl ?_
  refine y_get hC fX4_30 dX4_copy_32 (k := b2) (hZ_27.k (k := 0) (by decide)) hZ_27.s0 rfl ?_
  refine y_put hC fpX4_30 dX4_copy_35 (k := b) (hX_27.k (k := 0) (by decide)) hX_27.s0 (Nat.le_of_ble_eq_true rfl) (rfl) (rfl) (fs' := [rf E (b + 1), rf E (b + 2), rf E (b + 3), rf E (b + 4), .int (nI (rc r2)), .int (n 1), .int (n 2), .int (n 3)]) rfl ?_
  have hX_35 : SF E g (va_up g_27 (b) (oB 4 [rf E (b + 1), rf E (b + 2), rf E (b + 3), rf E (b + 4), .int (nI (rc r2)), .int (n 1), .int (n 2), .int (n 3)])) b (va_cpy co2 co (0) (0) (32)) (va_cpy pi2 pi (0) (0) (64)) π ρ V U (v4 (nI (rc r2)) ((n 1)) ((n 2)) ((n 3))) := hX_27.upn (v4 (nI (rc r2)) ((n 1)) ((n 2)) ((n 3)))
  generalize (va_up g_27 (b) (oB 4 [rf E (b + 1), rf E (b + 2), rf E (b + 3), rf E (b + 4), .int (nI (rc r2)), .int (n 1), .int (n 2), .int (n 3)])) = g_35 at hX_35 ⊢
  have hZ_35 := hZ.on hX_35.fr hd
  refine y_iconst (v := nI 0) hC dX4_copy_38 (by decide) ?_
  refine y_istore_n hC dX4_copy_39 (i := 2) rfl (Nat.le_of_ble_eq_true rfl) rfl (lo' := [some (rf E (b)), some (rf E (b2)), some (.int (nI (0)))]) rfl ?_
  have L_40 : ∀ (m : Nat) (i : Nat) (g1 : Mem) (V1 : Nat → Nat → Int32), (hm : rc r2 - i < m) → (hi : i ≤ rc r2) → (hX1 : SF E g g1 b (va_cpy co2 co (0) (0) (32)) (va_cpy pi2 pi (0) (0) (64)) π ρ V1 U (v4 (nI (rc r2)) ((n 1)) ((n 2)) ((n 3)))) → (hk1 : ∀ k, k < i → ∀ j, j < 7 → V1 k j = r2 (33 + 7 * k + j)) → Y l E X (pV (fun g' => StA E g' b r2 ∧ Fr b g g')) 40 [some (rf E (b)), some (rf E (b2)), some (.int (nI (i)))] [] g1 := by
    intro m
    induction m with
    | zero => intro i g1 V1 hm hi hX1 hk1; exact absurd hm (Nat.not_lt_zero _)
    | succ m ih_40 =>
      intro i g1 V1 hm hi hX1 hk1
      have hZ1 := hZ.on hX1.fr hd
      refine y_iload_n hC dX4_copy_40 (i := 2) rfl rfl ?_
      refine y_aload_n hC dX4_copy_41 (i := 0) rfl rfl ?_
      refine y_get hC fX4_30 dX4_copy_42 (k := b) (hX1.k (k := 0) (by decide)) hX1.s0 rfl ?_
      refine y_icmp_ge_n (tgt := 69) hC dX4_copy_45 (by decide) (by omega) (by omega) (fun c_45 => ?_) (fun c_45 => ?_)
      · refine y_aload_n hC dX4_copy_69 (i := 0) rfl rfl ?_
        refine y_aload_n hC dX4_copy_70 (i := 1) rfl rfl ?_
        refine y_get hC fX4_34 dX4_copy_71 (k := b2) (hZ1.k (k := 0) (by decide)) hZ1.s0 rfl ?_
        refine y_put hC fpX4_34 dX4_copy_74 (k := b) (hX1.k (k := 0) (by decide)) hX1.s0 (Nat.le_of_ble_eq_true rfl) (rfl) (rfl) (fs' := [rf E (b + 1), rf E (b + 2), rf E (b + 3), rf E (b + 4), .int (nI (rc r2)), .int (nI (gc r2)), .int (n 2), .int (n 3)]) rfl ?_
        have hX_74 : SF E g (va_up g1 (b) (oB 4 [rf E (b + 1), rf E (b + 2), rf E (b + 3), rf E (b + 4), .int (nI (rc r2)), .int (nI (gc r2)), .int (n 2), .int (n 3)])) b (va_cpy co2 co (0) (0) (32)) (va_cpy pi2 pi (0) (0) (64)) π ρ V1 U (v4 (nI (rc r2)) (nI (gc r2)) ((n 2)) ((n 3))) := hX1.upn (v4 (nI (rc r2)) (nI (gc r2)) ((n 2)) ((n 3)))
        generalize (va_up g1 (b) (oB 4 [rf E (b + 1), rf E (b + 2), rf E (b + 3), rf E (b + 4), .int (nI (rc r2)), .int (nI (gc r2)), .int (n 2), .int (n 3)])) = g_74 at hX_74 ⊢
        have hZ_74 := hZ.on hX_74.fr hd
        refine y_iconst (v := nI 0) hC dX4_copy_77 (by decide) ?_
        refine y_istore_n hC dX4_copy_78 (i := 2) rfl (Nat.le_of_ble_eq_true rfl) rfl (lo' := [some (rf E (b)), some (rf E (b2)), some (.int (nI (0)))]) rfl ?_
        have hk3 : ∀ k, k < rc r2 → ∀ j, j < 7 → V1 k j = r2 (33 + 7 * k + j) := fun k hk => hk1 k (by omega)
        clear hk1 hi ih_40
        have L_79 : ∀ (m : Nat) (i : Nat) (g2 : Mem) (U1 : Nat → Nat → Int32), (hm : gc r2 - i < m) → (hi : i ≤ gc r2) → (hX2 : SF E g g2 b (va_cpy co2 co (0) (0) (32)) (va_cpy pi2 pi (0) (0) (64)) π ρ V1 U1 (v4 (nI (rc r2)) (nI (gc r2)) ((n 2)) ((n 3)))) → (hs1 : ∀ k, k < i → ∀ j, j < 4 → U1 k j = r2 (76 + 4 * k + j)) → Y l E X (pV (fun g' => StA E g' b r2 ∧ Fr b g g')) 79 [some (rf E (b)), some (rf E (b2)), some (.int (nI (i)))] [] g2 := by
          intro m
          induction m with
          | zero => intro i g2 U1 hm hi hX2 hs1; exact absurd hm (Nat.not_lt_zero _)
          | succ m ih_79 =>
            intro i g2 U1 hm hi hX2 hs1
            have hZ2 := hZ.on hX2.fr hd
            refine y_iload_n hC dX4_copy_79 (i := 2) rfl rfl ?_
            refine y_aload_n hC dX4_copy_80 (i := 0) rfl rfl ?_
            refine y_get hC fX4_34 dX4_copy_81 (k := b) (hX2.k (k := 0) (by decide)) hX2.s0 rfl ?_
            refine y_icmp_ge_n (tgt := 108) hC dX4_copy_84 (by decide) (by omega) (by omega) (fun c_84 => ?_) (fun c_84 => ?_)
            · refine y_aload_n hC dX4_copy_108 (i := 0) rfl rfl ?_
              refine y_aload_n hC dX4_copy_109 (i := 1) rfl rfl ?_
              refine y_get hC fX4_37 dX4_copy_110 (k := b2) (hZ2.k (k := 0) (by decide)) hZ2.s0 rfl ?_
              refine y_put hC fpX4_37 dX4_copy_113 (k := b) (hX2.k (k := 0) (by decide)) hX2.s0 (Nat.le_of_ble_eq_true rfl) (rfl) (rfl) (fs' := [rf E (b + 1), rf E (b + 2), rf E (b + 3), rf E (b + 4), .int (nI (rc r2)), .int (nI (gc r2)), .int (nI (nn (r2 156))), .int (n 3)]) rfl ?_
              have hX_113 : SF E g (va_up g2 (b) (oB 4 [rf E (b + 1), rf E (b + 2), rf E (b + 3), rf E (b + 4), .int (nI (rc r2)), .int (nI (gc r2)), .int (nI (nn (r2 156))), .int (n 3)])) b (va_cpy co2 co (0) (0) (32)) (va_cpy pi2 pi (0) (0) (64)) π ρ V1 U1 (v4 (nI (rc r2)) (nI (gc r2)) (nI (nn (r2 156))) ((n 3))) := hX2.upn (v4 (nI (rc r2)) (nI (gc r2)) (nI (nn (r2 156))) ((n 3)))
              generalize (va_up g2 (b) (oB 4 [rf E (b + 1), rf E (b + 2), rf E (b + 3), rf E (b + 4), .int (nI (rc r2)), .int (nI (gc r2)), .int (nI (nn (r2 156))), .int (n 3)])) = g_113 at hX_113 ⊢
              have hZ_113 := hZ.on hX_113.fr hd
              refine y_aload_n hC dX4_copy_116 (i := 0) rfl rfl ?_
              refine y_aload_n hC dX4_copy_117 (i := 1) rfl rfl ?_
              refine y_get hC fX4_40 dX4_copy_118 (k := b2) (hZ_113.k (k := 0) (by decide)) hZ_113.s0 rfl ?_
              refine y_put hC fpX4_40 dX4_copy_121 (k := b) (hX_113.k (k := 0) (by decide)) hX_113.s0 (Nat.le_of_ble_eq_true rfl) (rfl) (rfl) (fs' := [rf E (b + 1), rf E (b + 2), rf E (b + 3), rf E (b + 4), .int (nI (rc r2)), .int (nI (gc r2)), .int (nI (nn (r2 156))), .int (nI (nn (r2 157)))]) rfl ?_
              have hX_121 : SF E g (va_up g_113 (b) (oB 4 [rf E (b + 1), rf E (b + 2), rf E (b + 3), rf E (b + 4), .int (nI (rc r2)), .int (nI (gc r2)), .int (nI (nn (r2 156))), .int (nI (nn (r2 157)))])) b (va_cpy co2 co (0) (0) (32)) (va_cpy pi2 pi (0) (0) (64)) π ρ V1 U1 (v4 (nI (rc r2)) (nI (gc r2)) (nI (nn (r2 156))) (nI (nn (r2 157)))) := hX_113.upn (v4 (nI (rc r2)) (nI (gc r2)) (nI (nn (r2 156))) (nI (nn (r2 157))))
              generalize (va_up g_113 (b) (oB 4 [rf E (b + 1), rf E (b + 2), rf E (b + 3), rf E (b + 4), .int (nI (rc r2)), .int (nI (gc r2)), .int (nI (nn (r2 156))), .int (nI (nn (r2 157)))])) = g_121 at hX_121 ⊢
              have hZ_121 := hZ.on hX_121.fr hd
              refine y_vret (hC := hC) (hd := dX4_copy_124) (hq := ?_)
              exact hX_121.st ⟨fun k hk => (zcpy0 hk).trans (f1 k hk), fun k hk => (zcpy0 hk).trans (f2 k hk), ⟨hv2.1.1.symm, hv2.2.1.1.symm, hv2.2.2.2.2.2.2.2.1.1.symm, hv2.2.2.2.2.2.2.2.2.1.symm⟩, hk3, fun k hk => hs1 k (by omega)⟩
            · have hlt : i < gc r2 := by omega
              obtain ⟨⟨q1, q2, q3⟩, -⟩ := hv2.gl (i := i) hlt
              have hne : b2 + 11 + ρ2 i ≠ b + 11 + ρ i := by
                have h1 := hX2.2.2.2.2.2.2.2.2.1.1 i (by omega)
                have h2 := hZ2.2.2.2.2.2.2.2.2.1.1 i (by omega)
                omega
              refine y_aload_n hC dX4_copy_87 (i := 0) rfl rfl ?_
              refine y_get hC fX4_26 dX4_copy_88 (k := b) (hX2.k (k := 0) (by decide)) hX2.s0 rfl ?_
              refine y_iload_n hC dX4_copy_91 (i := 2) rfl rfl ?_
              refine y_aald hC (Or.inr (Or.inl ⟨rfl, rfl, rfl⟩) : yT 4 0 RX0) dX4_copy_92 (k := b + 4) (j := i) (hX2.k (k := 4) (by decide)) hX2.s4 (rfl) (by omega) (by decide) ?_
              refine y_aload_n hC dX4_copy_93 (i := 1) rfl rfl ?_
              refine y_get hC fX4_26 dX4_copy_94 (k := b2) (hZ2.k (k := 0) (by decide)) hZ2.s0 rfl ?_
              refine y_iload_n hC dX4_copy_97 (i := 2) rfl rfl ?_
              refine y_aald hC (Or.inr (Or.inl ⟨rfl, rfl, rfl⟩) : yT 4 0 RX0) dX4_copy_98 (k := b2 + 4) (j := i) (hZ2.k (k := 4) (by decide)) hZ2.s4 (rfl) (by omega) (by decide) ?_
              refine y_callV hC mX0_copy kX4_55 dX4_copy_99 (b := b + 11 + ρ (i)) (As := [rf E (b2 + 11 + ρ2 (i))]) (rest := []) (c_X0_copy l E g2 (b + 11 + ρ (i)) (hX2.kU (i := i) (by omega)) _ _ _ _ (hX2.vU (i := i) (by omega)) (b2 + 11 + ρ2 (i)) (hZ2.kU (i := i) (by omega)) hne _ _ _ _ (hZ2.rU hv2 (i := i) (by omega) (f4 i (by omega)))) (hX2.kU (i := i) (by omega)) (hX2.vU (i := i) (by omega)) rfl rfl rfl (Nat.le_of_ble_eq_true rfl) ⟨Nat.le_of_ble_eq_true rfl, Nat.le_of_ble_eq_true rfl⟩ (pk_v ?_)
              rintro g_99 hq_99
              have hX_99 : SF E g g_99 b (va_cpy co2 co (0) (0) (32)) (va_cpy pi2 pi (0) (0) (64)) π ρ V1 (va_up U1 (i) (v4 (nI (gl r2 (i) 0)) ((r2 (76 + 4 * (i) + 1))) (nI (gl r2 (i) 2)) (nI (gl r2 (i) 3)))) (v4 (nI (rc r2)) (nI (gc r2)) ((n 2)) ((n 3))) := by rw [hq_99]; exact hX2.upU (i := i) (by omega) (v4 (nI (gl r2 (i) 0)) ((r2 (76 + 4 * (i) + 1))) (nI (gl r2 (i) 2)) (nI (gl r2 (i) 3)))
              refine y_iinc_n hC dX4_copy_102 (a := i) (k := 1) rfl (by decide) (Nat.le_of_ble_eq_true rfl) rfl (lo' := [some (rf E (b)), some (rf E (b2)), some (.int (nI (i + 1)))]) rfl ?_
              refine y_goto (tgt := 79) hC dX4_copy_105 (by decide) ?_
              have hk2 : ∀ k, k < i + 1 → ∀ j, j < 4 → (va_up U1 (i) (v4 (nI (gl r2 (i) 0)) ((r2 (76 + 4 * (i) + 1))) (nI (gl r2 (i) 2)) (nI (gl r2 (i) 3)))) k j = r2 (76 + 4 * k + j) := by
                intro k hk
                by_cases e : k = i
                · subst e
                  rw [va_up_self]
                  exact v4_j (f := fun j => r2 (76 + 4 * k + j)) q1.symm rfl q2.symm q3.symm
                · rw [va_up_ne _ _ e]
                  exact hs1 k (by omega)
              exact ih_79 (i + 1) g_99 _ (by omega) (by omega) hX_99 hk2
        exact L_79 (gc r2 + 1) 0 g_74 U (by omega) (by omega) hX_74 (fun k hk => absurd hk (Nat.not_lt_zero k))
      · have hlt : i < rc r2 := by omega
        obtain ⟨q1, q2, q3, q4, q5, q6, q7, q8, q9⟩ := hv2.rg (i := i) hlt
        have hne : b2 + 5 + π2 i ≠ b + 5 + π i := by
          have h1 := hX1.2.2.2.2.2.2.2.1.1 i (by omega)
          have h2 := hZ1.2.2.2.2.2.2.2.1.1 i (by omega)
          omega
        refine y_aload_n hC dX4_copy_48 (i := 0) rfl rfl ?_
        refine y_get hC fX4_20 dX4_copy_49 (k := b) (hX1.k (k := 0) (by decide)) hX1.s0 rfl ?_
        refine y_iload_n hC dX4_copy_52 (i := 2) rfl rfl ?_
        refine y_aald hC (Or.inl ⟨rfl, rfl, rfl⟩ : yT 3 3 RX3) dX4_copy_53 (k := b + 3) (j := i) (hX1.k (k := 3) (by decide)) hX1.s3 (rfl) (by omega) (by decide) ?_
        refine y_aload_n hC dX4_copy_54 (i := 1) rfl rfl ?_
        refine y_get hC fX4_20 dX4_copy_55 (k := b2) (hZ1.k (k := 0) (by decide)) hZ1.s0 rfl ?_
        refine y_iload_n hC dX4_copy_58 (i := 2) rfl rfl ?_
        refine y_aald hC (Or.inl ⟨rfl, rfl, rfl⟩ : yT 3 3 RX3) dX4_copy_59 (k := b2 + 3) (j := i) (hZ1.k (k := 3) (by decide)) hZ1.s3 (rfl) (by omega) (by decide) ?_
        refine y_callV hC mX3_copy kX4_51 dX4_copy_60 (b := b + 5 + π (i)) (As := [rf E (b2 + 5 + π2 (i))]) (rest := []) (c_X3_copy l E g1 (b + 5 + π (i)) (hX1.kV (i := i) (by omega)) _ _ _ _ _ _ _ (hX1.vV (i := i) (by omega)) (b2 + 5 + π2 (i)) (hZ1.kV (i := i) (by omega)) hne _ _ _ _ _ _ _ (zb01 q7) (hZ1.rV hv2 (i := i) (by omega) (f3 i (by omega)))) (hX1.kV (i := i) (by omega)) (hX1.vV (i := i) (by omega)) rfl rfl rfl (Nat.le_of_ble_eq_true rfl) ⟨Nat.le_of_ble_eq_true rfl, Nat.le_of_ble_eq_true rfl⟩ (pk_v ?_)
        rintro g_60 hq_60
        have hX_60 : SF E g g_60 b (va_cpy co2 co (0) (0) (32)) (va_cpy pi2 pi (0) (0) (64)) π ρ (va_up V1 (i) (v7 (nI (rg r2 (i) 0)) (nI (rg r2 (i) 1)) (nI (rg r2 (i) 2)) (nI (rg r2 (i) 3)) (nI (rg r2 (i) 4)) (nI (rg r2 (i) 5)) (nI (rg r2 (i) 6)))) U (v4 (nI (rc r2)) ((n 1)) ((n 2)) ((n 3))) := by rw [hq_60]; exact hX1.upV (i := i) (by omega) (v7 (nI (rg r2 (i) 0)) (nI (rg r2 (i) 1)) (nI (rg r2 (i) 2)) (nI (rg r2 (i) 3)) (nI (rg r2 (i) 4)) (nI (rg r2 (i) 5)) (nI (rg r2 (i) 6)))
        refine y_iinc_n hC dX4_copy_63 (a := i) (k := 1) rfl (by decide) (Nat.le_of_ble_eq_true rfl) rfl (lo' := [some (rf E (b)), some (rf E (b2)), some (.int (nI (i + 1)))]) rfl ?_
        refine y_goto (tgt := 40) hC dX4_copy_66 (by decide) ?_
        have hk2 : ∀ k, k < i + 1 → ∀ j, j < 7 → (va_up V1 (i) (v7 (nI (rg r2 (i) 0)) (nI (rg r2 (i) 1)) (nI (rg r2 (i) 2)) (nI (rg r2 (i) 3)) (nI (rg r2 (i) 4)) (nI (rg r2 (i) 5)) (nI (rg r2 (i) 6)))) k j = r2 (33 + 7 * k + j) := by
          intro k hk
          by_cases e : k = i
          · subst e
            rw [va_up_self]
            exact v7_j (f := fun j => r2 (33 + 7 * k + j)) (q1 0 (by decide)).symm (q1 1 (by decide)).symm (q1 2 (by decide)).symm (q1 3 (by decide)).symm (q1 4 (by decide)).symm (q1 5 (by decide)).symm (q1 6 (by decide)).symm
          · rw [va_up_ne _ _ e]
            exact hk1 k (by omega)
        exact ih_40 (i + 1) g_60 _ (by omega) (by omega) hX_60 hk2
  exact L_40 (rc r2 + 1) 0 g_35 V (by omega) (by omega) hX_35 (fun k hk => absurd hk (Nat.not_lt_zero k))

/-- the history: c states, the oldest first; the snapshot, if there is one -/
def HA (E : gE) (g : Mem) (c kp : Nat) (hr : Nat → Row) (sn : Row) : Prop :=
  100 ≤ eK E ∧ c ≤ 4 ∧ kp ≤ 1 ∧ g 16 = oB 1 [rf E 17, rf E 18, .int (nI c), .int (nI kp)] ∧
  (∃ π : Nat → Nat, Pm 4 π ∧ g 17 = aR E 5 4 (fun i => 33 + 15 * π i) ∧ (∀ i, i < 4 → ∃ r, StA E g (33 + 15 * π i) r) ∧ ∀ i, i < c → StA E g (33 + 15 * π i) (hr i)) ∧ (∃ r, StA E g 18 r) ∧ (kp = 1 → StA E g 18 sn)
def recC (c : Nat) : Nat := if c = 4 then 4 else c + 1
def recH (c : Nat) (hr : Nat → Row) (r : Row) : Nat → Row := fun i => if c = 4 then (if i < 3 then hr (i + 1) else r) else if i < c then hr i else r
/-- outside the history's cells nothing has changed -/
def Fh (g g2 : Mem) : Prop := ∀ k, k < 16 ∨ 93 ≤ k → g2 k = g k
theorem StA.ne16 {E : gE} {g : Mem} {b k : Nat} {e : va_E} {r : Row} (h : StA E g b r) (hk : k < b ∨ b + 15 ≤ k) : StA E (va_up g k e) b r := h.keep (fun j h1 h2 => va_up_ne _ _ (by omega))
theorem StA.of_lt {E : gE} {g : Mem} {b : Nat} {r : Row} (h : StA E g b r) : b < eK E ∧ ∃ fs, g b = oB 4 fs := by
  obtain ⟨co, pi, π, ρ, V, U, n, h1, -⟩ := h
  exact ⟨by have := h1.1; omega, _, h1.2.2.1⟩
theorem dX1_dropOldest_0 : decode cX1_dropOldest 0 = .ok (.aload_n 0, 1) := by decide +kernel
theorem dX1_dropOldest_1 : decode cX1_dropOldest 1 = .ok (.getfield 11, 3) := by decide +kernel
theorem dX1_dropOldest_4 : decode cX1_dropOldest 4 = .ok (.iconst 0, 1) := by decide +kernel
theorem dX1_dropOldest_5 : decode cX1_dropOldest 5 = .ok (.aaload, 1) := by decide +kernel
theorem dX1_dropOldest_6 : decode cX1_dropOldest 6 = .ok (.astore_n 1, 1) := by decide +kernel
theorem dX1_dropOldest_7 : decode cX1_dropOldest 7 = .ok (.aload_n 0, 1) := by decide +kernel
theorem dX1_dropOldest_8 : decode cX1_dropOldest 8 = .ok (.dup, 1) := by decide +kernel
theorem dX1_dropOldest_9 : decode cX1_dropOldest 9 = .ok (.getfield 22, 3) := by decide +kernel
theorem dX1_dropOldest_12 : decode cX1_dropOldest 12 = .ok (.iconst 1, 1) := by decide +kernel
theorem dX1_dropOldest_13 : decode cX1_dropOldest 13 = .ok (.isub, 1) := by decide +kernel
theorem dX1_dropOldest_14 : decode cX1_dropOldest 14 = .ok (.putfield 22, 3) := by decide +kernel
theorem dX1_dropOldest_17 : decode cX1_dropOldest 17 = .ok (.iconst 0, 1) := by decide +kernel
theorem dX1_dropOldest_18 : decode cX1_dropOldest 18 = .ok (.istore_n 2, 1) := by decide +kernel
theorem dX1_dropOldest_19 : decode cX1_dropOldest 19 = .ok (.iload_n 2, 1) := by decide +kernel
theorem dX1_dropOldest_20 : decode cX1_dropOldest 20 = .ok (.aload_n 0, 1) := by decide +kernel
theorem dX1_dropOldest_21 : decode cX1_dropOldest 21 = .ok (.getfield 22, 3) := by decide +kernel
theorem dX1_dropOldest_24 : decode cX1_dropOldest 24 = .ok (.if_icmp .ge 23, 3) := by decide +kernel
theorem dX1_dropOldest_27 : decode cX1_dropOldest 27 = .ok (.aload_n 0, 1) := by decide +kernel
theorem dX1_dropOldest_28 : decode cX1_dropOldest 28 = .ok (.getfield 11, 3) := by decide +kernel
theorem dX1_dropOldest_31 : decode cX1_dropOldest 31 = .ok (.iload_n 2, 1) := by decide +kernel
theorem dX1_dropOldest_32 : decode cX1_dropOldest 32 = .ok (.aload_n 0, 1) := by decide +kernel
theorem dX1_dropOldest_33 : decode cX1_dropOldest 33 = .ok (.getfield 11, 3) := by decide +kernel
theorem dX1_dropOldest_36 : decode cX1_dropOldest 36 = .ok (.iload_n 2, 1) := by decide +kernel
theorem dX1_dropOldest_37 : decode cX1_dropOldest 37 = .ok (.iconst 1, 1) := by decide +kernel
theorem dX1_dropOldest_38 : decode cX1_dropOldest 38 = .ok (.iadd, 1) := by decide +kernel
theorem dX1_dropOldest_39 : decode cX1_dropOldest 39 = .ok (.aaload, 1) := by decide +kernel
theorem dX1_dropOldest_40 : decode cX1_dropOldest 40 = .ok (.aastore, 1) := by decide +kernel
theorem dX1_dropOldest_41 : decode cX1_dropOldest 41 = .ok (.iinc 2 1, 3) := by decide +kernel
theorem dX1_dropOldest_44 : decode cX1_dropOldest 44 = .ok (.goto (-25), 3) := by decide +kernel
theorem dX1_dropOldest_47 : decode cX1_dropOldest 47 = .ok (.aload_n 0, 1) := by decide +kernel
theorem dX1_dropOldest_48 : decode cX1_dropOldest 48 = .ok (.getfield 11, 3) := by decide +kernel
theorem dX1_dropOldest_51 : decode cX1_dropOldest 51 = .ok (.aload_n 0, 1) := by decide +kernel
theorem dX1_dropOldest_52 : decode cX1_dropOldest 52 = .ok (.getfield 22, 3) := by decide +kernel
theorem dX1_dropOldest_55 : decode cX1_dropOldest 55 = .ok (.aload_n 1, 1) := by decide +kernel
theorem dX1_dropOldest_56 : decode cX1_dropOldest 56 = .ok (.aastore, 1) := by decide +kernel
theorem dX1_dropOldest_57 : decode cX1_dropOldest 57 = .ok (.return_, 1) := by decide +kernel
set_option maxHeartbeats 4000000 in
set_option maxRecDepth 100000 in
theorem c_X1_dropOldest (l : Launch) (E : gE) (g : Mem) (kp : Nat) (hr : Nat → Row) (sn : Row) (h : HA E g 4 kp hr sn) : Mt l E yX1_dropOldest cX1_dropOldest 3 none 0 0 [rf E (16)] g (pV (fun g' => HA E g' 3 kp (fun i => hr (i + 1)) sn ∧ ∀ k, k ≠ 16 → k ≠ 17 → g' k = g k)) := by
  obtain ⟨hK, hc4, hkp, h16, ⟨π, hπ, h17, hs, hh⟩, hsn0, hsn⟩ := h
  have hS5 : ∀ j, j < 4 → 33 + 15 * π j < eK E ∧ ∃ fs, (va_up (va_up g 16 (oB 1 [rf E 17, rf E 18, .int (nI 3), .int (nI kp)])) 17 (aR E 5 4 (fun k => 33))) (33 + 15 * π j) = oB 4 fs := by
    intro j hj
    obtain ⟨r, hr⟩ := hs j hj
    obtain ⟨h1, fs, h2⟩ := hr.of_lt
    exact ⟨h1, fs, (va_up_ne _ _ (by omega)).trans ((va_up_ne _ _ (by omega)).trans h2)⟩
  clear hS5
  have hS5 : ∀ (X : va_E) (j : Nat), j < 4 → 33 + 15 * π j < eK E ∧ ∃ fs, (va_up (va_up g (16) (oB 1 [rf E (17), rf E (18), .int (nI (3)), .int (nI (kp))])) 17 X) (33 + 15 * π j) = oB 4 fs := by
    intro X j hj
    obtain ⟨r, hr⟩ := hs j hj
    obtain ⟨h1, fs, h2⟩ := hr.of_lt
    exact ⟨h1, fs, (va_up_ne _ _ (by omega)).trans ((va_up_ne _ _ (by omega)).trans h2)⟩
  refine mt_go (own := RX1) (by decide) rfl (lo := [some (rf E (16)), none, none]) rfl (Nat.le_of_ble_eq_true rfl) (fun X hC => ?_)
  refine y_aload_n hC dX1_dropOldest_0 (i := 0) rfl rfl ?_
  refine y_get hC fX1_11 dX1_dropOldest_1 (k := 16) (by omega) h16 rfl ?_
  refine y_iconst (v := nI 0) hC dX1_dropOldest_4 (by decide) ?_
  refine y_aald hC (Or.inr (Or.inr ⟨rfl, rfl, rfl⟩) : yT 5 4 RX4) dX1_dropOldest_5 (k := 17) (j := 0) (by omega) h17 (rfl) (by omega) (by decide) ?_
  refine y_astore_n hC (o := some (33 + 15 * π (0))) dX1_dropOldest_6 (i := 1) rfl (Nat.le_of_ble_eq_true rfl) rfl (lo' := [some (rf E (16)), some (rf E (33 + 15 * π (0))), none]) rfl ?_
  refine y_aload_n hC dX1_dropOldest_7 (i := 0) rfl rfl ?_
  refine y_dup hC dX1_dropOldest_8 rfl ?_
  refine y_get hC fX1_22 dX1_dropOldest_9 (k := 16) (by omega) h16 rfl ?_
  refine y_iconst (v := nI 1) hC dX1_dropOldest_12 (by decide) ?_
  refine y_isub_n hC dX1_dropOldest_13 (by decide) ?_
  refine y_top (y := nI 3) rfl ?_
  refine y_put hC fpX1_22 dX1_dropOldest_14 (k := 16) (by omega) h16 (Nat.le_of_ble_eq_true rfl) (rfl) (rfl) (fs' := [rf E (17), rf E (18), .int (nI (3)), .int (nI (kp))]) rfl ?_
  refine y_iconst (v := nI 0) hC dX1_dropOldest_17 (by decide) ?_
  refine y_istore_n hC dX1_dropOldest_18 (i := 2) rfl (Nat.le_of_ble_eq_true rfl) rfl (lo' := [some (rf E (16)), some (rf E (33 + 15 * π (0))), some (.int (nI (0)))]) rfl ?_
  refine y_mem (g2 := va_up (va_up g (16) (oB 1 [rf E (17), rf E (18), .int (nI (3)), .int (nI (kp))])) 17 (aR E 5 4 (fun k => 33 + 15 * π (sft 0 0 k)))) ?_ ?_
  · refine (zup_same ?_).symm
    rw [va_up_ne _ _ (by decide), h17]
    refine congrArg (aR E 5 4) (funext fun k => ?_)
    unfold sft
    rw [if_neg (by omega)]
  have L_19 : ∀ (m : Nat) (i : Nat), (hm : 3 - i < m) → (hi : i ≤ 3) → Y l E X (pV (fun g' => HA E g' 3 kp (fun i => hr (i + 1)) sn ∧ ∀ k, k ≠ 16 → k ≠ 17 → g' k = g k)) 19 [some (rf E (16)), some (rf E (33 + 15 * π (0))), some (.int (nI (i)))] [] (va_up (va_up g (16) (oB 1 [rf E (17), rf E (18), .int (nI (3)), .int (nI (kp))])) 17 (aR E 5 4 (fun k => 33 + 15 * π (sft 0 (i) k)))) := by
    intro m
    induction m with
    | zero => intro i hm hi; exact absurd hm (Nat.not_lt_zero _)
    | succ m ih_19 =>
      intro i hm hi
      refine y_iload_n hC dX1_dropOldest_19 (i := 2) rfl rfl ?_
      refine y_aload_n hC dX1_dropOldest_20 (i := 0) rfl rfl ?_
      refine y_get hC fX1_22 dX1_dropOldest_21 (k := 16) (by omega) ((va_up_ne _ _ (by decide)).trans (va_up_self _ _ _)) rfl ?_
      refine y_icmp_ge_n (tgt := 47) hC dX1_dropOldest_24 (by decide) (by omega) (by omega) (fun c_24 => ?_) (fun c_24 => ?_)
      · refine y_aload_n hC dX1_dropOldest_47 (i := 0) rfl rfl ?_
        refine y_get hC fX1_11 dX1_dropOldest_48 (k := 16) (by omega) ((va_up_ne _ _ (by decide)).trans (va_up_self _ _ _)) rfl ?_
        refine y_aload_n hC dX1_dropOldest_51 (i := 0) rfl rfl ?_
        refine y_get hC fX1_22 dX1_dropOldest_52 (k := 16) (by omega) ((va_up_ne _ _ (by decide)).trans (va_up_self _ _ _)) rfl ?_
        refine y_aload_n hC dX1_dropOldest_55 (i := 1) rfl rfl ?_
        refine y_aast hC (Or.inr (Or.inr ⟨rfl, rfl, rfl⟩) : yT 5 4 RX4) dX1_dropOldest_56 (k := 17) (j := 3) (by omega) (va_up_self _ _ _) (r := 33 + 15 * π (0)) (hS5 (g 0) (0) (by omega)).1 (hS5 _ (0) (by omega)).2.choose_spec (rfl) (by omega) (by decide) ?_
        refine y_mem (g2 := va_up (va_up g (16) (oB 1 [rf E (17), rf E (18), .int (nI (3)), .int (nI (kp))])) 17 (aR E 5 4 (fun k => 33 + 15 * π (cyc 0 3 k)))) ?_ ?_
        · rw [zup_up]
          refine congrArg (va_up (va_up g (16) (oB 1 [rf E (17), rf E (18), .int (nI (3)), .int (nI (kp))])) 17) (congrArg (aR E 5 4) (funext fun k => ?_))
          by_cases e : k = 3
          · rw [e, va_up_self]
            unfold cyc
            (repeat (first | rw [if_neg (by omega)] | rw [if_pos (by omega)]))
          · rw [va_up_ne _ _ e]
            unfold cyc sft
            by_cases e2 : 0 ≤ k ∧ k < i
            · rw [if_pos e2, if_pos ⟨e2.1, by omega⟩]
            · rw [if_neg e2, if_neg (by omega), if_neg e]
        refine y_vret (hC := hC) (hd := dX1_dropOldest_57) (hq := ?_)
        refine ⟨⟨hK, by omega, hkp, (va_up_ne _ _ (by decide)).trans (va_up_self _ _ _), ⟨fun k => π (cyc 0 3 k), ⟨fun i hi => hπ.1 _ ((cyc_pm (a := 0) (m := 3) (n := 4) (by omega) (by omega)).1 i hi), fun i j hi hj e => (cyc_pm (a := 0) (m := 3) (n := 4) (by omega) (by omega)).2 i j hi hj (hπ.2 _ _ ((cyc_pm (a := 0) (m := 3) (n := 4) (by omega) (by omega)).1 i hi) ((cyc_pm (a := 0) (m := 3) (n := 4) (by omega) (by omega)).1 j hj) e)⟩, va_up_self _ _ _, fun i hi => ?_, fun i hi => ?_⟩, ?_, fun e => ?_⟩, fun k h1 h2 => (va_up_ne _ _ h2).trans (va_up_ne _ _ h1)⟩
        · obtain ⟨r, hr⟩ := hs _ ((cyc_pm (a := 0) (m := 3) (n := 4) (by omega) (by omega)).1 i hi)
          exact ⟨r, (hr.ne16 (by omega)).ne16 (by omega)⟩
        · have e : cyc 0 3 i = i + 1 := by unfold cyc; (repeat (first | rw [if_neg (by omega)] | rw [if_pos (by omega)]))
          show StA E _ (33 + 15 * π (cyc 0 3 i)) _
          rw [e]
          exact ((hh (i + 1) (by omega)).ne16 (by omega)).ne16 (by omega)
        · obtain ⟨r, hr⟩ := hsn0
          exact ⟨r, (hr.ne16 (by omega)).ne16 (by omega)⟩
        · exact ((hsn e).ne16 (by omega)).ne16 (by omega)
      · refine y_aload_n hC dX1_dropOldest_27 (i := 0) rfl rfl ?_
        refine y_get hC fX1_11 dX1_dropOldest_28 (k := 16) (by omega) ((va_up_ne _ _ (by decide)).trans (va_up_self _ _ _)) rfl ?_
        refine y_iload_n hC dX1_dropOldest_31 (i := 2) rfl rfl ?_
        refine y_aload_n hC dX1_dropOldest_32 (i := 0) rfl rfl ?_
        refine y_get hC fX1_11 dX1_dropOldest_33 (k := 16) (by omega) ((va_up_ne _ _ (by decide)).trans (va_up_self _ _ _)) rfl ?_
        refine y_iload_n hC dX1_dropOldest_36 (i := 2) rfl rfl ?_
        refine y_iconst (v := nI 1) hC dX1_dropOldest_37 (by decide) ?_
        refine y_iadd_n hC dX1_dropOldest_38 ?_
        refine y_aald hC (Or.inr (Or.inr ⟨rfl, rfl, rfl⟩) : yT 5 4 RX4) dX1_dropOldest_39 (k := 17) (j := i + 1) (by omega) (va_up_self _ _ _) (rfl) (by omega) (by decide) ?_
        show Y l E X _ 40 _ (rf E (33 + 15 * π (sft 0 i (i + 1))) :: _) _
        rw [show sft 0 i (i + 1) = i + 1 from by unfold sft; (repeat (first | rw [if_neg (by omega)] | rw [if_pos (by omega)]))]
        refine y_aast hC (Or.inr (Or.inr ⟨rfl, rfl, rfl⟩) : yT 5 4 RX4) dX1_dropOldest_40 (k := 17) (j := i) (by omega) (va_up_self _ _ _) (r := 33 + 15 * π (i + 1)) (hS5 (g 0) (i + 1) (by omega)).1 (hS5 _ (i + 1) (by omega)).2.choose_spec (rfl) (by omega) (by decide) ?_
        refine y_mem (g2 := va_up (va_up g (16) (oB 1 [rf E (17), rf E (18), .int (nI (3)), .int (nI (kp))])) 17 (aR E 5 4 (fun k => 33 + 15 * π (sft 0 (i + 1) k)))) ?_ ?_
        · rw [zup_up]
          refine congrArg (va_up (va_up g (16) (oB 1 [rf E (17), rf E (18), .int (nI (3)), .int (nI (kp))])) 17) (congrArg (aR E 5 4) (funext fun k => ?_))
          by_cases e : k = i
          · rw [e, va_up_self]
            unfold sft
            (repeat (first | rw [if_neg (by omega)] | rw [if_pos (by omega)]))
          · rw [va_up_ne _ _ e]
            unfold sft
            by_cases e2 : 0 ≤ k ∧ k < i
            · rw [if_pos e2, if_pos ⟨e2.1, by omega⟩]
            · rw [if_neg e2, if_neg (by omega)]
        refine y_iinc_n hC dX1_dropOldest_41 (a := i) (k := 1) rfl (by decide) (Nat.le_of_ble_eq_true rfl) rfl (lo' := [some (rf E (16)), some (rf E (33 + 15 * π (0))), some (.int (nI (i + 1)))]) rfl ?_
        refine y_goto (tgt := 19) hC dX1_dropOldest_44 (by decide) ?_
        exact ih_19 (i + 1) (by omega) (by omega)
  exact L_19 4 0 (by omega) (by omega)

theorem HA.c4 {E : gE} {g : Mem} {c kp : Nat} {hr : Nat → Row} {sn : Row} (h : HA E g c kp hr sn) : c ≤ 4 := h.2.1
theorem dX1_record_0 : decode cX1_record 0 = .ok (.aload_n 0, 1) := by decide +kernel
theorem dX1_record_1 : decode cX1_record 1 = .ok (.getfield 22, 3) := by decide +kernel
theorem dX1_record_4 : decode cX1_record 4 = .ok (.iconst 4, 1) := by decide +kernel
theorem dX1_record_5 : decode cX1_record 5 = .ok (.if_icmp .ne 7, 3) := by decide +kernel
theorem dX1_record_8 : decode cX1_record 8 = .ok (.aload_n 0, 1) := by decide +kernel
theorem dX1_record_9 : decode cX1_record 9 = .ok (.invokevirtual 30, 3) := by decide +kernel
theorem dX1_record_12 : decode cX1_record 12 = .ok (.aload_n 0, 1) := by decide +kernel
theorem dX1_record_13 : decode cX1_record 13 = .ok (.getfield 11, 3) := by decide +kernel
theorem dX1_record_16 : decode cX1_record 16 = .ok (.aload_n 0, 1) := by decide +kernel
theorem dX1_record_17 : decode cX1_record 17 = .ok (.getfield 22, 3) := by decide +kernel
theorem dX1_record_20 : decode cX1_record 20 = .ok (.aaload, 1) := by decide +kernel
theorem dX1_record_21 : decode cX1_record 21 = .ok (.aload_n 1, 1) := by decide +kernel
theorem dX1_record_22 : decode cX1_record 22 = .ok (.invokevirtual 33, 3) := by decide +kernel
theorem dX1_record_25 : decode cX1_record 25 = .ok (.aload_n 0, 1) := by decide +kernel
theorem dX1_record_26 : decode cX1_record 26 = .ok (.dup, 1) := by decide +kernel
theorem dX1_record_27 : decode cX1_record 27 = .ok (.getfield 22, 3) := by decide +kernel
theorem dX1_record_30 : decode cX1_record 30 = .ok (.iconst 1, 1) := by decide +kernel
theorem dX1_record_31 : decode cX1_record 31 = .ok (.iadd, 1) := by decide +kernel
theorem dX1_record_32 : decode cX1_record 32 = .ok (.putfield 22, 3) := by decide +kernel
theorem dX1_record_35 : decode cX1_record 35 = .ok (.return_, 1) := by decide +kernel
set_option maxHeartbeats 4000000 in
set_option maxRecDepth 100000 in
theorem c_X1_record (l : Launch) (E : gE) (g : Mem) (c kp : Nat) (hr : Nat → Row) (sn r : Row) (B : Nat) (h : HA E g c kp hr sn) (hs : StA E g 1 r) (hv : Vr r B) : Mt l E yX1_record cX1_record 2 none 2 48 [rf E (16), rf E (1)] g (pV (fun g' => HA E g' (recC c) kp (recH c hr r) sn ∧ StA E g' 1 r ∧ Fh g g')) := by
  have hh0 := h
  obtain ⟨hK, hc4, hkp, h16, -⟩ := hh0
  refine mt_go (own := RX1) (by decide) rfl (lo := [some (rf E (16)), some (rf E (1))]) rfl (Nat.le_of_ble_eq_true rfl) (fun X hC => ?_)
  have J_12 : ∀ (g1 : Mem) (c1 : Nat) (hr1 : Nat → Row), (hq : HA E g1 c1 kp hr1 sn) → (hc1 : c1 ≤ 3) → (hs1 : StA E g1 1 r) → (hf1 : ∀ k, k < 16 ∨ 93 ≤ k → g1 k = g k) → (e1 : recC c = c1 + 1) → (e2 : ∀ i, i < c1 → recH c hr r i = hr1 i) → (e3 : recH c hr r c1 = r) → Y l E X (pV (fun g' => HA E g' (recC c) kp (recH c hr r) sn ∧ StA E g' 1 r ∧ Fh g g')) 12 [some (rf E (16)), some (rf E (1))] [] g1 := by
    intro g1 c1 hr1 hq hc1 hs1 hf1 e1 e2 e3
    obtain ⟨hK, hc4, hkp, h16, ⟨π, hπ, h17, hs, hh⟩, hsn0, hsn⟩ := hq
    obtain ⟨ro, hro⟩ := hs c1 (by omega)
    have hpc := hπ.1 c1 (by omega)
    refine y_aload_n hC dX1_record_12 (i := 0) rfl rfl ?_
    refine y_get hC fX1_11 dX1_record_13 (k := 16) (by omega) h16 rfl ?_
    refine y_aload_n hC dX1_record_16 (i := 0) rfl rfl ?_
    refine y_get hC fX1_22 dX1_record_17 (k := 16) (by omega) h16 rfl ?_
    refine y_aald hC (Or.inr (Or.inr ⟨rfl, rfl, rfl⟩) : yT 5 4 RX4) dX1_record_20 (k := 17) (j := c1) (by omega) h17 (rfl) (by omega) (by decide) ?_
    refine y_aload_n hC dX1_record_21 (i := 1) rfl rfl ?_
    refine y_callV hC mX4_copy kX1_33 dX1_record_22 (b := 33 + 15 * π (c1)) (As := [rf E (1)]) (rest := []) (c_X4_copy l E g1 (33 + 15 * π (c1)) 1 ro r B hro hs1 hv (by omega)) hro.of_lt.1 hro.of_lt.2.choose_spec rfl rfl rfl (Nat.le_of_ble_eq_true rfl) ⟨Nat.le_of_ble_eq_true rfl, Nat.le_of_ble_eq_true rfl⟩ (pk_v ?_)
    rintro g_22 ⟨hcp, hfr⟩
    refine y_aload_n hC dX1_record_25 (i := 0) rfl rfl ?_
    refine y_dup hC dX1_record_26 rfl ?_
    refine y_get hC fX1_22 dX1_record_27 (k := 16) (by omega) ((hfr 16 (by omega)).trans h16) rfl ?_
    refine y_iconst (v := nI 1) hC dX1_record_30 (by decide) ?_
    refine y_iadd_n hC dX1_record_31 ?_
    refine y_put hC fpX1_22 dX1_record_32 (k := 16) (by omega) ((hfr 16 (by omega)).trans h16) (Nat.le_of_ble_eq_true rfl) (rfl) (rfl) (fs' := [rf E (17), rf E (18), .int (nI (c1 + 1)), .int (nI (kp))]) rfl ?_
    refine y_vret (hC := hC) (hd := dX1_record_35) (hq := ?_)
    refine ⟨⟨hK, by omega, hkp, by rw [e1]; exact va_up_self _ _ _, ⟨π, hπ, (va_up_ne _ _ (by decide)).trans ((hfr 17 (by omega)).trans h17), fun i hi => ?_, fun i hi => ?_⟩, ?_, fun e => ?_⟩, ?_, fun k hk => ?_⟩
    · by_cases e : i = c1
      · subst e
        exact ⟨r, hcp.ne16 (by omega)⟩
      · have h1 : π i ≠ π c1 := fun q => e (hπ.2 i c1 hi (by omega) q)
        obtain ⟨r3, h3⟩ := hs i hi
        exact ⟨r3, (h3.on hfr (by omega)).ne16 (by omega)⟩
    · rw [e1] at hi
      by_cases e : i = c1
      · subst e
        rw [e3]
        exact hcp.ne16 (by omega)
      · have h1 : π i ≠ π c1 := fun q => e (hπ.2 i c1 (by omega) (by omega) q)
        rw [e2 i (by omega)]
        exact ((hh i (by omega)).on hfr (by omega)).ne16 (by omega)
    · obtain ⟨r3, h3⟩ := hsn0
      exact ⟨r3, (h3.on hfr (by omega)).ne16 (by omega)⟩
    · exact ((hsn e).on hfr (by omega)).ne16 (by omega)
    · exact (hs1.on hfr (by omega)).ne16 (by omega)
    · exact (va_up_ne _ _ (by omega)).trans ((hfr k (by have := hk; omega)).trans (hf1 k hk))
  refine y_aload_n hC dX1_record_0 (i := 0) rfl rfl ?_
  refine y_get hC fX1_22 dX1_record_1 (k := 16) (by omega) h16 rfl ?_
  refine y_iconst (v := nI 4) hC dX1_record_4 (by decide) ?_
  refine y_icmp_ne_n (tgt := 12) hC dX1_record_5 (by decide) (by omega) (by omega) (fun c_5 => ?_) (fun c_5 => ?_)
  · exact J_12 g c hr h (by omega) hs (fun _ _ => rfl) (if_neg c_5) (fun i hi => by unfold recH; rw [if_neg c_5, if_pos hi]) (by unfold recH; rw [if_neg c_5, if_neg (Nat.lt_irrefl _)])
  · refine y_aload_n hC dX1_record_8 (i := 0) rfl rfl ?_
    refine y_callV hC mX1_dropOldest kX1_30 dX1_record_9 (b := 16) (As := []) (rest := []) (c_X1_dropOldest l E g kp hr sn (c_5 ▸ h)) (by omega) h16 rfl rfl rfl (Nat.le_of_ble_eq_true rfl) ⟨Nat.le_of_ble_eq_true rfl, Nat.le_of_ble_eq_true rfl⟩ (pk_v ?_)
    rintro g_9 ⟨hd1, hd2⟩
    exact J_12 g_9 3 (fun i => hr (i + 1)) hd1 (by omega) (hs.keep (fun k h1 h2 => hd2 k (by omega) (by omega))) (fun k hk => hd2 k (by omega) (by omega)) (if_pos c_5) (fun i hi => by unfold recH; rw [if_pos c_5, if_pos hi]) (by unfold recH; rw [if_pos c_5, if_neg (Nat.lt_irrefl _)])
