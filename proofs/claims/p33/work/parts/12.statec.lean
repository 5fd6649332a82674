/-! ===== a state of the class: what changes it ===== -/
theorem pk_m1' (n : Nat) : nI (n + 1) - nI 1 = nI n := by rw [pk_sub (by omega)]; rfl
theorem dX4_advance_0 : decode cX4_advance 0 = .ok (.iconst 0, 1) := by decide +kernel
theorem dX4_advance_1 : decode cX4_advance 1 = .ok (.istore_n 2, 1) := by decide +kernel
theorem dX4_advance_2 : decode cX4_advance 2 = .ok (.iconst 0, 1) := by decide +kernel
theorem dX4_advance_3 : decode cX4_advance 3 = .ok (.istore_n 3, 1) := by decide +kernel
theorem dX4_advance_4 : decode cX4_advance 4 = .ok (.iload_n 3, 1) := by decide +kernel
theorem dX4_advance_5 : decode cX4_advance 5 = .ok (.aload_n 0, 1) := by decide +kernel
theorem dX4_advance_6 : decode cX4_advance 6 = .ok (.getfield 30, 3) := by decide +kernel
theorem dX4_advance_9 : decode cX4_advance 9 = .ok (.if_icmp .ge 22, 3) := by decide +kernel
theorem dX4_advance_12 : decode cX4_advance 12 = .ok (.iload_n 2, 1) := by decide +kernel
theorem dX4_advance_13 : decode cX4_advance 13 = .ok (.aload_n 0, 1) := by decide +kernel
theorem dX4_advance_14 : decode cX4_advance 14 = .ok (.getfield 20, 3) := by decide +kernel
theorem dX4_advance_17 : decode cX4_advance 17 = .ok (.iload_n 3, 1) := by decide +kernel
theorem dX4_advance_18 : decode cX4_advance 18 = .ok (.aaload, 1) := by decide +kernel
theorem dX4_advance_19 : decode cX4_advance 19 = .ok (.iload_n 1, 1) := by decide +kernel
theorem dX4_advance_20 : decode cX4_advance 20 = .ok (.invokevirtual 82, 3) := by decide +kernel
theorem dX4_advance_23 : decode cX4_advance 23 = .ok (.iadd, 1) := by decide +kernel
theorem dX4_advance_24 : decode cX4_advance 24 = .ok (.istore_n 2, 1) := by decide +kernel
theorem dX4_advance_25 : decode cX4_advance 25 = .ok (.iinc 3 1, 3) := by decide +kernel
theorem dX4_advance_28 : decode cX4_advance 28 = .ok (.goto (-24), 3) := by decide +kernel
theorem dX4_advance_31 : decode cX4_advance 31 = .ok (.iconst 0, 1) := by decide +kernel
theorem dX4_advance_32 : decode cX4_advance 32 = .ok (.istore_n 3, 1) := by decide +kernel
theorem dX4_advance_33 : decode cX4_advance 33 = .ok (.iload_n 3, 1) := by decide +kernel
theorem dX4_advance_34 : decode cX4_advance 34 = .ok (.aload_n 0, 1) := by decide +kernel
theorem dX4_advance_35 : decode cX4_advance 35 = .ok (.getfield 34, 3) := by decide +kernel
theorem dX4_advance_38 : decode cX4_advance 38 = .ok (.if_icmp .ge 19, 3) := by decide +kernel
theorem dX4_advance_41 : decode cX4_advance 41 = .ok (.aload_n 0, 1) := by decide +kernel
theorem dX4_advance_42 : decode cX4_advance 42 = .ok (.getfield 26, 3) := by decide +kernel
theorem dX4_advance_45 : decode cX4_advance 45 = .ok (.iload_n 3, 1) := by decide +kernel
theorem dX4_advance_46 : decode cX4_advance 46 = .ok (.aaload, 1) := by decide +kernel
theorem dX4_advance_47 : decode cX4_advance 47 = .ok (.iload_n 1, 1) := by decide +kernel
theorem dX4_advance_48 : decode cX4_advance 48 = .ok (.invokevirtual 86, 3) := by decide +kernel
theorem dX4_advance_51 : decode cX4_advance 51 = .ok (.iinc 3 1, 3) := by decide +kernel
theorem dX4_advance_54 : decode cX4_advance 54 = .ok (.goto (-21), 3) := by decide +kernel
theorem dX4_advance_57 : decode cX4_advance 57 = .ok (.aload_n 0, 1) := by decide +kernel
theorem dX4_advance_58 : decode cX4_advance 58 = .ok (.dup, 1) := by decide +kernel
theorem dX4_advance_59 : decode cX4_advance 59 = .ok (.getfield 37, 3) := by decide +kernel
theorem dX4_advance_62 : decode cX4_advance 62 = .ok (.iload_n 1, 1) := by decide +kernel
theorem dX4_advance_63 : decode cX4_advance 63 = .ok (.iadd, 1) := by decide +kernel
theorem dX4_advance_64 : decode cX4_advance 64 = .ok (.putfield 37, 3) := by decide +kernel
theorem dX4_advance_67 : decode cX4_advance 67 = .ok (.aload_n 0, 1) := by decide +kernel
theorem dX4_advance_68 : decode cX4_advance 68 = .ok (.dup, 1) := by decide +kernel
theorem dX4_advance_69 : decode cX4_advance 69 = .ok (.getfield 40, 3) := by decide +kernel
theorem dX4_advance_72 : decode cX4_advance 72 = .ok (.iload_n 2, 1) := by decide +kernel
theorem dX4_advance_73 : decode cX4_advance 73 = .ok (.iadd, 1) := by decide +kernel
theorem dX4_advance_74 : decode cX4_advance 74 = .ok (.putfield 40, 3) := by decide +kernel
theorem dX4_advance_77 : decode cX4_advance 77 = .ok (.iload_n 2, 1) := by decide +kernel
theorem dX4_advance_78 : decode cX4_advance 78 = .ok (.ireturn, 1) := by decide +kernel
set_option maxHeartbeats 4000000 in
set_option maxRecDepth 100000 in
theorem c_X4_advance (l : Launch) (E : gE) (g : Mem) (b : Nat) (r : Row) (B : Nat) (hB : B < 100000000) (h : StA E g b r) (hv : Vr r B) (t : Nat) (ht : t ≤ 5000) : Mt l E yX4_advance cX4_advance 4 (some .int) 2 41 [rf E (b), .int (nI (t))] g (pI (fun z g' => z = nI (made r t) ∧ StA E g' b (tkR r t) ∧ Fr b g g')) := by
  obtain ⟨co, pi, π, ρ, V, U, hX, e1, e2, e3, e4⟩ := zStF h hv
  have hrc : rc r ≤ 6 := hv.1.2
  have hgc : gc r ≤ 4 := hv.2.1.2
  have ht1 : nn (r 156) ≤ B := hv.2.2.2.2.2.2.2.1.2
  have ht2 : nn (r 157) ≤ 7 * B := hv.2.2.2.2.2.2.2.2.2
  have hml := made_le (t := t) hv
  refine mt_go (own := RX4) (by decide) rfl (lo := [some (rf E (b)), some (.int (nI (t))), none, none]) rfl (Nat.le_of_ble_eq_true rfl) (fun X hC => ?_)
  refine y_iconst (v := nI 0) hC dX4_advance_0 (by decide) ?_
  refine y_istore_n hC dX4_advance_1 (i := 2) rfl (Nat.le_of_ble_eq_true rfl) rfl (lo' := [some (rf E (b)), some (.int (nI (t))), some (.int (nI (0))), none]) rfl ?_
  refine y_iconst (v := nI 0) hC dX4_advance_2 (by decide) ?_
  refine y_istore_n hC dX4_advance_3 (i := 3) rfl (Nat.le_of_ble_eq_true rfl) rfl (lo' := [some (rf E (b)), some (.int (nI (t))), some (.int (nI (0))), some (.int (nI (0)))]) rfl ?_
  have L_4 : ∀ (m : Nat) (i c : Nat) (g1 : Mem) (V1 : Nat → Nat → Int32), (hm : rc r - i < m) → (hi : i ≤ rc r) → (hX1 : SF E g g1 b co pi π ρ V1 U (v4 (nI (rc r)) (nI (gc r)) (nI (nn (r 156))) (nI (nn (r 157))))) → (hk1 : ∀ k, k < i → ∀ j, j < 7 → V1 k j = tkV r t k j) → (hr1 : ∀ k, i ≤ k → V1 k = V k) → (hc : c = sm i (fun i => if rg r i 4 = 1 then (rg r i 5 + t) / rg r i 2 else 0)) → Y l E X (pI (fun z g' => z = nI (made r t) ∧ StA E g' b (tkR r t) ∧ Fr b g g')) 4 [some (rf E (b)), some (.int (nI (t))), some (.int (nI (c))), some (.int (nI (i)))] [] g1 := by
    intro m
    induction m with
    | zero => intro i c g1 V1 hm hi hX1 hk1 hr1 hc; exact absurd hm (Nat.not_lt_zero _)
    | succ m ih_4 =>
      intro i c g1 V1 hm hi hX1 hk1 hr1 hc
      refine y_iload_n hC dX4_advance_4 (i := 3) rfl rfl ?_
      refine y_aload_n hC dX4_advance_5 (i := 0) rfl rfl ?_
      refine y_get hC fX4_30 dX4_advance_6 (k := b) (hX1.k (k := 0) (by decide)) hX1.s0 rfl ?_
      refine y_icmp_ge_n (tgt := 31) hC dX4_advance_9 (by decide) (by omega) (by omega) (fun c_9 => ?_) (fun c_9 => ?_)
      · refine y_iconst (v := nI 0) hC dX4_advance_31 (by decide) ?_
        refine y_istore_n hC dX4_advance_32 (i := 3) rfl (Nat.le_of_ble_eq_true rfl) rfl (lo' := [some (rf E (b)), some (.int (nI (t))), some (.int (nI (c))), some (.int (nI (0)))]) rfl ?_
        have hc2 : c = made r t := by rw [hc, show i = rc r by omega]; rfl
        have hk3 : ∀ k, k < rc r → ∀ j, j < 7 → V1 k j = tkV r t k j := fun k hk => hk1 k (by omega)
        clear hc hk1 hr1 hi ih_4
        have L_33 : ∀ (m : Nat) (i : Nat) (g2 : Mem) (U1 : Nat → Nat → Int32), (hm : gc r - i < m) → (hi : i ≤ gc r) → (hX2 : SF E g g2 b co pi π ρ V1 U1 (v4 (nI (rc r)) (nI (gc r)) (nI (nn (r 156))) (nI (nn (r 157))))) → (hs2 : ∀ k, k < i → ∀ j, j < 4 → U1 k j = tkU r t k j) → (hs1 : ∀ k, i ≤ k → U1 k = U k) → Y l E X (pI (fun z g' => z = nI (made r t) ∧ StA E g' b (tkR r t) ∧ Fr b g g')) 33 [some (rf E (b)), some (.int (nI (t))), some (.int (nI (c))), some (.int (nI (i)))] [] g2 := by
          intro m
          induction m with
          | zero => intro i g2 U1 hm hi hX2 hs2 hs1; exact absurd hm (Nat.not_lt_zero _)
          | succ m ih_33 =>
            intro i g2 U1 hm hi hX2 hs2 hs1
            refine y_iload_n hC dX4_advance_33 (i := 3) rfl rfl ?_
            refine y_aload_n hC dX4_advance_34 (i := 0) rfl rfl ?_
            refine y_get hC fX4_34 dX4_advance_35 (k := b) (hX2.k (k := 0) (by decide)) hX2.s0 rfl ?_
            refine y_icmp_ge_n (tgt := 57) hC dX4_advance_38 (by decide) (by omega) (by omega) (fun c_38 => ?_) (fun c_38 => ?_)
            · refine y_aload_n hC dX4_advance_57 (i := 0) rfl rfl ?_
              refine y_dup hC dX4_advance_58 rfl ?_
              refine y_get hC fX4_37 dX4_advance_59 (k := b) (hX2.k (k := 0) (by decide)) hX2.s0 rfl ?_
              refine y_iload_n hC dX4_advance_62 (i := 1) rfl rfl ?_
              refine y_iadd_n hC dX4_advance_63 ?_
              refine y_put hC fpX4_37 dX4_advance_64 (k := b) (hX2.k (k := 0) (by decide)) hX2.s0 (Nat.le_of_ble_eq_true rfl) (rfl) (rfl) (fs' := [rf E (b + 1), rf E (b + 2), rf E (b + 3), rf E (b + 4), .int (nI (rc r)), .int (nI (gc r)), .int (nI ((nn (r 156)) + t)), .int (nI (nn (r 157)))]) rfl ?_
              have hX_64 : SF E g (va_up g2 (b) (oB 4 [rf E (b + 1), rf E (b + 2), rf E (b + 3), rf E (b + 4), .int (nI (rc r)), .int (nI (gc r)), .int (nI ((nn (r 156)) + t)), .int (nI (nn (r 157)))])) b co pi π ρ V1 U1 (v4 (nI (rc r)) (nI (gc r)) (nI ((nn (r 156)) + t)) (nI (nn (r 157)))) := hX2.upn (v4 (nI (rc r)) (nI (gc r)) (nI ((nn (r 156)) + t)) (nI (nn (r 157))))
              generalize (va_up g2 (b) (oB 4 [rf E (b + 1), rf E (b + 2), rf E (b + 3), rf E (b + 4), .int (nI (rc r)), .int (nI (gc r)), .int (nI ((nn (r 156)) + t)), .int (nI (nn (r 157)))])) = g_64 at hX_64 ⊢
              refine y_aload_n hC dX4_advance_67 (i := 0) rfl rfl ?_
              refine y_dup hC dX4_advance_68 rfl ?_
              refine y_get hC fX4_40 dX4_advance_69 (k := b) (hX_64.k (k := 0) (by decide)) hX_64.s0 rfl ?_
              refine y_iload_n hC dX4_advance_72 (i := 2) rfl rfl ?_
              refine y_iadd_n hC dX4_advance_73 ?_
              refine y_put hC fpX4_40 dX4_advance_74 (k := b) (hX_64.k (k := 0) (by decide)) hX_64.s0 (Nat.le_of_ble_eq_true rfl) (rfl) (rfl) (fs' := [rf E (b + 1), rf E (b + 2), rf E (b + 3), rf E (b + 4), .int (nI (rc r)), .int (nI (gc r)), .int (nI ((nn (r 156)) + t)), .int (nI ((nn (r 157)) + c))]) rfl ?_
              have hX_74 : SF E g (va_up g_64 (b) (oB 4 [rf E (b + 1), rf E (b + 2), rf E (b + 3), rf E (b + 4), .int (nI (rc r)), .int (nI (gc r)), .int (nI ((nn (r 156)) + t)), .int (nI ((nn (r 157)) + c))])) b co pi π ρ V1 U1 (v4 (nI (rc r)) (nI (gc r)) (nI ((nn (r 156)) + t)) (nI ((nn (r 157)) + c))) := hX_64.upn (v4 (nI (rc r)) (nI (gc r)) (nI ((nn (r 156)) + t)) (nI ((nn (r 157)) + c)))
              generalize (va_up g_64 (b) (oB 4 [rf E (b + 1), rf E (b + 2), rf E (b + 3), rf E (b + 4), .int (nI (rc r)), .int (nI (gc r)), .int (nI ((nn (r 156)) + t)), .int (nI ((nn (r 157)) + c))])) = g_74 at hX_74 ⊢
              refine y_iload_n hC dX4_advance_77 (i := 2) rfl rfl ?_
              refine y_iret (hC := hC) (hd := dX4_advance_78) (hq := ?_)
              refine ⟨congrArg nI hc2, ?_⟩
              refine hX_74.st ⟨fun k hk => by rw [tkR_lo (by omega)]; exact e1 k hk, fun k hk => by rw [tkR_px hrc hgc hk]; exact e2 k hk, ⟨by rw [tkR_lo (by decide), hv.1.1]; rfl, by rw [tkR_75 hrc, hv.2.1.1]; rfl, by rw [tkR_156 hrc hgc]; rfl, by rw [tkR_157 hrc hgc, ← hc2]; rfl⟩, fun k hk j hj => ?_, fun k hk j hj => ?_⟩
              · rw [tkR_rc] at hk
                rw [tkR_V hk hj]
                exact hk3 k hk j hj
              · rw [tkR_gc hrc] at hk
                rw [tkR_U hrc hk hj]
                exact hs2 k (by omega) j hj
            · have hlt : i < gc r := by omega
              obtain ⟨q1, q2, q3, q4, q5⟩ := hv.gl (i := i) (by omega)
              refine y_aload_n hC dX4_advance_41 (i := 0) rfl rfl ?_
              refine y_get hC fX4_26 dX4_advance_42 (k := b) (hX2.k (k := 0) (by decide)) hX2.s0 rfl ?_
              refine y_iload_n hC dX4_advance_45 (i := 3) rfl rfl ?_
              refine y_aald hC (Or.inr (Or.inl ⟨rfl, rfl, rfl⟩) : yT 4 0 RX0) dX4_advance_46 (k := b + 4) (j := i) (hX2.k (k := 4) (by decide)) hX2.s4 (rfl) (by omega) (by decide) ?_
              refine y_iload_n hC dX4_advance_47 (i := 1) rfl rfl ?_
              refine y_callV hC mX0_advance kX4_86 dX4_advance_48 (b := b + 11 + ρ (i)) (As := [.int (nI (t))]) (rest := []) (c_X0_advance l E g2 (b + 11 + ρ (i)) (hX2.kU (i := i) (by omega)) _ _ (gl r i 2) (gl r i 3) q3 q4 q5 (hX2.rU hv (i := i) (by omega) (fun j hj => by rw [hs1 i (Nat.le_refl _)]; exact e4 i (by omega) j hj)) t ht) (hX2.kU (i := i) (by omega)) (hX2.rU hv (i := i) (by omega) (fun j hj => by rw [hs1 i (Nat.le_refl _)]; exact e4 i (by omega) j hj)) rfl rfl rfl (Nat.le_of_ble_eq_true rfl) ⟨Nat.le_of_ble_eq_true rfl, Nat.le_of_ble_eq_true rfl⟩ (pk_v ?_)
              rintro g_48 hq_48
              have hX_48 : SF E g g_48 b co pi π ρ V1 (va_up U1 (i) (v4 (nI (gl r (i) 0)) ((r (76 + 4 * (i) + 1))) (nI (gl r (i) 2)) (nI ((gl r i 3 + t) % (2 * gl r i 2))))) (v4 (nI (rc r)) (nI (gc r)) (nI (nn (r 156))) (nI (nn (r 157)))) := by rw [hq_48]; exact hX2.upU (i := i) (by omega) (v4 (nI (gl r (i) 0)) ((r (76 + 4 * (i) + 1))) (nI (gl r (i) 2)) (nI ((gl r i 3 + t) % (2 * gl r i 2))))
              refine y_iinc_n hC dX4_advance_51 (a := i) (k := 1) rfl (by decide) (Nat.le_of_ble_eq_true rfl) rfl (lo' := [some (rf E (b)), some (.int (nI (t))), some (.int (nI (c))), some (.int (nI (i + 1)))]) rfl ?_
              refine y_goto (tgt := 33) hC dX4_advance_54 (by decide) ?_
              have hk2 : ∀ k, k < i + 1 → ∀ j, j < 4 → (va_up U1 (i) (v4 (nI (gl r (i) 0)) ((r (76 + 4 * (i) + 1))) (nI (gl r (i) 2)) (nI ((gl r i 3 + t) % (2 * gl r i 2))))) k j = tkU r t k j := by
                intro k hk
                by_cases e : k = i
                · subst e
                  rw [va_up_self]
                  obtain ⟨⟨q1, q2, q3⟩, -⟩ := hv.gl hlt
                  exact v4_j (f := tkU r t k) q1.symm rfl q2.symm rfl
                · rw [va_up_ne _ _ e]
                  exact hs2 k (by omega)
              exact ih_33 (i + 1) g_48 _ (by omega) (by omega) hX_48 hk2 (fun k hk => by rw [va_up_ne _ _ (by omega)]; exact hs1 k (by omega))
        exact L_33 (gc r + 1) 0 g1 U (by omega) (by omega) hX1 (fun k hk => absurd hk (Nat.not_lt_zero k)) (fun _ _ => rfl)
      · have hlt : i < rc r := by omega
        obtain ⟨q1, q2, q3, q4, q5, q6, q7, q8, q9⟩ := hv.rg (i := i) (by omega)
        refine y_iload_n hC dX4_advance_12 (i := 2) rfl rfl ?_
        refine y_aload_n hC dX4_advance_13 (i := 0) rfl rfl ?_
        refine y_get hC fX4_20 dX4_advance_14 (k := b) (hX1.k (k := 0) (by decide)) hX1.s0 rfl ?_
        refine y_iload_n hC dX4_advance_17 (i := 3) rfl rfl ?_
        refine y_aald hC (Or.inl ⟨rfl, rfl, rfl⟩ : yT 3 3 RX3) dX4_advance_18 (k := b + 3) (j := i) (hX1.k (k := 3) (by decide)) hX1.s3 (rfl) (by omega) (by decide) ?_
        refine y_iload_n hC dX4_advance_19 (i := 1) rfl rfl ?_
        refine y_callV hC mX3_advance kX4_82 dX4_advance_20 (b := b + 5 + π (i)) (As := [.int (nI (t))]) (rest := [.int (nI (c))]) (c_X3_advance l E g1 (b + 5 + π (i)) (hX1.kV (i := i) (by omega)) (rg r (i) 0) (rg r (i) 1) (rg r (i) 2) (rg r (i) 3) (rg r (i) 4) (rg r (i) 5) (rg r (i) 6) q2 q3 q4 q5 q6 q7 q8 (by omega) (hX1.rV hv (i := i) (by omega) (fun j hj => by rw [hr1 i (Nat.le_refl _)]; exact e3 i (by omega) j hj)) t ht) (hX1.kV (i := i) (by omega)) (hX1.rV hv (i := i) (by omega) (fun j hj => by rw [hr1 i (Nat.le_refl _)]; exact e3 i (by omega) j hj)) rfl rfl rfl (Nat.le_of_ble_eq_true rfl) ⟨Nat.le_of_ble_eq_true rfl, Nat.le_of_ble_eq_true rfl⟩ (pk_i ?_)
        rintro r_20 g_20 ⟨hr_20, hq_20⟩
        rw [hr_20]
        clear hr_20 r_20
        have hX_20 : SF E g g_20 b co pi π ρ (va_up V1 (i) (v7 (nI (rg r (i) 0)) (nI (rg r (i) 1)) (nI (rg r (i) 2)) (nI (rg r (i) 3)) (nI (rg r (i) 4)) (nI (if rg r i 4 = 1 then (rg r i 5 + t) % rg r i 2 else rg r i 5)) (nI (mdN (rg r i 2) (rg r i 4) (rg r i 5) (rg r i 6) t)))) U (v4 (nI (rc r)) (nI (gc r)) (nI (nn (r 156))) (nI (nn (r 157)))) := by rw [hq_20]; exact hX1.upV (i := i) (by omega) (v7 (nI (rg r (i) 0)) (nI (rg r (i) 1)) (nI (rg r (i) 2)) (nI (rg r (i) 3)) (nI (rg r (i) 4)) (nI (if rg r i 4 = 1 then (rg r i 5 + t) % rg r i 2 else rg r i 5)) (nI (mdN (rg r i 2) (rg r i 4) (rg r i 5) (rg r i 6) t)))
        refine y_iadd_n hC dX4_advance_23 ?_
        refine y_istore_n hC dX4_advance_24 (i := 2) rfl (Nat.le_of_ble_eq_true rfl) rfl (lo' := [some (rf E (b)), some (.int (nI (t))), some (.int (nI (c + (if rg r i 4 = 1 then (rg r i 5 + t) / rg r i 2 else 0)))), some (.int (nI (i)))]) rfl ?_
        refine y_iinc_n hC dX4_advance_25 (a := i) (k := 1) rfl (by decide) (Nat.le_of_ble_eq_true rfl) rfl (lo' := [some (rf E (b)), some (.int (nI (t))), some (.int (nI (c + (if rg r i 4 = 1 then (rg r i 5 + t) / rg r i 2 else 0)))), some (.int (nI (i + 1)))]) rfl ?_
        refine y_goto (tgt := 4) hC dX4_advance_28 (by decide) ?_
        have hk2 : ∀ k, k < i + 1 → ∀ j, j < 7 → (va_up V1 (i) (v7 (nI (rg r (i) 0)) (nI (rg r (i) 1)) (nI (rg r (i) 2)) (nI (rg r (i) 3)) (nI (rg r (i) 4)) (nI (if rg r i 4 = 1 then (rg r i 5 + t) % rg r i 2 else rg r i 5)) (nI (mdN (rg r i 2) (rg r i 4) (rg r i 5) (rg r i 6) t)))) k j = tkV r t k j := by
          intro k hk
          by_cases e : k = i
          · subst e
            rw [va_up_self]
            obtain ⟨q1, -⟩ := hv.rg hlt
            exact v7_j (f := tkV r t k) (q1 0 (by decide)).symm (q1 1 (by decide)).symm (q1 2 (by decide)).symm (q1 3 (by decide)).symm (q1 4 (by decide)).symm rfl rfl
          · rw [va_up_ne _ _ e]
            exact hk1 k (by omega)
        exact ih_4 (i + 1) _ g_20 _ (by omega) (by omega) hX_20 hk2 (fun k hk => by rw [va_up_ne _ _ (by omega)]; exact hr1 k (by omega)) (by rw [made_s, ← hc])
  exact L_4 (rc r + 1) 0 0 g V (by omega) (by omega) hX (fun k hk => absurd hk (Nat.not_lt_zero k)) (fun _ _ => rfl) rfl

theorem dX4_stepAtOnce_0 : decode cX4_stepAtOnce 0 = .ok (.aload_n 0, 1) := by decide +kernel
theorem dX4_stepAtOnce_1 : decode cX4_stepAtOnce 1 = .ok (.getfield 20, 3) := by decide +kernel
theorem dX4_stepAtOnce_4 : decode cX4_stepAtOnce 4 = .ok (.iload_n 1, 1) := by decide +kernel
theorem dX4_stepAtOnce_5 : decode cX4_stepAtOnce 5 = .ok (.aaload, 1) := by decide +kernel
theorem dX4_stepAtOnce_6 : decode cX4_stepAtOnce 6 = .ok (.dup, 1) := by decide +kernel
theorem dX4_stepAtOnce_7 : decode cX4_stepAtOnce 7 = .ok (.getfield 89, 3) := by decide +kernel
theorem dX4_stepAtOnce_10 : decode cX4_stepAtOnce 10 = .ok (.iconst 1, 1) := by decide +kernel
theorem dX4_stepAtOnce_11 : decode cX4_stepAtOnce 11 = .ok (.iadd, 1) := by decide +kernel
theorem dX4_stepAtOnce_12 : decode cX4_stepAtOnce 12 = .ok (.putfield 89, 3) := by decide +kernel
theorem dX4_stepAtOnce_15 : decode cX4_stepAtOnce 15 = .ok (.aload_n 0, 1) := by decide +kernel
theorem dX4_stepAtOnce_16 : decode cX4_stepAtOnce 16 = .ok (.dup, 1) := by decide +kernel
theorem dX4_stepAtOnce_17 : decode cX4_stepAtOnce 17 = .ok (.getfield 40, 3) := by decide +kernel
theorem dX4_stepAtOnce_20 : decode cX4_stepAtOnce 20 = .ok (.iconst 1, 1) := by decide +kernel
theorem dX4_stepAtOnce_21 : decode cX4_stepAtOnce 21 = .ok (.iadd, 1) := by decide +kernel
theorem dX4_stepAtOnce_22 : decode cX4_stepAtOnce 22 = .ok (.putfield 40, 3) := by decide +kernel
theorem dX4_stepAtOnce_25 : decode cX4_stepAtOnce 25 = .ok (.return_, 1) := by decide +kernel
set_option maxHeartbeats 4000000 in
set_option maxRecDepth 100000 in
theorem c_X4_stepAtOnce (l : Launch) (E : gE) (g : Mem) (b : Nat) (r : Row) (B : Nat) (hB : B < 100000000) (h : StA E g b r) (hv : Vr r B) (i : Nat) (hi : i < rc r) : Mt l E yX4_stepAtOnce cX4_stepAtOnce 2 none 0 0 [rf E (b), .int (nI (i))] g (pV (fun g' => StA E g' b (stpR r i) ∧ Fr b g g')) := by
  obtain ⟨co, pi, π, ρ, V, U, hX, e1, e2, e3, e4⟩ := zStF h hv
  have hrc : rc r ≤ 6 := hv.1.2
  have hgc : gc r ≤ 4 := hv.2.1.2
  have ht1 : nn (r 156) ≤ B := hv.2.2.2.2.2.2.2.1.2
  have ht2 : nn (r 157) ≤ 7 * B := hv.2.2.2.2.2.2.2.2.2
  refine mt_go (own := RX4) (by decide) rfl (lo := [some (rf E (b)), some (.int (nI (i)))]) rfl (Nat.le_of_ble_eq_true rfl) (fun X hC => ?_)
  refine y_aload_n hC dX4_stepAtOnce_0 (i := 0) rfl rfl ?_
  obtain ⟨q1, q2, q3, q4, q5, q6, q7, q8, q9⟩ := hv.rg (i := i) (by omega)
  refine y_get hC fX4_20 dX4_stepAtOnce_1 (k := b) (hX.k (k := 0) (by decide)) hX.s0 rfl ?_
  refine y_iload_n hC dX4_stepAtOnce_4 (i := 1) rfl rfl ?_
  refine y_aald hC (Or.inl ⟨rfl, rfl, rfl⟩ : yT 3 3 RX3) dX4_stepAtOnce_5 (k := b + 3) (j := i) (hX.k (k := 3) (by decide)) hX.s3 (rfl) (by omega) (by decide) ?_
  refine y_dup hC dX4_stepAtOnce_6 rfl ?_
  refine y_get hC fX4_89 dX4_stepAtOnce_7 (k := b + 5 + π (i)) (hX.kV (i := i) (by omega)) (hX.rV hv (i := i) (by omega) (e3 (i) (by omega))) rfl ?_
  refine y_iconst (v := nI 1) hC dX4_stepAtOnce_10 (by decide) ?_
  refine y_iadd_n hC dX4_stepAtOnce_11 ?_
  refine y_put hC fpX4_89 dX4_stepAtOnce_12 (k := b + 5 + π (i)) (hX.kV (i := i) (by omega)) (hX.rV hv (i := i) (by omega) (e3 (i) (by omega))) (Nat.le_of_ble_eq_true rfl) (rfl) (rfl) (fs' := [.int (nI (rg r (i) 0)), .int (nI (rg r (i) 1)), .int (nI (rg r (i) 2)), .int (nI (rg r (i) 3)), .int (nI (rg r (i) 4)), .int (nI (rg r (i) 5)), .int (nI ((rg r (i) 6) + 1))]) rfl ?_
  have hX_12 : SF E g (va_up g (b + 5 + π (i)) (oB 3 [.int (nI (rg r (i) 0)), .int (nI (rg r (i) 1)), .int (nI (rg r (i) 2)), .int (nI (rg r (i) 3)), .int (nI (rg r (i) 4)), .int (nI (rg r (i) 5)), .int (nI ((rg r (i) 6) + 1))])) b co pi π ρ (va_up V (i) (v7 (nI (rg r (i) 0)) (nI (rg r (i) 1)) (nI (rg r (i) 2)) (nI (rg r (i) 3)) (nI (rg r (i) 4)) (nI (rg r (i) 5)) (nI ((rg r (i) 6) + 1)))) U (v4 (nI (rc r)) (nI (gc r)) (nI (nn (r 156))) (nI (nn (r 157)))) := hX.upV (i := i) (by omega) (v7 (nI (rg r (i) 0)) (nI (rg r (i) 1)) (nI (rg r (i) 2)) (nI (rg r (i) 3)) (nI (rg r (i) 4)) (nI (rg r (i) 5)) (nI ((rg r (i) 6) + 1)))
  generalize (va_up g (b + 5 + π (i)) (oB 3 [.int (nI (rg r (i) 0)), .int (nI (rg r (i) 1)), .int (nI (rg r (i) 2)), .int (nI (rg r (i) 3)), .int (nI (rg r (i) 4)), .int (nI (rg r (i) 5)), .int (nI ((rg r (i) 6) + 1))])) = g_12 at hX_12 ⊢
  refine y_aload_n hC dX4_stepAtOnce_15 (i := 0) rfl rfl ?_
  refine y_dup hC dX4_stepAtOnce_16 rfl ?_
  refine y_get hC fX4_40 dX4_stepAtOnce_17 (k := b) (hX_12.k (k := 0) (by decide)) hX_12.s0 rfl ?_
  refine y_iconst (v := nI 1) hC dX4_stepAtOnce_20 (by decide) ?_
  refine y_iadd_n hC dX4_stepAtOnce_21 ?_
  refine y_put hC fpX4_40 dX4_stepAtOnce_22 (k := b) (hX_12.k (k := 0) (by decide)) hX_12.s0 (Nat.le_of_ble_eq_true rfl) (rfl) (rfl) (fs' := [rf E (b + 1), rf E (b + 2), rf E (b + 3), rf E (b + 4), .int (nI (rc r)), .int (nI (gc r)), .int (nI (nn (r 156))), .int (nI ((nn (r 157)) + 1))]) rfl ?_
  have hX_22 : SF E g (va_up g_12 (b) (oB 4 [rf E (b + 1), rf E (b + 2), rf E (b + 3), rf E (b + 4), .int (nI (rc r)), .int (nI (gc r)), .int (nI (nn (r 156))), .int (nI ((nn (r 157)) + 1))])) b co pi π ρ (va_up V (i) (v7 (nI (rg r (i) 0)) (nI (rg r (i) 1)) (nI (rg r (i) 2)) (nI (rg r (i) 3)) (nI (rg r (i) 4)) (nI (rg r (i) 5)) (nI ((rg r (i) 6) + 1)))) U (v4 (nI (rc r)) (nI (gc r)) (nI (nn (r 156))) (nI ((nn (r 157)) + 1))) := hX_12.upn (v4 (nI (rc r)) (nI (gc r)) (nI (nn (r 156))) (nI ((nn (r 157)) + 1)))
  generalize (va_up g_12 (b) (oB 4 [rf E (b + 1), rf E (b + 2), rf E (b + 3), rf E (b + 4), .int (nI (rc r)), .int (nI (gc r)), .int (nI (nn (r 156))), .int (nI ((nn (r 157)) + 1))])) = g_22 at hX_22 ⊢
  refine y_vret (hC := hC) (hd := dX4_stepAtOnce_25) (hq := ?_)
  have z32 : stpR r i 32 = r 32 := by unfold stpR; (repeat (first | rw [if_neg (by omega)] | rw [if_pos (by omega)]))
  have z75 : stpR r i 75 = r 75 := by unfold stpR; (repeat (first | rw [if_neg (by omega)] | rw [if_pos (by omega)]))
  refine hX_22.st ⟨fun k hk => by unfold stpR; (repeat (first | rw [if_neg (by omega)] | rw [if_pos (by omega)])); exact e1 k hk, fun k hk => by unfold stpR; (repeat (first | rw [if_neg (by omega)] | rw [if_pos (by omega)])); exact e2 k hk, ⟨by rw [z32, hv.1.1]; rfl, by rw [z75, hv.2.1.1]; rfl, by unfold stpR; (repeat (first | rw [if_neg (by omega)] | rw [if_pos (by omega)])); exact hv.2.2.2.2.2.2.2.1.1.symm, by unfold stpR; (repeat (first | rw [if_neg (by omega)] | rw [if_pos (by omega)])); rfl⟩, fun k hk j hj => ?_, fun k hk j hj => ?_⟩
  · rw [rc_of z32] at hk
    by_cases e : k = i
    · subst e
      rw [va_up_self]
      refine v7_j (f := fun j => stpR r k (33 + 7 * k + j)) ?_ ?_ ?_ ?_ ?_ ?_ ?_ j hj
      all_goals unfold stpR
      all_goals (repeat (first | rw [if_neg (by omega)] | rw [if_pos (by omega)]))
      all_goals first | exact (q1 0 (by decide)).symm | exact (q1 1 (by decide)).symm | exact (q1 2 (by decide)).symm | exact (q1 3 (by decide)).symm | exact (q1 4 (by decide)).symm | exact (q1 5 (by decide)).symm | rfl
    · rw [va_up_ne _ _ e]
      unfold stpR
      (repeat (first | rw [if_neg (by omega)] | rw [if_pos (by omega)]))
      exact e3 k hk j hj
  · rw [gc_of z75] at hk
    unfold stpR
    (repeat (first | rw [if_neg (by omega)] | rw [if_pos (by omega)]))
    exact e4 k hk j hj

theorem dX4_runOrPause_0 : decode cX4_runOrPause 0 = .ok (.aload_n 0, 1) := by decide +kernel
theorem dX4_runOrPause_1 : decode cX4_runOrPause 1 = .ok (.getfield 20, 3) := by decide +kernel
theorem dX4_runOrPause_4 : decode cX4_runOrPause 4 = .ok (.iload_n 1, 1) := by decide +kernel
theorem dX4_runOrPause_5 : decode cX4_runOrPause 5 = .ok (.aaload, 1) := by decide +kernel
theorem dX4_runOrPause_6 : decode cX4_runOrPause 6 = .ok (.aload_n 0, 1) := by decide +kernel
theorem dX4_runOrPause_7 : decode cX4_runOrPause 7 = .ok (.getfield 20, 3) := by decide +kernel
theorem dX4_runOrPause_10 : decode cX4_runOrPause 10 = .ok (.iload_n 1, 1) := by decide +kernel
theorem dX4_runOrPause_11 : decode cX4_runOrPause 11 = .ok (.aaload, 1) := by decide +kernel
theorem dX4_runOrPause_12 : decode cX4_runOrPause 12 = .ok (.getfield 90, 3) := by decide +kernel
theorem dX4_runOrPause_15 : decode cX4_runOrPause 15 = .ok (.ifCond .ne 7, 3) := by decide +kernel
theorem dX4_runOrPause_18 : decode cX4_runOrPause 18 = .ok (.iconst 1, 1) := by decide +kernel
theorem dX4_runOrPause_19 : decode cX4_runOrPause 19 = .ok (.goto 4, 3) := by decide +kernel
theorem dX4_runOrPause_22 : decode cX4_runOrPause 22 = .ok (.iconst 0, 1) := by decide +kernel
theorem dX4_runOrPause_23 : decode cX4_runOrPause 23 = .ok (.putfield 90, 3) := by decide +kernel
theorem dX4_runOrPause_26 : decode cX4_runOrPause 26 = .ok (.return_, 1) := by decide +kernel
set_option maxHeartbeats 4000000 in
set_option maxRecDepth 100000 in
theorem c_X4_runOrPause (l : Launch) (E : gE) (g : Mem) (b : Nat) (r : Row) (B : Nat) (hB : B < 100000000) (h : StA E g b r) (hv : Vr r B) (i : Nat) (hi : i < rc r) : Mt l E yX4_runOrPause cX4_runOrPause 2 none 0 0 [rf E (b), .int (nI (i))] g (pV (fun g' => StA E g' b (flpR r i) ∧ Fr b g g')) := by
  obtain ⟨co, pi, π, ρ, V, U, hX, e1, e2, e3, e4⟩ := zStF h hv
  have hrc : rc r ≤ 6 := hv.1.2
  have hgc : gc r ≤ 4 := hv.2.1.2
  have ht1 : nn (r 156) ≤ B := hv.2.2.2.2.2.2.2.1.2
  have ht2 : nn (r 157) ≤ 7 * B := hv.2.2.2.2.2.2.2.2.2
  refine mt_go (own := RX4) (by decide) rfl (lo := [some (rf E (b)), some (.int (nI (i)))]) rfl (Nat.le_of_ble_eq_true rfl) (fun X hC => ?_)
  refine y_aload_n hC dX4_runOrPause_0 (i := 0) rfl rfl ?_
  obtain ⟨q1, q2, q3, q4, q5, q6, q7, q8, q9⟩ := hv.rg (i := i) (by omega)
  refine y_get hC fX4_20 dX4_runOrPause_1 (k := b) (hX.k (k := 0) (by decide)) hX.s0 rfl ?_
  refine y_iload_n hC dX4_runOrPause_4 (i := 1) rfl rfl ?_
  refine y_aald hC (Or.inl ⟨rfl, rfl, rfl⟩ : yT 3 3 RX3) dX4_runOrPause_5 (k := b + 3) (j := i) (hX.k (k := 3) (by decide)) hX.s3 (rfl) (by omega) (by decide) ?_
  refine y_aload_n hC dX4_runOrPause_6 (i := 0) rfl rfl ?_
  refine y_get hC fX4_20 dX4_runOrPause_7 (k := b) (hX.k (k := 0) (by decide)) hX.s0 rfl ?_
  refine y_iload_n hC dX4_runOrPause_10 (i := 1) rfl rfl ?_
  refine y_aald hC (Or.inl ⟨rfl, rfl, rfl⟩ : yT 3 3 RX3) dX4_runOrPause_11 (k := b + 3) (j := i) (hX.k (k := 3) (by decide)) hX.s3 (rfl) (by omega) (by decide) ?_
  refine y_get hC fX4_90 dX4_runOrPause_12 (k := b + 5 + π (i)) (hX.kV (i := i) (by omega)) (hX.rV hv (i := i) (by omega) (e3 (i) (by omega))) rfl ?_
  refine y_if_ne_n (tgt := 22) hC dX4_runOrPause_15 (by decide) (by omega) (fun c_15 => ?_) (fun c_15 => ?_)
  · refine y_iconst (v := nI 0) hC dX4_runOrPause_22 (by decide) ?_
    refine y_put hC fpX4_90 dX4_runOrPause_23 (k := b + 5 + π (i)) (hX.kV (i := i) (by omega)) (hX.rV hv (i := i) (by omega) (e3 (i) (by omega))) (Nat.le_of_ble_eq_true rfl) (rfl) (rfl) (fs' := [.int (nI (rg r (i) 0)), .int (nI (rg r (i) 1)), .int (nI (rg r (i) 2)), .int (nI (rg r (i) 3)), .int (nI (0)), .int (nI (rg r (i) 5)), .int (nI (rg r (i) 6))]) rfl ?_
    have hX_23 : SF E g (va_up g (b + 5 + π (i)) (oB 3 [.int (nI (rg r (i) 0)), .int (nI (rg r (i) 1)), .int (nI (rg r (i) 2)), .int (nI (rg r (i) 3)), .int (nI (0)), .int (nI (rg r (i) 5)), .int (nI (rg r (i) 6))])) b co pi π ρ (va_up V (i) (v7 (nI (rg r (i) 0)) (nI (rg r (i) 1)) (nI (rg r (i) 2)) (nI (rg r (i) 3)) (nI (0)) (nI (rg r (i) 5)) (nI (rg r (i) 6)))) U (v4 (nI (rc r)) (nI (gc r)) (nI (nn (r 156))) (nI (nn (r 157)))) := hX.upV (i := i) (by omega) (v7 (nI (rg r (i) 0)) (nI (rg r (i) 1)) (nI (rg r (i) 2)) (nI (rg r (i) 3)) (nI (0)) (nI (rg r (i) 5)) (nI (rg r (i) 6)))
    generalize (va_up g (b + 5 + π (i)) (oB 3 [.int (nI (rg r (i) 0)), .int (nI (rg r (i) 1)), .int (nI (rg r (i) 2)), .int (nI (rg r (i) 3)), .int (nI (0)), .int (nI (rg r (i) 5)), .int (nI (rg r (i) 6))])) = g_23 at hX_23 ⊢
    refine y_vret (hC := hC) (hd := dX4_runOrPause_26) (hq := ?_)
    have z32 : flpR r i 32 = r 32 := by unfold flpR; (repeat (first | rw [if_neg (by omega)] | rw [if_pos (by omega)]))
    have z75 : flpR r i 75 = r 75 := by unfold flpR; (repeat (first | rw [if_neg (by omega)] | rw [if_pos (by omega)]))
    refine hX_23.st ⟨fun k hk => by unfold flpR; (repeat (first | rw [if_neg (by omega)] | rw [if_pos (by omega)])); exact e1 k hk, fun k hk => by unfold flpR; (repeat (first | rw [if_neg (by omega)] | rw [if_pos (by omega)])); exact e2 k hk, ⟨by rw [z32, hv.1.1]; rfl, by rw [z75, hv.2.1.1]; rfl, by unfold flpR; (repeat (first | rw [if_neg (by omega)] | rw [if_pos (by omega)])); exact hv.2.2.2.2.2.2.2.1.1.symm, by unfold flpR; (repeat (first | rw [if_neg (by omega)] | rw [if_pos (by omega)])); exact hv.2.2.2.2.2.2.2.2.1.symm⟩, fun k hk j hj => ?_, fun k hk j hj => ?_⟩
    · rw [rc_of z32] at hk
      by_cases e : k = i
      · subst e
        rw [va_up_self]
        refine v7_j (f := fun j => flpR r k (33 + 7 * k + j)) ?_ ?_ ?_ ?_ ?_ ?_ ?_ j hj
        all_goals unfold flpR
        all_goals (repeat (first | rw [if_neg (by omega)] | rw [if_pos (by omega)]))
        all_goals first | exact (q1 0 (by decide)).symm | exact (q1 1 (by decide)).symm | exact (q1 2 (by decide)).symm | exact (q1 3 (by decide)).symm | exact (q1 5 (by decide)).symm | exact (q1 6 (by decide)).symm | exact congrArg nI (by omega)
      · rw [va_up_ne _ _ e]
        unfold flpR
        (repeat (first | rw [if_neg (by omega)] | rw [if_pos (by omega)]))
        exact e3 k hk j hj
    · rw [gc_of z75] at hk
      unfold flpR
      (repeat (first | rw [if_neg (by omega)] | rw [if_pos (by omega)]))
      exact e4 k hk j hj
  · refine y_iconst (v := nI 1) hC dX4_runOrPause_18 (by decide) ?_
    refine y_goto (tgt := 23) hC dX4_runOrPause_19 (by decide) ?_
    refine y_put hC fpX4_90 dX4_runOrPause_23 (k := b + 5 + π (i)) (hX.kV (i := i) (by omega)) (hX.rV hv (i := i) (by omega) (e3 (i) (by omega))) (Nat.le_of_ble_eq_true rfl) (rfl) (rfl) (fs' := [.int (nI (rg r (i) 0)), .int (nI (rg r (i) 1)), .int (nI (rg r (i) 2)), .int (nI (rg r (i) 3)), .int (nI (1)), .int (nI (rg r (i) 5)), .int (nI (rg r (i) 6))]) rfl ?_
    have hX_23 : SF E g (va_up g (b + 5 + π (i)) (oB 3 [.int (nI (rg r (i) 0)), .int (nI (rg r (i) 1)), .int (nI (rg r (i) 2)), .int (nI (rg r (i) 3)), .int (nI (1)), .int (nI (rg r (i) 5)), .int (nI (rg r (i) 6))])) b co pi π ρ (va_up V (i) (v7 (nI (rg r (i) 0)) (nI (rg r (i) 1)) (nI (rg r (i) 2)) (nI (rg r (i) 3)) (nI (1)) (nI (rg r (i) 5)) (nI (rg r (i) 6)))) U (v4 (nI (rc r)) (nI (gc r)) (nI (nn (r 156))) (nI (nn (r 157)))) := hX.upV (i := i) (by omega) (v7 (nI (rg r (i) 0)) (nI (rg r (i) 1)) (nI (rg r (i) 2)) (nI (rg r (i) 3)) (nI (1)) (nI (rg r (i) 5)) (nI (rg r (i) 6)))
    generalize (va_up g (b + 5 + π (i)) (oB 3 [.int (nI (rg r (i) 0)), .int (nI (rg r (i) 1)), .int (nI (rg r (i) 2)), .int (nI (rg r (i) 3)), .int (nI (1)), .int (nI (rg r (i) 5)), .int (nI (rg r (i) 6))])) = g_23 at hX_23 ⊢
    refine y_vret (hC := hC) (hd := dX4_runOrPause_26) (hq := ?_)
    have z32 : flpR r i 32 = r 32 := by unfold flpR; (repeat (first | rw [if_neg (by omega)] | rw [if_pos (by omega)]))
    have z75 : flpR r i 75 = r 75 := by unfold flpR; (repeat (first | rw [if_neg (by omega)] | rw [if_pos (by omega)]))
    refine hX_23.st ⟨fun k hk => by unfold flpR; (repeat (first | rw [if_neg (by omega)] | rw [if_pos (by omega)])); exact e1 k hk, fun k hk => by unfold flpR; (repeat (first | rw [if_neg (by omega)] | rw [if_pos (by omega)])); exact e2 k hk, ⟨by rw [z32, hv.1.1]; rfl, by rw [z75, hv.2.1.1]; rfl, by unfold flpR; (repeat (first | rw [if_neg (by omega)] | rw [if_pos (by omega)])); exact hv.2.2.2.2.2.2.2.1.1.symm, by unfold flpR; (repeat (first | rw [if_neg (by omega)] | rw [if_pos (by omega)])); exact hv.2.2.2.2.2.2.2.2.1.symm⟩, fun k hk j hj => ?_, fun k hk j hj => ?_⟩
    · rw [rc_of z32] at hk
      by_cases e : k = i
      · subst e
        rw [va_up_self]
        refine v7_j (f := fun j => flpR r k (33 + 7 * k + j)) ?_ ?_ ?_ ?_ ?_ ?_ ?_ j hj
        all_goals unfold flpR
        all_goals (repeat (first | rw [if_neg (by omega)] | rw [if_pos (by omega)]))
        all_goals first | exact (q1 0 (by decide)).symm | exact (q1 1 (by decide)).symm | exact (q1 2 (by decide)).symm | exact (q1 3 (by decide)).symm | exact (q1 5 (by decide)).symm | exact (q1 6 (by decide)).symm | exact congrArg nI (by omega)
      · rw [va_up_ne _ _ e]
        unfold flpR
        (repeat (first | rw [if_neg (by omega)] | rw [if_pos (by omega)]))
        exact e3 k hk j hj
    · rw [gc_of z75] at hk
      unfold flpR
      (repeat (first | rw [if_neg (by omega)] | rw [if_pos (by omega)]))
      exact e4 k hk j hj

theorem dX4_beginAgain_0 : decode cX4_beginAgain 0 = .ok (.iconst 0, 1) := by decide +kernel
theorem dX4_beginAgain_1 : decode cX4_beginAgain 1 = .ok (.istore_n 1, 1) := by decide +kernel
theorem dX4_beginAgain_2 : decode cX4_beginAgain 2 = .ok (.iload_n 1, 1) := by decide +kernel
theorem dX4_beginAgain_3 : decode cX4_beginAgain 3 = .ok (.aload_n 0, 1) := by decide +kernel
theorem dX4_beginAgain_4 : decode cX4_beginAgain 4 = .ok (.getfield 30, 3) := by decide +kernel
theorem dX4_beginAgain_7 : decode cX4_beginAgain 7 = .ok (.if_icmp .ge 18, 3) := by decide +kernel
theorem dX4_beginAgain_10 : decode cX4_beginAgain 10 = .ok (.aload_n 0, 1) := by decide +kernel
theorem dX4_beginAgain_11 : decode cX4_beginAgain 11 = .ok (.getfield 20, 3) := by decide +kernel
theorem dX4_beginAgain_14 : decode cX4_beginAgain 14 = .ok (.iload_n 1, 1) := by decide +kernel
theorem dX4_beginAgain_15 : decode cX4_beginAgain 15 = .ok (.aaload, 1) := by decide +kernel
theorem dX4_beginAgain_16 : decode cX4_beginAgain 16 = .ok (.invokevirtual 78, 3) := by decide +kernel
theorem dX4_beginAgain_19 : decode cX4_beginAgain 19 = .ok (.iinc 1 1, 3) := by decide +kernel
theorem dX4_beginAgain_22 : decode cX4_beginAgain 22 = .ok (.goto (-20), 3) := by decide +kernel
theorem dX4_beginAgain_25 : decode cX4_beginAgain 25 = .ok (.iconst 0, 1) := by decide +kernel
theorem dX4_beginAgain_26 : decode cX4_beginAgain 26 = .ok (.istore_n 1, 1) := by decide +kernel
theorem dX4_beginAgain_27 : decode cX4_beginAgain 27 = .ok (.iload_n 1, 1) := by decide +kernel
theorem dX4_beginAgain_28 : decode cX4_beginAgain 28 = .ok (.aload_n 0, 1) := by decide +kernel
theorem dX4_beginAgain_29 : decode cX4_beginAgain 29 = .ok (.getfield 34, 3) := by decide +kernel
theorem dX4_beginAgain_32 : decode cX4_beginAgain 32 = .ok (.if_icmp .ge 19, 3) := by decide +kernel
theorem dX4_beginAgain_35 : decode cX4_beginAgain 35 = .ok (.aload_n 0, 1) := by decide +kernel
theorem dX4_beginAgain_36 : decode cX4_beginAgain 36 = .ok (.getfield 26, 3) := by decide +kernel
theorem dX4_beginAgain_39 : decode cX4_beginAgain 39 = .ok (.iload_n 1, 1) := by decide +kernel
theorem dX4_beginAgain_40 : decode cX4_beginAgain 40 = .ok (.aaload, 1) := by decide +kernel
theorem dX4_beginAgain_41 : decode cX4_beginAgain 41 = .ok (.iconst 0, 1) := by decide +kernel
theorem dX4_beginAgain_42 : decode cX4_beginAgain 42 = .ok (.putfield 81, 3) := by decide +kernel
theorem dX4_beginAgain_45 : decode cX4_beginAgain 45 = .ok (.iinc 1 1, 3) := by decide +kernel
theorem dX4_beginAgain_48 : decode cX4_beginAgain 48 = .ok (.goto (-21), 3) := by decide +kernel
theorem dX4_beginAgain_51 : decode cX4_beginAgain 51 = .ok (.return_, 1) := by decide +kernel
set_option maxHeartbeats 4000000 in
set_option maxRecDepth 100000 in
theorem c_X4_beginAgain (l : Launch) (E : gE) (g : Mem) (b : Nat) (r : Row) (B : Nat) (hB : B < 100000000) (h : StA E g b r) (hv : Vr r B) : Mt l E yX4_beginAgain cX4_beginAgain 2 none 1 20 [rf E (b)] g (pV (fun g' => StA E g' b (begR r) ∧ Fr b g g')) := by
  obtain ⟨co, pi, π, ρ, V, U, hX, e1, e2, e3, e4⟩ := zStF h hv
  have hrc : rc r ≤ 6 := hv.1.2
  have hgc : gc r ≤ 4 := hv.2.1.2
  have ht1 : nn (r 156) ≤ B := hv.2.2.2.2.2.2.2.1.2
  have ht2 : nn (r 157) ≤ 7 * B := hv.2.2.2.2.2.2.2.2.2
  refine mt_go (own := RX4) (by decide) rfl (lo := [some (rf E (b)), none]) rfl (Nat.le_of_ble_eq_true rfl) (fun X hC => ?_)
  refine y_iconst (v := nI 0) hC dX4_beginAgain_0 (by decide) ?_
  refine y_istore_n hC dX4_beginAgain_1 (i := 1) rfl (Nat.le_of_ble_eq_true rfl) rfl (lo' := [some (rf E (b)), some (.int (nI (0)))]) rfl ?_
  have L_2 : ∀ (m : Nat) (i : Nat) (g1 : Mem) (V1 : Nat → Nat → Int32), (hm : rc r - i < m) → (hi : i ≤ rc r) → (hX1 : SF E g g1 b co pi π ρ V1 U (v4 (nI (rc r)) (nI (gc r)) (nI (nn (r 156))) (nI (nn (r 157))))) → (hk1 : ∀ k, k < i → ∀ j, j < 7 → V1 k j = begR r (33 + 7 * k + j)) → (hr1 : ∀ k, i ≤ k → V1 k = V k) → Y l E X (pV (fun g' => StA E g' b (begR r) ∧ Fr b g g')) 2 [some (rf E (b)), some (.int (nI (i)))] [] g1 := by
    intro m
    induction m with
    | zero => intro i g1 V1 hm hi hX1 hk1 hr1; exact absurd hm (Nat.not_lt_zero _)
    | succ m ih_2 =>
      intro i g1 V1 hm hi hX1 hk1 hr1
      refine y_iload_n hC dX4_beginAgain_2 (i := 1) rfl rfl ?_
      refine y_aload_n hC dX4_beginAgain_3 (i := 0) rfl rfl ?_
      refine y_get hC fX4_30 dX4_beginAgain_4 (k := b) (hX1.k (k := 0) (by decide)) hX1.s0 rfl ?_
      refine y_icmp_ge_n (tgt := 25) hC dX4_beginAgain_7 (by decide) (by omega) (by omega) (fun c_7 => ?_) (fun c_7 => ?_)
      · refine y_iconst (v := nI 0) hC dX4_beginAgain_25 (by decide) ?_
        refine y_istore_n hC dX4_beginAgain_26 (i := 1) rfl (Nat.le_of_ble_eq_true rfl) rfl (lo' := [some (rf E (b)), some (.int (nI (0)))]) rfl ?_
        have hk3 : ∀ k, k < rc r → ∀ j, j < 7 → V1 k j = begR r (33 + 7 * k + j) := fun k hk => hk1 k (by omega)
        clear hk1 hr1 hi ih_2
        have L_27 : ∀ (m : Nat) (i : Nat) (g2 : Mem) (U1 : Nat → Nat → Int32), (hm : gc r - i < m) → (hi : i ≤ gc r) → (hX2 : SF E g g2 b co pi π ρ V1 U1 (v4 (nI (rc r)) (nI (gc r)) (nI (nn (r 156))) (nI (nn (r 157))))) → (hs2 : ∀ k, k < i → ∀ j, j < 4 → U1 k j = begR r (76 + 4 * k + j)) → (hs1 : ∀ k, i ≤ k → U1 k = U k) → Y l E X (pV (fun g' => StA E g' b (begR r) ∧ Fr b g g')) 27 [some (rf E (b)), some (.int (nI (i)))] [] g2 := by
          intro m
          induction m with
          | zero => intro i g2 U1 hm hi hX2 hs2 hs1; exact absurd hm (Nat.not_lt_zero _)
          | succ m ih_27 =>
            intro i g2 U1 hm hi hX2 hs2 hs1
            refine y_iload_n hC dX4_beginAgain_27 (i := 1) rfl rfl ?_
            refine y_aload_n hC dX4_beginAgain_28 (i := 0) rfl rfl ?_
            refine y_get hC fX4_34 dX4_beginAgain_29 (k := b) (hX2.k (k := 0) (by decide)) hX2.s0 rfl ?_
            refine y_icmp_ge_n (tgt := 51) hC dX4_beginAgain_32 (by decide) (by omega) (by omega) (fun c_32 => ?_) (fun c_32 => ?_)
            · refine y_vret (hC := hC) (hd := dX4_beginAgain_51) (hq := ?_)
              have z32 : begR r 32 = r 32 := by unfold begR; (repeat (first | rw [if_neg (by omega)] | rw [if_pos (by omega)]))
              have z75 : begR r 75 = r 75 := by unfold begR; (repeat (first | rw [if_neg (by omega)] | rw [if_pos (by omega)]))
              refine hX2.st ⟨fun k hk => by unfold begR; (repeat (first | rw [if_neg (by omega)] | rw [if_pos (by omega)])); exact e1 k hk, fun k hk => by unfold begR; (repeat (first | rw [if_neg (by omega)] | rw [if_pos (by omega)])); exact e2 k hk, ⟨by rw [z32, hv.1.1]; rfl, by rw [z75, hv.2.1.1]; rfl, by unfold begR; (repeat (first | rw [if_neg (by omega)] | rw [if_pos (by omega)])); exact hv.2.2.2.2.2.2.2.1.1.symm, by unfold begR; (repeat (first | rw [if_neg (by omega)] | rw [if_pos (by omega)])); exact hv.2.2.2.2.2.2.2.2.1.symm⟩, fun k hk j hj => ?_, fun k hk j hj => ?_⟩
              · rw [rc_of z32] at hk
                exact hk3 k hk j hj
              · rw [gc_of z75] at hk
                exact hs2 k (by omega) j hj
            · have hlt : i < gc r := by omega
              obtain ⟨q1, q2, q3, q4, q5⟩ := hv.gl (i := i) (by omega)
              refine y_aload_n hC dX4_beginAgain_35 (i := 0) rfl rfl ?_
              refine y_get hC fX4_26 dX4_beginAgain_36 (k := b) (hX2.k (k := 0) (by decide)) hX2.s0 rfl ?_
              refine y_iload_n hC dX4_beginAgain_39 (i := 1) rfl rfl ?_
              refine y_aald hC (Or.inr (Or.inl ⟨rfl, rfl, rfl⟩) : yT 4 0 RX0) dX4_beginAgain_40 (k := b + 4) (j := i) (hX2.k (k := 4) (by decide)) hX2.s4 (rfl) (by omega) (by decide) ?_
              refine y_iconst (v := nI 0) hC dX4_beginAgain_41 (by decide) ?_
              refine y_put hC fpX4_81 dX4_beginAgain_42 (k := b + 11 + ρ (i)) (hX2.kU (i := i) (by omega)) (hX2.rU hv (i := i) (by omega) (fun j hj => by rw [hs1 i (Nat.le_refl _)]; exact e4 i (by omega) j hj)) (Nat.le_of_ble_eq_true rfl) (rfl) (rfl) (fs' := [.int (nI (gl r (i) 0)), .int (r (76 + 4 * (i) + 1)), .int (nI (gl r (i) 2)), .int (nI (0))]) rfl ?_
              have hX_42 : SF E g (va_up g2 (b + 11 + ρ (i)) (oB 0 [.int (nI (gl r (i) 0)), .int (r (76 + 4 * (i) + 1)), .int (nI (gl r (i) 2)), .int (nI (0))])) b co pi π ρ V1 (va_up U1 (i) (v4 (nI (gl r (i) 0)) ((r (76 + 4 * (i) + 1))) (nI (gl r (i) 2)) (nI (0)))) (v4 (nI (rc r)) (nI (gc r)) (nI (nn (r 156))) (nI (nn (r 157)))) := hX2.upU (i := i) (by omega) (v4 (nI (gl r (i) 0)) ((r (76 + 4 * (i) + 1))) (nI (gl r (i) 2)) (nI (0)))
              generalize (va_up g2 (b + 11 + ρ (i)) (oB 0 [.int (nI (gl r (i) 0)), .int (r (76 + 4 * (i) + 1)), .int (nI (gl r (i) 2)), .int (nI (0))])) = g_42 at hX_42 ⊢
              refine y_iinc_n hC dX4_beginAgain_45 (a := i) (k := 1) rfl (by decide) (Nat.le_of_ble_eq_true rfl) rfl (lo' := [some (rf E (b)), some (.int (nI (i + 1)))]) rfl ?_
              refine y_goto (tgt := 27) hC dX4_beginAgain_48 (by decide) ?_
              have hk2 : ∀ k, k < i + 1 → ∀ j, j < 4 → (va_up U1 (i) (v4 (nI (gl r (i) 0)) ((r (76 + 4 * (i) + 1))) (nI (gl r (i) 2)) (nI (0)))) k j = begR r (76 + 4 * k + j) := by
                intro k hk
                by_cases e : k = i
                · subst e
                  rw [va_up_self]
                  obtain ⟨⟨q1, q2, q3⟩, -⟩ := hv.gl hlt
                  refine v4_j (f := fun j => begR r (76 + 4 * k + j)) ?_ ?_ ?_ ?_
                  all_goals unfold begR
                  all_goals (repeat (first | rw [if_neg (by omega)] | rw [if_pos (by omega)]))
                  all_goals first | exact q1.symm | rfl | exact q2.symm
                · rw [va_up_ne _ _ e]
                  exact hs2 k (by omega)
              exact ih_27 (i + 1) g_42 _ (by omega) (by omega) hX_42 hk2 (fun k hk => by rw [va_up_ne _ _ (by omega)]; exact hs1 k (by omega))
        exact L_27 (gc r + 1) 0 g1 U (by omega) (by omega) hX1 (fun k hk => absurd hk (Nat.not_lt_zero k)) (fun _ _ => rfl)
      · have hlt : i < rc r := by omega
        obtain ⟨q1, q2, q3, q4, q5, q6, q7, q8, q9⟩ := hv.rg (i := i) (by omega)
        refine y_aload_n hC dX4_beginAgain_10 (i := 0) rfl rfl ?_
        refine y_get hC fX4_20 dX4_beginAgain_11 (k := b) (hX1.k (k := 0) (by decide)) hX1.s0 rfl ?_
        refine y_iload_n hC dX4_beginAgain_14 (i := 1) rfl rfl ?_
        refine y_aald hC (Or.inl ⟨rfl, rfl, rfl⟩ : yT 3 3 RX3) dX4_beginAgain_15 (k := b + 3) (j := i) (hX1.k (k := 3) (by decide)) hX1.s3 (rfl) (by omega) (by decide) ?_
        refine y_callV hC mX3_beginAgain kX4_78 dX4_beginAgain_16 (b := b + 5 + π (i)) (As := []) (rest := []) (c_X3_beginAgain l E g1 (b + 5 + π (i)) (hX1.kV (i := i) (by omega)) _ _ _ _ _ _ _ (hX1.rV hv (i := i) (by omega) (fun j hj => by rw [hr1 i (Nat.le_refl _)]; exact e3 i (by omega) j hj))) (hX1.kV (i := i) (by omega)) (hX1.rV hv (i := i) (by omega) (fun j hj => by rw [hr1 i (Nat.le_refl _)]; exact e3 i (by omega) j hj)) rfl rfl rfl (Nat.le_of_ble_eq_true rfl) ⟨Nat.le_of_ble_eq_true rfl, Nat.le_of_ble_eq_true rfl⟩ (pk_v ?_)
        rintro g_16 hq_16
        have hX_16 : SF E g g_16 b co pi π ρ (va_up V1 (i) (v7 (nI (rg r (i) 0)) (nI (rg r (i) 1)) (nI (rg r (i) 2)) (nI (rg r (i) 3)) (nI (rg r (i) 4)) (nI (0)) (nI (0)))) U (v4 (nI (rc r)) (nI (gc r)) (nI (nn (r 156))) (nI (nn (r 157)))) := by rw [hq_16]; exact hX1.upV (i := i) (by omega) (v7 (nI (rg r (i) 0)) (nI (rg r (i) 1)) (nI (rg r (i) 2)) (nI (rg r (i) 3)) (nI (rg r (i) 4)) (nI (0)) (nI (0)))
        refine y_iinc_n hC dX4_beginAgain_19 (a := i) (k := 1) rfl (by decide) (Nat.le_of_ble_eq_true rfl) rfl (lo' := [some (rf E (b)), some (.int (nI (i + 1)))]) rfl ?_
        refine y_goto (tgt := 2) hC dX4_beginAgain_22 (by decide) ?_
        have hk2 : ∀ k, k < i + 1 → ∀ j, j < 7 → (va_up V1 (i) (v7 (nI (rg r (i) 0)) (nI (rg r (i) 1)) (nI (rg r (i) 2)) (nI (rg r (i) 3)) (nI (rg r (i) 4)) (nI (0)) (nI (0)))) k j = begR r (33 + 7 * k + j) := by
          intro k hk
          by_cases e : k = i
          · subst e
            rw [va_up_self]
            refine v7_j (f := fun j => begR r (33 + 7 * k + j)) ?_ ?_ ?_ ?_ ?_ ?_ ?_
            all_goals unfold begR
            all_goals (repeat (first | rw [if_neg (by omega)] | rw [if_pos (by omega)]))
            all_goals first | exact (q1 0 (by decide)).symm | exact (q1 1 (by decide)).symm | exact (q1 2 (by decide)).symm | exact (q1 3 (by decide)).symm | exact (q1 4 (by decide)).symm | rfl
          · rw [va_up_ne _ _ e]
            exact hk1 k (by omega)
        exact ih_2 (i + 1) g_16 _ (by omega) (by omega) hX_16 hk2 (fun k hk => by rw [va_up_ne _ _ (by omega)]; exact hr1 k (by omega))
  exact L_2 (rc r + 1) 0 g V (by omega) (by omega) hX (fun k hk => absurd hk (Nat.not_lt_zero k)) (fun _ _ => rfl)

theorem dX4_appendRange_0 : decode cX4_appendRange 0 = .ok (.aload_n 0, 1) := by decide +kernel
theorem dX4_appendRange_1 : decode cX4_appendRange 1 = .ok (.getfield 20, 3) := by decide +kernel
theorem dX4_appendRange_4 : decode cX4_appendRange 4 = .ok (.aload_n 0, 1) := by decide +kernel
theorem dX4_appendRange_5 : decode cX4_appendRange 5 = .ok (.getfield 30, 3) := by decide +kernel
theorem dX4_appendRange_8 : decode cX4_appendRange 8 = .ok (.aaload, 1) := by decide +kernel
theorem dX4_appendRange_9 : decode cX4_appendRange 9 = .ok (.iload_n 1, 1) := by decide +kernel
theorem dX4_appendRange_10 : decode cX4_appendRange 10 = .ok (.iload_n 2, 1) := by decide +kernel
theorem dX4_appendRange_11 : decode cX4_appendRange 11 = .ok (.iload_n 3, 1) := by decide +kernel
theorem dX4_appendRange_12 : decode cX4_appendRange 12 = .ok (.iload 4, 2) := by decide +kernel
theorem dX4_appendRange_14 : decode cX4_appendRange 14 = .ok (.invokevirtual 71, 3) := by decide +kernel
theorem dX4_appendRange_17 : decode cX4_appendRange 17 = .ok (.aload_n 0, 1) := by decide +kernel
theorem dX4_appendRange_18 : decode cX4_appendRange 18 = .ok (.dup, 1) := by decide +kernel
theorem dX4_appendRange_19 : decode cX4_appendRange 19 = .ok (.getfield 30, 3) := by decide +kernel
theorem dX4_appendRange_22 : decode cX4_appendRange 22 = .ok (.iconst 1, 1) := by decide +kernel
theorem dX4_appendRange_23 : decode cX4_appendRange 23 = .ok (.iadd, 1) := by decide +kernel
theorem dX4_appendRange_24 : decode cX4_appendRange 24 = .ok (.putfield 30, 3) := by decide +kernel
theorem dX4_appendRange_27 : decode cX4_appendRange 27 = .ok (.aload_n 0, 1) := by decide +kernel
theorem dX4_appendRange_28 : decode cX4_appendRange 28 = .ok (.getfield 30, 3) := by decide +kernel
theorem dX4_appendRange_31 : decode cX4_appendRange 31 = .ok (.iconst 1, 1) := by decide +kernel
theorem dX4_appendRange_32 : decode cX4_appendRange 32 = .ok (.isub, 1) := by decide +kernel
theorem dX4_appendRange_33 : decode cX4_appendRange 33 = .ok (.ireturn, 1) := by decide +kernel
set_option maxHeartbeats 4000000 in
set_option maxRecDepth 100000 in
theorem c_X4_appendRange (l : Launch) (E : gE) (g : Mem) (b : Nat) (r : Row) (B : Nat) (hB : B < 100000000) (h : StA E g b r) (hv : Vr r B) (f la s w : Int32) (h6 : rc r < 6) : Mt l E yX4_appendRange cX4_appendRange 5 (some .int) 3 66 [rf E (b), .int (f), .int (la), .int (s), .int (w)] g (pI (fun z g' => z = nI (rc r) ∧ StA E g' b (addR r f la s w) ∧ Fr b g g')) := by
  obtain ⟨co, pi, π, ρ, V, U, hX, e1, e2, e3, e4⟩ := zStF h hv
  have hrc : rc r ≤ 6 := hv.1.2
  have hgc : gc r ≤ 4 := hv.2.1.2
  have ht1 : nn (r 156) ≤ B := hv.2.2.2.2.2.2.2.1.2
  have ht2 : nn (r 157) ≤ 7 * B := hv.2.2.2.2.2.2.2.2.2
  refine mt_go (own := RX4) (by decide) rfl (lo := [some (rf E (b)), some (.int (f)), some (.int (la)), some (.int (s)), some (.int (w))]) rfl (Nat.le_of_ble_eq_true rfl) (fun X hC => ?_)
  refine y_aload_n hC dX4_appendRange_0 (i := 0) rfl rfl ?_
  refine y_get hC fX4_20 dX4_appendRange_1 (k := b) (hX.k (k := 0) (by decide)) hX.s0 rfl ?_
  refine y_aload_n hC dX4_appendRange_4 (i := 0) rfl rfl ?_
  refine y_get hC fX4_30 dX4_appendRange_5 (k := b) (hX.k (k := 0) (by decide)) hX.s0 rfl ?_
  refine y_aald hC (Or.inl ⟨rfl, rfl, rfl⟩ : yT 3 3 RX3) dX4_appendRange_8 (k := b + 3) (j := rc r) (hX.k (k := 3) (by decide)) hX.s3 (rfl) (by omega) (by decide) ?_
  refine y_iload_n hC dX4_appendRange_9 (i := 1) rfl rfl ?_
  refine y_iload_n hC dX4_appendRange_10 (i := 2) rfl rfl ?_
  refine y_iload_n hC dX4_appendRange_11 (i := 3) rfl rfl ?_
  refine y_iload hC dX4_appendRange_12 rfl ?_
  refine y_callV hC mX3_begin kX4_71 dX4_appendRange_14 (b := b + 5 + π (rc r)) (As := [.int (f), .int (la), .int (s), .int (w)]) (rest := []) (c_X3_begin l E g (b + 5 + π (rc r)) (hX.kV (i := rc r) (by omega)) _ _ _ _ _ _ _ (hX.vV (i := rc r) (by omega)) f la s w) (hX.kV (i := rc r) (by omega)) (hX.vV (i := rc r) (by omega)) rfl rfl rfl (Nat.le_of_ble_eq_true rfl) ⟨Nat.le_of_ble_eq_true rfl, Nat.le_of_ble_eq_true rfl⟩ (pk_v ?_)
  rintro g_14 hq_14
  have hX_14 : SF E g g_14 b co pi π ρ (va_up V (rc r) (v7 ((f)) ((la)) ((s)) ((w)) (nI (1)) (nI (0)) (nI (0)))) U (v4 (nI (rc r)) (nI (gc r)) (nI (nn (r 156))) (nI (nn (r 157)))) := by rw [hq_14]; exact hX.upV (i := rc r) (by omega) (v7 ((f)) ((la)) ((s)) ((w)) (nI (1)) (nI (0)) (nI (0)))
  refine y_aload_n hC dX4_appendRange_17 (i := 0) rfl rfl ?_
  refine y_dup hC dX4_appendRange_18 rfl ?_
  refine y_get hC fX4_30 dX4_appendRange_19 (k := b) (hX_14.k (k := 0) (by decide)) hX_14.s0 rfl ?_
  refine y_iconst (v := nI 1) hC dX4_appendRange_22 (by decide) ?_
  refine y_iadd_n hC dX4_appendRange_23 ?_
  refine y_put hC fpX4_30 dX4_appendRange_24 (k := b) (hX_14.k (k := 0) (by decide)) hX_14.s0 (Nat.le_of_ble_eq_true rfl) (rfl) (rfl) (fs' := [rf E (b + 1), rf E (b + 2), rf E (b + 3), rf E (b + 4), .int (nI ((rc r) + 1)), .int (nI (gc r)), .int (nI (nn (r 156))), .int (nI (nn (r 157)))]) rfl ?_
  have hX_24 : SF E g (va_up g_14 (b) (oB 4 [rf E (b + 1), rf E (b + 2), rf E (b + 3), rf E (b + 4), .int (nI ((rc r) + 1)), .int (nI (gc r)), .int (nI (nn (r 156))), .int (nI (nn (r 157)))])) b co pi π ρ (va_up V (rc r) (v7 ((f)) ((la)) ((s)) ((w)) (nI (1)) (nI (0)) (nI (0)))) U (v4 (nI ((rc r) + 1)) (nI (gc r)) (nI (nn (r 156))) (nI (nn (r 157)))) := hX_14.upn (v4 (nI ((rc r) + 1)) (nI (gc r)) (nI (nn (r 156))) (nI (nn (r 157))))
  generalize (va_up g_14 (b) (oB 4 [rf E (b + 1), rf E (b + 2), rf E (b + 3), rf E (b + 4), .int (nI ((rc r) + 1)), .int (nI (gc r)), .int (nI (nn (r 156))), .int (nI (nn (r 157)))])) = g_24 at hX_24 ⊢
  refine y_aload_n hC dX4_appendRange_27 (i := 0) rfl rfl ?_
  refine y_get hC fX4_30 dX4_appendRange_28 (k := b) (hX_24.k (k := 0) (by decide)) hX_24.s0 rfl ?_
  refine y_iconst (v := nI 1) hC dX4_appendRange_31 (by decide) ?_
  refine y_isub hC dX4_appendRange_32 ?_
  refine y_iret (hC := hC) (hd := dX4_appendRange_33) (hq := ?_)
  have z32 : addR r f la s w 32 = nI (rc r + 1) := by unfold addR; (repeat (first | rw [if_neg (by omega)] | rw [if_pos (by omega)]))
  have z75 : addR r f la s w 75 = r 75 := by unfold addR; (repeat (first | rw [if_neg (by omega)] | rw [if_pos (by omega)]))
  have zrc : rc (addR r f la s w) = rc r + 1 := by unfold rc at *; rw [z32]; exact nn_I (by omega)
  refine ⟨pk_m1' _, hX_24.st ⟨fun k hk => by unfold addR; (repeat (first | rw [if_neg (by omega)] | rw [if_pos (by omega)])); exact e1 k hk, fun k hk => by unfold addR; (repeat (first | rw [if_neg (by omega)] | rw [if_pos (by omega)])); exact e2 k hk, ⟨by rw [z32]; rfl, by rw [z75, hv.2.1.1]; rfl, by unfold addR; (repeat (first | rw [if_neg (by omega)] | rw [if_pos (by omega)])); exact hv.2.2.2.2.2.2.2.1.1.symm, by unfold addR; (repeat (first | rw [if_neg (by omega)] | rw [if_pos (by omega)])); exact hv.2.2.2.2.2.2.2.2.1.symm⟩, fun k hk j hj => ?_, fun k hk j hj => ?_⟩⟩
  · rw [zrc] at hk
    by_cases e : k = rc r
    · rw [e, va_up_self]
      unfold addR
      (repeat (first | rw [if_neg (by omega)] | rw [if_pos (by omega)]))
      rw [show 33 + 7 * rc r + j - (33 + 7 * rc r) = j by omega]
    · rw [va_up_ne _ _ e]
      unfold addR
      (repeat (first | rw [if_neg (by omega)] | rw [if_pos (by omega)]))
      exact e3 k (by omega) j hj
  · rw [gc_of z75] at hk
    unfold addR
    (repeat (first | rw [if_neg (by omega)] | rw [if_pos (by omega)]))
    exact e4 k hk j hj

theorem dX4_appendGlow_0 : decode cX4_appendGlow 0 = .ok (.aload_n 0, 1) := by decide +kernel
theorem dX4_appendGlow_1 : decode cX4_appendGlow 1 = .ok (.getfield 26, 3) := by decide +kernel
theorem dX4_appendGlow_4 : decode cX4_appendGlow 4 = .ok (.aload_n 0, 1) := by decide +kernel
theorem dX4_appendGlow_5 : decode cX4_appendGlow 5 = .ok (.getfield 34, 3) := by decide +kernel
theorem dX4_appendGlow_8 : decode cX4_appendGlow 8 = .ok (.aaload, 1) := by decide +kernel
theorem dX4_appendGlow_9 : decode cX4_appendGlow 9 = .ok (.iload_n 1, 1) := by decide +kernel
theorem dX4_appendGlow_10 : decode cX4_appendGlow 10 = .ok (.iload_n 2, 1) := by decide +kernel
theorem dX4_appendGlow_11 : decode cX4_appendGlow 11 = .ok (.iload_n 3, 1) := by decide +kernel
theorem dX4_appendGlow_12 : decode cX4_appendGlow 12 = .ok (.invokevirtual 75, 3) := by decide +kernel
theorem dX4_appendGlow_15 : decode cX4_appendGlow 15 = .ok (.aload_n 0, 1) := by decide +kernel
theorem dX4_appendGlow_16 : decode cX4_appendGlow 16 = .ok (.dup, 1) := by decide +kernel
theorem dX4_appendGlow_17 : decode cX4_appendGlow 17 = .ok (.getfield 34, 3) := by decide +kernel
theorem dX4_appendGlow_20 : decode cX4_appendGlow 20 = .ok (.iconst 1, 1) := by decide +kernel
theorem dX4_appendGlow_21 : decode cX4_appendGlow 21 = .ok (.iadd, 1) := by decide +kernel
theorem dX4_appendGlow_22 : decode cX4_appendGlow 22 = .ok (.putfield 34, 3) := by decide +kernel
theorem dX4_appendGlow_25 : decode cX4_appendGlow 25 = .ok (.aload_n 0, 1) := by decide +kernel
theorem dX4_appendGlow_26 : decode cX4_appendGlow 26 = .ok (.getfield 34, 3) := by decide +kernel
theorem dX4_appendGlow_29 : decode cX4_appendGlow 29 = .ok (.iconst 1, 1) := by decide +kernel
theorem dX4_appendGlow_30 : decode cX4_appendGlow 30 = .ok (.isub, 1) := by decide +kernel
theorem dX4_appendGlow_31 : decode cX4_appendGlow 31 = .ok (.ireturn, 1) := by decide +kernel
set_option maxHeartbeats 4000000 in
set_option maxRecDepth 100000 in
theorem c_X4_appendGlow (l : Launch) (E : gE) (g : Mem) (b : Nat) (r : Row) (B : Nat) (hB : B < 100000000) (h : StA E g b r) (hv : Vr r B) (p c s : Int32) (h4 : gc r < 4) : Mt l E yX4_appendGlow cX4_appendGlow 4 (some .int) 1 23 [rf E (b), .int (p), .int (c), .int (s)] g (pI (fun z g' => z = nI (gc r) ∧ StA E g' b (addG r p c s) ∧ Fr b g g')) := by
  obtain ⟨co, pi, π, ρ, V, U, hX, e1, e2, e3, e4⟩ := zStF h hv
  have hrc : rc r ≤ 6 := hv.1.2
  have hgc : gc r ≤ 4 := hv.2.1.2
  have ht1 : nn (r 156) ≤ B := hv.2.2.2.2.2.2.2.1.2
  have ht2 : nn (r 157) ≤ 7 * B := hv.2.2.2.2.2.2.2.2.2
  refine mt_go (own := RX4) (by decide) rfl (lo := [some (rf E (b)), some (.int (p)), some (.int (c)), some (.int (s))]) rfl (Nat.le_of_ble_eq_true rfl) (fun X hC => ?_)
  refine y_aload_n hC dX4_appendGlow_0 (i := 0) rfl rfl ?_
  refine y_get hC fX4_26 dX4_appendGlow_1 (k := b) (hX.k (k := 0) (by decide)) hX.s0 rfl ?_
  refine y_aload_n hC dX4_appendGlow_4 (i := 0) rfl rfl ?_
  refine y_get hC fX4_34 dX4_appendGlow_5 (k := b) (hX.k (k := 0) (by decide)) hX.s0 rfl ?_
  refine y_aald hC (Or.inr (Or.inl ⟨rfl, rfl, rfl⟩) : yT 4 0 RX0) dX4_appendGlow_8 (k := b + 4) (j := gc r) (hX.k (k := 4) (by decide)) hX.s4 (rfl) (by omega) (by decide) ?_
  refine y_iload_n hC dX4_appendGlow_9 (i := 1) rfl rfl ?_
  refine y_iload_n hC dX4_appendGlow_10 (i := 2) rfl rfl ?_
  refine y_iload_n hC dX4_appendGlow_11 (i := 3) rfl rfl ?_
  refine y_callV hC mX0_begin kX4_75 dX4_appendGlow_12 (b := b + 11 + ρ (gc r)) (As := [.int (p), .int (c), .int (s)]) (rest := []) (c_X0_begin l E g (b + 11 + ρ (gc r)) (hX.kU (i := gc r) (by omega)) _ _ _ _ (hX.vU (i := gc r) (by omega)) p c s) (hX.kU (i := gc r) (by omega)) (hX.vU (i := gc r) (by omega)) rfl rfl rfl (Nat.le_of_ble_eq_true rfl) ⟨Nat.le_of_ble_eq_true rfl, Nat.le_of_ble_eq_true rfl⟩ (pk_v ?_)
  rintro g_12 hq_12
  have hX_12 : SF E g g_12 b co pi π ρ V (va_up U (gc r) (v4 ((p)) ((c)) ((s)) (nI (0)))) (v4 (nI (rc r)) (nI (gc r)) (nI (nn (r 156))) (nI (nn (r 157)))) := by rw [hq_12]; exact hX.upU (i := gc r) (by omega) (v4 ((p)) ((c)) ((s)) (nI (0)))
  refine y_aload_n hC dX4_appendGlow_15 (i := 0) rfl rfl ?_
  refine y_dup hC dX4_appendGlow_16 rfl ?_
  refine y_get hC fX4_34 dX4_appendGlow_17 (k := b) (hX_12.k (k := 0) (by decide)) hX_12.s0 rfl ?_
  refine y_iconst (v := nI 1) hC dX4_appendGlow_20 (by decide) ?_
  refine y_iadd_n hC dX4_appendGlow_21 ?_
  refine y_put hC fpX4_34 dX4_appendGlow_22 (k := b) (hX_12.k (k := 0) (by decide)) hX_12.s0 (Nat.le_of_ble_eq_true rfl) (rfl) (rfl) (fs' := [rf E (b + 1), rf E (b + 2), rf E (b + 3), rf E (b + 4), .int (nI (rc r)), .int (nI ((gc r) + 1)), .int (nI (nn (r 156))), .int (nI (nn (r 157)))]) rfl ?_
  have hX_22 : SF E g (va_up g_12 (b) (oB 4 [rf E (b + 1), rf E (b + 2), rf E (b + 3), rf E (b + 4), .int (nI (rc r)), .int (nI ((gc r) + 1)), .int (nI (nn (r 156))), .int (nI (nn (r 157)))])) b co pi π ρ V (va_up U (gc r) (v4 ((p)) ((c)) ((s)) (nI (0)))) (v4 (nI (rc r)) (nI ((gc r) + 1)) (nI (nn (r 156))) (nI (nn (r 157)))) := hX_12.upn (v4 (nI (rc r)) (nI ((gc r) + 1)) (nI (nn (r 156))) (nI (nn (r 157))))
  generalize (va_up g_12 (b) (oB 4 [rf E (b + 1), rf E (b + 2), rf E (b + 3), rf E (b + 4), .int (nI (rc r)), .int (nI ((gc r) + 1)), .int (nI (nn (r 156))), .int (nI (nn (r 157)))])) = g_22 at hX_22 ⊢
  refine y_aload_n hC dX4_appendGlow_25 (i := 0) rfl rfl ?_
  refine y_get hC fX4_34 dX4_appendGlow_26 (k := b) (hX_22.k (k := 0) (by decide)) hX_22.s0 rfl ?_
  refine y_iconst (v := nI 1) hC dX4_appendGlow_29 (by decide) ?_
  refine y_isub hC dX4_appendGlow_30 ?_
  refine y_iret (hC := hC) (hd := dX4_appendGlow_31) (hq := ?_)
  have z32 : addG r p c s 32 = r 32 := by unfold addG; (repeat (first | rw [if_neg (by omega)] | rw [if_pos (by omega)]))
  have z75 : addG r p c s 75 = nI (gc r + 1) := by unfold addG; (repeat (first | rw [if_neg (by omega)] | rw [if_pos (by omega)]))
  have zgc : gc (addG r p c s) = gc r + 1 := by unfold gc at *; rw [z75]; exact nn_I (by omega)
  refine ⟨pk_m1' _, hX_22.st ⟨fun k hk => by unfold addG; (repeat (first | rw [if_neg (by omega)] | rw [if_pos (by omega)])); exact e1 k hk, fun k hk => by unfold addG; (repeat (first | rw [if_neg (by omega)] | rw [if_pos (by omega)])); exact e2 k hk, ⟨by rw [z32, hv.1.1]; rfl, by rw [z75]; rfl, by unfold addG; (repeat (first | rw [if_neg (by omega)] | rw [if_pos (by omega)])); exact hv.2.2.2.2.2.2.2.1.1.symm, by unfold addG; (repeat (first | rw [if_neg (by omega)] | rw [if_pos (by omega)])); exact hv.2.2.2.2.2.2.2.2.1.symm⟩, fun k hk j hj => ?_, fun k hk j hj => ?_⟩⟩
  · rw [rc_of z32] at hk
    unfold addG
    (repeat (first | rw [if_neg (by omega)] | rw [if_pos (by omega)]))
    exact e3 k hk j hj
  · rw [zgc] at hk
    by_cases e : k = gc r
    · rw [e, va_up_self]
      unfold addG
      (repeat (first | rw [if_neg (by omega)] | rw [if_pos (by omega)]))
      rw [show 76 + 4 * gc r + j - (76 + 4 * gc r) = j by omega]
    · rw [va_up_ne _ _ e]
      unfold addG
      (repeat (first | rw [if_neg (by omega)] | rw [if_pos (by omega)]))
      exact e4 k (by omega) j hj

theorem dX4_dropRange_0 : decode cX4_dropRange 0 = .ok (.aload_n 0, 1) := by decide +kernel
theorem dX4_dropRange_1 : decode cX4_dropRange 1 = .ok (.getfield 20, 3) := by decide +kernel
theorem dX4_dropRange_4 : decode cX4_dropRange 4 = .ok (.iload_n 1, 1) := by decide +kernel
theorem dX4_dropRange_5 : decode cX4_dropRange 5 = .ok (.aaload, 1) := by decide +kernel
theorem dX4_dropRange_6 : decode cX4_dropRange 6 = .ok (.astore_n 2, 1) := by decide +kernel
theorem dX4_dropRange_7 : decode cX4_dropRange 7 = .ok (.aload_n 0, 1) := by decide +kernel
theorem dX4_dropRange_8 : decode cX4_dropRange 8 = .ok (.dup, 1) := by decide +kernel
theorem dX4_dropRange_9 : decode cX4_dropRange 9 = .ok (.getfield 30, 3) := by decide +kernel
theorem dX4_dropRange_12 : decode cX4_dropRange 12 = .ok (.iconst 1, 1) := by decide +kernel
theorem dX4_dropRange_13 : decode cX4_dropRange 13 = .ok (.isub, 1) := by decide +kernel
theorem dX4_dropRange_14 : decode cX4_dropRange 14 = .ok (.putfield 30, 3) := by decide +kernel
theorem dX4_dropRange_17 : decode cX4_dropRange 17 = .ok (.iload_n 1, 1) := by decide +kernel
theorem dX4_dropRange_18 : decode cX4_dropRange 18 = .ok (.istore_n 3, 1) := by decide +kernel
theorem dX4_dropRange_19 : decode cX4_dropRange 19 = .ok (.iload_n 3, 1) := by decide +kernel
theorem dX4_dropRange_20 : decode cX4_dropRange 20 = .ok (.aload_n 0, 1) := by decide +kernel
theorem dX4_dropRange_21 : decode cX4_dropRange 21 = .ok (.getfield 30, 3) := by decide +kernel
theorem dX4_dropRange_24 : decode cX4_dropRange 24 = .ok (.if_icmp .ge 23, 3) := by decide +kernel
theorem dX4_dropRange_27 : decode cX4_dropRange 27 = .ok (.aload_n 0, 1) := by decide +kernel
theorem dX4_dropRange_28 : decode cX4_dropRange 28 = .ok (.getfield 20, 3) := by decide +kernel
theorem dX4_dropRange_31 : decode cX4_dropRange 31 = .ok (.iload_n 3, 1) := by decide +kernel
theorem dX4_dropRange_32 : decode cX4_dropRange 32 = .ok (.aload_n 0, 1) := by decide +kernel
theorem dX4_dropRange_33 : decode cX4_dropRange 33 = .ok (.getfield 20, 3) := by decide +kernel
theorem dX4_dropRange_36 : decode cX4_dropRange 36 = .ok (.iload_n 3, 1) := by decide +kernel
theorem dX4_dropRange_37 : decode cX4_dropRange 37 = .ok (.iconst 1, 1) := by decide +kernel
theorem dX4_dropRange_38 : decode cX4_dropRange 38 = .ok (.iadd, 1) := by decide +kernel
theorem dX4_dropRange_39 : decode cX4_dropRange 39 = .ok (.aaload, 1) := by decide +kernel
theorem dX4_dropRange_40 : decode cX4_dropRange 40 = .ok (.aastore, 1) := by decide +kernel
theorem dX4_dropRange_41 : decode cX4_dropRange 41 = .ok (.iinc 3 1, 3) := by decide +kernel
theorem dX4_dropRange_44 : decode cX4_dropRange 44 = .ok (.goto (-25), 3) := by decide +kernel
theorem dX4_dropRange_47 : decode cX4_dropRange 47 = .ok (.aload_n 0, 1) := by decide +kernel
theorem dX4_dropRange_48 : decode cX4_dropRange 48 = .ok (.getfield 20, 3) := by decide +kernel
theorem dX4_dropRange_51 : decode cX4_dropRange 51 = .ok (.aload_n 0, 1) := by decide +kernel
theorem dX4_dropRange_52 : decode cX4_dropRange 52 = .ok (.getfield 30, 3) := by decide +kernel
theorem dX4_dropRange_55 : decode cX4_dropRange 55 = .ok (.aload_n 2, 1) := by decide +kernel
theorem dX4_dropRange_56 : decode cX4_dropRange 56 = .ok (.aastore, 1) := by decide +kernel
theorem dX4_dropRange_57 : decode cX4_dropRange 57 = .ok (.return_, 1) := by decide +kernel
set_option maxHeartbeats 4000000 in
set_option maxRecDepth 100000 in
theorem c_X4_dropRange (l : Launch) (E : gE) (g : Mem) (b : Nat) (r : Row) (B : Nat) (hB : B < 100000000) (h : StA E g b r) (hv : Vr r B) (a : Nat) (ha : a < rc r) : Mt l E yX4_dropRange cX4_dropRange 4 none 0 0 [rf E (b), .int (nI (a))] g (pV (fun g' => StA E g' b (remR r a) ∧ Fr b g g')) := by
  obtain ⟨co, pi, π, ρ, V, U, hX, e1, e2, e3, e4⟩ := zStF h hv
  have hrc : rc r ≤ 6 := hv.1.2
  have hgc : gc r ≤ 4 := hv.2.1.2
  have ht1 : nn (r 156) ≤ B := hv.2.2.2.2.2.2.2.1.2
  have ht2 : nn (r 157) ≤ 7 * B := hv.2.2.2.2.2.2.2.2.2
  refine mt_go (own := RX4) (by decide) rfl (lo := [some (rf E (b)), some (.int (nI (a))), none, none]) rfl (Nat.le_of_ble_eq_true rfl) (fun X hC => ?_)
  refine y_aload_n hC dX4_dropRange_0 (i := 0) rfl rfl ?_
  refine y_get hC fX4_20 dX4_dropRange_1 (k := b) (hX.k (k := 0) (by decide)) hX.s0 rfl ?_
  refine y_iload_n hC dX4_dropRange_4 (i := 1) rfl rfl ?_
  refine y_aald hC (Or.inl ⟨rfl, rfl, rfl⟩ : yT 3 3 RX3) dX4_dropRange_5 (k := b + 3) (j := a) (hX.k (k := 3) (by decide)) hX.s3 (rfl) (by omega) (by decide) ?_
  refine y_astore_n hC (o := some (b + 5 + π (a))) dX4_dropRange_6 (i := 2) rfl (Nat.le_of_ble_eq_true rfl) rfl (lo' := [some (rf E (b)), some (.int (nI (a))), some (rf E (b + 5 + π (a))), none]) rfl ?_
  refine y_aload_n hC dX4_dropRange_7 (i := 0) rfl rfl ?_
  refine y_dup hC dX4_dropRange_8 rfl ?_
  refine y_get hC fX4_30 dX4_dropRange_9 (k := b) (hX.k (k := 0) (by decide)) hX.s0 rfl ?_
  refine y_iconst (v := nI 1) hC dX4_dropRange_12 (by decide) ?_
  refine y_isub_n hC dX4_dropRange_13 (by omega) ?_
  refine y_put hC fpX4_30 dX4_dropRange_14 (k := b) (hX.k (k := 0) (by decide)) hX.s0 (Nat.le_of_ble_eq_true rfl) (rfl) (rfl) (fs' := [rf E (b + 1), rf E (b + 2), rf E (b + 3), rf E (b + 4), .int (nI ((rc r) - (1))), .int (nI (gc r)), .int (nI (nn (r 156))), .int (nI (nn (r 157)))]) rfl ?_
  have hX_14 : SF E g (va_up g (b) (oB 4 [rf E (b + 1), rf E (b + 2), rf E (b + 3), rf E (b + 4), .int (nI ((rc r) - (1))), .int (nI (gc r)), .int (nI (nn (r 156))), .int (nI (nn (r 157)))])) b co pi π ρ V U (v4 (nI ((rc r) - (1))) (nI (gc r)) (nI (nn (r 156))) (nI (nn (r 157)))) := hX.upn (v4 (nI ((rc r) - (1))) (nI (gc r)) (nI (nn (r 156))) (nI (nn (r 157))))
  generalize (va_up g (b) (oB 4 [rf E (b + 1), rf E (b + 2), rf E (b + 3), rf E (b + 4), .int (nI ((rc r) - (1))), .int (nI (gc r)), .int (nI (nn (r 156))), .int (nI (nn (r 157)))])) = g_14 at hX_14 ⊢
  refine y_iload_n hC dX4_dropRange_17 (i := 1) rfl rfl ?_
  refine y_istore_n hC dX4_dropRange_18 (i := 3) rfl (Nat.le_of_ble_eq_true rfl) rfl (lo' := [some (rf E (b)), some (.int (nI (a))), some (rf E (b + 5 + π (a))), some (.int (nI (a)))]) rfl ?_
  refine y_mem (g2 := va_up g_14 (b + 3) (aR E 3 6 (fun k => b + 5 + π (sft a (a) k)))) ?_ ?_
  · refine (zup_same ?_).symm
    rw [hX_14.s3]
    refine congrArg (aR E 3 6) (funext fun k => ?_)
    unfold sft
    rw [if_neg (by omega)]
  have L_19 : ∀ (m : Nat) (i : Nat), (hm : rc r - i < m) → (ha2 : a ≤ i) → (hi : i ≤ rc r - 1) → Y l E X (pV (fun g' => StA E g' b (remR r a) ∧ Fr b g g')) 19 [some (rf E (b)), some (.int (nI (a))), some (rf E (b + 5 + π (a))), some (.int (nI (i)))] [] (va_up g_14 (b + 3) (aR E 3 6 (fun k => b + 5 + π (sft a (i) k)))) := by
    intro m
    induction m with
    | zero => intro i hm ha2 hi; exact absurd hm (Nat.not_lt_zero _)
    | succ m ih_19 =>
      intro i hm ha2 hi
      refine y_iload_n hC dX4_dropRange_19 (i := 3) rfl rfl ?_
      refine y_aload_n hC dX4_dropRange_20 (i := 0) rfl rfl ?_
      refine y_get hC fX4_30 dX4_dropRange_21 (k := b) (hX_14.k (k := 0) (by decide)) ((va_up_ne _ _ (by omega)).trans hX_14.s0) rfl ?_
      refine y_icmp_ge_n (tgt := 47) hC dX4_dropRange_24 (by decide) (by omega) (by omega) (fun c_24 => ?_) (fun c_24 => ?_)
      · refine y_aload_n hC dX4_dropRange_47 (i := 0) rfl rfl ?_
        refine y_get hC fX4_20 dX4_dropRange_48 (k := b) (hX_14.k (k := 0) (by decide)) ((va_up_ne _ _ (by omega)).trans hX_14.s0) rfl ?_
        refine y_aload_n hC dX4_dropRange_51 (i := 0) rfl rfl ?_
        refine y_get hC fX4_30 dX4_dropRange_52 (k := b) (hX_14.k (k := 0) (by decide)) ((va_up_ne _ _ (by omega)).trans hX_14.s0) rfl ?_
        refine y_aload_n hC dX4_dropRange_55 (i := 2) rfl rfl ?_
        refine y_aast hC (Or.inl ⟨rfl, rfl, rfl⟩ : yT 3 3 RX3) dX4_dropRange_56 (k := b + 3) (j := rc r - 1) (hX_14.k (k := 3) (by decide)) (va_up_self _ _ _) (r := b + 5 + π (a)) (hX_14.kV (i := a) (by omega)) ((va_up_ne _ _ (by omega)).trans (hX_14.gV (i := a) (by omega))) (rfl) (by omega) (by decide) ?_
        refine y_mem (g2 := va_up g_14 (b + 3) (aR E 3 6 (fun k => b + 5 + π (cyc a (rc r - 1) k)))) ?_ ?_
        · rw [zup_up]
          refine congrArg (va_up g_14 (b + 3)) (congrArg (aR E 3 6) (funext fun k => ?_))
          by_cases e : k = rc r - 1
          · rw [e, va_up_self]
            unfold cyc
            (repeat (first | rw [if_neg (by omega)] | rw [if_pos (by omega)]))
          · rw [va_up_ne _ _ e]
            unfold cyc sft
            by_cases e2 : a ≤ k ∧ k < i
            · rw [if_pos e2, if_pos ⟨e2.1, by omega⟩]
            · rw [if_neg e2, if_neg (by omega), if_neg e]
        refine y_vret (hC := hC) (hd := dX4_dropRange_57) (hq := ?_)
        have hfin := hX_14.perm (cyc_pm (a := a) (m := rc r - 1) (n := 6) (by omega) (by omega))
        have z32 : remR r a 32 = nI (rc r - 1) := by unfold remR; (repeat (first | rw [if_neg (by omega)] | rw [if_pos (by omega)]))
        have z75 : remR r a 75 = r 75 := by unfold remR; (repeat (first | rw [if_neg (by omega)] | rw [if_pos (by omega)]))
        have zc : rc (remR r a) = rc r - 1 := by unfold rc at *; rw [z32]; exact nn_I (by omega)
        refine hfin.st ⟨fun k hk => by unfold remR; (repeat (first | rw [if_neg (by omega)] | rw [if_pos (by omega)])); exact e1 k hk, fun k hk => by unfold remR; (repeat (first | rw [if_neg (by omega)] | rw [if_pos (by omega)])); exact e2 k hk, ⟨by rw [z32]; rfl, by rw [z75, hv.2.1.1]; rfl, by unfold remR; (repeat (first | rw [if_neg (by omega)] | rw [if_pos (by omega)])); exact hv.2.2.2.2.2.2.2.1.1.symm, by unfold remR; (repeat (first | rw [if_neg (by omega)] | rw [if_pos (by omega)])); exact hv.2.2.2.2.2.2.2.2.1.symm⟩, fun k hk j hj => ?_, fun k hk j hj => ?_⟩
        · rw [zc] at hk
          show V (cyc a (rc r - 1) k) j = _
          unfold cyc remR
          by_cases e : a ≤ k
          · (repeat (first | rw [if_neg (by omega)] | rw [if_pos (by omega)]))
            rw [e3 (k + 1) (by omega) j hj]
            exact congrArg r (by omega)
          · (repeat (first | rw [if_neg (by omega)] | rw [if_pos (by omega)]))
            exact e3 k (by omega) j hj
        · rw [gc_of z75] at hk
          unfold remR
          (repeat (first | rw [if_neg (by omega)] | rw [if_pos (by omega)]))
          exact e4 k hk j hj
      · refine y_aload_n hC dX4_dropRange_27 (i := 0) rfl rfl ?_
        refine y_get hC fX4_20 dX4_dropRange_28 (k := b) (hX_14.k (k := 0) (by decide)) ((va_up_ne _ _ (by omega)).trans hX_14.s0) rfl ?_
        refine y_iload_n hC dX4_dropRange_31 (i := 3) rfl rfl ?_
        refine y_aload_n hC dX4_dropRange_32 (i := 0) rfl rfl ?_
        refine y_get hC fX4_20 dX4_dropRange_33 (k := b) (hX_14.k (k := 0) (by decide)) ((va_up_ne _ _ (by omega)).trans hX_14.s0) rfl ?_
        refine y_iload_n hC dX4_dropRange_36 (i := 3) rfl rfl ?_
        refine y_iconst (v := nI 1) hC dX4_dropRange_37 (by decide) ?_
        refine y_iadd_n hC dX4_dropRange_38 ?_
        refine y_aald hC (Or.inl ⟨rfl, rfl, rfl⟩ : yT 3 3 RX3) dX4_dropRange_39 (k := b + 3) (j := i + 1) (hX_14.k (k := 3) (by decide)) (va_up_self _ _ _) (rfl) (by omega) (by decide) ?_
        refine y_mem rfl ?_
        show Y l E X _ 40 _ (rf E (b + 5 + π (sft a i (i + 1))) :: _) _
        rw [show sft a i (i + 1) = i + 1 from by unfold sft; (repeat (first | rw [if_neg (by omega)] | rw [if_pos (by omega)]))]
        refine y_aast hC (Or.inl ⟨rfl, rfl, rfl⟩ : yT 3 3 RX3) dX4_dropRange_40 (k := b + 3) (j := i) (hX_14.k (k := 3) (by decide)) (va_up_self _ _ _) (r := b + 5 + π (i + 1)) (hX_14.kV (i := i + 1) (by omega)) ((va_up_ne _ _ (by omega)).trans (hX_14.gV (i := i + 1) (by omega))) (rfl) (by omega) (by decide) ?_
        refine y_mem (g2 := va_up g_14 (b + 3) (aR E 3 6 (fun k => b + 5 + π (sft a (i + 1) k)))) ?_ ?_
        · rw [zup_up]
          refine congrArg (va_up g_14 (b + 3)) (congrArg (aR E 3 6) (funext fun k => ?_))
          by_cases e : k = i
          · rw [e, va_up_self]
            unfold sft
            (repeat (first | rw [if_neg (by omega)] | rw [if_pos (by omega)]))
          · rw [va_up_ne _ _ e]
            unfold sft
            by_cases e2 : a ≤ k ∧ k < i
            · rw [if_pos e2, if_pos ⟨e2.1, by omega⟩]
            · rw [if_neg e2, if_neg (by omega)]
        refine y_iinc_n hC dX4_dropRange_41 (a := i) (k := 1) rfl (by decide) (Nat.le_of_ble_eq_true rfl) rfl (lo' := [some (rf E (b)), some (.int (nI (a))), some (rf E (b + 5 + π (a))), some (.int (nI (i + 1)))]) rfl ?_
        refine y_goto (tgt := 19) hC dX4_dropRange_44 (by decide) ?_
        exact ih_19 (i + 1) (by omega) (by omega) (by omega)
  exact L_19 (rc r + 1) a (by omega) (by omega) (by omega)

theorem dX4_dropGlow_0 : decode cX4_dropGlow 0 = .ok (.aload_n 0, 1) := by decide +kernel
theorem dX4_dropGlow_1 : decode cX4_dropGlow 1 = .ok (.getfield 26, 3) := by decide +kernel
theorem dX4_dropGlow_4 : decode cX4_dropGlow 4 = .ok (.iload_n 1, 1) := by decide +kernel
theorem dX4_dropGlow_5 : decode cX4_dropGlow 5 = .ok (.aaload, 1) := by decide +kernel
theorem dX4_dropGlow_6 : decode cX4_dropGlow 6 = .ok (.astore_n 2, 1) := by decide +kernel
theorem dX4_dropGlow_7 : decode cX4_dropGlow 7 = .ok (.aload_n 0, 1) := by decide +kernel
theorem dX4_dropGlow_8 : decode cX4_dropGlow 8 = .ok (.dup, 1) := by decide +kernel
theorem dX4_dropGlow_9 : decode cX4_dropGlow 9 = .ok (.getfield 34, 3) := by decide +kernel
theorem dX4_dropGlow_12 : decode cX4_dropGlow 12 = .ok (.iconst 1, 1) := by decide +kernel
theorem dX4_dropGlow_13 : decode cX4_dropGlow 13 = .ok (.isub, 1) := by decide +kernel
theorem dX4_dropGlow_14 : decode cX4_dropGlow 14 = .ok (.putfield 34, 3) := by decide +kernel
theorem dX4_dropGlow_17 : decode cX4_dropGlow 17 = .ok (.iload_n 1, 1) := by decide +kernel
theorem dX4_dropGlow_18 : decode cX4_dropGlow 18 = .ok (.istore_n 3, 1) := by decide +kernel
theorem dX4_dropGlow_19 : decode cX4_dropGlow 19 = .ok (.iload_n 3, 1) := by decide +kernel
theorem dX4_dropGlow_20 : decode cX4_dropGlow 20 = .ok (.aload_n 0, 1) := by decide +kernel
theorem dX4_dropGlow_21 : decode cX4_dropGlow 21 = .ok (.getfield 34, 3) := by decide +kernel
theorem dX4_dropGlow_24 : decode cX4_dropGlow 24 = .ok (.if_icmp .ge 23, 3) := by decide +kernel
theorem dX4_dropGlow_27 : decode cX4_dropGlow 27 = .ok (.aload_n 0, 1) := by decide +kernel
theorem dX4_dropGlow_28 : decode cX4_dropGlow 28 = .ok (.getfield 26, 3) := by decide +kernel
theorem dX4_dropGlow_31 : decode cX4_dropGlow 31 = .ok (.iload_n 3, 1) := by decide +kernel
theorem dX4_dropGlow_32 : decode cX4_dropGlow 32 = .ok (.aload_n 0, 1) := by decide +kernel
theorem dX4_dropGlow_33 : decode cX4_dropGlow 33 = .ok (.getfield 26, 3) := by decide +kernel
theorem dX4_dropGlow_36 : decode cX4_dropGlow 36 = .ok (.iload_n 3, 1) := by decide +kernel
theorem dX4_dropGlow_37 : decode cX4_dropGlow 37 = .ok (.iconst 1, 1) := by decide +kernel
theorem dX4_dropGlow_38 : decode cX4_dropGlow 38 = .ok (.iadd, 1) := by decide +kernel
theorem dX4_dropGlow_39 : decode cX4_dropGlow 39 = .ok (.aaload, 1) := by decide +kernel
theorem dX4_dropGlow_40 : decode cX4_dropGlow 40 = .ok (.aastore, 1) := by decide +kernel
theorem dX4_dropGlow_41 : decode cX4_dropGlow 41 = .ok (.iinc 3 1, 3) := by decide +kernel
theorem dX4_dropGlow_44 : decode cX4_dropGlow 44 = .ok (.goto (-25), 3) := by decide +kernel
theorem dX4_dropGlow_47 : decode cX4_dropGlow 47 = .ok (.aload_n 0, 1) := by decide +kernel
theorem dX4_dropGlow_48 : decode cX4_dropGlow 48 = .ok (.getfield 26, 3) := by decide +kernel
theorem dX4_dropGlow_51 : decode cX4_dropGlow 51 = .ok (.aload_n 0, 1) := by decide +kernel
theorem dX4_dropGlow_52 : decode cX4_dropGlow 52 = .ok (.getfield 34, 3) := by decide +kernel
theorem dX4_dropGlow_55 : decode cX4_dropGlow 55 = .ok (.aload_n 2, 1) := by decide +kernel
theorem dX4_dropGlow_56 : decode cX4_dropGlow 56 = .ok (.aastore, 1) := by decide +kernel
theorem dX4_dropGlow_57 : decode cX4_dropGlow 57 = .ok (.return_, 1) := by decide +kernel
set_option maxHeartbeats 4000000 in
set_option maxRecDepth 100000 in
theorem c_X4_dropGlow (l : Launch) (E : gE) (g : Mem) (b : Nat) (r : Row) (B : Nat) (hB : B < 100000000) (h : StA E g b r) (hv : Vr r B) (a : Nat) (ha : a < gc r) : Mt l E yX4_dropGlow cX4_dropGlow 4 none 0 0 [rf E (b), .int (nI (a))] g (pV (fun g' => StA E g' b (remG r a) ∧ Fr b g g')) := by
  obtain ⟨co, pi, π, ρ, V, U, hX, e1, e2, e3, e4⟩ := zStF h hv
  have hrc : rc r ≤ 6 := hv.1.2
  have hgc : gc r ≤ 4 := hv.2.1.2
  have ht1 : nn (r 156) ≤ B := hv.2.2.2.2.2.2.2.1.2
  have ht2 : nn (r 157) ≤ 7 * B := hv.2.2.2.2.2.2.2.2.2
  refine mt_go (own := RX4) (by decide) rfl (lo := [some (rf E (b)), some (.int (nI (a))), none, none]) rfl (Nat.le_of_ble_eq_true rfl) (fun X hC => ?_)
  refine y_aload_n hC dX4_dropGlow_0 (i := 0) rfl rfl ?_
  refine y_get hC fX4_26 dX4_dropGlow_1 (k := b) (hX.k (k := 0) (by decide)) hX.s0 rfl ?_
  refine y_iload_n hC dX4_dropGlow_4 (i := 1) rfl rfl ?_
  refine y_aald hC (Or.inr (Or.inl ⟨rfl, rfl, rfl⟩) : yT 4 0 RX0) dX4_dropGlow_5 (k := b + 4) (j := a) (hX.k (k := 4) (by decide)) hX.s4 (rfl) (by omega) (by decide) ?_
  refine y_astore_n hC (o := some (b + 11 + ρ (a))) dX4_dropGlow_6 (i := 2) rfl (Nat.le_of_ble_eq_true rfl) rfl (lo' := [some (rf E (b)), some (.int (nI (a))), some (rf E (b + 11 + ρ (a))), none]) rfl ?_
  refine y_aload_n hC dX4_dropGlow_7 (i := 0) rfl rfl ?_
  refine y_dup hC dX4_dropGlow_8 rfl ?_
  refine y_get hC fX4_34 dX4_dropGlow_9 (k := b) (hX.k (k := 0) (by decide)) hX.s0 rfl ?_
  refine y_iconst (v := nI 1) hC dX4_dropGlow_12 (by decide) ?_
  refine y_isub_n hC dX4_dropGlow_13 (by omega) ?_
  refine y_put hC fpX4_34 dX4_dropGlow_14 (k := b) (hX.k (k := 0) (by decide)) hX.s0 (Nat.le_of_ble_eq_true rfl) (rfl) (rfl) (fs' := [rf E (b + 1), rf E (b + 2), rf E (b + 3), rf E (b + 4), .int (nI (rc r)), .int (nI ((gc r) - (1))), .int (nI (nn (r 156))), .int (nI (nn (r 157)))]) rfl ?_
  have hX_14 : SF E g (va_up g (b) (oB 4 [rf E (b + 1), rf E (b + 2), rf E (b + 3), rf E (b + 4), .int (nI (rc r)), .int (nI ((gc r) - (1))), .int (nI (nn (r 156))), .int (nI (nn (r 157)))])) b co pi π ρ V U (v4 (nI (rc r)) (nI ((gc r) - (1))) (nI (nn (r 156))) (nI (nn (r 157)))) := hX.upn (v4 (nI (rc r)) (nI ((gc r) - (1))) (nI (nn (r 156))) (nI (nn (r 157))))
  generalize (va_up g (b) (oB 4 [rf E (b + 1), rf E (b + 2), rf E (b + 3), rf E (b + 4), .int (nI (rc r)), .int (nI ((gc r) - (1))), .int (nI (nn (r 156))), .int (nI (nn (r 157)))])) = g_14 at hX_14 ⊢
  refine y_iload_n hC dX4_dropGlow_17 (i := 1) rfl rfl ?_
  refine y_istore_n hC dX4_dropGlow_18 (i := 3) rfl (Nat.le_of_ble_eq_true rfl) rfl (lo' := [some (rf E (b)), some (.int (nI (a))), some (rf E (b + 11 + ρ (a))), some (.int (nI (a)))]) rfl ?_
  refine y_mem (g2 := va_up g_14 (b + 4) (aR E 4 4 (fun k => b + 11 + ρ (sft a (a) k)))) ?_ ?_
  · refine (zup_same ?_).symm
    rw [hX_14.s4]
    refine congrArg (aR E 4 4) (funext fun k => ?_)
    unfold sft
    rw [if_neg (by omega)]
  have L_19 : ∀ (m : Nat) (i : Nat), (hm : gc r - i < m) → (ha2 : a ≤ i) → (hi : i ≤ gc r - 1) → Y l E X (pV (fun g' => StA E g' b (remG r a) ∧ Fr b g g')) 19 [some (rf E (b)), some (.int (nI (a))), some (rf E (b + 11 + ρ (a))), some (.int (nI (i)))] [] (va_up g_14 (b + 4) (aR E 4 4 (fun k => b + 11 + ρ (sft a (i) k)))) := by
    intro m
    induction m with
    | zero => intro i hm ha2 hi; exact absurd hm (Nat.not_lt_zero _)
    | succ m ih_19 =>
      intro i hm ha2 hi
      refine y_iload_n hC dX4_dropGlow_19 (i := 3) rfl rfl ?_
      refine y_aload_n hC dX4_dropGlow_20 (i := 0) rfl rfl ?_
      refine y_get hC fX4_34 dX4_dropGlow_21 (k := b) (hX_14.k (k := 0) (by decide)) ((va_up_ne _ _ (by omega)).trans hX_14.s0) rfl ?_
      refine y_icmp_ge_n (tgt := 47) hC dX4_dropGlow_24 (by decide) (by omega) (by omega) (fun c_24 => ?_) (fun c_24 => ?_)
      · refine y_aload_n hC dX4_dropGlow_47 (i := 0) rfl rfl ?_
        refine y_get hC fX4_26 dX4_dropGlow_48 (k := b) (hX_14.k (k := 0) (by decide)) ((va_up_ne _ _ (by omega)).trans hX_14.s0) rfl ?_
        refine y_aload_n hC dX4_dropGlow_51 (i := 0) rfl rfl ?_
        refine y_get hC fX4_34 dX4_dropGlow_52 (k := b) (hX_14.k (k := 0) (by decide)) ((va_up_ne _ _ (by omega)).trans hX_14.s0) rfl ?_
        refine y_aload_n hC dX4_dropGlow_55 (i := 2) rfl rfl ?_
        refine y_aast hC (Or.inr (Or.inl ⟨rfl, rfl, rfl⟩) : yT 4 0 RX0) dX4_dropGlow_56 (k := b + 4) (j := gc r - 1) (hX_14.k (k := 4) (by decide)) (va_up_self _ _ _) (r := b + 11 + ρ (a)) (hX_14.kU (i := a) (by omega)) ((va_up_ne _ _ (by omega)).trans (hX_14.gU (i := a) (by omega))) (rfl) (by omega) (by decide) ?_
        refine y_mem (g2 := va_up g_14 (b + 4) (aR E 4 4 (fun k => b + 11 + ρ (cyc a (gc r - 1) k)))) ?_ ?_
        · rw [zup_up]
          refine congrArg (va_up g_14 (b + 4)) (congrArg (aR E 4 4) (funext fun k => ?_))
          by_cases e : k = gc r - 1
          · rw [e, va_up_self]
            unfold cyc
            (repeat (first | rw [if_neg (by omega)] | rw [if_pos (by omega)]))
          · rw [va_up_ne _ _ e]
            unfold cyc sft
            by_cases e2 : a ≤ k ∧ k < i
            · rw [if_pos e2, if_pos ⟨e2.1, by omega⟩]
            · rw [if_neg e2, if_neg (by omega), if_neg e]
        refine y_vret (hC := hC) (hd := dX4_dropGlow_57) (hq := ?_)
        have hfin := hX_14.permG (cyc_pm (a := a) (m := gc r - 1) (n := 4) (by omega) (by omega))
        have z32 : remG r a 32 = r 32 := by unfold remG; (repeat (first | rw [if_neg (by omega)] | rw [if_pos (by omega)]))
        have z75 : remG r a 75 = nI (gc r - 1) := by unfold remG; (repeat (first | rw [if_neg (by omega)] | rw [if_pos (by omega)]))
        have zc : gc (remG r a) = gc r - 1 := by unfold gc at *; rw [z75]; exact nn_I (by omega)
        refine hfin.st ⟨fun k hk => by unfold remG; (repeat (first | rw [if_neg (by omega)] | rw [if_pos (by omega)])); exact e1 k hk, fun k hk => by unfold remG; (repeat (first | rw [if_neg (by omega)] | rw [if_pos (by omega)])); exact e2 k hk, ⟨by rw [z32, hv.1.1]; rfl, by rw [z75]; rfl, by unfold remG; (repeat (first | rw [if_neg (by omega)] | rw [if_pos (by omega)])); exact hv.2.2.2.2.2.2.2.1.1.symm, by unfold remG; (repeat (first | rw [if_neg (by omega)] | rw [if_pos (by omega)])); exact hv.2.2.2.2.2.2.2.2.1.symm⟩, fun k hk j hj => ?_, fun k hk j hj => ?_⟩
        · rw [rc_of z32] at hk
          unfold remG
          (repeat (first | rw [if_neg (by omega)] | rw [if_pos (by omega)]))
          exact e3 k hk j hj
        · rw [zc] at hk
          show U (cyc a (gc r - 1) k) j = _
          unfold cyc remG
          by_cases e : a ≤ k
          · (repeat (first | rw [if_neg (by omega)] | rw [if_pos (by omega)]))
            rw [e4 (k + 1) (by omega) j hj]
            exact congrArg r (by omega)
          · (repeat (first | rw [if_neg (by omega)] | rw [if_pos (by omega)]))
            exact e4 k (by omega) j hj
      · refine y_aload_n hC dX4_dropGlow_27 (i := 0) rfl rfl ?_
        refine y_get hC fX4_26 dX4_dropGlow_28 (k := b) (hX_14.k (k := 0) (by decide)) ((va_up_ne _ _ (by omega)).trans hX_14.s0) rfl ?_
        refine y_iload_n hC dX4_dropGlow_31 (i := 3) rfl rfl ?_
        refine y_aload_n hC dX4_dropGlow_32 (i := 0) rfl rfl ?_
        refine y_get hC fX4_26 dX4_dropGlow_33 (k := b) (hX_14.k (k := 0) (by decide)) ((va_up_ne _ _ (by omega)).trans hX_14.s0) rfl ?_
        refine y_iload_n hC dX4_dropGlow_36 (i := 3) rfl rfl ?_
        refine y_iconst (v := nI 1) hC dX4_dropGlow_37 (by decide) ?_
        refine y_iadd_n hC dX4_dropGlow_38 ?_
        refine y_aald hC (Or.inr (Or.inl ⟨rfl, rfl, rfl⟩) : yT 4 0 RX0) dX4_dropGlow_39 (k := b + 4) (j := i + 1) (hX_14.k (k := 4) (by decide)) (va_up_self _ _ _) (rfl) (by omega) (by decide) ?_
        refine y_mem rfl ?_
        show Y l E X _ 40 _ (rf E (b + 11 + ρ (sft a i (i + 1))) :: _) _
        rw [show sft a i (i + 1) = i + 1 from by unfold sft; (repeat (first | rw [if_neg (by omega)] | rw [if_pos (by omega)]))]
        refine y_aast hC (Or.inr (Or.inl ⟨rfl, rfl, rfl⟩) : yT 4 0 RX0) dX4_dropGlow_40 (k := b + 4) (j := i) (hX_14.k (k := 4) (by decide)) (va_up_self _ _ _) (r := b + 11 + ρ (i + 1)) (hX_14.kU (i := i + 1) (by omega)) ((va_up_ne _ _ (by omega)).trans (hX_14.gU (i := i + 1) (by omega))) (rfl) (by omega) (by decide) ?_
        refine y_mem (g2 := va_up g_14 (b + 4) (aR E 4 4 (fun k => b + 11 + ρ (sft a (i + 1) k)))) ?_ ?_
        · rw [zup_up]
          refine congrArg (va_up g_14 (b + 4)) (congrArg (aR E 4 4) (funext fun k => ?_))
          by_cases e : k = i
          · rw [e, va_up_self]
            unfold sft
            (repeat (first | rw [if_neg (by omega)] | rw [if_pos (by omega)]))
          · rw [va_up_ne _ _ e]
            unfold sft
            by_cases e2 : a ≤ k ∧ k < i
            · rw [if_pos e2, if_pos ⟨e2.1, by omega⟩]
            · rw [if_neg e2, if_neg (by omega)]
        refine y_iinc_n hC dX4_dropGlow_41 (a := i) (k := 1) rfl (by decide) (Nat.le_of_ble_eq_true rfl) rfl (lo' := [some (rf E (b)), some (.int (nI (a))), some (rf E (b + 11 + ρ (a))), some (.int (nI (i + 1)))]) rfl ?_
        refine y_goto (tgt := 19) hC dX4_dropGlow_44 (by decide) ?_
        exact ih_19 (i + 1) (by omega) (by omega) (by omega)
  exact L_19 (gc r + 1) a (by omega) (by omega) (by omega)

