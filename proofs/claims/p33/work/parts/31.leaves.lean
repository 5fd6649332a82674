/-! ===== the law: its leaves ===== -/
theorem y_lo {l : Launch} {E : gE} {X : gX} {post : Option Value → Mem → Prop} {pc : Nat} {lo lo' : List (Option Value)} {st : List Value} {g : Mem} (h : lo = lo') (kk : Y l E X post pc lo' st g) : Y l E X post pc lo st g := h ▸ kk
theorem lsR_s (ρ : Row) (p k : Nat) : lsR ρ p (k + 1) = if rg ρ k 0 ≤ p ∧ p ≤ rg ρ k 1 then 8 + 8 * k else lsR ρ p k := rfl
theorem lsG_s (ρ : Row) (p k : Nat) : lsG ρ p (k + 1) = if gl ρ k 0 = p then 4 + 4 * k else lsG ρ p k := rfl
theorem tn_0 {n wy m : Nat} (h : wy = 0) : m % n = tnN n wy m := by
  unfold tnN
  rw [if_neg (by omega), if_neg (by omega)]
theorem tn_1 {n wy m : Nat} (h : wy = 1) (hn : 0 < n) : (n - 1) * m % n = tnN n wy m := by
  unfold tnN
  rw [if_pos h]
  exact dn_mod hn
theorem tn_2a {n wy m : Nat} (h : wy = 2) (hn : 2 ≤ n) (hc : ¬ m % (2 * (n - 1)) ≤ n - 1) : n - 1 - (m % (2 * (n - 1)) - (n - 1)) = tnN n wy m := by
  have hl := Nat.mod_lt m (show 0 < 2 * (n - 1) by omega)
  unfold tnN
  rw [if_neg (by omega), if_pos h, show 2 * n - 2 = 2 * (n - 1) by omega, if_neg (by omega)]
  omega
theorem tn_2b {n wy m : Nat} (h : wy = 2) (hn : 2 ≤ n) (hc : m % (2 * (n - 1)) ≤ n - 1) : n - 1 - (n - 1 - m % (2 * (n - 1))) = tnN n wy m := by
  unfold tnN
  rw [if_neg (by omega), if_pos h, show 2 * n - 2 = 2 * (n - 1) by omega, if_pos (by omega)]
  omega
theorem st_z {len ti : Nat} (hti : ti < 2 * len) : stN len ti 0 = if ti ≤ len then ti else 2 * len - ti := by
  unfold stN
  rw [Nat.add_zero, Nat.mod_eq_of_lt hti]
theorem st_i {len ti : Nat} (l1 : len ≤ 30) (hti : ti < 2 * len) : (nI ti - nI len).toInt = (ti : Int) - len := sI (by omega) (by omega)
theorem st_b {len ti : Nat} (l0 : 0 < len) (l1 : len ≤ 30) (hti : ti < 2 * len) (h : 0 ≤ nI ti - nI len) : nI len - (nI ti - nI len) = nI (stN len ti 0) := by
  have e := st_i l1 hti
  rw [Int32.le_iff_toInt_le, e, show (0 : Int32).toInt = 0 from by decide] at h
  rw [st_z hti]
  apply Int32.toInt_inj.mp
  rw [zsubI (by rw [e, tI (by omega)]; omega) (by rw [e, tI (by omega)]; omega), e, tI (by omega)]
  split
  · rw [tI (by omega)]; omega
  · rw [tI (by omega)]; omega
theorem st_a {len ti : Nat} (l0 : 0 < len) (l1 : len ≤ 30) (hti : ti < 2 * len) (h : ¬ 0 ≤ nI ti - nI len) : nI len - -(nI ti - nI len) = nI (stN len ti 0) := by
  have e := st_i l1 hti
  have z0 : (0 : Int32).toInt = 0 := by decide
  rw [Int32.le_iff_toInt_le, e, z0] at h
  have n2 : -(nI ti - nI len) = 0 - (nI ti - nI len) := by simp
  have n1 := zsubI (x := (0 : Int32)) (y := nI ti - nI len) (by rw [z0, e]; omega) (by rw [z0, e]; omega)
  rw [st_z hti, if_pos (by omega), n2]
  apply Int32.toInt_inj.mp
  rw [zsubI (by rw [n1, z0, e, tI (by omega)]; omega) (by rw [n1, z0, e, tI (by omega)]; omega), n1, z0, e, tI (by omega), tI (by omega)]
  omega
theorem dL_low_0 : decode cL_low 0 = .ok (.iload_n 0, 1) := by decide +kernel
theorem dL_low_1 : decode cL_low 1 = .ok (.ldc 8, 2) := by decide +kernel
theorem dL_low_3 : decode cL_low 3 = .ok (.iand, 1) := by decide +kernel
theorem dL_low_4 : decode cL_low 4 = .ok (.iload_n 1, 1) := by decide +kernel
theorem dL_low_5 : decode cL_low 5 = .ok (.irem, 1) := by decide +kernel
theorem dL_low_6 : decode cL_low 6 = .ok (.ireturn, 1) := by decide +kernel
set_option maxHeartbeats 4000000 in
set_option maxRecDepth 100000 in
theorem c_L_low (l : Launch) (E : gE) (g : Mem) (x : Int32) (n : Nat) (h0 : 0 < n) (hn : n < 2147483648) : Mt l E yL_low cL_low 2 (some .int) 0 0 [.int (x), .int (nI (n))] g (pI (fun z g' => z = nI (lw x n) ∧ g' = g)) := by
  refine mt_go (own := RXL) (by decide) rfl (lo := [some (.int (x)), some (.int (nI (n)))]) rfl (Nat.le_of_ble_eq_true rfl) (fun X hC => ?_)
  refine y_iload_n hC dL_low_0 (i := 0) rfl rfl ?_
  refine y_ldc hC cnXL_8 dL_low_1 ?_
  refine y_top (show (2147483647 : Int32) = nI 2147483647 from by decide) ?_
  refine y_iand hC dL_low_3 ?_
  refine y_top (y := nI (x.toBitVec.toNat % 2147483648)) (and_max x) ?_
  refine y_iload_n hC dL_low_4 (i := 1) rfl rfl ?_
  refine y_irem_n hC dL_low_5 (by omega) (by omega) (by omega) ?_
  refine y_iret (hC := hC) (hd := dL_low_6) (hq := ?_)
  exact ⟨rfl, rfl⟩

theorem dL_steps_0 : decode cL_steps 0 = .ok (.aload_n 0, 1) := by decide +kernel
theorem dL_steps_1 : decode cL_steps 1 = .ok (.iload_n 1, 1) := by decide +kernel
theorem dL_steps_2 : decode cL_steps 2 = .ok (.iconst 5, 1) := by decide +kernel
theorem dL_steps_3 : decode cL_steps 3 = .ok (.iadd, 1) := by decide +kernel
theorem dL_steps_4 : decode cL_steps 4 = .ok (.iaload, 1) := by decide +kernel
theorem dL_steps_5 : decode cL_steps 5 = .ok (.aload_n 0, 1) := by decide +kernel
theorem dL_steps_6 : decode cL_steps 6 = .ok (.iload_n 1, 1) := by decide +kernel
theorem dL_steps_7 : decode cL_steps 7 = .ok (.iconst 2, 1) := by decide +kernel
theorem dL_steps_8 : decode cL_steps 8 = .ok (.iadd, 1) := by decide +kernel
theorem dL_steps_9 : decode cL_steps 9 = .ok (.iaload, 1) := by decide +kernel
theorem dL_steps_10 : decode cL_steps 10 = .ok (.idiv, 1) := by decide +kernel
theorem dL_steps_11 : decode cL_steps 11 = .ok (.aload_n 0, 1) := by decide +kernel
theorem dL_steps_12 : decode cL_steps 12 = .ok (.iload_n 1, 1) := by decide +kernel
theorem dL_steps_13 : decode cL_steps 13 = .ok (.bipush 6, 2) := by decide +kernel
theorem dL_steps_15 : decode cL_steps 15 = .ok (.iadd, 1) := by decide +kernel
theorem dL_steps_16 : decode cL_steps 16 = .ok (.iaload, 1) := by decide +kernel
theorem dL_steps_17 : decode cL_steps 17 = .ok (.iadd, 1) := by decide +kernel
theorem dL_steps_18 : decode cL_steps 18 = .ok (.ireturn, 1) := by decide +kernel
set_option maxHeartbeats 4000000 in
set_option maxRecDepth 100000 in
theorem c_L_steps (l : Launch) (E : gE) (g : Mem) (R : Nat) (hR : R < eK E) (r : Nat → Int32) (hr : g R = aI E 0 56 r)(t : Nat) (ht : t + 8 ≤ 56)(sp a K : Nat) (h2 : r (t + 2) = nI sp) (h5 : r (t + 5) = nI a) (h6 : r (t + 6) = nI K) (s0 : 0 < sp) (s1 : sp ≤ 30) (ha : a < 1000000000) : Mt l E yL_steps cL_steps 2 (some .int) 0 0 [rf E (R), .int (nI (t))] g (pI (fun z g' => z = nI (a / sp + K) ∧ g' = g)) := by
  refine mt_go (own := RXL) (by decide) rfl (lo := [some (rf E (R)), some (.int (nI (t)))]) rfl (Nat.le_of_ble_eq_true rfl) (fun X hC => ?_)
  refine y_aload_n hC dL_steps_0 (i := 0) rfl rfl ?_
  refine y_iload_n hC dL_steps_1 (i := 1) rfl rfl ?_
  refine y_iconst (v := nI 5) hC dL_steps_2 (by decide) ?_
  refine y_iadd_n hC dL_steps_3 ?_
  refine y_iald hC dL_steps_4 (k := R) (j := t + 5) hR hr (rfl) (by omega) (by decide) ?_
  refine y_top (y := nI (a)) (h5) ?_
  refine y_aload_n hC dL_steps_5 (i := 0) rfl rfl ?_
  refine y_iload_n hC dL_steps_6 (i := 1) rfl rfl ?_
  refine y_iconst (v := nI 2) hC dL_steps_7 (by decide) ?_
  refine y_iadd_n hC dL_steps_8 ?_
  refine y_iald hC dL_steps_9 (k := R) (j := t + 2) hR hr (rfl) (by omega) (by decide) ?_
  refine y_top (y := nI (sp)) (h2) ?_
  refine y_idiv_n hC dL_steps_10 (by omega) (by omega) (by omega) ?_
  refine y_aload_n hC dL_steps_11 (i := 0) rfl rfl ?_
  refine y_iload_n hC dL_steps_12 (i := 1) rfl rfl ?_
  refine y_bipush (v := nI 6) hC dL_steps_13 (by decide) ?_
  refine y_iadd_n hC dL_steps_15 ?_
  refine y_iald hC dL_steps_16 (k := R) (j := t + 6) hR hr (rfl) (by omega) (by decide) ?_
  refine y_top (y := nI (K)) (h6) ?_
  refine y_iadd_n hC dL_steps_17 ?_
  refine y_iret (hC := hC) (hd := dL_steps_18) (hq := ?_)
  exact ⟨rfl, rfl⟩

theorem dL_turn_0 : decode cL_turn 0 = .ok (.aload_n 0, 1) := by decide +kernel
theorem dL_turn_1 : decode cL_turn 1 = .ok (.iload_n 1, 1) := by decide +kernel
theorem dL_turn_2 : decode cL_turn 2 = .ok (.iconst 1, 1) := by decide +kernel
theorem dL_turn_3 : decode cL_turn 3 = .ok (.iadd, 1) := by decide +kernel
theorem dL_turn_4 : decode cL_turn 4 = .ok (.iaload, 1) := by decide +kernel
theorem dL_turn_5 : decode cL_turn 5 = .ok (.istore_n 2, 1) := by decide +kernel
theorem dL_turn_6 : decode cL_turn 6 = .ok (.aload_n 0, 1) := by decide +kernel
theorem dL_turn_7 : decode cL_turn 7 = .ok (.iload_n 1, 1) := by decide +kernel
theorem dL_turn_8 : decode cL_turn 8 = .ok (.invokestatic 9, 3) := by decide +kernel
theorem dL_turn_11 : decode cL_turn 11 = .ok (.istore_n 3, 1) := by decide +kernel
theorem dL_turn_12 : decode cL_turn 12 = .ok (.aload_n 0, 1) := by decide +kernel
theorem dL_turn_13 : decode cL_turn 13 = .ok (.iload_n 1, 1) := by decide +kernel
theorem dL_turn_14 : decode cL_turn 14 = .ok (.iconst 3, 1) := by decide +kernel
theorem dL_turn_15 : decode cL_turn 15 = .ok (.iadd, 1) := by decide +kernel
theorem dL_turn_16 : decode cL_turn 16 = .ok (.iaload, 1) := by decide +kernel
theorem dL_turn_17 : decode cL_turn 17 = .ok (.iconst 2, 1) := by decide +kernel
theorem dL_turn_18 : decode cL_turn 18 = .ok (.if_icmp .ge 25, 3) := by decide +kernel
theorem dL_turn_21 : decode cL_turn 21 = .ok (.aload_n 0, 1) := by decide +kernel
theorem dL_turn_22 : decode cL_turn 22 = .ok (.iload_n 1, 1) := by decide +kernel
theorem dL_turn_23 : decode cL_turn 23 = .ok (.iconst 3, 1) := by decide +kernel
theorem dL_turn_24 : decode cL_turn 24 = .ok (.iadd, 1) := by decide +kernel
theorem dL_turn_25 : decode cL_turn 25 = .ok (.iaload, 1) := by decide +kernel
theorem dL_turn_26 : decode cL_turn 26 = .ok (.ifCond .ne 9, 3) := by decide +kernel
theorem dL_turn_29 : decode cL_turn 29 = .ok (.iload_n 3, 1) := by decide +kernel
theorem dL_turn_30 : decode cL_turn 30 = .ok (.iload_n 2, 1) := by decide +kernel
theorem dL_turn_31 : decode cL_turn 31 = .ok (.irem, 1) := by decide +kernel
theorem dL_turn_32 : decode cL_turn 32 = .ok (.goto 10, 3) := by decide +kernel
theorem dL_turn_35 : decode cL_turn 35 = .ok (.iload_n 2, 1) := by decide +kernel
theorem dL_turn_36 : decode cL_turn 36 = .ok (.iconst 1, 1) := by decide +kernel
theorem dL_turn_37 : decode cL_turn 37 = .ok (.isub, 1) := by decide +kernel
theorem dL_turn_38 : decode cL_turn 38 = .ok (.iload_n 3, 1) := by decide +kernel
theorem dL_turn_39 : decode cL_turn 39 = .ok (.imul, 1) := by decide +kernel
theorem dL_turn_40 : decode cL_turn 40 = .ok (.iload_n 2, 1) := by decide +kernel
theorem dL_turn_41 : decode cL_turn 41 = .ok (.irem, 1) := by decide +kernel
theorem dL_turn_42 : decode cL_turn 42 = .ok (.ireturn, 1) := by decide +kernel
theorem dL_turn_43 : decode cL_turn 43 = .ok (.iload_n 2, 1) := by decide +kernel
theorem dL_turn_44 : decode cL_turn 44 = .ok (.iconst 1, 1) := by decide +kernel
theorem dL_turn_45 : decode cL_turn 45 = .ok (.isub, 1) := by decide +kernel
theorem dL_turn_46 : decode cL_turn 46 = .ok (.istore 4, 2) := by decide +kernel
theorem dL_turn_48 : decode cL_turn 48 = .ok (.iload_n 3, 1) := by decide +kernel
theorem dL_turn_49 : decode cL_turn 49 = .ok (.iconst 2, 1) := by decide +kernel
theorem dL_turn_50 : decode cL_turn 50 = .ok (.iload 4, 2) := by decide +kernel
theorem dL_turn_52 : decode cL_turn 52 = .ok (.imul, 1) := by decide +kernel
theorem dL_turn_53 : decode cL_turn 53 = .ok (.irem, 1) := by decide +kernel
theorem dL_turn_54 : decode cL_turn 54 = .ok (.istore 5, 2) := by decide +kernel
theorem dL_turn_56 : decode cL_turn 56 = .ok (.iload 4, 2) := by decide +kernel
theorem dL_turn_58 : decode cL_turn 58 = .ok (.iload 5, 2) := by decide +kernel
theorem dL_turn_60 : decode cL_turn 60 = .ok (.iload 4, 2) := by decide +kernel
theorem dL_turn_62 : decode cL_turn 62 = .ok (.if_icmp .le 11, 3) := by decide +kernel
theorem dL_turn_65 : decode cL_turn 65 = .ok (.iload 5, 2) := by decide +kernel
theorem dL_turn_67 : decode cL_turn 67 = .ok (.iload 4, 2) := by decide +kernel
theorem dL_turn_69 : decode cL_turn 69 = .ok (.isub, 1) := by decide +kernel
theorem dL_turn_70 : decode cL_turn 70 = .ok (.goto 8, 3) := by decide +kernel
theorem dL_turn_73 : decode cL_turn 73 = .ok (.iload 4, 2) := by decide +kernel
theorem dL_turn_75 : decode cL_turn 75 = .ok (.iload 5, 2) := by decide +kernel
theorem dL_turn_77 : decode cL_turn 77 = .ok (.isub, 1) := by decide +kernel
theorem dL_turn_78 : decode cL_turn 78 = .ok (.isub, 1) := by decide +kernel
theorem dL_turn_79 : decode cL_turn 79 = .ok (.ireturn, 1) := by decide +kernel
set_option maxHeartbeats 4000000 in
set_option maxRecDepth 100000 in
theorem c_L_turn (l : Launch) (E : gE) (g : Mem) (R : Nat) (hR : R < eK E) (r : Nat → Int32) (hr : g R = aI E 0 56 r)(t : Nat) (ht : t + 8 ≤ 56)(n wy sp a K : Nat) (h1 : r (t + 1) = nI n) (h2 : r (t + 2) = nI sp) (h3 : r (t + 3) = nI wy) (h5 : r (t + 5) = nI a) (h6 : r (t + 6) = nI K) (s0 : 0 < sp) (s1 : sp ≤ 30) (ha : a < 1000000000) (hn : 2 ≤ n) (hn2 : n ≤ 32) (hw : wy ≤ 2) (hm : a / sp + K ≤ 60000000) : Mt l E yL_turn cL_turn 6 (some .int) 1 21 [rf E (R), .int (nI (t))] g (pI (fun z g' => z = nI (tnN n wy (a / sp + K)) ∧ g' = g)) := by
  obtain ⟨m, hme⟩ : ∃ m, m = a / sp + K := ⟨_, rfl⟩
  rw [← hme] at hm ⊢
  have hm2 : (n - 1) * m ≤ 31 * 60000000 := Nat.mul_le_mul (by omega) hm
  refine mt_go (own := RXL) (by decide) rfl (lo := [some (rf E (R)), some (.int (nI (t))), none, none, none, none]) rfl (Nat.le_of_ble_eq_true rfl) (fun X hC => ?_)
  refine y_aload_n hC dL_turn_0 (i := 0) rfl rfl ?_
  refine y_iload_n hC dL_turn_1 (i := 1) rfl rfl ?_
  refine y_iconst (v := nI 1) hC dL_turn_2 (by decide) ?_
  refine y_iadd_n hC dL_turn_3 ?_
  refine y_iald hC dL_turn_4 (k := R) (j := t + 1) hR hr (rfl) (by omega) (by decide) ?_
  refine y_top (y := nI (n)) (h1) ?_
  refine y_istore_n hC dL_turn_5 (i := 2) rfl (Nat.le_of_ble_eq_true rfl) rfl (lo' := [some (rf E (R)), some (.int (nI (t))), some (.int (nI (n))), none, none, none]) rfl ?_
  refine y_aload_n hC dL_turn_6 (i := 0) rfl rfl ?_
  refine y_iload_n hC dL_turn_7 (i := 1) rfl rfl ?_
  refine y_callS hC mL_steps kXL_9 dL_turn_8 (As := [rf E (R), .int (nI (t))]) (rest := []) (c_L_steps l E g R hR r hr t ht sp a K h2 h5 h6 s0 s1 ha) rfl rfl rfl (Nat.le_of_ble_eq_true rfl) ⟨Nat.le_of_ble_eq_true rfl, Nat.le_of_ble_eq_true rfl⟩ (pk_i ?_)
  rintro r_8 g_8 ⟨hr_8, hq_8⟩
  obtain rfl := hq_8.symm
  rw [hr_8]
  clear hr_8 r_8
  rw [← hme]
  refine y_istore_n hC dL_turn_11 (i := 3) rfl (Nat.le_of_ble_eq_true rfl) rfl (lo' := [some (rf E (R)), some (.int (nI (t))), some (.int (nI (n))), some (.int (nI (m))), none, none]) rfl ?_
  refine y_aload_n hC dL_turn_12 (i := 0) rfl rfl ?_
  refine y_iload_n hC dL_turn_13 (i := 1) rfl rfl ?_
  refine y_iconst (v := nI 3) hC dL_turn_14 (by decide) ?_
  refine y_iadd_n hC dL_turn_15 ?_
  refine y_iald hC dL_turn_16 (k := R) (j := t + 3) hR hr (rfl) (by omega) (by decide) ?_
  refine y_top (y := nI (wy)) (h3) ?_
  refine y_iconst (v := nI 2) hC dL_turn_17 (by decide) ?_
  refine y_icmp_ge_n (tgt := 43) hC dL_turn_18 (by decide) (by omega) (by omega) (fun c_18 => ?_) (fun c_18 => ?_)
  · have hwy : wy = 2 := by omega
    subst hwy
    have hlt := Nat.mod_lt m (show 0 < 2 * (n - 1) by omega)
    refine y_iload_n hC dL_turn_43 (i := 2) rfl rfl ?_
    refine y_iconst (v := nI 1) hC dL_turn_44 (by decide) ?_
    refine y_isub_n hC dL_turn_45 (by omega) ?_
    refine y_istore hC dL_turn_46 (Nat.le_of_ble_eq_true rfl) rfl (lo' := [some (rf E (R)), some (.int (nI (t))), some (.int (nI (n))), some (.int (nI (m))), some (.int (nI (n - (1)))), none]) rfl ?_
    refine y_iload_n hC dL_turn_48 (i := 3) rfl rfl ?_
    refine y_iconst (v := nI 2) hC dL_turn_49 (by decide) ?_
    refine y_iload hC dL_turn_50 rfl ?_
    refine y_imul_n hC dL_turn_52 ?_
    refine y_irem_n hC dL_turn_53 (by omega) (by omega) (by omega) ?_
    refine y_istore hC dL_turn_54 (Nat.le_of_ble_eq_true rfl) rfl (lo' := [some (rf E (R)), some (.int (nI (t))), some (.int (nI (n))), some (.int (nI (m))), some (.int (nI (n - (1)))), some (.int (nI ((m) % (2 * (n - (1))))))]) rfl ?_
    refine y_iload hC dL_turn_56 rfl ?_
    refine y_iload hC dL_turn_58 rfl ?_
    refine y_iload hC dL_turn_60 rfl ?_
    refine y_icmp_le_n (tgt := 73) hC dL_turn_62 (by decide) (by omega) (by omega) (fun c_62 => ?_) (fun c_62 => ?_)
    · refine y_iload hC dL_turn_73 rfl ?_
      refine y_iload hC dL_turn_75 rfl ?_
      refine y_isub_n hC dL_turn_77 (by omega) ?_
      refine y_isub_n hC dL_turn_78 (by omega) ?_
      refine y_iret (hC := hC) (hd := dL_turn_79) (hq := ?_)
      first | exact ⟨congrArg nI (tn_0 (by omega)), rfl⟩ | exact ⟨congrArg nI (tn_1 (by omega) (by omega)), rfl⟩ | exact ⟨congrArg nI (tn_2a rfl hn c_62), rfl⟩ | exact ⟨congrArg nI (tn_2b rfl hn c_62), rfl⟩
    · refine y_iload hC dL_turn_65 rfl ?_
      refine y_iload hC dL_turn_67 rfl ?_
      refine y_isub_n hC dL_turn_69 (by omega) ?_
      refine y_goto (tgt := 78) hC dL_turn_70 (by decide) ?_
      refine y_isub_n hC dL_turn_78 (by omega) ?_
      refine y_iret (hC := hC) (hd := dL_turn_79) (hq := ?_)
      first | exact ⟨congrArg nI (tn_0 (by omega)), rfl⟩ | exact ⟨congrArg nI (tn_1 (by omega) (by omega)), rfl⟩ | exact ⟨congrArg nI (tn_2a rfl hn c_62), rfl⟩ | exact ⟨congrArg nI (tn_2b rfl hn c_62), rfl⟩
  · refine y_aload_n hC dL_turn_21 (i := 0) rfl rfl ?_
    refine y_iload_n hC dL_turn_22 (i := 1) rfl rfl ?_
    refine y_iconst (v := nI 3) hC dL_turn_23 (by decide) ?_
    refine y_iadd_n hC dL_turn_24 ?_
    refine y_iald hC dL_turn_25 (k := R) (j := t + 3) hR hr (rfl) (by omega) (by decide) ?_
    refine y_top (y := nI (wy)) (h3) ?_
    refine y_if_ne_n (tgt := 35) hC dL_turn_26 (by decide) (by omega) (fun c_26 => ?_) (fun c_26 => ?_)
    · refine y_iload_n hC dL_turn_35 (i := 2) rfl rfl ?_
      refine y_iconst (v := nI 1) hC dL_turn_36 (by decide) ?_
      refine y_isub_n hC dL_turn_37 (by omega) ?_
      refine y_iload_n hC dL_turn_38 (i := 3) rfl rfl ?_
      refine y_imul_n hC dL_turn_39 ?_
      refine y_iload_n hC dL_turn_40 (i := 2) rfl rfl ?_
      refine y_irem_n hC dL_turn_41 (by omega) (by omega) (by omega) ?_
      refine y_iret (hC := hC) (hd := dL_turn_42) (hq := ?_)
      first | exact ⟨congrArg nI (tn_0 (by omega)), rfl⟩ | exact ⟨congrArg nI (tn_1 (by omega) (by omega)), rfl⟩ | exact ⟨congrArg nI (tn_2a rfl hn c_62), rfl⟩ | exact ⟨congrArg nI (tn_2b rfl hn c_62), rfl⟩
    · refine y_iload_n hC dL_turn_29 (i := 3) rfl rfl ?_
      refine y_iload_n hC dL_turn_30 (i := 2) rfl rfl ?_
      refine y_irem_n hC dL_turn_31 (by omega) (by omega) (by omega) ?_
      refine y_goto (tgt := 42) hC dL_turn_32 (by decide) ?_
      refine y_iret (hC := hC) (hd := dL_turn_42) (hq := ?_)
      first | exact ⟨congrArg nI (tn_0 (by omega)), rfl⟩ | exact ⟨congrArg nI (tn_1 (by omega) (by omega)), rfl⟩ | exact ⟨congrArg nI (tn_2a rfl hn c_62), rfl⟩ | exact ⟨congrArg nI (tn_2b rfl hn c_62), rfl⟩

theorem dL_rangeOf_0 : decode cL_rangeOf 0 = .ok (.iconst 0, 1) := by decide +kernel
theorem dL_rangeOf_1 : decode cL_rangeOf 1 = .ok (.istore_n 2, 1) := by decide +kernel
theorem dL_rangeOf_2 : decode cL_rangeOf 2 = .ok (.bipush 8, 2) := by decide +kernel
theorem dL_rangeOf_4 : decode cL_rangeOf 4 = .ok (.istore_n 3, 1) := by decide +kernel
theorem dL_rangeOf_5 : decode cL_rangeOf 5 = .ok (.iload_n 3, 1) := by decide +kernel
theorem dL_rangeOf_6 : decode cL_rangeOf 6 = .ok (.bipush 8, 2) := by decide +kernel
theorem dL_rangeOf_8 : decode cL_rangeOf 8 = .ok (.bipush 8, 2) := by decide +kernel
theorem dL_rangeOf_10 : decode cL_rangeOf 10 = .ok (.aload_n 0, 1) := by decide +kernel
theorem dL_rangeOf_11 : decode cL_rangeOf 11 = .ok (.iconst 0, 1) := by decide +kernel
theorem dL_rangeOf_12 : decode cL_rangeOf 12 = .ok (.iaload, 1) := by decide +kernel
theorem dL_rangeOf_13 : decode cL_rangeOf 13 = .ok (.imul, 1) := by decide +kernel
theorem dL_rangeOf_14 : decode cL_rangeOf 14 = .ok (.iadd, 1) := by decide +kernel
theorem dL_rangeOf_15 : decode cL_rangeOf 15 = .ok (.if_icmp .ge 35, 3) := by decide +kernel
theorem dL_rangeOf_18 : decode cL_rangeOf 18 = .ok (.iload_n 1, 1) := by decide +kernel
theorem dL_rangeOf_19 : decode cL_rangeOf 19 = .ok (.aload_n 0, 1) := by decide +kernel
theorem dL_rangeOf_20 : decode cL_rangeOf 20 = .ok (.iload_n 3, 1) := by decide +kernel
theorem dL_rangeOf_21 : decode cL_rangeOf 21 = .ok (.iaload, 1) := by decide +kernel
theorem dL_rangeOf_22 : decode cL_rangeOf 22 = .ok (.if_icmp .lt 20, 3) := by decide +kernel
theorem dL_rangeOf_25 : decode cL_rangeOf 25 = .ok (.iload_n 1, 1) := by decide +kernel
theorem dL_rangeOf_26 : decode cL_rangeOf 26 = .ok (.aload_n 0, 1) := by decide +kernel
theorem dL_rangeOf_27 : decode cL_rangeOf 27 = .ok (.iload_n 3, 1) := by decide +kernel
theorem dL_rangeOf_28 : decode cL_rangeOf 28 = .ok (.iaload, 1) := by decide +kernel
theorem dL_rangeOf_29 : decode cL_rangeOf 29 = .ok (.aload_n 0, 1) := by decide +kernel
theorem dL_rangeOf_30 : decode cL_rangeOf 30 = .ok (.iload_n 3, 1) := by decide +kernel
theorem dL_rangeOf_31 : decode cL_rangeOf 31 = .ok (.iconst 1, 1) := by decide +kernel
theorem dL_rangeOf_32 : decode cL_rangeOf 32 = .ok (.iadd, 1) := by decide +kernel
theorem dL_rangeOf_33 : decode cL_rangeOf 33 = .ok (.iaload, 1) := by decide +kernel
theorem dL_rangeOf_34 : decode cL_rangeOf 34 = .ok (.iadd, 1) := by decide +kernel
theorem dL_rangeOf_35 : decode cL_rangeOf 35 = .ok (.if_icmp .ge 7, 3) := by decide +kernel
theorem dL_rangeOf_38 : decode cL_rangeOf 38 = .ok (.iload_n 3, 1) := by decide +kernel
theorem dL_rangeOf_39 : decode cL_rangeOf 39 = .ok (.goto 4, 3) := by decide +kernel
theorem dL_rangeOf_42 : decode cL_rangeOf 42 = .ok (.iload_n 2, 1) := by decide +kernel
theorem dL_rangeOf_43 : decode cL_rangeOf 43 = .ok (.istore_n 2, 1) := by decide +kernel
theorem dL_rangeOf_44 : decode cL_rangeOf 44 = .ok (.iinc 3 8, 3) := by decide +kernel
theorem dL_rangeOf_47 : decode cL_rangeOf 47 = .ok (.goto (-42), 3) := by decide +kernel
theorem dL_rangeOf_50 : decode cL_rangeOf 50 = .ok (.iload_n 2, 1) := by decide +kernel
theorem dL_rangeOf_51 : decode cL_rangeOf 51 = .ok (.ireturn, 1) := by decide +kernel
set_option maxHeartbeats 4000000 in
set_option maxRecDepth 100000 in
theorem c_L_rangeOf (l : Launch) (E : gE) (g : Mem) (R : Nat) (hR : R < eK E) (r : Nat → Int32) (hr : g R = aI E 0 56 r)(ρ : Row) (B M : Nat) (hv : Vr ρ B) (a K : Nat → Nat) (hq : RgL ρ r a K M) (p : Nat) (hp : p < 64) : Mt l E yL_rangeOf cL_rangeOf 4 (some .int) 0 0 [rf E (R), .int (nI (p))] g (pI (fun z g' => z = nI (rzN ρ p) ∧ g' = g)) := by
  have hrc : rc ρ ≤ 6 := hv.1.2
  refine mt_go (own := RXL) (by decide) rfl (lo := [some (rf E (R)), some (.int (nI (p))), none, none]) rfl (Nat.le_of_ble_eq_true rfl) (fun X hC => ?_)
  refine y_iconst (v := nI 0) hC dL_rangeOf_0 (by decide) ?_
  refine y_istore_n hC dL_rangeOf_1 (i := 2) rfl (Nat.le_of_ble_eq_true rfl) rfl (lo' := [some (rf E (R)), some (.int (nI (p))), some (.int (nI (0))), none]) rfl ?_
  refine y_bipush (v := nI 8) hC dL_rangeOf_2 (by decide) ?_
  refine y_istore_n hC dL_rangeOf_4 (i := 3) rfl (Nat.le_of_ble_eq_true rfl) rfl (lo' := [some (rf E (R)), some (.int (nI (p))), some (.int (nI (0))), some (.int (nI (8)))]) rfl ?_
  have L_5 : ∀ (m : Nat) (k : Nat), (hm : rc ρ - k < m) → (hk : k ≤ rc ρ) → Y l E X (pI (fun z g' => z = nI (rzN ρ p) ∧ g' = g)) 5 [some (rf E (R)), some (.int (nI (p))), some (.int (nI (lsR ρ p k))), some (.int (nI (8 + 8 * k)))] [] g := by
    intro m
    induction m with
    | zero => intro k hm hk; exact absurd hm (Nat.not_lt_zero _)
    | succ m ih_5 =>
      intro k hm hk
      refine y_iload_n hC dL_rangeOf_5 (i := 3) rfl rfl ?_
      refine y_bipush (v := nI 8) hC dL_rangeOf_6 (by decide) ?_
      refine y_bipush (v := nI 8) hC dL_rangeOf_8 (by decide) ?_
      refine y_aload_n hC dL_rangeOf_10 (i := 0) rfl rfl ?_
      refine y_iconst (v := nI 0) hC dL_rangeOf_11 (by decide) ?_
      refine y_iald hC dL_rangeOf_12 (k := R) (j := 0) hR hr (rfl) (by omega) (by decide) ?_
      refine y_top (y := nI (rc ρ)) (hq.n) ?_
      refine y_imul_n hC dL_rangeOf_13 ?_
      refine y_iadd_n hC dL_rangeOf_14 ?_
      refine y_icmp_ge_n (tgt := 50) hC dL_rangeOf_15 (by decide) (by omega) (by omega) (fun c_15 => ?_) (fun c_15 => ?_)
      · have hke : k = rc ρ := by omega
        refine y_iload_n hC dL_rangeOf_50 (i := 2) rfl rfl ?_
        refine y_iret (hC := hC) (hd := dL_rangeOf_51) (hq := ?_)
        exact ⟨by rw [hke, lsR_rz hv], rfl⟩
      · replace c_15 : k < rc ρ := by omega
        obtain ⟨hb1, hb2⟩ := nP_b hv c_15
        have hb3 := nP_l hv c_15
        refine y_iload_n hC dL_rangeOf_18 (i := 1) rfl rfl ?_
        refine y_aload_n hC dL_rangeOf_19 (i := 0) rfl rfl ?_
        refine y_iload_n hC dL_rangeOf_20 (i := 3) rfl rfl ?_
        refine y_iald hC dL_rangeOf_21 (k := R) (j := 8 + 8 * k) hR hr (rfl) (by omega) (by decide) ?_
        refine y_top (y := nI (rg ρ k 0)) (hq.f0 c_15) ?_
        refine y_icmp_lt_n (tgt := 42) hC dL_rangeOf_22 (by decide) (by omega) (by omega) (fun c_22 => ?_) (fun c_22 => ?_)
        · refine y_iload_n hC dL_rangeOf_42 (i := 2) rfl rfl ?_
          refine y_top (y := nI (lsR ρ p (k + 1))) (congrArg nI (by rw [lsR_s]; first | rw [if_pos (by omega)] | rw [if_neg (by omega)])) ?_
          refine y_istore_n hC dL_rangeOf_43 (i := 2) rfl (Nat.le_of_ble_eq_true rfl) rfl (lo' := [some (rf E (R)), some (.int (nI (p))), some (.int (nI (lsR ρ p (k + 1)))), some (.int (nI (8 + 8 * k)))]) rfl ?_
          refine y_iinc_n hC dL_rangeOf_44 (a := 8 + 8 * k) (k := 8) rfl (by decide) (Nat.le_of_ble_eq_true rfl) rfl (lo' := [some (rf E (R)), some (.int (nI (p))), some (.int (nI (lsR ρ p (k + 1)))), some (.int (nI (8 + 8 * k + 8)))]) rfl ?_
          refine y_goto (tgt := 5) hC dL_rangeOf_47 (by decide) ?_
          rw [show 8 + 8 * k + 8 = 8 + 8 * (k + 1) from by omega]
          exact ih_5 (k + 1) (by omega) (by omega)
        · refine y_iload_n hC dL_rangeOf_25 (i := 1) rfl rfl ?_
          refine y_aload_n hC dL_rangeOf_26 (i := 0) rfl rfl ?_
          refine y_iload_n hC dL_rangeOf_27 (i := 3) rfl rfl ?_
          refine y_iald hC dL_rangeOf_28 (k := R) (j := 8 + 8 * k) hR hr (rfl) (by omega) (by decide) ?_
          refine y_top (y := nI (rg ρ k 0)) (hq.f0 c_15) ?_
          refine y_aload_n hC dL_rangeOf_29 (i := 0) rfl rfl ?_
          refine y_iload_n hC dL_rangeOf_30 (i := 3) rfl rfl ?_
          refine y_iconst (v := nI 1) hC dL_rangeOf_31 (by decide) ?_
          refine y_iadd_n hC dL_rangeOf_32 ?_
          refine y_iald hC dL_rangeOf_33 (k := R) (j := (8 + 8 * k) + 1) hR hr (rfl) (by omega) (by decide) ?_
          refine y_top (y := nI (nP ρ k)) (hq.f1 c_15) ?_
          refine y_iadd_n hC dL_rangeOf_34 ?_
          refine y_icmp_ge_n (tgt := 42) hC dL_rangeOf_35 (by decide) (by omega) (by omega) (fun c_35 => ?_) (fun c_35 => ?_)
          · refine y_iload_n hC dL_rangeOf_42 (i := 2) rfl rfl ?_
            refine y_top (y := nI (lsR ρ p (k + 1))) (congrArg nI (by rw [lsR_s]; first | rw [if_pos (by omega)] | rw [if_neg (by omega)])) ?_
            refine y_istore_n hC dL_rangeOf_43 (i := 2) rfl (Nat.le_of_ble_eq_true rfl) rfl (lo' := [some (rf E (R)), some (.int (nI (p))), some (.int (nI (lsR ρ p (k + 1)))), some (.int (nI (8 + 8 * k)))]) rfl ?_
            refine y_iinc_n hC dL_rangeOf_44 (a := 8 + 8 * k) (k := 8) rfl (by decide) (Nat.le_of_ble_eq_true rfl) rfl (lo' := [some (rf E (R)), some (.int (nI (p))), some (.int (nI (lsR ρ p (k + 1)))), some (.int (nI (8 + 8 * k + 8)))]) rfl ?_
            refine y_goto (tgt := 5) hC dL_rangeOf_47 (by decide) ?_
            rw [show 8 + 8 * k + 8 = 8 + 8 * (k + 1) from by omega]
            exact ih_5 (k + 1) (by omega) (by omega)
          · refine y_iload_n hC dL_rangeOf_38 (i := 3) rfl rfl ?_
            refine y_goto (tgt := 43) hC dL_rangeOf_39 (by decide) ?_
            refine y_top (y := nI (lsR ρ p (k + 1))) (congrArg nI (by rw [lsR_s]; first | rw [if_pos (by omega)] | rw [if_neg (by omega)])) ?_
            refine y_istore_n hC dL_rangeOf_43 (i := 2) rfl (Nat.le_of_ble_eq_true rfl) rfl (lo' := [some (rf E (R)), some (.int (nI (p))), some (.int (nI (lsR ρ p (k + 1)))), some (.int (nI (8 + 8 * k)))]) rfl ?_
            refine y_iinc_n hC dL_rangeOf_44 (a := 8 + 8 * k) (k := 8) rfl (by decide) (Nat.le_of_ble_eq_true rfl) rfl (lo' := [some (rf E (R)), some (.int (nI (p))), some (.int (nI (lsR ρ p (k + 1)))), some (.int (nI (8 + 8 * k + 8)))]) rfl ?_
            refine y_goto (tgt := 5) hC dL_rangeOf_47 (by decide) ?_
            rw [show 8 + 8 * k + 8 = 8 + 8 * (k + 1) from by omega]
            exact ih_5 (k + 1) (by omega) (by omega)
  exact L_5 (rc ρ + 1) 0 (by omega) (by omega)

theorem dL_glowOf_0 : decode cL_glowOf 0 = .ok (.iconst 0, 1) := by decide +kernel
theorem dL_glowOf_1 : decode cL_glowOf 1 = .ok (.istore_n 2, 1) := by decide +kernel
theorem dL_glowOf_2 : decode cL_glowOf 2 = .ok (.iconst 4, 1) := by decide +kernel
theorem dL_glowOf_3 : decode cL_glowOf 3 = .ok (.istore_n 3, 1) := by decide +kernel
theorem dL_glowOf_4 : decode cL_glowOf 4 = .ok (.iload_n 3, 1) := by decide +kernel
theorem dL_glowOf_5 : decode cL_glowOf 5 = .ok (.iconst 4, 1) := by decide +kernel
theorem dL_glowOf_6 : decode cL_glowOf 6 = .ok (.iconst 4, 1) := by decide +kernel
theorem dL_glowOf_7 : decode cL_glowOf 7 = .ok (.aload_n 0, 1) := by decide +kernel
theorem dL_glowOf_8 : decode cL_glowOf 8 = .ok (.iconst 0, 1) := by decide +kernel
theorem dL_glowOf_9 : decode cL_glowOf 9 = .ok (.iaload, 1) := by decide +kernel
theorem dL_glowOf_10 : decode cL_glowOf 10 = .ok (.imul, 1) := by decide +kernel
theorem dL_glowOf_11 : decode cL_glowOf 11 = .ok (.iadd, 1) := by decide +kernel
theorem dL_glowOf_12 : decode cL_glowOf 12 = .ok (.if_icmp .ge 22, 3) := by decide +kernel
theorem dL_glowOf_15 : decode cL_glowOf 15 = .ok (.aload_n 0, 1) := by decide +kernel
theorem dL_glowOf_16 : decode cL_glowOf 16 = .ok (.iload_n 3, 1) := by decide +kernel
theorem dL_glowOf_17 : decode cL_glowOf 17 = .ok (.iaload, 1) := by decide +kernel
theorem dL_glowOf_18 : decode cL_glowOf 18 = .ok (.iload_n 1, 1) := by decide +kernel
theorem dL_glowOf_19 : decode cL_glowOf 19 = .ok (.if_icmp .ne 7, 3) := by decide +kernel
theorem dL_glowOf_22 : decode cL_glowOf 22 = .ok (.iload_n 3, 1) := by decide +kernel
theorem dL_glowOf_23 : decode cL_glowOf 23 = .ok (.goto 4, 3) := by decide +kernel
theorem dL_glowOf_26 : decode cL_glowOf 26 = .ok (.iload_n 2, 1) := by decide +kernel
theorem dL_glowOf_27 : decode cL_glowOf 27 = .ok (.istore_n 2, 1) := by decide +kernel
theorem dL_glowOf_28 : decode cL_glowOf 28 = .ok (.iinc 3 4, 3) := by decide +kernel
theorem dL_glowOf_31 : decode cL_glowOf 31 = .ok (.goto (-27), 3) := by decide +kernel
theorem dL_glowOf_34 : decode cL_glowOf 34 = .ok (.iload_n 2, 1) := by decide +kernel
theorem dL_glowOf_35 : decode cL_glowOf 35 = .ok (.ireturn, 1) := by decide +kernel
set_option maxHeartbeats 4000000 in
set_option maxRecDepth 100000 in
theorem c_L_glowOf (l : Launch) (E : gE) (g : Mem) (R : Nat) (hR : R < eK E) (r : Nat → Int32) (hr : g R = aI E 0 20 r)(ρ : Row) (B : Nat) (hv : Vr ρ B) (hq : GlL ρ r) (p : Nat) (hp : p < 64) : Mt l E yL_glowOf cL_glowOf 4 (some .int) 0 0 [rf E (R), .int (nI (p))] g (pI (fun z g' => z = nI (gzN ρ p) ∧ g' = g)) := by
  have hgc : gc ρ ≤ 4 := hv.2.1.2
  refine mt_go (own := RXL) (by decide) rfl (lo := [some (rf E (R)), some (.int (nI (p))), none, none]) rfl (Nat.le_of_ble_eq_true rfl) (fun X hC => ?_)
  refine y_iconst (v := nI 0) hC dL_glowOf_0 (by decide) ?_
  refine y_istore_n hC dL_glowOf_1 (i := 2) rfl (Nat.le_of_ble_eq_true rfl) rfl (lo' := [some (rf E (R)), some (.int (nI (p))), some (.int (nI (0))), none]) rfl ?_
  refine y_iconst (v := nI 4) hC dL_glowOf_2 (by decide) ?_
  refine y_istore_n hC dL_glowOf_3 (i := 3) rfl (Nat.le_of_ble_eq_true rfl) rfl (lo' := [some (rf E (R)), some (.int (nI (p))), some (.int (nI (0))), some (.int (nI (4)))]) rfl ?_
  have L_4 : ∀ (m : Nat) (k : Nat), (hm : gc ρ - k < m) → (hk : k ≤ gc ρ) → Y l E X (pI (fun z g' => z = nI (gzN ρ p) ∧ g' = g)) 4 [some (rf E (R)), some (.int (nI (p))), some (.int (nI (lsG ρ p k))), some (.int (nI (4 + 4 * k)))] [] g := by
    intro m
    induction m with
    | zero => intro k hm hk; exact absurd hm (Nat.not_lt_zero _)
    | succ m ih_4 =>
      intro k hm hk
      refine y_iload_n hC dL_glowOf_4 (i := 3) rfl rfl ?_
      refine y_iconst (v := nI 4) hC dL_glowOf_5 (by decide) ?_
      refine y_iconst (v := nI 4) hC dL_glowOf_6 (by decide) ?_
      refine y_aload_n hC dL_glowOf_7 (i := 0) rfl rfl ?_
      refine y_iconst (v := nI 0) hC dL_glowOf_8 (by decide) ?_
      refine y_iald hC dL_glowOf_9 (k := R) (j := 0) hR hr (rfl) (by omega) (by decide) ?_
      refine y_top (y := nI (gc ρ)) (hq.n) ?_
      refine y_imul_n hC dL_glowOf_10 ?_
      refine y_iadd_n hC dL_glowOf_11 ?_
      refine y_icmp_ge_n (tgt := 34) hC dL_glowOf_12 (by decide) (by omega) (by omega) (fun c_12 => ?_) (fun c_12 => ?_)
      · have hke : k = gc ρ := by omega
        refine y_iload_n hC dL_glowOf_34 (i := 2) rfl rfl ?_
        refine y_iret (hC := hC) (hd := dL_glowOf_35) (hq := ?_)
        exact ⟨by rw [hke, lsG_gz hv], rfl⟩
      · replace c_12 : k < gc ρ := by omega
        have hb1 := (hv.gl c_12).2.1
        refine y_aload_n hC dL_glowOf_15 (i := 0) rfl rfl ?_
        refine y_iload_n hC dL_glowOf_16 (i := 3) rfl rfl ?_
        refine y_iald hC dL_glowOf_17 (k := R) (j := 4 + 4 * k) hR hr (rfl) (by omega) (by decide) ?_
        refine y_top (y := nI (gl ρ k 0)) (hq.f0 c_12) ?_
        refine y_iload_n hC dL_glowOf_18 (i := 1) rfl rfl ?_
        refine y_icmp_ne_n (tgt := 26) hC dL_glowOf_19 (by decide) (by omega) (by omega) (fun c_19 => ?_) (fun c_19 => ?_)
        · refine y_iload_n hC dL_glowOf_26 (i := 2) rfl rfl ?_
          refine y_top (y := nI (lsG ρ p (k + 1))) (congrArg nI (by rw [lsG_s]; first | rw [if_pos (by omega)] | rw [if_neg (by omega)])) ?_
          refine y_istore_n hC dL_glowOf_27 (i := 2) rfl (Nat.le_of_ble_eq_true rfl) rfl (lo' := [some (rf E (R)), some (.int (nI (p))), some (.int (nI (lsG ρ p (k + 1)))), some (.int (nI (4 + 4 * k)))]) rfl ?_
          refine y_iinc_n hC dL_glowOf_28 (a := 4 + 4 * k) (k := 4) rfl (by decide) (Nat.le_of_ble_eq_true rfl) rfl (lo' := [some (rf E (R)), some (.int (nI (p))), some (.int (nI (lsG ρ p (k + 1)))), some (.int (nI (4 + 4 * k + 4)))]) rfl ?_
          refine y_goto (tgt := 4) hC dL_glowOf_31 (by decide) ?_
          rw [show 4 + 4 * k + 4 = 4 + 4 * (k + 1) from by omega]
          exact ih_4 (k + 1) (by omega) (by omega)
        · refine y_iload_n hC dL_glowOf_22 (i := 3) rfl rfl ?_
          refine y_goto (tgt := 27) hC dL_glowOf_23 (by decide) ?_
          refine y_top (y := nI (lsG ρ p (k + 1))) (congrArg nI (by rw [lsG_s]; first | rw [if_pos (by omega)] | rw [if_neg (by omega)])) ?_
          refine y_istore_n hC dL_glowOf_27 (i := 2) rfl (Nat.le_of_ble_eq_true rfl) rfl (lo' := [some (rf E (R)), some (.int (nI (p))), some (.int (nI (lsG ρ p (k + 1)))), some (.int (nI (4 + 4 * k)))]) rfl ?_
          refine y_iinc_n hC dL_glowOf_28 (a := 4 + 4 * k) (k := 4) rfl (by decide) (Nat.le_of_ble_eq_true rfl) rfl (lo' := [some (rf E (R)), some (.int (nI (p))), some (.int (nI (lsG ρ p (k + 1)))), some (.int (nI (4 + 4 * k + 4)))]) rfl ?_
          refine y_goto (tgt := 4) hC dL_glowOf_31 (by decide) ?_
          rw [show 4 + 4 * k + 4 = 4 + 4 * (k + 1) from by omega]
          exact ih_4 (k + 1) (by omega) (by omega)
  exact L_4 (gc ρ + 1) 0 (by omega) (by omega)

theorem dL_strength_0 : decode cL_strength 0 = .ok (.aload_n 0, 1) := by decide +kernel
theorem dL_strength_1 : decode cL_strength 1 = .ok (.iload_n 1, 1) := by decide +kernel
theorem dL_strength_2 : decode cL_strength 2 = .ok (.iconst 3, 1) := by decide +kernel
theorem dL_strength_3 : decode cL_strength 3 = .ok (.iadd, 1) := by decide +kernel
theorem dL_strength_4 : decode cL_strength 4 = .ok (.iaload, 1) := by decide +kernel
theorem dL_strength_5 : decode cL_strength 5 = .ok (.aload_n 0, 1) := by decide +kernel
theorem dL_strength_6 : decode cL_strength 6 = .ok (.iload_n 1, 1) := by decide +kernel
theorem dL_strength_7 : decode cL_strength 7 = .ok (.iconst 2, 1) := by decide +kernel
theorem dL_strength_8 : decode cL_strength 8 = .ok (.iadd, 1) := by decide +kernel
theorem dL_strength_9 : decode cL_strength 9 = .ok (.iaload, 1) := by decide +kernel
theorem dL_strength_10 : decode cL_strength 10 = .ok (.isub, 1) := by decide +kernel
theorem dL_strength_11 : decode cL_strength 11 = .ok (.istore_n 2, 1) := by decide +kernel
theorem dL_strength_12 : decode cL_strength 12 = .ok (.aload_n 0, 1) := by decide +kernel
theorem dL_strength_13 : decode cL_strength 13 = .ok (.iload_n 1, 1) := by decide +kernel
theorem dL_strength_14 : decode cL_strength 14 = .ok (.iconst 2, 1) := by decide +kernel
theorem dL_strength_15 : decode cL_strength 15 = .ok (.iadd, 1) := by decide +kernel
theorem dL_strength_16 : decode cL_strength 16 = .ok (.iaload, 1) := by decide +kernel
theorem dL_strength_17 : decode cL_strength 17 = .ok (.iload_n 2, 1) := by decide +kernel
theorem dL_strength_18 : decode cL_strength 18 = .ok (.ifCond .ge 8, 3) := by decide +kernel
theorem dL_strength_21 : decode cL_strength 21 = .ok (.iload_n 2, 1) := by decide +kernel
theorem dL_strength_22 : decode cL_strength 22 = .ok (.ineg, 1) := by decide +kernel
theorem dL_strength_23 : decode cL_strength 23 = .ok (.goto 4, 3) := by decide +kernel
theorem dL_strength_26 : decode cL_strength 26 = .ok (.iload_n 2, 1) := by decide +kernel
theorem dL_strength_27 : decode cL_strength 27 = .ok (.isub, 1) := by decide +kernel
theorem dL_strength_28 : decode cL_strength 28 = .ok (.ireturn, 1) := by decide +kernel
set_option maxHeartbeats 4000000 in
set_option maxRecDepth 100000 in
theorem c_L_strength (l : Launch) (E : gE) (g : Mem) (R : Nat) (hR : R < eK E) (r : Nat → Int32) (hr : g R = aI E 0 20 r)(t : Nat) (ht : t + 4 ≤ 20) (len ti : Nat) (h2 : r (t + 2) = nI len) (h3 : r (t + 3) = nI ti) (l0 : 0 < len) (l1 : len ≤ 30) (hti : ti < 2 * len) : Mt l E yL_strength cL_strength 3 (some .int) 0 0 [rf E (R), .int (nI (t))] g (pI (fun z g' => z = nI (stN len ti 0) ∧ g' = g)) := by
  refine mt_go (own := RXL) (by decide) rfl (lo := [some (rf E (R)), some (.int (nI (t))), none]) rfl (Nat.le_of_ble_eq_true rfl) (fun X hC => ?_)
  refine y_aload_n hC dL_strength_0 (i := 0) rfl rfl ?_
  refine y_iload_n hC dL_strength_1 (i := 1) rfl rfl ?_
  refine y_iconst (v := nI 3) hC dL_strength_2 (by decide) ?_
  refine y_iadd_n hC dL_strength_3 ?_
  refine y_iald hC dL_strength_4 (k := R) (j := t + 3) hR hr (rfl) (by omega) (by decide) ?_
  refine y_top (y := nI (ti)) (h3) ?_
  refine y_aload_n hC dL_strength_5 (i := 0) rfl rfl ?_
  refine y_iload_n hC dL_strength_6 (i := 1) rfl rfl ?_
  refine y_iconst (v := nI 2) hC dL_strength_7 (by decide) ?_
  refine y_iadd_n hC dL_strength_8 ?_
  refine y_iald hC dL_strength_9 (k := R) (j := t + 2) hR hr (rfl) (by omega) (by decide) ?_
  refine y_top (y := nI (len)) (h2) ?_
  refine y_isub hC dL_strength_10 ?_
  refine y_istore_n hC dL_strength_11 (i := 2) rfl (Nat.le_of_ble_eq_true rfl) rfl (lo' := [some (rf E (R)), some (.int (nI (t))), some (.int (nI (ti) - nI (len)))]) rfl ?_
  refine y_aload_n hC dL_strength_12 (i := 0) rfl rfl ?_
  refine y_iload_n hC dL_strength_13 (i := 1) rfl rfl ?_
  refine y_iconst (v := nI 2) hC dL_strength_14 (by decide) ?_
  refine y_iadd_n hC dL_strength_15 ?_
  refine y_iald hC dL_strength_16 (k := R) (j := t + 2) hR hr (rfl) (by omega) (by decide) ?_
  refine y_top (y := nI (len)) (h2) ?_
  refine y_iload_n hC dL_strength_17 (i := 2) rfl rfl ?_
  refine y_if_ge (tgt := 26) hC dL_strength_18 (by decide) (fun c_18 => ?_) (fun c_18 => ?_)
  · refine y_iload_n hC dL_strength_26 (i := 2) rfl rfl ?_
    refine y_isub hC dL_strength_27 ?_
    refine y_iret (hC := hC) (hd := dL_strength_28) (hq := ?_)
    first | exact ⟨st_b l0 l1 hti c_18, rfl⟩ | exact ⟨st_a l0 l1 hti c_18, rfl⟩
  · refine y_iload_n hC dL_strength_21 (i := 2) rfl rfl ?_
    refine y_ineg hC dL_strength_22 ?_
    refine y_goto (tgt := 27) hC dL_strength_23 (by decide) ?_
    refine y_isub hC dL_strength_27 ?_
    refine y_iret (hC := hC) (hd := dL_strength_28) (hq := ?_)
    first | exact ⟨st_b l0 l1 hti c_18, rfl⟩ | exact ⟨st_a l0 l1 hti c_18, rfl⟩

