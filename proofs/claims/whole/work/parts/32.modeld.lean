/-! ===== the model: ticks, and what will be ===== -/
set_option maxHeartbeats 4000000 in
set_option maxRecDepth 100000 in
theorem c_X6_ofR (l : Launch) (E : gE) (g : Mem) (row : Nat → Int32) (B : GB) (C : GC) (D : GD) (P : GP) (hM : MX E g row B C D P) (i w : Nat) (hi : i < 6) (hw : w < 7) : Mt l E yX6_of cX6_of 3 (some .int) 0 0 [rf E (0), .int (nI (i)), .int (nI (w))] g (pI (fun z g' => z = row (33 + 7 * i + w) ∧ g' = g)) := by
  have hK := hM.k
  refine mt_go (own := RX6) (by decide) rfl (lo := [some (rf E (0)), some (.int (nI (i))), some (.int (nI (w)))]) rfl (Nat.le_of_ble_eq_true rfl) (fun X hC => ?_)
  refine y_aload_n hC dX6_of_0 (i := 0) rfl rfl ?_
  refine y_get hC fX6_7 dX6_of_1 (k := 0) (by omega) hM.a0 rfl ?_
  refine y_bipush (v := nI 33) hC dX6_of_4 (by decide) ?_
  refine y_bipush (v := nI 7) hC dX6_of_6 (by decide) ?_
  refine y_iload_n hC dX6_of_8 (i := 1) rfl rfl ?_
  refine y_imul_n hC dX6_of_9 ?_
  refine y_iadd_n hC dX6_of_10 ?_
  refine y_iload_n hC dX6_of_11 (i := 2) rfl rfl ?_
  refine y_iadd_n hC dX6_of_12 ?_
  refine y_iald hC dX6_of_13 (k := 1) (j := (33 + (7 * i)) + w) (by omega) hM.a1 (rfl) (by omega) (by decide) ?_
  refine y_iret (hC := hC) (hd := dX6_of_14) (hq := ?_)
  exact ⟨rfl, rfl⟩

set_option maxHeartbeats 4000000 in
set_option maxRecDepth 100000 in
theorem c_X6_ofGlowR (l : Launch) (E : gE) (g : Mem) (row : Nat → Int32) (B : GB) (C : GC) (D : GD) (P : GP) (hM : MX E g row B C D P) (i w : Nat) (hi : i < 4) (hw : w < 4) : Mt l E yX6_ofGlow cX6_ofGlow 3 (some .int) 0 0 [rf E (0), .int (nI (i)), .int (nI (w))] g (pI (fun z g' => z = row (76 + 4 * i + w) ∧ g' = g)) := by
  have hK := hM.k
  refine mt_go (own := RX6) (by decide) rfl (lo := [some (rf E (0)), some (.int (nI (i))), some (.int (nI (w)))]) rfl (Nat.le_of_ble_eq_true rfl) (fun X hC => ?_)
  refine y_aload_n hC dX6_ofGlow_0 (i := 0) rfl rfl ?_
  refine y_get hC fX6_7 dX6_ofGlow_1 (k := 0) (by omega) hM.a0 rfl ?_
  refine y_bipush (v := nI 76) hC dX6_ofGlow_4 (by decide) ?_
  refine y_iconst (v := nI 4) hC dX6_ofGlow_6 (by decide) ?_
  refine y_iload_n hC dX6_ofGlow_7 (i := 1) rfl rfl ?_
  refine y_imul_n hC dX6_ofGlow_8 ?_
  refine y_iadd_n hC dX6_ofGlow_9 ?_
  refine y_iload_n hC dX6_ofGlow_10 (i := 2) rfl rfl ?_
  refine y_iadd_n hC dX6_ofGlow_11 ?_
  refine y_iald hC dX6_ofGlow_12 (k := 1) (j := (76 + (4 * i)) + w) (by omega) hM.a1 (rfl) (by omega) (by decide) ?_
  refine y_iret (hC := hC) (hd := dX6_ofGlow_13) (hq := ?_)
  exact ⟨rfl, rfl⟩

theorem dX6_step_0 : decode cX6_step 0 = .ok (.aload_n 0, 1) := by decide +kernel
theorem dX6_step_1 : decode cX6_step 1 = .ok (.getfield 7, 3) := by decide +kernel
theorem dX6_step_4 : decode cX6_step 4 = .ok (.bipush 33, 2) := by decide +kernel
theorem dX6_step_6 : decode cX6_step 6 = .ok (.bipush 7, 2) := by decide +kernel
theorem dX6_step_8 : decode cX6_step 8 = .ok (.iload_n 1, 1) := by decide +kernel
theorem dX6_step_9 : decode cX6_step 9 = .ok (.imul, 1) := by decide +kernel
theorem dX6_step_10 : decode cX6_step 10 = .ok (.iadd, 1) := by decide +kernel
theorem dX6_step_11 : decode cX6_step 11 = .ok (.bipush 6, 2) := by decide +kernel
theorem dX6_step_13 : decode cX6_step 13 = .ok (.iadd, 1) := by decide +kernel
theorem dX6_step_14 : decode cX6_step 14 = .ok (.dup2, 1) := by decide +kernel
theorem dX6_step_15 : decode cX6_step 15 = .ok (.iaload, 1) := by decide +kernel
theorem dX6_step_16 : decode cX6_step 16 = .ok (.iconst 1, 1) := by decide +kernel
theorem dX6_step_17 : decode cX6_step 17 = .ok (.iadd, 1) := by decide +kernel
theorem dX6_step_18 : decode cX6_step 18 = .ok (.iastore, 1) := by decide +kernel
theorem dX6_step_19 : decode cX6_step 19 = .ok (.aload_n 0, 1) := by decide +kernel
theorem dX6_step_20 : decode cX6_step 20 = .ok (.getfield 7, 3) := by decide +kernel
theorem dX6_step_23 : decode cX6_step 23 = .ok (.sipush 157, 3) := by decide +kernel
theorem dX6_step_26 : decode cX6_step 26 = .ok (.dup2, 1) := by decide +kernel
theorem dX6_step_27 : decode cX6_step 27 = .ok (.iaload, 1) := by decide +kernel
theorem dX6_step_28 : decode cX6_step 28 = .ok (.iconst 1, 1) := by decide +kernel
theorem dX6_step_29 : decode cX6_step 29 = .ok (.iadd, 1) := by decide +kernel
theorem dX6_step_30 : decode cX6_step 30 = .ok (.iastore, 1) := by decide +kernel
theorem dX6_step_31 : decode cX6_step 31 = .ok (.return_, 1) := by decide +kernel
set_option maxHeartbeats 4000000 in
set_option maxRecDepth 100000 in
theorem c_X6_step (l : Launch) (E : gE) (g : Mem) (row : Nat → Int32) (B : GB) (C : GC) (D : GD) (P : GP) (hM : MX E g row B C D P) (i a b : Nat) (hi : i < 6) (ha : row (33 + 7 * i + 6) = nI a) (hb : row 157 = nI b) : Mt l E yX6_step cX6_step 2 none 0 0 [rf E (0), .int (nI (i))] g (pV (fun g' => MX E g' (upd (upd row (33 + 7 * i + 6) (nI (a + 1))) 157 (nI (b + 1))) B C D P)) := by
  have hK := hM.k
  refine mt_go (own := RX6) (by decide) rfl (lo := [some (rf E (0)), some (.int (nI (i)))]) rfl (Nat.le_of_ble_eq_true rfl) (fun X hC => ?_)
  refine y_aload_n hC dX6_step_0 (i := 0) rfl rfl ?_
  refine y_get hC fX6_7 dX6_step_1 (k := 0) (by omega) hM.a0 rfl ?_
  refine y_bipush (v := nI 33) hC dX6_step_4 (by decide) ?_
  refine y_bipush (v := nI 7) hC dX6_step_6 (by decide) ?_
  refine y_iload_n hC dX6_step_8 (i := 1) rfl rfl ?_
  refine y_imul_n hC dX6_step_9 ?_
  refine y_iadd_n hC dX6_step_10 ?_
  refine y_bipush (v := nI 6) hC dX6_step_11 (by decide) ?_
  refine y_iadd_n hC dX6_step_13 ?_
  refine y_dup2 hC dX6_step_14 rfl rfl ?_
  refine y_iald hC dX6_step_15 (k := 1) (j := (33 + (7 * i)) + 6) (by omega) hM.a1 (rfl) (by omega) (by decide) ?_
  refine y_top (y := nI (a)) (ha) ?_
  refine y_iconst (v := nI 1) hC dX6_step_16 (by decide) ?_
  refine y_iadd_n hC dX6_step_17 ?_
  refine y_iast hC dX6_step_18 (k := 1) (j := (33 + (7 * i)) + 6) (by omega) hM.a1 (rfl) (by omega) (by decide) ?_
  have hM_18 : MX E (va_up g (1) (aI E 0 158 (upd row ((33 + (7 * i)) + 6) (nI (a + 1))))) ((upd row ((33 + (7 * i)) + 6) (nI (a + 1)))) B C D P := hM.u1 _
  generalize (va_up g (1) (aI E 0 158 (upd row ((33 + (7 * i)) + 6) (nI (a + 1))))) = g_18 at hM_18 ⊢
  refine y_aload_n hC dX6_step_19 (i := 0) rfl rfl ?_
  refine y_get hC fX6_7 dX6_step_20 (k := 0) (by omega) hM_18.a0 rfl ?_
  refine y_sipush (v := nI 157) hC dX6_step_23 (by decide) ?_
  refine y_dup2 hC dX6_step_26 rfl rfl ?_
  refine y_iald hC dX6_step_27 (k := 1) (j := 157) (by omega) hM_18.a1 (rfl) (by omega) (by decide) ?_
  refine y_top (y := nI (b)) ((pk_un (by omega)).trans hb) ?_
  refine y_iconst (v := nI 1) hC dX6_step_28 (by decide) ?_
  refine y_iadd_n hC dX6_step_29 ?_
  refine y_iast hC dX6_step_30 (k := 1) (j := 157) (by omega) hM_18.a1 (rfl) (by omega) (by decide) ?_
  have hM_30 : MX E (va_up g_18 (1) (aI E 0 158 (upd ((upd row ((33 + (7 * i)) + 6) (nI (a + 1)))) (157) (nI (b + 1))))) ((upd ((upd row ((33 + (7 * i)) + 6) (nI (a + 1)))) (157) (nI (b + 1)))) B C D P := hM_18.u1 _
  generalize (va_up g_18 (1) (aI E 0 158 (upd ((upd row ((33 + (7 * i)) + 6) (nI (a + 1)))) (157) (nI (b + 1))))) = g_30 at hM_30 ⊢
  refine y_vret (hC := hC) (hd := dX6_step_31) (hq := ?_)
  exact hM_30

theorem dX6_tickRange_0 : decode cX6_tickRange 0 = .ok (.bipush 33, 2) := by decide +kernel
theorem dX6_tickRange_2 : decode cX6_tickRange 2 = .ok (.bipush 7, 2) := by decide +kernel
theorem dX6_tickRange_4 : decode cX6_tickRange 4 = .ok (.iload_n 1, 1) := by decide +kernel
theorem dX6_tickRange_5 : decode cX6_tickRange 5 = .ok (.imul, 1) := by decide +kernel
theorem dX6_tickRange_6 : decode cX6_tickRange 6 = .ok (.iadd, 1) := by decide +kernel
theorem dX6_tickRange_7 : decode cX6_tickRange 7 = .ok (.iconst 5, 1) := by decide +kernel
theorem dX6_tickRange_8 : decode cX6_tickRange 8 = .ok (.iadd, 1) := by decide +kernel
theorem dX6_tickRange_9 : decode cX6_tickRange 9 = .ok (.istore_n 2, 1) := by decide +kernel
theorem dX6_tickRange_10 : decode cX6_tickRange 10 = .ok (.aload_n 0, 1) := by decide +kernel
theorem dX6_tickRange_11 : decode cX6_tickRange 11 = .ok (.getfield 7, 3) := by decide +kernel
theorem dX6_tickRange_14 : decode cX6_tickRange 14 = .ok (.iload_n 2, 1) := by decide +kernel
theorem dX6_tickRange_15 : decode cX6_tickRange 15 = .ok (.dup2, 1) := by decide +kernel
theorem dX6_tickRange_16 : decode cX6_tickRange 16 = .ok (.iaload, 1) := by decide +kernel
theorem dX6_tickRange_17 : decode cX6_tickRange 17 = .ok (.iconst 1, 1) := by decide +kernel
theorem dX6_tickRange_18 : decode cX6_tickRange 18 = .ok (.iadd, 1) := by decide +kernel
theorem dX6_tickRange_19 : decode cX6_tickRange 19 = .ok (.iastore, 1) := by decide +kernel
theorem dX6_tickRange_20 : decode cX6_tickRange 20 = .ok (.aload_n 0, 1) := by decide +kernel
theorem dX6_tickRange_21 : decode cX6_tickRange 21 = .ok (.getfield 7, 3) := by decide +kernel
theorem dX6_tickRange_24 : decode cX6_tickRange 24 = .ok (.iload_n 2, 1) := by decide +kernel
theorem dX6_tickRange_25 : decode cX6_tickRange 25 = .ok (.iaload, 1) := by decide +kernel
theorem dX6_tickRange_26 : decode cX6_tickRange 26 = .ok (.aload_n 0, 1) := by decide +kernel
theorem dX6_tickRange_27 : decode cX6_tickRange 27 = .ok (.iload_n 1, 1) := by decide +kernel
theorem dX6_tickRange_28 : decode cX6_tickRange 28 = .ok (.iconst 2, 1) := by decide +kernel
theorem dX6_tickRange_29 : decode cX6_tickRange 29 = .ok (.invokevirtual 60, 3) := by decide +kernel
theorem dX6_tickRange_32 : decode cX6_tickRange 32 = .ok (.if_icmp .ne 15, 3) := by decide +kernel
theorem dX6_tickRange_35 : decode cX6_tickRange 35 = .ok (.aload_n 0, 1) := by decide +kernel
theorem dX6_tickRange_36 : decode cX6_tickRange 36 = .ok (.getfield 7, 3) := by decide +kernel
theorem dX6_tickRange_39 : decode cX6_tickRange 39 = .ok (.iload_n 2, 1) := by decide +kernel
theorem dX6_tickRange_40 : decode cX6_tickRange 40 = .ok (.iconst 0, 1) := by decide +kernel
theorem dX6_tickRange_41 : decode cX6_tickRange 41 = .ok (.iastore, 1) := by decide +kernel
theorem dX6_tickRange_42 : decode cX6_tickRange 42 = .ok (.aload_n 0, 1) := by decide +kernel
theorem dX6_tickRange_43 : decode cX6_tickRange 43 = .ok (.iload_n 1, 1) := by decide +kernel
theorem dX6_tickRange_44 : decode cX6_tickRange 44 = .ok (.invokevirtual 127, 3) := by decide +kernel
theorem dX6_tickRange_47 : decode cX6_tickRange 47 = .ok (.return_, 1) := by decide +kernel
set_option maxHeartbeats 4000000 in
set_option maxRecDepth 100000 in
theorem c_X6_tickRange (l : Launch) (E : gE) (g : Mem) (row : Nat → Int32) (B : GB) (C : GC) (D : GD) (P : GP) (hM : MX E g row B C D P) (i ti sp st tot : Nat) (hi : i < 6) (hti : ti < 1000000000) (hsp : sp < 1000000000) (e1 : row (33 + 7 * i + 5) = nI ti) (e2 : row (33 + 7 * i + 2) = nI sp) (e3 : row (33 + 7 * i + 6) = nI st) (e4 : row 157 = nI tot) : Mt l E yX6_tickRange cX6_tickRange 3 none 1 22 [rf E (0), .int (nI (i))] g (pV (fun g' => ∃ row2, MX E g' row2 B C D P ∧ ∀ k, row2 k = if ti + 1 = sp then (if k = 157 then nI (tot + 1) else if k = 33 + 7 * i + 6 then nI (st + 1) else if k = 33 + 7 * i + 5 then nI 0 else row k) else (if k = 33 + 7 * i + 5 then nI (ti + 1) else row k))) := by
  have hK := hM.k
  refine mt_go (own := RX6) (by decide) rfl (lo := [some (rf E (0)), some (.int (nI (i))), none]) rfl (Nat.le_of_ble_eq_true rfl) (fun X hC => ?_)
  refine y_bipush (v := nI 33) hC dX6_tickRange_0 (by decide) ?_
  refine y_bipush (v := nI 7) hC dX6_tickRange_2 (by decide) ?_
  refine y_iload_n hC dX6_tickRange_4 (i := 1) rfl rfl ?_
  refine y_imul_n hC dX6_tickRange_5 ?_
  refine y_iadd_n hC dX6_tickRange_6 ?_
  refine y_iconst (v := nI 5) hC dX6_tickRange_7 (by decide) ?_
  refine y_iadd_n hC dX6_tickRange_8 ?_
  refine y_istore_n hC dX6_tickRange_9 (i := 2) rfl (Nat.le_of_ble_eq_true rfl) rfl (lo' := [some (rf E (0)), some (.int (nI (i))), some (.int (nI ((33 + (7 * i)) + 5)))]) rfl ?_
  refine y_aload_n hC dX6_tickRange_10 (i := 0) rfl rfl ?_
  refine y_get hC fX6_7 dX6_tickRange_11 (k := 0) (by omega) hM.a0 rfl ?_
  refine y_iload_n hC dX6_tickRange_14 (i := 2) rfl rfl ?_
  refine y_dup2 hC dX6_tickRange_15 rfl rfl ?_
  refine y_iald hC dX6_tickRange_16 (k := 1) (j := (33 + (7 * i)) + 5) (by omega) hM.a1 (rfl) (by omega) (by decide) ?_
  refine y_top (y := nI (ti)) (e1) ?_
  refine y_iconst (v := nI 1) hC dX6_tickRange_17 (by decide) ?_
  refine y_iadd_n hC dX6_tickRange_18 ?_
  refine y_iast hC dX6_tickRange_19 (k := 1) (j := (33 + (7 * i)) + 5) (by omega) hM.a1 (rfl) (by omega) (by decide) ?_
  have hM_19 : MX E (va_up g (1) (aI E 0 158 (upd row ((33 + (7 * i)) + 5) (nI (ti + 1))))) ((upd row ((33 + (7 * i)) + 5) (nI (ti + 1)))) B C D P := hM.u1 _
  generalize (va_up g (1) (aI E 0 158 (upd row ((33 + (7 * i)) + 5) (nI (ti + 1))))) = g_19 at hM_19 ⊢
  refine y_aload_n hC dX6_tickRange_20 (i := 0) rfl rfl ?_
  refine y_get hC fX6_7 dX6_tickRange_21 (k := 0) (by omega) hM_19.a0 rfl ?_
  refine y_iload_n hC dX6_tickRange_24 (i := 2) rfl rfl ?_
  refine y_iald hC dX6_tickRange_25 (k := 1) (j := (33 + (7 * i)) + 5) (by omega) hM_19.a1 (rfl) (by omega) (by decide) ?_
  refine y_top (y := nI (ti + 1)) (pk_us) ?_
  refine y_aload_n hC dX6_tickRange_26 (i := 0) rfl rfl ?_
  refine y_iload_n hC dX6_tickRange_27 (i := 1) rfl rfl ?_
  refine y_iconst (v := nI 2) hC dX6_tickRange_28 (by decide) ?_
  refine y_callV hC mX6_of kX6_60 dX6_tickRange_29 (b := 0) (As := [.int (nI (i)), .int (nI (2))]) (rest := [.int (nI (ti + 1))]) (c_X6_ofR l E g_19 ((upd row ((33 + (7 * i)) + 5) (nI (ti + 1)))) B C D P hM_19 i 2 hi (by decide)) (by omega) hM_19.a0 rfl rfl rfl (Nat.le_of_ble_eq_true rfl) ⟨Nat.le_of_ble_eq_true rfl, Nat.le_of_ble_eq_true rfl⟩ (pk_i ?_)
  rintro r_29 g_29 ⟨hr_29, hq_29⟩
  obtain rfl := hq_29.symm
  rw [hr_29, pk_un (by omega), e2]
  clear hr_29 r_29
  refine y_icmp_ne_n (tgt := 47) hC dX6_tickRange_32 (by decide) (by omega) (by omega) (fun c_32 => ?_) (fun c_32 => ?_)
  · refine y_vret (hC := hC) (hd := dX6_tickRange_47) (hq := ?_)
    refine ⟨_, hM_19, fun k => ?_⟩
    first
      | (rw [if_pos c_32]
         by_cases k1 : k = 157
         · rw [k1, pk_us, if_pos rfl]
         · rw [pk_un k1, if_neg k1]
           by_cases k2 : k = 33 + 7 * i + 6
           · rw [k2, pk_us, if_pos rfl]
           · rw [pk_un k2, if_neg k2]
             by_cases k3 : k = 33 + 7 * i + 5
             · rw [k3, pk_us, if_pos rfl]
             · rw [pk_un k3, pk_un k3, if_neg k3]
         done)
      | (rw [if_neg c_32]
         by_cases k3 : k = 33 + 7 * i + 5
         · rw [k3, pk_us, if_pos rfl]
         · rw [pk_un k3, if_neg k3]
         done)
  · refine y_aload_n hC dX6_tickRange_35 (i := 0) rfl rfl ?_
    refine y_get hC fX6_7 dX6_tickRange_36 (k := 0) (by omega) hM_19.a0 rfl ?_
    refine y_iload_n hC dX6_tickRange_39 (i := 2) rfl rfl ?_
    refine y_iconst (v := nI 0) hC dX6_tickRange_40 (by decide) ?_
    refine y_iast hC dX6_tickRange_41 (k := 1) (j := (33 + (7 * i)) + 5) (by omega) hM_19.a1 (rfl) (by omega) (by decide) ?_
    have hM_41 : MX E (va_up g_19 (1) (aI E 0 158 (upd ((upd row ((33 + (7 * i)) + 5) (nI (ti + 1)))) ((33 + (7 * i)) + 5) (nI (0))))) ((upd ((upd row ((33 + (7 * i)) + 5) (nI (ti + 1)))) ((33 + (7 * i)) + 5) (nI (0)))) B C D P := hM_19.u1 _
    generalize (va_up g_19 (1) (aI E 0 158 (upd ((upd row ((33 + (7 * i)) + 5) (nI (ti + 1)))) ((33 + (7 * i)) + 5) (nI (0))))) = g_41 at hM_41 ⊢
    refine y_aload_n hC dX6_tickRange_42 (i := 0) rfl rfl ?_
    refine y_iload_n hC dX6_tickRange_43 (i := 1) rfl rfl ?_
    refine y_callV hC mX6_step kX6_127 dX6_tickRange_44 (b := 0) (As := [.int (nI (i))]) (rest := []) (c_X6_step l E g_41 ((upd ((upd row ((33 + (7 * i)) + 5) (nI (ti + 1)))) ((33 + (7 * i)) + 5) (nI (0)))) B C D P hM_41 i st tot hi ((pk_un (by omega)).trans ((pk_un (by omega)).trans e3)) ((pk_un (by omega)).trans ((pk_un (by omega)).trans e4))) (by omega) hM_41.a0 rfl rfl rfl (Nat.le_of_ble_eq_true rfl) ⟨Nat.le_of_ble_eq_true rfl, Nat.le_of_ble_eq_true rfl⟩ (pk_v ?_)
    rintro g_44 hM_44
    refine y_vret (hC := hC) (hd := dX6_tickRange_47) (hq := ?_)
    refine ⟨_, hM_44, fun k => ?_⟩
    first
      | (rw [if_pos c_32]
         by_cases k1 : k = 157
         · rw [k1, pk_us, if_pos rfl]
         · rw [pk_un k1, if_neg k1]
           by_cases k2 : k = 33 + 7 * i + 6
           · rw [k2, pk_us, if_pos rfl]
           · rw [pk_un k2, if_neg k2]
             by_cases k3 : k = 33 + 7 * i + 5
             · rw [k3, pk_us, if_pos rfl]
             · rw [pk_un k3, pk_un k3, if_neg k3]
         done)
      | (rw [if_neg c_32]
         by_cases k3 : k = 33 + 7 * i + 5
         · rw [k3, pk_us, if_pos rfl]
         · rw [pk_un k3, if_neg k3]
         done)

theorem dX6_tick_0 : decode cX6_tick 0 = .ok (.iconst 0, 1) := by decide +kernel
theorem dX6_tick_1 : decode cX6_tick 1 = .ok (.istore_n 1, 1) := by decide +kernel
theorem dX6_tick_2 : decode cX6_tick 2 = .ok (.iload_n 1, 1) := by decide +kernel
theorem dX6_tick_3 : decode cX6_tick 3 = .ok (.aload_n 0, 1) := by decide +kernel
theorem dX6_tick_4 : decode cX6_tick 4 = .ok (.getfield 7, 3) := by decide +kernel
theorem dX6_tick_7 : decode cX6_tick 7 = .ok (.bipush 32, 2) := by decide +kernel
theorem dX6_tick_9 : decode cX6_tick 9 = .ok (.iaload, 1) := by decide +kernel
theorem dX6_tick_10 : decode cX6_tick 10 = .ok (.if_icmp .ge 24, 3) := by decide +kernel
theorem dX6_tick_13 : decode cX6_tick 13 = .ok (.aload_n 0, 1) := by decide +kernel
theorem dX6_tick_14 : decode cX6_tick 14 = .ok (.iload_n 1, 1) := by decide +kernel
theorem dX6_tick_15 : decode cX6_tick 15 = .ok (.iconst 4, 1) := by decide +kernel
theorem dX6_tick_16 : decode cX6_tick 16 = .ok (.invokevirtual 60, 3) := by decide +kernel
theorem dX6_tick_19 : decode cX6_tick 19 = .ok (.iconst 1, 1) := by decide +kernel
theorem dX6_tick_20 : decode cX6_tick 20 = .ok (.if_icmp .ne 8, 3) := by decide +kernel
theorem dX6_tick_23 : decode cX6_tick 23 = .ok (.aload_n 0, 1) := by decide +kernel
theorem dX6_tick_24 : decode cX6_tick 24 = .ok (.iload_n 1, 1) := by decide +kernel
theorem dX6_tick_25 : decode cX6_tick 25 = .ok (.invokevirtual 131, 3) := by decide +kernel
theorem dX6_tick_28 : decode cX6_tick 28 = .ok (.iinc 1 1, 3) := by decide +kernel
theorem dX6_tick_31 : decode cX6_tick 31 = .ok (.goto (-29), 3) := by decide +kernel
theorem dX6_tick_34 : decode cX6_tick 34 = .ok (.iconst 0, 1) := by decide +kernel
theorem dX6_tick_35 : decode cX6_tick 35 = .ok (.istore_n 1, 1) := by decide +kernel
theorem dX6_tick_36 : decode cX6_tick 36 = .ok (.iload_n 1, 1) := by decide +kernel
theorem dX6_tick_37 : decode cX6_tick 37 = .ok (.aload_n 0, 1) := by decide +kernel
theorem dX6_tick_38 : decode cX6_tick 38 = .ok (.getfield 7, 3) := by decide +kernel
theorem dX6_tick_41 : decode cX6_tick 41 = .ok (.bipush 75, 2) := by decide +kernel
theorem dX6_tick_43 : decode cX6_tick 43 = .ok (.iaload, 1) := by decide +kernel
theorem dX6_tick_44 : decode cX6_tick 44 = .ok (.if_icmp .ge 55, 3) := by decide +kernel
theorem dX6_tick_47 : decode cX6_tick 47 = .ok (.bipush 76, 2) := by decide +kernel
theorem dX6_tick_49 : decode cX6_tick 49 = .ok (.iconst 4, 1) := by decide +kernel
theorem dX6_tick_50 : decode cX6_tick 50 = .ok (.iload_n 1, 1) := by decide +kernel
theorem dX6_tick_51 : decode cX6_tick 51 = .ok (.imul, 1) := by decide +kernel
theorem dX6_tick_52 : decode cX6_tick 52 = .ok (.iadd, 1) := by decide +kernel
theorem dX6_tick_53 : decode cX6_tick 53 = .ok (.iconst 3, 1) := by decide +kernel
theorem dX6_tick_54 : decode cX6_tick 54 = .ok (.iadd, 1) := by decide +kernel
theorem dX6_tick_55 : decode cX6_tick 55 = .ok (.istore_n 2, 1) := by decide +kernel
theorem dX6_tick_56 : decode cX6_tick 56 = .ok (.aload_n 0, 1) := by decide +kernel
theorem dX6_tick_57 : decode cX6_tick 57 = .ok (.getfield 7, 3) := by decide +kernel
theorem dX6_tick_60 : decode cX6_tick 60 = .ok (.iload_n 2, 1) := by decide +kernel
theorem dX6_tick_61 : decode cX6_tick 61 = .ok (.aload_n 0, 1) := by decide +kernel
theorem dX6_tick_62 : decode cX6_tick 62 = .ok (.getfield 7, 3) := by decide +kernel
theorem dX6_tick_65 : decode cX6_tick 65 = .ok (.iload_n 2, 1) := by decide +kernel
theorem dX6_tick_66 : decode cX6_tick 66 = .ok (.iaload, 1) := by decide +kernel
theorem dX6_tick_67 : decode cX6_tick 67 = .ok (.iconst 1, 1) := by decide +kernel
theorem dX6_tick_68 : decode cX6_tick 68 = .ok (.iadd, 1) := by decide +kernel
theorem dX6_tick_69 : decode cX6_tick 69 = .ok (.iconst 2, 1) := by decide +kernel
theorem dX6_tick_70 : decode cX6_tick 70 = .ok (.aload_n 0, 1) := by decide +kernel
theorem dX6_tick_71 : decode cX6_tick 71 = .ok (.iload_n 1, 1) := by decide +kernel
theorem dX6_tick_72 : decode cX6_tick 72 = .ok (.iconst 2, 1) := by decide +kernel
theorem dX6_tick_73 : decode cX6_tick 73 = .ok (.invokevirtual 68, 3) := by decide +kernel
theorem dX6_tick_76 : decode cX6_tick 76 = .ok (.imul, 1) := by decide +kernel
theorem dX6_tick_77 : decode cX6_tick 77 = .ok (.if_icmp .ne 7, 3) := by decide +kernel
theorem dX6_tick_80 : decode cX6_tick 80 = .ok (.iconst 0, 1) := by decide +kernel
theorem dX6_tick_81 : decode cX6_tick 81 = .ok (.goto 11, 3) := by decide +kernel
theorem dX6_tick_84 : decode cX6_tick 84 = .ok (.aload_n 0, 1) := by decide +kernel
theorem dX6_tick_85 : decode cX6_tick 85 = .ok (.getfield 7, 3) := by decide +kernel
theorem dX6_tick_88 : decode cX6_tick 88 = .ok (.iload_n 2, 1) := by decide +kernel
theorem dX6_tick_89 : decode cX6_tick 89 = .ok (.iaload, 1) := by decide +kernel
theorem dX6_tick_90 : decode cX6_tick 90 = .ok (.iconst 1, 1) := by decide +kernel
theorem dX6_tick_91 : decode cX6_tick 91 = .ok (.iadd, 1) := by decide +kernel
theorem dX6_tick_92 : decode cX6_tick 92 = .ok (.iastore, 1) := by decide +kernel
theorem dX6_tick_93 : decode cX6_tick 93 = .ok (.iinc 1 1, 3) := by decide +kernel
theorem dX6_tick_96 : decode cX6_tick 96 = .ok (.goto (-60), 3) := by decide +kernel
theorem dX6_tick_99 : decode cX6_tick 99 = .ok (.aload_n 0, 1) := by decide +kernel
theorem dX6_tick_100 : decode cX6_tick 100 = .ok (.getfield 7, 3) := by decide +kernel
theorem dX6_tick_103 : decode cX6_tick 103 = .ok (.sipush 156, 3) := by decide +kernel
theorem dX6_tick_106 : decode cX6_tick 106 = .ok (.dup2, 1) := by decide +kernel
theorem dX6_tick_107 : decode cX6_tick 107 = .ok (.iaload, 1) := by decide +kernel
theorem dX6_tick_108 : decode cX6_tick 108 = .ok (.iconst 1, 1) := by decide +kernel
theorem dX6_tick_109 : decode cX6_tick 109 = .ok (.iadd, 1) := by decide +kernel
theorem dX6_tick_110 : decode cX6_tick 110 = .ok (.iastore, 1) := by decide +kernel
theorem dX6_tick_111 : decode cX6_tick 111 = .ok (.return_, 1) := by decide +kernel
set_option maxHeartbeats 4000000 in
set_option maxRecDepth 100000 in
theorem c_X6_tick (l : Launch) (E : gE) (g : Mem) (row : Nat → Int32) (B : GB) (C : GC) (D : GD) (P : GP) (hM : MX E g row B C D P) (r : Row) (Bd : Nat) (hB : Bd < 95000000) (hR : ∀ k, k < 158 → row k = r k) (hv : Vr r Bd) : Mt l E yX6_tick cX6_tick 3 none 2 44 [rf E (0)] g (pV (fun g' => ∃ row2, MX E g' row2 B C D P ∧ ∀ k, k < 158 → row2 k = tkR r 1 k)) := by
  have hK := hM.k
  have hrc : rc r ≤ 6 := hv.1.2
  have hgc : gc r ≤ 4 := hv.2.1.2
  refine mt_go (own := RX6) (by decide) rfl (lo := [some (rf E (0)), none, none]) rfl (Nat.le_of_ble_eq_true rfl) (fun X hC => ?_)
  refine y_iconst (v := nI 0) hC dX6_tick_0 (by decide) ?_
  refine y_istore_n hC dX6_tick_1 (i := 1) rfl (Nat.le_of_ble_eq_true rfl) rfl (lo' := [some (rf E (0)), some (.int (nI (0))), none]) rfl ?_
  have L_2 : ∀ (m : Nat) (i : Nat) (g1 : Mem) (row1 : Nat → Int32), (hm : rc r - i < m) → (hi : i ≤ rc r) → (hM1 : MX E g1 row1 B C D P) → (hA : ∀ k, k < 158 → row1 k = tkA r i k) → Y l E X (pV (fun g' => ∃ row2, MX E g' row2 B C D P ∧ ∀ k, k < 158 → row2 k = tkR r 1 k)) 2 [some (rf E (0)), some (.int (nI (i))), none] [] g1 := by
    intro m
    induction m with
    | zero => intro i g1 row1 hm hi hM1 hA; exact absurd hm (Nat.not_lt_zero _)
    | succ m ih_2 =>
      intro i g1 row1 hm hi hM1 hA
      refine y_iload_n hC dX6_tick_2 (i := 1) rfl rfl ?_
      refine y_aload_n hC dX6_tick_3 (i := 0) rfl rfl ?_
      refine y_get hC fX6_7 dX6_tick_4 (k := 0) (by omega) hM1.a0 rfl ?_
      refine y_bipush (v := nI 32) hC dX6_tick_7 (by decide) ?_
      refine y_iald hC dX6_tick_9 (k := 1) (j := 32) (by omega) hM1.a1 (rfl) (by omega) (by decide) ?_
      refine y_top (y := nI (rc r)) ((hA 32 (by decide)).trans ((tkA_o (by omega) (by decide)).trans hv.1.1)) ?_
      refine y_icmp_ge_n (tgt := 34) hC dX6_tick_10 (by decide) (by omega) (by omega) (fun c_10 => ?_) (fun c_10 => ?_)
      · refine y_iconst (v := nI 0) hC dX6_tick_34 (by decide) ?_
        refine y_istore_n hC dX6_tick_35 (i := 1) rfl (Nat.le_of_ble_eq_true rfl) rfl (lo' := [some (rf E (0)), some (.int (nI (0))), none]) rfl ?_
        have hA3 : ∀ k, k < 158 → row1 k = tkA r (rc r) k := fun k hk => by rw [hA k hk, show i = rc r by omega]
        clear ih_2
        have L_36 : ∀ (m : Nat) (i : Nat) (g1 : Mem) (row1 : Nat → Int32), (hm : gc r - i < m) → (hi2 : i ≤ gc r) → (hM1 : MX E g1 row1 B C D P) → (hBk : ∀ k, k < 158 → row1 k = tkB r i k) → Y l E X (pV (fun g' => ∃ row2, MX E g' row2 B C D P ∧ ∀ k, k < 158 → row2 k = tkR r 1 k)) 36 [some (rf E (0)), some (.int (nI (i))), none] [] g1 := by
          intro m
          induction m with
          | zero => intro i g1 row1 hm hi2 hM1 hBk; exact absurd hm (Nat.not_lt_zero _)
          | succ m ih_36 =>
            intro i g1 row1 hm hi2 hM1 hBk
            refine y_iload_n hC dX6_tick_36 (i := 1) rfl rfl ?_
            refine y_aload_n hC dX6_tick_37 (i := 0) rfl rfl ?_
            refine y_get hC fX6_7 dX6_tick_38 (k := 0) (by omega) hM1.a0 rfl ?_
            refine y_bipush (v := nI 75) hC dX6_tick_41 (by decide) ?_
            refine y_iald hC dX6_tick_43 (k := 1) (j := 75) (by omega) hM1.a1 (rfl) (by omega) (by decide) ?_
            refine y_top (y := nI (gc r)) ((hBk 75 (by decide)).trans ((tkB_o (by omega)).trans ((tkA_o (by omega) (by decide)).trans hv.2.1.1))) ?_
            refine y_icmp_ge_n (tgt := 99) hC dX6_tick_44 (by decide) (by omega) (by omega) (fun c_44 => ?_) (fun c_44 => ?_)
            · refine y_aload_n hC dX6_tick_99 (i := 0) rfl rfl ?_
              refine y_get hC fX6_7 dX6_tick_100 (k := 0) (by omega) hM1.a0 rfl ?_
              refine y_sipush (v := nI 156) hC dX6_tick_103 (by decide) ?_
              refine y_dup2 hC dX6_tick_106 rfl rfl ?_
              refine y_iald hC dX6_tick_107 (k := 1) (j := 156) (by omega) hM1.a1 (rfl) (by omega) (by decide) ?_
              refine y_top (y := nI (nn (r 156))) ((hBk 156 (by decide)).trans ((tkB_o (by omega)).trans ((tkA_o (by omega) (by decide)).trans hv.2.2.2.2.2.2.2.1.1))) ?_
              refine y_iconst (v := nI 1) hC dX6_tick_108 (by decide) ?_
              refine y_iadd_n hC dX6_tick_109 ?_
              refine y_iast hC dX6_tick_110 (k := 1) (j := 156) (by omega) hM1.a1 (rfl) (by omega) (by decide) ?_
              have hM_110 : MX E (va_up g1 (1) (aI E 0 158 (upd row1 (156) (nI ((nn (r 156)) + 1))))) ((upd row1 (156) (nI ((nn (r 156)) + 1)))) B C D P := hM1.u1 _
              generalize (va_up g1 (1) (aI E 0 158 (upd row1 (156) (nI ((nn (r 156)) + 1))))) = g_110 at hM_110 ⊢
              refine y_vret (hC := hC) (hd := dX6_tick_111) (hq := ?_)
              exact ⟨_, hM_110, tkB_f hv (fun k hk => by rw [hBk k hk, show i = gc r by omega])⟩
            · have hlt : i < gc r := by omega
              obtain ⟨⟨q1, q2, q3⟩, q4, q5, q6, q7⟩ := hv.gl hlt
              have hBo : ∀ j, j < 4 → row1 (76 + 4 * i + j) = r (76 + 4 * i + j) := fun j hj => (hBk _ (by omega)).trans ((tkB_o (by omega)).trans (tkA_o (by omega) (by omega)))
              refine y_bipush (v := nI 76) hC dX6_tick_47 (by decide) ?_
              refine y_iconst (v := nI 4) hC dX6_tick_49 (by decide) ?_
              refine y_iload_n hC dX6_tick_50 (i := 1) rfl rfl ?_
              refine y_imul_n hC dX6_tick_51 ?_
              refine y_iadd_n hC dX6_tick_52 ?_
              refine y_iconst (v := nI 3) hC dX6_tick_53 (by decide) ?_
              refine y_iadd_n hC dX6_tick_54 ?_
              refine y_istore_n hC dX6_tick_55 (i := 2) rfl (Nat.le_of_ble_eq_true rfl) rfl (lo' := [some (rf E (0)), some (.int (nI (i))), some (.int (nI ((76 + (4 * i)) + 3)))]) rfl ?_
              refine y_aload_n hC dX6_tick_56 (i := 0) rfl rfl ?_
              refine y_get hC fX6_7 dX6_tick_57 (k := 0) (by omega) hM1.a0 rfl ?_
              refine y_iload_n hC dX6_tick_60 (i := 2) rfl rfl ?_
              refine y_aload_n hC dX6_tick_61 (i := 0) rfl rfl ?_
              refine y_get hC fX6_7 dX6_tick_62 (k := 0) (by omega) hM1.a0 rfl ?_
              refine y_iload_n hC dX6_tick_65 (i := 2) rfl rfl ?_
              refine y_iald hC dX6_tick_66 (k := 1) (j := (76 + (4 * i)) + 3) (by omega) hM1.a1 (rfl) (by omega) (by decide) ?_
              refine y_top (y := nI (gl r i 3)) ((hBo 3 (by decide)).trans q3) ?_
              refine y_iconst (v := nI 1) hC dX6_tick_67 (by decide) ?_
              refine y_iadd_n hC dX6_tick_68 ?_
              refine y_iconst (v := nI 2) hC dX6_tick_69 (by decide) ?_
              refine y_aload_n hC dX6_tick_70 (i := 0) rfl rfl ?_
              refine y_iload_n hC dX6_tick_71 (i := 1) rfl rfl ?_
              refine y_iconst (v := nI 2) hC dX6_tick_72 (by decide) ?_
              refine y_callV hC mX6_ofGlow kX6_68 dX6_tick_73 (b := 0) (As := [.int (nI (i)), .int (nI (2))]) (rest := [.int (nI (2)), .int (nI ((gl r i 3) + 1)), .int (nI ((76 + (4 * i)) + 3)), rf E (1)]) (c_X6_ofGlowR l E g1 row1 B C D P hM1 i 2 (by omega) (by decide)) (by omega) hM1.a0 rfl rfl rfl (Nat.le_of_ble_eq_true rfl) ⟨Nat.le_of_ble_eq_true rfl, Nat.le_of_ble_eq_true rfl⟩ (pk_i ?_)
              rintro r_73 g_73 ⟨hr_73, hq_73⟩
              obtain rfl := hq_73.symm
              rw [hr_73, hBo 2 (by decide), q2]
              clear hr_73 r_73
              refine y_imul_n hC dX6_tick_76 ?_
              refine y_icmp_ne_n (tgt := 84) hC dX6_tick_77 (by decide) (by omega) (by omega) (fun c_77 => ?_) (fun c_77 => ?_)
              · refine y_aload_n hC dX6_tick_84 (i := 0) rfl rfl ?_
                refine y_get hC fX6_7 dX6_tick_85 (k := 0) (by omega) hM1.a0 rfl ?_
                refine y_iload_n hC dX6_tick_88 (i := 2) rfl rfl ?_
                refine y_iald hC dX6_tick_89 (k := 1) (j := (76 + (4 * i)) + 3) (by omega) hM1.a1 (rfl) (by omega) (by decide) ?_
                refine y_top (y := nI (gl r i 3)) ((hBo 3 (by decide)).trans q3) ?_
                refine y_iconst (v := nI 1) hC dX6_tick_90 (by decide) ?_
                refine y_iadd_n hC dX6_tick_91 ?_
                refine y_iast hC dX6_tick_92 (k := 1) (j := (76 + (4 * i)) + 3) (by omega) hM1.a1 (rfl) (by omega) (by decide) ?_
                have hM_92 : MX E (va_up g1 (1) (aI E 0 158 (upd row1 ((76 + (4 * i)) + 3) (nI ((gl r i 3) + 1))))) ((upd row1 ((76 + (4 * i)) + 3) (nI ((gl r i 3) + 1)))) B C D P := hM1.u1 _
                generalize (va_up g1 (1) (aI E 0 158 (upd row1 ((76 + (4 * i)) + 3) (nI ((gl r i 3) + 1))))) = g_92 at hM_92 ⊢
                refine y_iinc_n hC dX6_tick_93 (a := i) (k := 1) rfl (by decide) (Nat.le_of_ble_eq_true rfl) rfl (lo' := [some (rf E (0)), some (.int (nI (i + 1))), some (.int (nI ((76 + (4 * i)) + 3)))]) rfl ?_
                refine y_goto (tgt := 36) hC dX6_tick_96 (by decide) ?_
                refine y_fg 2 (lo' := [some (rf E (0)), some (.int (nI (i + 1))), none]) rfl ?_
                have hB2 := tkB_s hv hlt hBk
                rw [if_neg c_77] at hB2
                exact ih_36 (i + 1) g_92 _ (by omega) (by omega) hM_92 hB2
              · refine y_iconst (v := nI 0) hC dX6_tick_80 (by decide) ?_
                refine y_goto (tgt := 92) hC dX6_tick_81 (by decide) ?_
                refine y_iast hC dX6_tick_92 (k := 1) (j := (76 + (4 * i)) + 3) (by omega) hM1.a1 (rfl) (by omega) (by decide) ?_
                have hM_92 : MX E (va_up g1 (1) (aI E 0 158 (upd row1 ((76 + (4 * i)) + 3) (nI (0))))) ((upd row1 ((76 + (4 * i)) + 3) (nI (0)))) B C D P := hM1.u1 _
                generalize (va_up g1 (1) (aI E 0 158 (upd row1 ((76 + (4 * i)) + 3) (nI (0))))) = g_92 at hM_92 ⊢
                refine y_iinc_n hC dX6_tick_93 (a := i) (k := 1) rfl (by decide) (Nat.le_of_ble_eq_true rfl) rfl (lo' := [some (rf E (0)), some (.int (nI (i + 1))), some (.int (nI ((76 + (4 * i)) + 3)))]) rfl ?_
                refine y_goto (tgt := 36) hC dX6_tick_96 (by decide) ?_
                refine y_fg 2 (lo' := [some (rf E (0)), some (.int (nI (i + 1))), none]) rfl ?_
                have hB2 := tkB_s hv hlt hBk
                rw [if_pos c_77] at hB2
                exact ih_36 (i + 1) g_92 _ (by omega) (by omega) hM_92 hB2
        exact L_36 (gc r + 1) 0 g1 row1 (by omega) (by omega) hM1 (fun k hk => (hA3 k hk).trans (tkB_0 r k).symm)
      · have hlt : i < rc r := by omega
        obtain ⟨q1, q2, q3, q4, q5, q6, q7, q8, q9⟩ := hv.rg hlt
        have hAo : ∀ j, j < 7 → row1 (33 + 7 * i + j) = nI (rg r i j) := fun j hj => (hA _ (by omega)).trans ((tkA_o (by omega) (by omega)).trans (q1 j hj))
        refine y_aload_n hC dX6_tick_13 (i := 0) rfl rfl ?_
        refine y_iload_n hC dX6_tick_14 (i := 1) rfl rfl ?_
        refine y_iconst (v := nI 4) hC dX6_tick_15 (by decide) ?_
        refine y_callV hC mX6_of kX6_60 dX6_tick_16 (b := 0) (As := [.int (nI (i)), .int (nI (4))]) (rest := []) (c_X6_ofR l E g1 row1 B C D P hM1 i 4 (by omega) (by decide)) (by omega) hM1.a0 rfl rfl rfl (Nat.le_of_ble_eq_true rfl) ⟨Nat.le_of_ble_eq_true rfl, Nat.le_of_ble_eq_true rfl⟩ (pk_i ?_)
        rintro r_16 g_16 ⟨hr_16, hq_16⟩
        obtain rfl := hq_16.symm
        rw [hr_16, hAo 4 (by decide)]
        clear hr_16 r_16
        refine y_iconst (v := nI 1) hC dX6_tick_19 (by decide) ?_
        refine y_icmp_ne_n (tgt := 28) hC dX6_tick_20 (by decide) (by omega) (by omega) (fun c_20 => ?_) (fun c_20 => ?_)
        · refine y_iinc_n hC dX6_tick_28 (a := i) (k := 1) rfl (by decide) (Nat.le_of_ble_eq_true rfl) rfl (lo' := [some (rf E (0)), some (.int (nI (i + 1))), none]) rfl ?_
          refine y_goto (tgt := 2) hC dX6_tick_31 (by decide) ?_
          exact ih_2 (i + 1) g1 row1 (by omega) (by omega) hM1 (tkA_s (row := row1) (row2 := row1) hv hlt hA (fun k => by rw [if_neg c_20]))
        · refine y_aload_n hC dX6_tick_23 (i := 0) rfl rfl ?_
          refine y_iload_n hC dX6_tick_24 (i := 1) rfl rfl ?_
          refine y_callV hC mX6_tickRange kX6_131 dX6_tick_25 (b := 0) (As := [.int (nI (i))]) (rest := []) (c_X6_tickRange l E g1 row1 B C D P hM1 i (rg r i 5) (rg r i 2) (rg r i 6) (nn (r 157) + sm i (mdT r)) (by omega) (by omega) (by omega) (hAo 5 (by decide)) (hAo 2 (by decide)) (hAo 6 (by decide)) ((hA 157 (by decide)).trans (tkA_157 (by omega)))) (by omega) hM1.a0 rfl rfl rfl (Nat.le_of_ble_eq_true rfl) ⟨Nat.le_of_ble_eq_true rfl, Nat.le_of_ble_eq_true rfl⟩ (pk_v ?_)
          rintro g_25 h25
          obtain ⟨row2, hM2, h2⟩ := h25
          have hA2 := tkA_s (row := row1) (row2 := row2) hv hlt hA (fun k => by rw [h2 k, if_pos c_20])
          refine y_iinc_n hC dX6_tick_28 (a := i) (k := 1) rfl (by decide) (Nat.le_of_ble_eq_true rfl) rfl (lo' := [some (rf E (0)), some (.int (nI (i + 1))), none]) rfl ?_
          refine y_goto (tgt := 2) hC dX6_tick_31 (by decide) ?_
          exact ih_2 (i + 1) g_25 row2 (by omega) (by omega) hM2 hA2
  exact L_2 (rc r + 1) 0 g row (by omega) (by omega) hM (fun k hk => (hR k hk).trans (tkA_0 hv k).symm)

theorem dX6_ticks_0 : decode cX6_ticks 0 = .ok (.iconst 0, 1) := by decide +kernel
theorem dX6_ticks_1 : decode cX6_ticks 1 = .ok (.istore_n 2, 1) := by decide +kernel
theorem dX6_ticks_2 : decode cX6_ticks 2 = .ok (.iload_n 2, 1) := by decide +kernel
theorem dX6_ticks_3 : decode cX6_ticks 3 = .ok (.iload_n 1, 1) := by decide +kernel
theorem dX6_ticks_4 : decode cX6_ticks 4 = .ok (.if_icmp .ge 13, 3) := by decide +kernel
theorem dX6_ticks_7 : decode cX6_ticks 7 = .ok (.aload_n 0, 1) := by decide +kernel
theorem dX6_ticks_8 : decode cX6_ticks 8 = .ok (.invokevirtual 134, 3) := by decide +kernel
theorem dX6_ticks_11 : decode cX6_ticks 11 = .ok (.iinc 2 1, 3) := by decide +kernel
theorem dX6_ticks_14 : decode cX6_ticks 14 = .ok (.goto (-12), 3) := by decide +kernel
theorem dX6_ticks_17 : decode cX6_ticks 17 = .ok (.return_, 1) := by decide +kernel
set_option maxHeartbeats 4000000 in
set_option maxRecDepth 100000 in
theorem c_X6_ticks (l : Launch) (E : gE) (g : Mem) (row : Nat → Int32) (B : GB) (C : GC) (D : GD) (P : GP) (hM : MX E g row B C D P) (r : Row) (Bd : Nat) (hB : Bd < 90000000) (hR : ∀ k, k < 158 → row k = r k) (hv : Vr r Bd) (t : Nat) (ht : t ≤ 5000) : Mt l E yX6_ticks cX6_ticks 3 none 3 66 [rf E (0), .int (nI (t))] g (pV (fun g' => ∃ row2, MX E g' row2 B C D P ∧ ∀ k, k < 158 → row2 k = tkR r t k)) := by
  have hK := hM.k
  have hrc : rc r ≤ 6 := hv.1.2
  have hgc : gc r ≤ 4 := hv.2.1.2
  refine mt_go (own := RX6) (by decide) rfl (lo := [some (rf E (0)), some (.int (nI (t))), none]) rfl (Nat.le_of_ble_eq_true rfl) (fun X hC => ?_)
  refine y_iconst (v := nI 0) hC dX6_ticks_0 (by decide) ?_
  refine y_istore_n hC dX6_ticks_1 (i := 2) rfl (Nat.le_of_ble_eq_true rfl) rfl (lo' := [some (rf E (0)), some (.int (nI (t))), some (.int (nI (0)))]) rfl ?_
  have L_2 : ∀ (m : Nat) (i : Nat) (g1 : Mem) (row1 : Nat → Int32), (hm : t - i < m) → (hi : i ≤ t) → (hM1 : MX E g1 row1 B C D P) → (hA : ∀ k, k < 158 → row1 k = tkR r i k) → Y l E X (pV (fun g' => ∃ row2, MX E g' row2 B C D P ∧ ∀ k, k < 158 → row2 k = tkR r t k)) 2 [some (rf E (0)), some (.int (nI (t))), some (.int (nI (i)))] [] g1 := by
    intro m
    induction m with
    | zero => intro i g1 row1 hm hi hM1 hA; exact absurd hm (Nat.not_lt_zero _)
    | succ m ih_2 =>
      intro i g1 row1 hm hi hM1 hA
      refine y_iload_n hC dX6_ticks_2 (i := 2) rfl rfl ?_
      refine y_iload_n hC dX6_ticks_3 (i := 1) rfl rfl ?_
      refine y_icmp_ge_n (tgt := 17) hC dX6_ticks_4 (by decide) (by omega) (by omega) (fun c_4 => ?_) (fun c_4 => ?_)
      · refine y_vret (hC := hC) (hd := dX6_ticks_17) (hq := ?_)
        exact ⟨row1, hM1, fun k hk => by rw [hA k hk, show i = t by omega]⟩
      · refine y_aload_n hC dX6_ticks_7 (i := 0) rfl rfl ?_
        refine y_callV hC mX6_tick kX6_134 dX6_ticks_8 (b := 0) (As := []) (rest := []) (c_X6_tick l E g1 row1 B C D P hM1 (tkR r i) (Bd + 5000) (by omega) hA ((vr_tk hv (by omega) (by omega)).le (by omega))) (by omega) hM1.a0 rfl rfl rfl (Nat.le_of_ble_eq_true rfl) ⟨Nat.le_of_ble_eq_true rfl, Nat.le_of_ble_eq_true rfl⟩ (pk_v ?_)
        rintro g_8 h8
        obtain ⟨row2, hM2, h2⟩ := h8
        refine y_iinc_n hC dX6_ticks_11 (a := i) (k := 1) rfl (by decide) (Nat.le_of_ble_eq_true rfl) rfl (lo' := [some (rf E (0)), some (.int (nI (t))), some (.int (nI (i + 1)))]) rfl ?_
        refine y_goto (tgt := 2) hC dX6_ticks_14 (by decide) ?_
        exact ih_2 (i + 1) g_8 row2 (by omega) (by omega) hM2 (fun k hk => (h2 k hk).trans (tk_add hv (by omega) (by omega) (by decide) k))
  exact L_2 (t + 1) 0 g row (by omega) (by omega) hM (fun k hk => (hR k hk).trans (tk_0 hv k).symm)

theorem dX6_putAside_0 : decode cX6_putAside 0 = .ok (.iconst 0, 1) := by decide +kernel
theorem dX6_putAside_1 : decode cX6_putAside 1 = .ok (.istore_n 1, 1) := by decide +kernel
theorem dX6_putAside_2 : decode cX6_putAside 2 = .ok (.iload_n 1, 1) := by decide +kernel
theorem dX6_putAside_3 : decode cX6_putAside 3 = .ok (.sipush 158, 3) := by decide +kernel
theorem dX6_putAside_6 : decode cX6_putAside 6 = .ok (.if_icmp .ge 21, 3) := by decide +kernel
theorem dX6_putAside_9 : decode cX6_putAside 9 = .ok (.aload_n 0, 1) := by decide +kernel
theorem dX6_putAside_10 : decode cX6_putAside 10 = .ok (.getfield 19, 3) := by decide +kernel
theorem dX6_putAside_13 : decode cX6_putAside 13 = .ok (.iload_n 1, 1) := by decide +kernel
theorem dX6_putAside_14 : decode cX6_putAside 14 = .ok (.aload_n 0, 1) := by decide +kernel
theorem dX6_putAside_15 : decode cX6_putAside 15 = .ok (.getfield 7, 3) := by decide +kernel
theorem dX6_putAside_18 : decode cX6_putAside 18 = .ok (.iload_n 1, 1) := by decide +kernel
theorem dX6_putAside_19 : decode cX6_putAside 19 = .ok (.iaload, 1) := by decide +kernel
theorem dX6_putAside_20 : decode cX6_putAside 20 = .ok (.iastore, 1) := by decide +kernel
theorem dX6_putAside_21 : decode cX6_putAside 21 = .ok (.iinc 1 1, 3) := by decide +kernel
theorem dX6_putAside_24 : decode cX6_putAside 24 = .ok (.goto (-22), 3) := by decide +kernel
theorem dX6_putAside_27 : decode cX6_putAside 27 = .ok (.return_, 1) := by decide +kernel
set_option maxHeartbeats 4000000 in
set_option maxRecDepth 100000 in
theorem c_X6_putAside (l : Launch) (E : gE) (g : Mem) (row : Nat → Int32) (B : GB) (C : GC) (D : GD) (P : GP) (hM : MX E g row B C D P) : Mt l E yX6_putAside cX6_putAside 2 none 0 0 [rf E (0)] g (pV (fun g' => ∃ as1, (∀ k, k < 158 → as1 k = row k) ∧ MX E g' row B (as1, C.2) D P)) := by
  have hK := hM.k
  refine mt_go (own := RX6) (by decide) rfl (lo := [some (rf E (0)), none]) rfl (Nat.le_of_ble_eq_true rfl) (fun X hC => ?_)
  refine y_iconst (v := nI 0) hC dX6_putAside_0 (by decide) ?_
  refine y_istore_n hC dX6_putAside_1 (i := 1) rfl (Nat.le_of_ble_eq_true rfl) rfl (lo' := [some (rf E (0)), some (.int (nI (0)))]) rfl ?_
  have L_2 : ∀ (m : Nat) (k : Nat) (g1 : Mem) (as1 : Nat → Int32), (hm : 158 - k < m) → (hk : k ≤ 158) → (hM1 : MX E g1 row B (as1, C.2.1, C.2.2.1, C.2.2.2) D P) → (hk0 : ∀ j, j < k → as1 j = row j) → Y l E X (pV (fun g' => ∃ as1, (∀ k, k < 158 → as1 k = row k) ∧ MX E g' row B (as1, C.2) D P)) 2 [some (rf E (0)), some (.int (nI (k)))] [] g1 := by
    intro m
    induction m with
    | zero => intro k g1 as1 hm hk hM1 hk0; exact absurd hm (Nat.not_lt_zero _)
    | succ m ih_2 =>
      intro k g1 as1 hm hk hM1 hk0
      refine y_iload_n hC dX6_putAside_2 (i := 1) rfl rfl ?_
      refine y_sipush (v := nI 158) hC dX6_putAside_3 (by decide) ?_
      refine y_icmp_ge_n (tgt := 27) hC dX6_putAside_6 (by decide) (by omega) (by omega) (fun c_6 => ?_) (fun c_6 => ?_)
      · refine y_vret (hC := hC) (hd := dX6_putAside_27) (hq := ?_)
        exact ⟨as1, fun j hj => hk0 j (by omega), hM1⟩
      · refine y_aload_n hC dX6_putAside_9 (i := 0) rfl rfl ?_
        refine y_get hC fX6_19 dX6_putAside_10 (k := 0) (by omega) hM1.a0 rfl ?_
        refine y_iload_n hC dX6_putAside_13 (i := 1) rfl rfl ?_
        refine y_aload_n hC dX6_putAside_14 (i := 0) rfl rfl ?_
        refine y_get hC fX6_7 dX6_putAside_15 (k := 0) (by omega) hM1.a0 rfl ?_
        refine y_iload_n hC dX6_putAside_18 (i := 1) rfl rfl ?_
        refine y_iald hC dX6_putAside_19 (k := 1) (j := k) (by omega) hM1.a1 (rfl) (by omega) (by decide) ?_
        refine y_iast hC dX6_putAside_20 (k := 4) (j := k) (by omega) hM1.a4 (rfl) (by omega) (by decide) ?_
        have hM_20 : MX E (va_up g1 (4) (aI E 0 158 (upd as1 (k) ((row (k)))))) row B ((upd as1 (k) ((row (k)))), C.2.1, C.2.2.1, C.2.2.2) D P := hM1.u4 _
        generalize (va_up g1 (4) (aI E 0 158 (upd as1 (k) ((row (k)))))) = g_20 at hM_20 ⊢
        refine y_iinc_n hC dX6_putAside_21 (a := k) (k := 1) rfl (by decide) (Nat.le_of_ble_eq_true rfl) rfl (lo' := [some (rf E (0)), some (.int (nI (k + 1)))]) rfl ?_
        refine y_goto (tgt := 2) hC dX6_putAside_24 (by decide) ?_
        exact ih_2 (k + 1) g_20 _ (by omega) (by omega) hM_20 (fun j hj => by
            by_cases e : j = k
            · rw [e, pk_us]
            · rw [pk_un e]; exact hk0 j (by omega))
  exact L_2 159 0 g _ (by omega) (by omega) hM (fun j hj => absurd hj (Nat.not_lt_zero j))

theorem dX6_putBack_0 : decode cX6_putBack 0 = .ok (.iconst 0, 1) := by decide +kernel
theorem dX6_putBack_1 : decode cX6_putBack 1 = .ok (.istore_n 1, 1) := by decide +kernel
theorem dX6_putBack_2 : decode cX6_putBack 2 = .ok (.iload_n 1, 1) := by decide +kernel
theorem dX6_putBack_3 : decode cX6_putBack 3 = .ok (.sipush 158, 3) := by decide +kernel
theorem dX6_putBack_6 : decode cX6_putBack 6 = .ok (.if_icmp .ge 21, 3) := by decide +kernel
theorem dX6_putBack_9 : decode cX6_putBack 9 = .ok (.aload_n 0, 1) := by decide +kernel
theorem dX6_putBack_10 : decode cX6_putBack 10 = .ok (.getfield 7, 3) := by decide +kernel
theorem dX6_putBack_13 : decode cX6_putBack 13 = .ok (.iload_n 1, 1) := by decide +kernel
theorem dX6_putBack_14 : decode cX6_putBack 14 = .ok (.aload_n 0, 1) := by decide +kernel
theorem dX6_putBack_15 : decode cX6_putBack 15 = .ok (.getfield 19, 3) := by decide +kernel
theorem dX6_putBack_18 : decode cX6_putBack 18 = .ok (.iload_n 1, 1) := by decide +kernel
theorem dX6_putBack_19 : decode cX6_putBack 19 = .ok (.iaload, 1) := by decide +kernel
theorem dX6_putBack_20 : decode cX6_putBack 20 = .ok (.iastore, 1) := by decide +kernel
theorem dX6_putBack_21 : decode cX6_putBack 21 = .ok (.iinc 1 1, 3) := by decide +kernel
theorem dX6_putBack_24 : decode cX6_putBack 24 = .ok (.goto (-22), 3) := by decide +kernel
theorem dX6_putBack_27 : decode cX6_putBack 27 = .ok (.return_, 1) := by decide +kernel
set_option maxHeartbeats 4000000 in
set_option maxRecDepth 100000 in
theorem c_X6_putBack (l : Launch) (E : gE) (g : Mem) (row : Nat → Int32) (B : GB) (C : GC) (D : GD) (P : GP) (hM : MX E g row B C D P) : Mt l E yX6_putBack cX6_putBack 2 none 0 0 [rf E (0)] g (pV (fun g' => ∃ as1, (∀ k, k < 158 → as1 k = C.1 k) ∧ MX E g' as1 B C D P)) := by
  have hK := hM.k
  refine mt_go (own := RX6) (by decide) rfl (lo := [some (rf E (0)), none]) rfl (Nat.le_of_ble_eq_true rfl) (fun X hC => ?_)
  refine y_iconst (v := nI 0) hC dX6_putBack_0 (by decide) ?_
  refine y_istore_n hC dX6_putBack_1 (i := 1) rfl (Nat.le_of_ble_eq_true rfl) rfl (lo' := [some (rf E (0)), some (.int (nI (0)))]) rfl ?_
  have L_2 : ∀ (m : Nat) (k : Nat) (g1 : Mem) (as1 : Nat → Int32), (hm : 158 - k < m) → (hk : k ≤ 158) → (hM1 : MX E g1 as1 B C D P) → (hk0 : ∀ j, j < k → as1 j = C.1 j) → Y l E X (pV (fun g' => ∃ as1, (∀ k, k < 158 → as1 k = C.1 k) ∧ MX E g' as1 B C D P)) 2 [some (rf E (0)), some (.int (nI (k)))] [] g1 := by
    intro m
    induction m with
    | zero => intro k g1 as1 hm hk hM1 hk0; exact absurd hm (Nat.not_lt_zero _)
    | succ m ih_2 =>
      intro k g1 as1 hm hk hM1 hk0
      refine y_iload_n hC dX6_putBack_2 (i := 1) rfl rfl ?_
      refine y_sipush (v := nI 158) hC dX6_putBack_3 (by decide) ?_
      refine y_icmp_ge_n (tgt := 27) hC dX6_putBack_6 (by decide) (by omega) (by omega) (fun c_6 => ?_) (fun c_6 => ?_)
      · refine y_vret (hC := hC) (hd := dX6_putBack_27) (hq := ?_)
        exact ⟨as1, fun j hj => hk0 j (by omega), hM1⟩
      · refine y_aload_n hC dX6_putBack_9 (i := 0) rfl rfl ?_
        refine y_get hC fX6_7 dX6_putBack_10 (k := 0) (by omega) hM1.a0 rfl ?_
        refine y_iload_n hC dX6_putBack_13 (i := 1) rfl rfl ?_
        refine y_aload_n hC dX6_putBack_14 (i := 0) rfl rfl ?_
        refine y_get hC fX6_19 dX6_putBack_15 (k := 0) (by omega) hM1.a0 rfl ?_
        refine y_iload_n hC dX6_putBack_18 (i := 1) rfl rfl ?_
        refine y_iald hC dX6_putBack_19 (k := 4) (j := k) (by omega) hM1.a4 (rfl) (by omega) (by decide) ?_
        refine y_iast hC dX6_putBack_20 (k := 1) (j := k) (by omega) hM1.a1 (rfl) (by omega) (by decide) ?_
        have hM_20 : MX E (va_up g1 (1) (aI E 0 158 (upd as1 (k) ((C.1 (k)))))) ((upd as1 (k) ((C.1 (k))))) B C D P := hM1.u1 _
        generalize (va_up g1 (1) (aI E 0 158 (upd as1 (k) ((C.1 (k)))))) = g_20 at hM_20 ⊢
        refine y_iinc_n hC dX6_putBack_21 (a := k) (k := 1) rfl (by decide) (Nat.le_of_ble_eq_true rfl) rfl (lo' := [some (rf E (0)), some (.int (nI (k + 1)))]) rfl ?_
        refine y_goto (tgt := 2) hC dX6_putBack_24 (by decide) ?_
        exact ih_2 (k + 1) g_20 _ (by omega) (by omega) hM_20 (fun j hj => by
            by_cases e : j = k
            · rw [e, pk_us]
            · rw [pk_un e]; exact hk0 j (by omega))
  exact L_2 159 0 g _ (by omega) (by omega) hM (fun j hj => absurd hj (Nat.not_lt_zero j))

theorem dX6_pass_0 : decode cX6_pass 0 = .ok (.iload_n 1, 1) := by decide +kernel
theorem dX6_pass_1 : decode cX6_pass 1 = .ok (.iconst 1, 1) := by decide +kernel
theorem dX6_pass_2 : decode cX6_pass 2 = .ok (.sipush 1000, 3) := by decide +kernel
theorem dX6_pass_5 : decode cX6_pass 5 = .ok (.invokestatic 44, 3) := by decide +kernel
theorem dX6_pass_8 : decode cX6_pass 8 = .ok (.ifCond .ne 6, 3) := by decide +kernel
theorem dX6_pass_11 : decode cX6_pass 11 = .ok (.bipush (-2), 2) := by decide +kernel
theorem dX6_pass_13 : decode cX6_pass 13 = .ok (.ireturn, 1) := by decide +kernel
theorem dX6_pass_14 : decode cX6_pass 14 = .ok (.aload_n 0, 1) := by decide +kernel
theorem dX6_pass_15 : decode cX6_pass 15 = .ok (.invokevirtual 57, 3) := by decide +kernel
theorem dX6_pass_18 : decode cX6_pass 18 = .ok (.aload_n 0, 1) := by decide +kernel
theorem dX6_pass_19 : decode cX6_pass 19 = .ok (.getfield 7, 3) := by decide +kernel
theorem dX6_pass_22 : decode cX6_pass 22 = .ok (.sipush 157, 3) := by decide +kernel
theorem dX6_pass_25 : decode cX6_pass 25 = .ok (.iaload, 1) := by decide +kernel
theorem dX6_pass_26 : decode cX6_pass 26 = .ok (.istore_n 2, 1) := by decide +kernel
theorem dX6_pass_27 : decode cX6_pass 27 = .ok (.aload_n 0, 1) := by decide +kernel
theorem dX6_pass_28 : decode cX6_pass 28 = .ok (.iload_n 1, 1) := by decide +kernel
theorem dX6_pass_29 : decode cX6_pass 29 = .ok (.invokevirtual 137, 3) := by decide +kernel
theorem dX6_pass_32 : decode cX6_pass 32 = .ok (.aload_n 0, 1) := by decide +kernel
theorem dX6_pass_33 : decode cX6_pass 33 = .ok (.getfield 7, 3) := by decide +kernel
theorem dX6_pass_36 : decode cX6_pass 36 = .ok (.sipush 157, 3) := by decide +kernel
theorem dX6_pass_39 : decode cX6_pass 39 = .ok (.iaload, 1) := by decide +kernel
theorem dX6_pass_40 : decode cX6_pass 40 = .ok (.iload_n 2, 1) := by decide +kernel
theorem dX6_pass_41 : decode cX6_pass 41 = .ok (.isub, 1) := by decide +kernel
theorem dX6_pass_42 : decode cX6_pass 42 = .ok (.ireturn, 1) := by decide +kernel
set_option maxHeartbeats 4000000 in
set_option maxRecDepth 100000 in
theorem c_X6_pass (l : Launch) (E : gE) (g : Mem) (S : AS) (Bd : Nat) (hB : Bd < 90000000) (ho : OK S Bd) (hZ : MZ E g S) (hB8 : Bd < 80000000) (xa : Int32) : Mt l E yX6_pass cX6_pass 3 (some .int) 4 88 [rf E (0), .int (xa)] g (pI (fun z g' => z = (qPass S xa).1 ∧ MZ E g' (qPass S xa).2)) := by
  have hv := ho.v
  have hrc : rc S.r ≤ 6 := hv.1.2
  have hgc : gc S.r ≤ 4 := hv.2.1.2
  have hc4 := ho.c4
  have hkp1 := ho.2.2.1
  have hl60 : S.ln ≤ 60 := ho.2.2.2.2.2.1
  refine mt_go (own := RX6) (by decide) rfl (lo := [some (rf E (0)), some (.int (xa)), none]) rfl (Nat.le_of_ble_eq_true rfl) (fun X hC => ?_)
  obtain ⟨row, hi, sn, tx, C, P, hM, hR, hH, hS, hT⟩ := hZ
  have hK := hM.k
  refine y_iload_n hC dX6_pass_0 (i := 1) rfl rfl ?_
  refine y_iconst (v := nI 1) hC dX6_pass_1 (by decide) ?_
  refine y_sipush (v := nI 1000) hC dX6_pass_2 (by decide) ?_
  refine y_callS hC mX6_in kX6_44 dX6_pass_5 (As := [.int (xa), .int (nI (1)), .int (nI (1000))]) (rest := []) (c_X6_inN l E g (xa) (1) (1000) (by omega) (by omega)) rfl rfl rfl (Nat.le_of_ble_eq_true rfl) ⟨Nat.le_of_ble_eq_true rfl, Nat.le_of_ble_eq_true rfl⟩ (pk_i ?_)
  rintro r_5 g_5 ⟨hr_5, hq_5⟩
  obtain rfl := hq_5.symm
  rw [hr_5]
  clear hr_5 r_5
  refine y_if_ne_b (tgt := 14) hC dX6_pass_8 (by decide) (fun c_8 => ?_) (fun c_8 => ?_)
  · obtain ⟨t, ht1, ht, htx⟩ := zNg (a := 1) (m := 1000) (show ((1 : Nat) : Int) ≤ xa.toInt ∧ xa.toInt ≤ ((1000 : Nat) : Int) from c_8)
    have hcc : 1 ≤ xa.toInt ∧ xa.toInt ≤ 1000 := c_8
    subst htx
    refine y_aload_n hC dX6_pass_14 (i := 0) rfl rfl ?_
    refine y_callV hC mX6_record kX6_57 dX6_pass_15 (b := 0) (As := []) (rest := []) (c_X6_record l E g S Bd hB ho ⟨row, hi, sn, tx, C, P, hM, hR, hH, hS, hT⟩) (by omega) hM.a0 rfl rfl rfl (Nat.le_of_ble_eq_true rfl) ⟨Nat.le_of_ble_eq_true rfl, Nat.le_of_ble_eq_true rfl⟩ (pk_v ?_)
    rintro g_15 hz_15
    obtain ⟨row_15, hi_15, sn_15, tx_15, C_15, P_15, hM_15, hR_15, hH_15, hS_15, hT_15⟩ := hz_15
    have hK_15 := hM_15.k
    refine y_aload_n hC dX6_pass_18 (i := 0) rfl rfl ?_
    refine y_get hC fX6_7 dX6_pass_19 (k := 0) (by omega) hM_15.a0 rfl ?_
    refine y_sipush (v := nI 157) hC dX6_pass_22 (by decide) ?_
    refine y_iald hC dX6_pass_25 (k := 1) (j := 157) (by omega) hM_15.a1 (rfl) (by omega) (by decide) ?_
    refine y_top (y := nI (nn (S.r 157))) ((hR_15 157 (by decide)).trans hv.2.2.2.2.2.2.2.2.1) ?_
    refine y_istore_n hC dX6_pass_26 (i := 2) rfl (Nat.le_of_ble_eq_true rfl) rfl (lo' := [some (rf E (0)), some (.int (nI (t))), some (.int (nI (nn (S.r 157))))]) rfl ?_
    refine y_aload_n hC dX6_pass_27 (i := 0) rfl rfl ?_
    refine y_iload_n hC dX6_pass_28 (i := 1) rfl rfl ?_
    refine y_callV hC mX6_ticks kX6_137 dX6_pass_29 (b := 0) (As := [.int (nI (t))]) (rest := []) (c_X6_ticks l E g_15 row_15 (hi_15, nI (S.rec.c), sn_15, nI (S.rec.kp)) C_15 (tx_15, nI (S.rec.ln)) P_15 hM_15 S.r Bd (by omega) hR_15 hv (t) (by omega)) (by omega) hM_15.a0 rfl rfl rfl (Nat.le_of_ble_eq_true rfl) ⟨Nat.le_of_ble_eq_true rfl, Nat.le_of_ble_eq_true rfl⟩ (pk_v ?_)
    rintro g_29 ⟨row_29t, hM_29t, hR_29t⟩
    refine y_aload_n hC dX6_pass_32 (i := 0) rfl rfl ?_
    refine y_get hC fX6_7 dX6_pass_33 (k := 0) (by omega) hM_29t.a0 rfl ?_
    refine y_sipush (v := nI 157) hC dX6_pass_36 (by decide) ?_
    refine y_iald hC dX6_pass_39 (k := 1) (j := 157) (by omega) hM_29t.a1 (rfl) (by omega) (by decide) ?_
    refine y_top (y := nI (nn (S.r 157) + made S.r t)) ((hR_29t 157 (by decide)).trans (tkR_157 hrc hgc)) ?_
    refine y_iload_n hC dX6_pass_40 (i := 2) rfl rfl ?_
    refine y_isub_n hC dX6_pass_41 (by omega) ?_
    refine y_top (y := nI (made S.r t)) (congrArg nI (by omega)) ?_
    refine y_iret (hC := hC) (hd := dX6_pass_42) (hq := ?_)
    have hqq : qPass S (nI t) = (nI (made S.r t), S.rec.row (tkR S.r t)) := by simp only [qPass, nn_I (show t < 2147483648 by omega), if_pos hcc]
    rw [hqq]
    exact ⟨rfl, ⟨row_29t, hi_15, sn_15, tx_15, C_15, P_15, hM_29t, hR_29t, hH_15, hS_15, hT_15⟩⟩
  · refine y_bipush (v := (-2)) hC dX6_pass_11 (by decide) ?_
    refine y_iret (hC := hC) (hd := dX6_pass_13) (hq := ?_)
    have hqq : qPass S xa = (-2, S) := by simp only [qPass]; exact if_neg (fun q => c_8 q)
    rw [hqq]
    exact ⟨rfl, ⟨row, hi, sn, tx, C, P, hM, hR, hH, hS, hT⟩⟩

theorem dX6_colour_0 : decode cX6_colour 0 = .ok (.iload_n 1, 1) := by decide +kernel
theorem dX6_colour_1 : decode cX6_colour 1 = .ok (.invokestatic 99, 3) := by decide +kernel
theorem dX6_colour_4 : decode cX6_colour 4 = .ok (.ifCond .eq 12, 3) := by decide +kernel
theorem dX6_colour_7 : decode cX6_colour 7 = .ok (.aload_n 0, 1) := by decide +kernel
theorem dX6_colour_8 : decode cX6_colour 8 = .ok (.getfield 7, 3) := by decide +kernel
theorem dX6_colour_11 : decode cX6_colour 11 = .ok (.iload_n 1, 1) := by decide +kernel
theorem dX6_colour_12 : decode cX6_colour 12 = .ok (.iaload, 1) := by decide +kernel
theorem dX6_colour_13 : decode cX6_colour 13 = .ok (.goto 4, 3) := by decide +kernel
theorem dX6_colour_16 : decode cX6_colour 16 = .ok (.iconst (-1), 1) := by decide +kernel
theorem dX6_colour_17 : decode cX6_colour 17 = .ok (.ireturn, 1) := by decide +kernel
set_option maxHeartbeats 4000000 in
set_option maxRecDepth 100000 in
theorem c_X6_colour (l : Launch) (E : gE) (g : Mem) (S : AS) (Bd : Nat) (hB : Bd < 90000000) (ho : OK S Bd) (hZ : MZ E g S) (xa : Int32) : Mt l E yX6_colour cX6_colour 2 (some .int) 2 42 [rf E (0), .int (xa)] g (pI (fun zz g' => zz = qColour S xa ∧ MZ E g' S)) := by
  have hv := ho.v
  have hrc : rc S.r ≤ 6 := hv.1.2
  have hgc : gc S.r ≤ 4 := hv.2.1.2
  have hc4 := ho.c4
  have hkp1 := ho.2.2.1
  have hl60 : S.ln ≤ 60 := ho.2.2.2.2.2.1
  refine mt_go (own := RX6) (by decide) rfl (lo := [some (rf E (0)), some (.int (xa))]) rfl (Nat.le_of_ble_eq_true rfl) (fun X hC => ?_)
  obtain ⟨row, hi, sn, tx, C, P, hM, hR, hH, hS, hT⟩ := hZ
  have hK := hM.k
  refine y_iload_n hC dX6_colour_0 (i := 1) rfl rfl ?_
  refine y_callS hC mX6_isPlace kX6_99 dX6_colour_1 (As := [.int (xa)]) (rest := []) (c_X6_isPlace l E g ((xa))) rfl rfl rfl (Nat.le_of_ble_eq_true rfl) ⟨Nat.le_of_ble_eq_true rfl, Nat.le_of_ble_eq_true rfl⟩ (pk_i ?_)
  rintro r_1 g_1 ⟨hr_1, hq_1⟩
  obtain rfl := hq_1.symm
  rw [hr_1]
  clear hr_1 r_1
  refine y_if_eq_b (tgt := 16) hC dX6_colour_4 (by decide) (fun c_4 => ?_) (fun c_4 => ?_)
  · refine y_iconst (v := (-1)) hC dX6_colour_16 (by decide) ?_
    refine y_iret (hC := hC) (hd := dX6_colour_17) (hq := ?_)
    have hqq : qColour S xa = -1 := by simp only [qColour, if_neg c_4]
    rw [hqq]
    exact ⟨rfl, ⟨row, hi, sn, tx, C, P, hM, hR, hH, hS, hT⟩⟩
  · obtain ⟨p, hp, hpx⟩ := zN (m := 31) c_4
    subst hpx
    refine y_aload_n hC dX6_colour_7 (i := 0) rfl rfl ?_
    refine y_get hC fX6_7 dX6_colour_8 (k := 0) (by omega) hM.a0 rfl ?_
    refine y_iload_n hC dX6_colour_11 (i := 1) rfl rfl ?_
    refine y_iald hC dX6_colour_12 (k := 1) (j := p) (by omega) hM.a1 (rfl) (by omega) (by decide) ?_
    refine y_top (y := (S.r p)) (hR p (by omega)) ?_
    refine y_goto (tgt := 17) hC dX6_colour_13 (by decide) ?_
    refine y_iret (hC := hC) (hd := dX6_colour_17) (hq := ?_)
    have hqq : qColour S (nI p) = S.r p := by simp only [qColour, nn_I (show p < 2147483648 by omega), if_pos c_4]
    rw [hqq]
    exact ⟨rfl, ⟨row, hi, sn, tx, C, P, hM, hR, hH, hS, hT⟩⟩

theorem dX6_shown_0 : decode cX6_shown 0 = .ok (.iload_n 1, 1) := by decide +kernel
theorem dX6_shown_1 : decode cX6_shown 1 = .ok (.invokestatic 99, 3) := by decide +kernel
theorem dX6_shown_4 : decode cX6_shown 4 = .ok (.ifCond .eq 11, 3) := by decide +kernel
theorem dX6_shown_7 : decode cX6_shown 7 = .ok (.aload_n 0, 1) := by decide +kernel
theorem dX6_shown_8 : decode cX6_shown 8 = .ok (.iload_n 1, 1) := by decide +kernel
theorem dX6_shown_9 : decode cX6_shown 9 = .ok (.invokevirtual 96, 3) := by decide +kernel
theorem dX6_shown_12 : decode cX6_shown 12 = .ok (.goto 4, 3) := by decide +kernel
theorem dX6_shown_15 : decode cX6_shown 15 = .ok (.iconst (-1), 1) := by decide +kernel
theorem dX6_shown_16 : decode cX6_shown 16 = .ok (.ireturn, 1) := by decide +kernel
set_option maxHeartbeats 4000000 in
set_option maxRecDepth 100000 in
theorem c_X6_shown (l : Launch) (E : gE) (g : Mem) (S : AS) (Bd : Nat) (hB : Bd < 90000000) (ho : OK S Bd) (hZ : MZ E g S) (xa : Int32) : Mt l E yX6_shown cX6_shown 2 (some .int) 5 112 [rf E (0), .int (xa)] g (pI (fun zz g' => zz = qShown S xa ∧ MZ E g' S)) := by
  have hv := ho.v
  have hrc : rc S.r ≤ 6 := hv.1.2
  have hgc : gc S.r ≤ 4 := hv.2.1.2
  have hc4 := ho.c4
  have hkp1 := ho.2.2.1
  have hl60 : S.ln ≤ 60 := ho.2.2.2.2.2.1
  refine mt_go (own := RX6) (by decide) rfl (lo := [some (rf E (0)), some (.int (xa))]) rfl (Nat.le_of_ble_eq_true rfl) (fun X hC => ?_)
  obtain ⟨row, hi, sn, tx, C, P, hM, hR, hH, hS, hT⟩ := hZ
  have hK := hM.k
  refine y_iload_n hC dX6_shown_0 (i := 1) rfl rfl ?_
  refine y_callS hC mX6_isPlace kX6_99 dX6_shown_1 (As := [.int (xa)]) (rest := []) (c_X6_isPlace l E g ((xa))) rfl rfl rfl (Nat.le_of_ble_eq_true rfl) ⟨Nat.le_of_ble_eq_true rfl, Nat.le_of_ble_eq_true rfl⟩ (pk_i ?_)
  rintro r_1 g_1 ⟨hr_1, hq_1⟩
  obtain rfl := hq_1.symm
  rw [hr_1]
  clear hr_1 r_1
  refine y_if_eq_b (tgt := 15) hC dX6_shown_4 (by decide) (fun c_4 => ?_) (fun c_4 => ?_)
  · refine y_iconst (v := (-1)) hC dX6_shown_15 (by decide) ?_
    refine y_iret (hC := hC) (hd := dX6_shown_16) (hq := ?_)
    have hqq : qShown S xa = -1 := by simp only [qShown, if_neg c_4]
    rw [hqq]
    exact ⟨rfl, ⟨row, hi, sn, tx, C, P, hM, hR, hH, hS, hT⟩⟩
  · obtain ⟨p, hp, hpx⟩ := zN (m := 31) c_4
    subst hpx
    refine y_aload_n hC dX6_shown_7 (i := 0) rfl rfl ?_
    refine y_iload_n hC dX6_shown_8 (i := 1) rfl rfl ?_
    refine y_callV hC mX6_shownAt kX6_96 dX6_shown_9 (b := 0) (As := [.int (nI (p))]) (rest := []) (c_X6_shownAt l E g row (hi, nI (S.c), sn, nI (S.kp)) C (tx, nI (S.ln)) P hM S.r Bd (by omega) hR hv (p) (by omega)) (by omega) hM.a0 rfl rfl rfl (Nat.le_of_ble_eq_true rfl) ⟨Nat.le_of_ble_eq_true rfl, Nat.le_of_ble_eq_true rfl⟩ (pk_i ?_)
    rintro r_9 g_9 ⟨hr_9, hq_9⟩
    obtain rfl := hq_9.symm
    rw [hr_9]
    clear hr_9 r_9
    refine y_goto (tgt := 16) hC dX6_shown_12 (by decide) ?_
    refine y_iret (hC := hC) (hd := dX6_shown_16) (hq := ?_)
    have hqq : qShown S (nI p) = shd S.r p 0 := by simp only [qShown, nn_I (show p < 2147483648 by omega), if_pos c_4]
    rw [hqq]
    exact ⟨rfl, ⟨row, hi, sn, tx, C, P, hM, hR, hH, hS, hT⟩⟩

theorem dX6_shownIn_0 : decode cX6_shownIn 0 = .ok (.iload_n 1, 1) := by decide +kernel
theorem dX6_shownIn_1 : decode cX6_shownIn 1 = .ok (.invokestatic 99, 3) := by decide +kernel
theorem dX6_shownIn_4 : decode cX6_shownIn 4 = .ok (.ifCond .ne 5, 3) := by decide +kernel
theorem dX6_shownIn_7 : decode cX6_shownIn 7 = .ok (.iconst (-1), 1) := by decide +kernel
theorem dX6_shownIn_8 : decode cX6_shownIn 8 = .ok (.ireturn, 1) := by decide +kernel
theorem dX6_shownIn_9 : decode cX6_shownIn 9 = .ok (.iload_n 2, 1) := by decide +kernel
theorem dX6_shownIn_10 : decode cX6_shownIn 10 = .ok (.iconst 0, 1) := by decide +kernel
theorem dX6_shownIn_11 : decode cX6_shownIn 11 = .ok (.sipush 1000, 3) := by decide +kernel
theorem dX6_shownIn_14 : decode cX6_shownIn 14 = .ok (.invokestatic 44, 3) := by decide +kernel
theorem dX6_shownIn_17 : decode cX6_shownIn 17 = .ok (.ifCond .ne 6, 3) := by decide +kernel
theorem dX6_shownIn_20 : decode cX6_shownIn 20 = .ok (.bipush (-2), 2) := by decide +kernel
theorem dX6_shownIn_22 : decode cX6_shownIn 22 = .ok (.ireturn, 1) := by decide +kernel
theorem dX6_shownIn_23 : decode cX6_shownIn 23 = .ok (.aload_n 0, 1) := by decide +kernel
theorem dX6_shownIn_24 : decode cX6_shownIn 24 = .ok (.invokevirtual 213, 3) := by decide +kernel
theorem dX6_shownIn_27 : decode cX6_shownIn 27 = .ok (.aload_n 0, 1) := by decide +kernel
theorem dX6_shownIn_28 : decode cX6_shownIn 28 = .ok (.iload_n 2, 1) := by decide +kernel
theorem dX6_shownIn_29 : decode cX6_shownIn 29 = .ok (.invokevirtual 137, 3) := by decide +kernel
theorem dX6_shownIn_32 : decode cX6_shownIn 32 = .ok (.aload_n 0, 1) := by decide +kernel
theorem dX6_shownIn_33 : decode cX6_shownIn 33 = .ok (.iload_n 1, 1) := by decide +kernel
theorem dX6_shownIn_34 : decode cX6_shownIn 34 = .ok (.invokevirtual 96, 3) := by decide +kernel
theorem dX6_shownIn_37 : decode cX6_shownIn 37 = .ok (.istore_n 3, 1) := by decide +kernel
theorem dX6_shownIn_38 : decode cX6_shownIn 38 = .ok (.aload_n 0, 1) := by decide +kernel
theorem dX6_shownIn_39 : decode cX6_shownIn 39 = .ok (.invokevirtual 216, 3) := by decide +kernel
theorem dX6_shownIn_42 : decode cX6_shownIn 42 = .ok (.iload_n 3, 1) := by decide +kernel
theorem dX6_shownIn_43 : decode cX6_shownIn 43 = .ok (.ireturn, 1) := by decide +kernel
set_option maxHeartbeats 4000000 in
set_option maxRecDepth 100000 in
theorem c_X6_shownIn (l : Launch) (E : gE) (g : Mem) (S : AS) (Bd : Nat) (hB : Bd < 90000000) (ho : OK S Bd) (hZ : MZ E g S) (hB8 : Bd < 80000000) (xa xb : Int32) : Mt l E yX6_shownIn cX6_shownIn 4 (some .int) 5 112 [rf E (0), .int (xa), .int (xb)] g (pI (fun zz g' => zz = qShownIn S xa xb ∧ MZ E g' S)) := by
  have hv := ho.v
  have hrc : rc S.r ≤ 6 := hv.1.2
  have hgc : gc S.r ≤ 4 := hv.2.1.2
  have hc4 := ho.c4
  have hkp1 := ho.2.2.1
  have hl60 : S.ln ≤ 60 := ho.2.2.2.2.2.1
  refine mt_go (own := RX6) (by decide) rfl (lo := [some (rf E (0)), some (.int (xa)), some (.int (xb)), none]) rfl (Nat.le_of_ble_eq_true rfl) (fun X hC => ?_)
  obtain ⟨row, hi, sn, tx, C, P, hM, hR, hH, hS, hT⟩ := hZ
  have hK := hM.k
  refine y_iload_n hC dX6_shownIn_0 (i := 1) rfl rfl ?_
  refine y_callS hC mX6_isPlace kX6_99 dX6_shownIn_1 (As := [.int (xa)]) (rest := []) (c_X6_isPlace l E g ((xa))) rfl rfl rfl (Nat.le_of_ble_eq_true rfl) ⟨Nat.le_of_ble_eq_true rfl, Nat.le_of_ble_eq_true rfl⟩ (pk_i ?_)
  rintro r_1 g_1 ⟨hr_1, hq_1⟩
  obtain rfl := hq_1.symm
  rw [hr_1]
  clear hr_1 r_1
  refine y_if_ne_b (tgt := 9) hC dX6_shownIn_4 (by decide) (fun c_4 => ?_) (fun c_4 => ?_)
  · obtain ⟨p, hp, hpx⟩ := zN (m := 31) c_4
    subst hpx
    refine y_iload_n hC dX6_shownIn_9 (i := 2) rfl rfl ?_
    refine y_iconst (v := nI 0) hC dX6_shownIn_10 (by decide) ?_
    refine y_sipush (v := nI 1000) hC dX6_shownIn_11 (by decide) ?_
    refine y_callS hC mX6_in kX6_44 dX6_shownIn_14 (As := [.int (xb), .int (nI (0)), .int (nI (1000))]) (rest := []) (c_X6_inN l E g (xb) (0) (1000) (by omega) (by omega)) rfl rfl rfl (Nat.le_of_ble_eq_true rfl) ⟨Nat.le_of_ble_eq_true rfl, Nat.le_of_ble_eq_true rfl⟩ (pk_i ?_)
    rintro r_14 g_14 ⟨hr_14, hq_14⟩
    obtain rfl := hq_14.symm
    rw [hr_14]
    clear hr_14 r_14
    refine y_if_ne_b (tgt := 23) hC dX6_shownIn_17 (by decide) (fun c_17 => ?_) (fun c_17 => ?_)
    · obtain ⟨t, ht, htx⟩ := zN (m := 1000) (show 0 ≤ xb.toInt ∧ xb.toInt ≤ ((1000 : Nat) : Int) from c_17)
      have hcc : 0 ≤ xb.toInt ∧ xb.toInt ≤ 1000 := c_17
      subst htx
      refine y_aload_n hC dX6_shownIn_23 (i := 0) rfl rfl ?_
      refine y_callV hC mX6_putAside kX6_213 dX6_shownIn_24 (b := 0) (As := []) (rest := []) (c_X6_putAside l E g row (hi, nI (S.c), sn, nI (S.kp)) C (tx, nI (S.ln)) P hM) (by omega) hM.a0 rfl rfl rfl (Nat.le_of_ble_eq_true rfl) ⟨Nat.le_of_ble_eq_true rfl, Nat.le_of_ble_eq_true rfl⟩ (pk_v ?_)
      rintro g_24 ⟨as_24, has_24, hM_24a⟩
      refine y_aload_n hC dX6_shownIn_27 (i := 0) rfl rfl ?_
      refine y_iload_n hC dX6_shownIn_28 (i := 2) rfl rfl ?_
      refine y_callV hC mX6_ticks kX6_137 dX6_shownIn_29 (b := 0) (As := [.int (nI (t))]) (rest := []) (c_X6_ticks l E g_24 row (hi, nI (S.c), sn, nI (S.kp)) (as_24, C.2.1, C.2.2.1, C.2.2.2) (tx, nI (S.ln)) P hM_24a S.r Bd (by omega) hR hv (t) (by omega)) (by omega) hM_24a.a0 rfl rfl rfl (Nat.le_of_ble_eq_true rfl) ⟨Nat.le_of_ble_eq_true rfl, Nat.le_of_ble_eq_true rfl⟩ (pk_v ?_)
      rintro g_29 ⟨row_29t, hM_29t, hR_29t⟩
      refine y_aload_n hC dX6_shownIn_32 (i := 0) rfl rfl ?_
      refine y_iload_n hC dX6_shownIn_33 (i := 1) rfl rfl ?_
      refine y_callV hC mX6_shownAt kX6_96 dX6_shownIn_34 (b := 0) (As := [.int (nI (p))]) (rest := []) (c_X6_shownAt l E g_29 row_29t (hi, nI (S.c), sn, nI (S.kp)) (as_24, C.2.1, C.2.2.1, C.2.2.2) (tx, nI (S.ln)) P hM_29t (tkR S.r t) (Bd + 5000) (by omega) hR_29t ((vr_tk hv hB (by omega)).le (by omega)) p (by omega)) (by omega) hM_29t.a0 rfl rfl rfl (Nat.le_of_ble_eq_true rfl) ⟨Nat.le_of_ble_eq_true rfl, Nat.le_of_ble_eq_true rfl⟩ (pk_i ?_)
      rintro r_34 g_34 ⟨hr_34, hq_34⟩
      obtain rfl := hq_34.symm
      rw [hr_34, shd_tk hv hB (by omega) (by omega)]
      clear hr_34 r_34
      refine y_istore_n hC dX6_shownIn_37 (i := 3) rfl (Nat.le_of_ble_eq_true rfl) rfl (lo' := [some (rf E (0)), some (.int (nI (p))), some (.int (nI (t))), some (.int (shd S.r p t))]) rfl ?_
      refine y_aload_n hC dX6_shownIn_38 (i := 0) rfl rfl ?_
      refine y_callV hC mX6_putBack kX6_216 dX6_shownIn_39 (b := 0) (As := []) (rest := []) (c_X6_putBack l E g_29 row_29t (hi, nI (S.c), sn, nI (S.kp)) (as_24, C.2.1, C.2.2.1, C.2.2.2) (tx, nI (S.ln)) P hM_29t) (by omega) hM_29t.a0 rfl rfl rfl (Nat.le_of_ble_eq_true rfl) ⟨Nat.le_of_ble_eq_true rfl, Nat.le_of_ble_eq_true rfl⟩ (pk_v ?_)
      rintro g_39 ⟨row_39b, hrow_39, hM_39b⟩
      refine y_iload_n hC dX6_shownIn_42 (i := 3) rfl rfl ?_
      refine y_iret (hC := hC) (hd := dX6_shownIn_43) (hq := ?_)
      have hqq : qShownIn S (nI p) (nI t) = shd S.r p t := by simp only [qShownIn, nn_I (show p < 2147483648 by omega), nn_I (show t < 2147483648 by omega), if_pos c_4, if_pos hcc]
      rw [hqq]
      exact ⟨rfl, ⟨row_39b, hi, sn, tx, (as_24, C.2.1, C.2.2.1, C.2.2.2), P, hM_39b, (fun k hk => (hrow_39 k hk).trans ((has_24 k hk).trans (hR k hk))), hH, hS, hT⟩⟩
    · refine y_bipush (v := (-2)) hC dX6_shownIn_20 (by decide) ?_
      refine y_iret (hC := hC) (hd := dX6_shownIn_22) (hq := ?_)
      have hqq : qShownIn S (nI p) xb = -2 := by simp only [qShownIn, nn_I (show p < 2147483648 by omega), if_pos c_4]; exact if_neg (fun q => c_17 q)
      rw [hqq]
      exact ⟨rfl, ⟨row, hi, sn, tx, C, P, hM, hR, hH, hS, hT⟩⟩
  · refine y_iconst (v := (-1)) hC dX6_shownIn_7 (by decide) ?_
    refine y_iret (hC := hC) (hd := dX6_shownIn_8) (hq := ?_)
    have hqq : qShownIn S xa xb = -1 := by simp only [qShownIn, if_neg c_4]
    rw [hqq]
    exact ⟨rfl, ⟨row, hi, sn, tx, C, P, hM, hR, hH, hS, hT⟩⟩

theorem dX6_range_0 : decode cX6_range 0 = .ok (.aload_n 0, 1) := by decide +kernel
theorem dX6_range_1 : decode cX6_range 1 = .ok (.iload_n 1, 1) := by decide +kernel
theorem dX6_range_2 : decode cX6_range 2 = .ok (.invokevirtual 117, 3) := by decide +kernel
theorem dX6_range_5 : decode cX6_range 5 = .ok (.ifCond .ne 5, 3) := by decide +kernel
theorem dX6_range_8 : decode cX6_range 8 = .ok (.iconst (-1), 1) := by decide +kernel
theorem dX6_range_9 : decode cX6_range 9 = .ok (.ireturn, 1) := by decide +kernel
theorem dX6_range_10 : decode cX6_range 10 = .ok (.iload_n 2, 1) := by decide +kernel
theorem dX6_range_11 : decode cX6_range 11 = .ok (.iconst 0, 1) := by decide +kernel
theorem dX6_range_12 : decode cX6_range 12 = .ok (.bipush 6, 2) := by decide +kernel
theorem dX6_range_14 : decode cX6_range 14 = .ok (.invokestatic 44, 3) := by decide +kernel
theorem dX6_range_17 : decode cX6_range 17 = .ok (.ifCond .eq 12, 3) := by decide +kernel
theorem dX6_range_20 : decode cX6_range 20 = .ok (.aload_n 0, 1) := by decide +kernel
theorem dX6_range_21 : decode cX6_range 21 = .ok (.iload_n 1, 1) := by decide +kernel
theorem dX6_range_22 : decode cX6_range 22 = .ok (.iload_n 2, 1) := by decide +kernel
theorem dX6_range_23 : decode cX6_range 23 = .ok (.invokevirtual 60, 3) := by decide +kernel
theorem dX6_range_26 : decode cX6_range 26 = .ok (.goto 19, 3) := by decide +kernel
theorem dX6_range_29 : decode cX6_range 29 = .ok (.iload_n 2, 1) := by decide +kernel
theorem dX6_range_30 : decode cX6_range 30 = .ok (.bipush 7, 2) := by decide +kernel
theorem dX6_range_32 : decode cX6_range 32 = .ok (.if_icmp .ne 11, 3) := by decide +kernel
theorem dX6_range_35 : decode cX6_range 35 = .ok (.aload_n 0, 1) := by decide +kernel
theorem dX6_range_36 : decode cX6_range 36 = .ok (.iload_n 1, 1) := by decide +kernel
theorem dX6_range_37 : decode cX6_range 37 = .ok (.invokevirtual 74, 3) := by decide +kernel
theorem dX6_range_40 : decode cX6_range 40 = .ok (.goto 5, 3) := by decide +kernel
theorem dX6_range_43 : decode cX6_range 43 = .ok (.bipush (-2), 2) := by decide +kernel
theorem dX6_range_45 : decode cX6_range 45 = .ok (.ireturn, 1) := by decide +kernel
set_option maxHeartbeats 4000000 in
set_option maxRecDepth 100000 in
theorem c_X6_range (l : Launch) (E : gE) (g : Mem) (S : AS) (Bd : Nat) (hB : Bd < 90000000) (ho : OK S Bd) (hZ : MZ E g S) (xa xb : Int32) : Mt l E yX6_range cX6_range 3 (some .int) 3 67 [rf E (0), .int (xa), .int (xb)] g (pI (fun zz g' => zz = qRange S xa xb ∧ MZ E g' S)) := by
  have hv := ho.v
  have hrc : rc S.r ≤ 6 := hv.1.2
  have hgc : gc S.r ≤ 4 := hv.2.1.2
  have hc4 := ho.c4
  have hkp1 := ho.2.2.1
  have hl60 : S.ln ≤ 60 := ho.2.2.2.2.2.1
  refine mt_go (own := RX6) (by decide) rfl (lo := [some (rf E (0)), some (.int (xa)), some (.int (xb))]) rfl (Nat.le_of_ble_eq_true rfl) (fun X hC => ?_)
  obtain ⟨row, hi, sn, tx, C, P, hM, hR, hH, hS, hT⟩ := hZ
  have hK := hM.k
  refine y_aload_n hC dX6_range_0 (i := 0) rfl rfl ?_
  refine y_iload_n hC dX6_range_1 (i := 1) rfl rfl ?_
  refine y_callV hC mX6_isRange kX6_117 dX6_range_2 (b := 0) (As := [.int (xa)]) (rest := []) (c_X6_isRange l E g row (hi, nI (S.c), sn, nI (S.kp)) C (tx, nI (S.ln)) P hM S.r Bd (by omega) hR hv ((xa))) (by omega) hM.a0 rfl rfl rfl (Nat.le_of_ble_eq_true rfl) ⟨Nat.le_of_ble_eq_true rfl, Nat.le_of_ble_eq_true rfl⟩ (pk_i ?_)
  rintro r_2 g_2 ⟨hr_2, hq_2⟩
  obtain rfl := hq_2.symm
  rw [hr_2]
  clear hr_2 r_2
  refine y_if_ne_b (tgt := 10) hC dX6_range_5 (by decide) (fun c_5 => ?_) (fun c_5 => ?_)
  · obtain ⟨a, ha, hax⟩ := zNl (m := rc S.r) c_5
    subst hax
    refine y_iload_n hC dX6_range_10 (i := 2) rfl rfl ?_
    refine y_iconst (v := nI 0) hC dX6_range_11 (by decide) ?_
    refine y_bipush (v := nI 6) hC dX6_range_12 (by decide) ?_
    refine y_callS hC mX6_in kX6_44 dX6_range_14 (As := [.int (xb), .int (nI (0)), .int (nI (6))]) (rest := []) (c_X6_inN l E g (xb) (0) (6) (by omega) (by omega)) rfl rfl rfl (Nat.le_of_ble_eq_true rfl) ⟨Nat.le_of_ble_eq_true rfl, Nat.le_of_ble_eq_true rfl⟩ (pk_i ?_)
    rintro r_14 g_14 ⟨hr_14, hq_14⟩
    obtain rfl := hq_14.symm
    rw [hr_14]
    clear hr_14 r_14
    refine y_if_eq_b (tgt := 29) hC dX6_range_17 (by decide) (fun c_17 => ?_) (fun c_17 => ?_)
    · refine y_iload_n hC dX6_range_29 (i := 2) rfl rfl ?_
      refine y_bipush (v := nI 7) hC dX6_range_30 (by decide) ?_
      refine y_icmp_ne (tgt := 43) hC dX6_range_32 (by decide) (fun c_32 => ?_) (fun c_32 => ?_)
      · refine y_bipush (v := (-2)) hC dX6_range_43 (by decide) ?_
        refine y_iret (hC := hC) (hd := dX6_range_45) (hq := ?_)
        have hqq : qRange S (nI a) xb = -2 := by
          simp only [qRange, nn_I (show a < 2147483648 by omega), if_pos c_5]
          refine if_neg (fun q => ?_)
          obtain ⟨u, hu, hux⟩ := zN (m := 7) q
          subst hux
          have h1 : ¬ (0 ≤ (nI u).toInt ∧ (nI u).toInt ≤ 6) := c_17
          rw [tI (by omega)] at h1
          have h2 : u = 7 := by omega
          subst h2
          exact c_32 rfl
        rw [hqq]
        exact ⟨rfl, ⟨row, hi, sn, tx, C, P, hM, hR, hH, hS, hT⟩⟩
      · refine y_aload_n hC dX6_range_35 (i := 0) rfl rfl ?_
        refine y_iload_n hC dX6_range_36 (i := 1) rfl rfl ?_
        refine y_callV hC mX6_turn kX6_74 dX6_range_37 (b := 0) (As := [.int (nI (a))]) (rest := []) (c_X6_turn l E g row (hi, nI (S.c), sn, nI (S.kp)) C (tx, nI (S.ln)) P hM S.r Bd (by omega) hR hv a (by omega)) (by omega) hM.a0 rfl rfl rfl (Nat.le_of_ble_eq_true rfl) ⟨Nat.le_of_ble_eq_true rfl, Nat.le_of_ble_eq_true rfl⟩ (pk_i ?_)
        rintro r_37 g_37 ⟨hr_37, hq_37⟩
        obtain rfl := hq_37.symm
        rw [hr_37]
        clear hr_37 r_37
        refine y_goto (tgt := 45) hC dX6_range_40 (by decide) ?_
        refine y_iret (hC := hC) (hd := dX6_range_45) (hq := ?_)
        have hqq : qRange S (nI a) xb = rgQ S.r a 7 := by simp only [qRange, nn_I (show a < 2147483648 by omega), if_pos c_5]; rw [c_32]; rfl
        rw [hqq]
        exact ⟨rfl, ⟨row, hi, sn, tx, C, P, hM, hR, hH, hS, hT⟩⟩
    · obtain ⟨u, hu, hux⟩ := zN (m := 6) (show 0 ≤ xb.toInt ∧ xb.toInt ≤ ((6 : Nat) : Int) from c_17)
      subst hux
      refine y_aload_n hC dX6_range_20 (i := 0) rfl rfl ?_
      refine y_iload_n hC dX6_range_21 (i := 1) rfl rfl ?_
      refine y_iload_n hC dX6_range_22 (i := 2) rfl rfl ?_
      refine y_callV hC mX6_of kX6_60 dX6_range_23 (b := 0) (As := [.int (nI (a)), .int (nI (u))]) (rest := []) (c_X6_of l E g row (hi, nI (S.c), sn, nI (S.kp)) C (tx, nI (S.ln)) P hM S.r Bd (by omega) hR hv a u (by omega) (by omega)) (by omega) hM.a0 rfl rfl rfl (Nat.le_of_ble_eq_true rfl) ⟨Nat.le_of_ble_eq_true rfl, Nat.le_of_ble_eq_true rfl⟩ (pk_i ?_)
      rintro r_23 g_23 ⟨hr_23, hq_23⟩
      obtain rfl := hq_23.symm
      rw [hr_23]
      clear hr_23 r_23
      refine y_goto (tgt := 45) hC dX6_range_26 (by decide) ?_
      refine y_iret (hC := hC) (hd := dX6_range_45) (hq := ?_)
      have hqq : qRange S (nI a) (nI u) = rgQ S.r a u := by simp only [qRange, nn_I (show a < 2147483648 by omega), nn_I (show u < 2147483648 by omega), if_pos c_5]; exact if_pos (by rw [tI (by omega)]; omega)
      rw [hqq]
      exact ⟨by unfold rgQ; rw [if_pos (by omega)], ⟨row, hi, sn, tx, C, P, hM, hR, hH, hS, hT⟩⟩
  · refine y_iconst (v := (-1)) hC dX6_range_8 (by decide) ?_
    refine y_iret (hC := hC) (hd := dX6_range_9) (hq := ?_)
    have hqq : qRange S xa xb = -1 := by simp only [qRange, if_neg c_5]
    rw [hqq]
    exact ⟨rfl, ⟨row, hi, sn, tx, C, P, hM, hR, hH, hS, hT⟩⟩

theorem dX6_glow_0 : decode cX6_glow 0 = .ok (.aload_n 0, 1) := by decide +kernel
theorem dX6_glow_1 : decode cX6_glow 1 = .ok (.iload_n 1, 1) := by decide +kernel
theorem dX6_glow_2 : decode cX6_glow 2 = .ok (.invokevirtual 124, 3) := by decide +kernel
theorem dX6_glow_5 : decode cX6_glow 5 = .ok (.ifCond .ne 5, 3) := by decide +kernel
theorem dX6_glow_8 : decode cX6_glow 8 = .ok (.iconst (-1), 1) := by decide +kernel
theorem dX6_glow_9 : decode cX6_glow 9 = .ok (.ireturn, 1) := by decide +kernel
theorem dX6_glow_10 : decode cX6_glow 10 = .ok (.iload_n 2, 1) := by decide +kernel
theorem dX6_glow_11 : decode cX6_glow 11 = .ok (.iconst 0, 1) := by decide +kernel
theorem dX6_glow_12 : decode cX6_glow 12 = .ok (.iconst 3, 1) := by decide +kernel
theorem dX6_glow_13 : decode cX6_glow 13 = .ok (.invokestatic 44, 3) := by decide +kernel
theorem dX6_glow_16 : decode cX6_glow 16 = .ok (.ifCond .eq 12, 3) := by decide +kernel
theorem dX6_glow_19 : decode cX6_glow 19 = .ok (.aload_n 0, 1) := by decide +kernel
theorem dX6_glow_20 : decode cX6_glow 20 = .ok (.iload_n 1, 1) := by decide +kernel
theorem dX6_glow_21 : decode cX6_glow 21 = .ok (.iload_n 2, 1) := by decide +kernel
theorem dX6_glow_22 : decode cX6_glow 22 = .ok (.invokevirtual 68, 3) := by decide +kernel
theorem dX6_glow_25 : decode cX6_glow 25 = .ok (.goto 18, 3) := by decide +kernel
theorem dX6_glow_28 : decode cX6_glow 28 = .ok (.iload_n 2, 1) := by decide +kernel
theorem dX6_glow_29 : decode cX6_glow 29 = .ok (.iconst 4, 1) := by decide +kernel
theorem dX6_glow_30 : decode cX6_glow 30 = .ok (.if_icmp .ne 11, 3) := by decide +kernel
theorem dX6_glow_33 : decode cX6_glow 33 = .ok (.aload_n 0, 1) := by decide +kernel
theorem dX6_glow_34 : decode cX6_glow 34 = .ok (.iload_n 1, 1) := by decide +kernel
theorem dX6_glow_35 : decode cX6_glow 35 = .ok (.invokevirtual 89, 3) := by decide +kernel
theorem dX6_glow_38 : decode cX6_glow 38 = .ok (.goto 5, 3) := by decide +kernel
theorem dX6_glow_41 : decode cX6_glow 41 = .ok (.bipush (-2), 2) := by decide +kernel
theorem dX6_glow_43 : decode cX6_glow 43 = .ok (.ireturn, 1) := by decide +kernel
set_option maxHeartbeats 4000000 in
set_option maxRecDepth 100000 in
theorem c_X6_glow (l : Launch) (E : gE) (g : Mem) (S : AS) (Bd : Nat) (hB : Bd < 90000000) (ho : OK S Bd) (hZ : MZ E g S) (xa xb : Int32) : Mt l E yX6_glow cX6_glow 3 (some .int) 2 44 [rf E (0), .int (xa), .int (xb)] g (pI (fun zz g' => zz = qGlow S xa xb ∧ MZ E g' S)) := by
  have hv := ho.v
  have hrc : rc S.r ≤ 6 := hv.1.2
  have hgc : gc S.r ≤ 4 := hv.2.1.2
  have hc4 := ho.c4
  have hkp1 := ho.2.2.1
  have hl60 : S.ln ≤ 60 := ho.2.2.2.2.2.1
  refine mt_go (own := RX6) (by decide) rfl (lo := [some (rf E (0)), some (.int (xa)), some (.int (xb))]) rfl (Nat.le_of_ble_eq_true rfl) (fun X hC => ?_)
  obtain ⟨row, hi, sn, tx, C, P, hM, hR, hH, hS, hT⟩ := hZ
  have hK := hM.k
  refine y_aload_n hC dX6_glow_0 (i := 0) rfl rfl ?_
  refine y_iload_n hC dX6_glow_1 (i := 1) rfl rfl ?_
  refine y_callV hC mX6_isGlow kX6_124 dX6_glow_2 (b := 0) (As := [.int (xa)]) (rest := []) (c_X6_isGlow l E g row (hi, nI (S.c), sn, nI (S.kp)) C (tx, nI (S.ln)) P hM S.r Bd (by omega) hR hv ((xa))) (by omega) hM.a0 rfl rfl rfl (Nat.le_of_ble_eq_true rfl) ⟨Nat.le_of_ble_eq_true rfl, Nat.le_of_ble_eq_true rfl⟩ (pk_i ?_)
  rintro r_2 g_2 ⟨hr_2, hq_2⟩
  obtain rfl := hq_2.symm
  rw [hr_2]
  clear hr_2 r_2
  refine y_if_ne_b (tgt := 10) hC dX6_glow_5 (by decide) (fun c_5 => ?_) (fun c_5 => ?_)
  · obtain ⟨a, ha, hax⟩ := zNl (m := gc S.r) c_5
    subst hax
    refine y_iload_n hC dX6_glow_10 (i := 2) rfl rfl ?_
    refine y_iconst (v := nI 0) hC dX6_glow_11 (by decide) ?_
    refine y_iconst (v := nI 3) hC dX6_glow_12 (by decide) ?_
    refine y_callS hC mX6_in kX6_44 dX6_glow_13 (As := [.int (xb), .int (nI (0)), .int (nI (3))]) (rest := []) (c_X6_inN l E g (xb) (0) (3) (by omega) (by omega)) rfl rfl rfl (Nat.le_of_ble_eq_true rfl) ⟨Nat.le_of_ble_eq_true rfl, Nat.le_of_ble_eq_true rfl⟩ (pk_i ?_)
    rintro r_13 g_13 ⟨hr_13, hq_13⟩
    obtain rfl := hq_13.symm
    rw [hr_13]
    clear hr_13 r_13
    refine y_if_eq_b (tgt := 28) hC dX6_glow_16 (by decide) (fun c_16 => ?_) (fun c_16 => ?_)
    · refine y_iload_n hC dX6_glow_28 (i := 2) rfl rfl ?_
      refine y_iconst (v := nI 4) hC dX6_glow_29 (by decide) ?_
      refine y_icmp_ne (tgt := 41) hC dX6_glow_30 (by decide) (fun c_30 => ?_) (fun c_30 => ?_)
      · refine y_bipush (v := (-2)) hC dX6_glow_41 (by decide) ?_
        refine y_iret (hC := hC) (hd := dX6_glow_43) (hq := ?_)
        have hqq : qGlow S (nI a) xb = -2 := by
          simp only [qGlow, nn_I (show a < 2147483648 by omega), if_pos c_5]
          refine if_neg (fun q => ?_)
          obtain ⟨u, hu, hux⟩ := zN (m := 4) q
          subst hux
          have h1 : ¬ (0 ≤ (nI u).toInt ∧ (nI u).toInt ≤ 3) := c_16
          rw [tI (by omega)] at h1
          have h2 : u = 4 := by omega
          subst h2
          exact c_30 rfl
        rw [hqq]
        exact ⟨rfl, ⟨row, hi, sn, tx, C, P, hM, hR, hH, hS, hT⟩⟩
      · refine y_aload_n hC dX6_glow_33 (i := 0) rfl rfl ?_
        refine y_iload_n hC dX6_glow_34 (i := 1) rfl rfl ?_
        refine y_callV hC mX6_strength kX6_89 dX6_glow_35 (b := 0) (As := [.int (nI (a))]) (rest := []) (c_X6_strength l E g row (hi, nI (S.c), sn, nI (S.kp)) C (tx, nI (S.ln)) P hM S.r Bd (by omega) hR hv a (by omega)) (by omega) hM.a0 rfl rfl rfl (Nat.le_of_ble_eq_true rfl) ⟨Nat.le_of_ble_eq_true rfl, Nat.le_of_ble_eq_true rfl⟩ (pk_i ?_)
        rintro r_35 g_35 ⟨hr_35, hq_35⟩
        obtain rfl := hq_35.symm
        rw [hr_35]
        clear hr_35 r_35
        refine y_goto (tgt := 43) hC dX6_glow_38 (by decide) ?_
        refine y_iret (hC := hC) (hd := dX6_glow_43) (hq := ?_)
        have hqq : qGlow S (nI a) xb = glQ S.r a 4 := by simp only [qGlow, nn_I (show a < 2147483648 by omega), if_pos c_5]; rw [c_30]; rfl
        rw [hqq]
        exact ⟨rfl, ⟨row, hi, sn, tx, C, P, hM, hR, hH, hS, hT⟩⟩
    · obtain ⟨u, hu, hux⟩ := zN (m := 3) (show 0 ≤ xb.toInt ∧ xb.toInt ≤ ((3 : Nat) : Int) from c_16)
      subst hux
      refine y_aload_n hC dX6_glow_19 (i := 0) rfl rfl ?_
      refine y_iload_n hC dX6_glow_20 (i := 1) rfl rfl ?_
      refine y_iload_n hC dX6_glow_21 (i := 2) rfl rfl ?_
      refine y_callV hC mX6_ofGlow kX6_68 dX6_glow_22 (b := 0) (As := [.int (nI (a)), .int (nI (u))]) (rest := []) (c_X6_ofGlow l E g row (hi, nI (S.c), sn, nI (S.kp)) C (tx, nI (S.ln)) P hM S.r Bd (by omega) hR hv a u (by omega) (by omega)) (by omega) hM.a0 rfl rfl rfl (Nat.le_of_ble_eq_true rfl) ⟨Nat.le_of_ble_eq_true rfl, Nat.le_of_ble_eq_true rfl⟩ (pk_i ?_)
      rintro r_22 g_22 ⟨hr_22, hq_22⟩
      obtain rfl := hq_22.symm
      rw [hr_22]
      clear hr_22 r_22
      refine y_goto (tgt := 43) hC dX6_glow_25 (by decide) ?_
      refine y_iret (hC := hC) (hd := dX6_glow_43) (hq := ?_)
      have hqq : qGlow S (nI a) (nI u) = glQ S.r a u := by simp only [qGlow, nn_I (show a < 2147483648 by omega), nn_I (show u < 2147483648 by omega), if_pos c_5]; exact if_pos (by rw [tI (by omega)]; omega)
      rw [hqq]
      exact ⟨by unfold glQ; rw [if_pos (by omega)], ⟨row, hi, sn, tx, C, P, hM, hR, hH, hS, hT⟩⟩
  · refine y_iconst (v := (-1)) hC dX6_glow_8 (by decide) ?_
    refine y_iret (hC := hC) (hd := dX6_glow_9) (hq := ?_)
    have hqq : qGlow S xa xb = -1 := by simp only [qGlow, if_neg c_5]
    rw [hqq]
    exact ⟨rfl, ⟨row, hi, sn, tx, C, P, hM, hR, hH, hS, hT⟩⟩

theorem dX6_pixel_0 : decode cX6_pixel 0 = .ok (.iload_n 1, 1) := by decide +kernel
theorem dX6_pixel_1 : decode cX6_pixel 1 = .ok (.iload_n 2, 1) := by decide +kernel
theorem dX6_pixel_2 : decode cX6_pixel 2 = .ok (.invokestatic 192, 3) := by decide +kernel
theorem dX6_pixel_5 : decode cX6_pixel 5 = .ok (.ifCond .ne 5, 3) := by decide +kernel
theorem dX6_pixel_8 : decode cX6_pixel 8 = .ok (.iconst (-1), 1) := by decide +kernel
theorem dX6_pixel_9 : decode cX6_pixel 9 = .ok (.ireturn, 1) := by decide +kernel
theorem dX6_pixel_10 : decode cX6_pixel 10 = .ok (.iload_n 3, 1) := by decide +kernel
theorem dX6_pixel_11 : decode cX6_pixel 11 = .ok (.ifCond .eq 16, 3) := by decide +kernel
theorem dX6_pixel_14 : decode cX6_pixel 14 = .ok (.aload_n 0, 1) := by decide +kernel
theorem dX6_pixel_15 : decode cX6_pixel 15 = .ok (.aload_n 0, 1) := by decide +kernel
theorem dX6_pixel_16 : decode cX6_pixel 16 = .ok (.iload_n 1, 1) := by decide +kernel
theorem dX6_pixel_17 : decode cX6_pixel 17 = .ok (.iload_n 2, 1) := by decide +kernel
theorem dX6_pixel_18 : decode cX6_pixel 18 = .ok (.invokevirtual 195, 3) := by decide +kernel
theorem dX6_pixel_21 : decode cX6_pixel 21 = .ok (.invokevirtual 96, 3) := by decide +kernel
theorem dX6_pixel_24 : decode cX6_pixel 24 = .ok (.goto 9, 3) := by decide +kernel
theorem dX6_pixel_27 : decode cX6_pixel 27 = .ok (.aload_n 0, 1) := by decide +kernel
theorem dX6_pixel_28 : decode cX6_pixel 28 = .ok (.iload_n 1, 1) := by decide +kernel
theorem dX6_pixel_29 : decode cX6_pixel 29 = .ok (.iload_n 2, 1) := by decide +kernel
theorem dX6_pixel_30 : decode cX6_pixel 30 = .ok (.invokevirtual 195, 3) := by decide +kernel
theorem dX6_pixel_33 : decode cX6_pixel 33 = .ok (.ireturn, 1) := by decide +kernel
set_option maxHeartbeats 4000000 in
set_option maxRecDepth 100000 in
theorem c_X6_pixel (l : Launch) (E : gE) (g : Mem) (S : AS) (Bd : Nat) (hB : Bd < 90000000) (ho : OK S Bd) (hZ : MZ E g S) (xa xb : Int32) (zb : Nat) (hz : zb ≤ 1) : Mt l E yX6_pixel cX6_pixel 4 (some .int) 5 112 [rf E (0), .int (xa), .int (xb), .int (nI (zb))] g (pI (fun zz g' => zz = qPixel S xa xb zb ∧ MZ E g' S)) := by
  have hv := ho.v
  have hrc : rc S.r ≤ 6 := hv.1.2
  have hgc : gc S.r ≤ 4 := hv.2.1.2
  have hc4 := ho.c4
  have hkp1 := ho.2.2.1
  have hl60 : S.ln ≤ 60 := ho.2.2.2.2.2.1
  refine mt_go (own := RX6) (by decide) rfl (lo := [some (rf E (0)), some (.int (xa)), some (.int (xb)), some (.int (nI (zb)))]) rfl (Nat.le_of_ble_eq_true rfl) (fun X hC => ?_)
  obtain ⟨row, hi, sn, tx, C, P, hM, hR, hH, hS, hT⟩ := hZ
  have hK := hM.k
  refine y_iload_n hC dX6_pixel_0 (i := 1) rfl rfl ?_
  refine y_iload_n hC dX6_pixel_1 (i := 2) rfl rfl ?_
  refine y_callS hC mX6_isPixel kX6_192 dX6_pixel_2 (As := [.int (xa), .int (xb)]) (rest := []) (c_X6_isPixel l E g ((xa)) ((xb))) rfl rfl rfl (Nat.le_of_ble_eq_true rfl) ⟨Nat.le_of_ble_eq_true rfl, Nat.le_of_ble_eq_true rfl⟩ (pk_i ?_)
  rintro r_2 g_2 ⟨hr_2, hq_2⟩
  obtain rfl := hq_2.symm
  rw [hr_2]
  clear hr_2 r_2
  refine y_if_ne_b (tgt := 10) hC dX6_pixel_5 (by decide) (fun c_5 => ?_) (fun c_5 => ?_)
  · obtain ⟨p, hp, hpx⟩ := zN (m := 7) c_5.1
    subst hpx
    obtain ⟨q, hq, hqx⟩ := zN (m := 7) c_5.2
    subst hqx
    refine y_iload_n hC dX6_pixel_10 (i := 3) rfl rfl ?_
    refine y_if_eq_n (tgt := 27) hC dX6_pixel_11 (by decide) (by omega) (fun c_11 => ?_) (fun c_11 => ?_)
    · refine y_aload_n hC dX6_pixel_27 (i := 0) rfl rfl ?_
      refine y_iload_n hC dX6_pixel_28 (i := 1) rfl rfl ?_
      refine y_iload_n hC dX6_pixel_29 (i := 2) rfl rfl ?_
      refine y_callV hC mX6_pixelAt kX6_195 dX6_pixel_30 (b := 0) (As := [.int (nI (p)), .int (nI (q))]) (rest := []) (c_X6_pixelAt l E g row (hi, nI (S.c), sn, nI (S.kp)) C (tx, nI (S.ln)) P hM S.r Bd (by omega) hR hv p q (by omega) (by omega)) (by omega) hM.a0 rfl rfl rfl (Nat.le_of_ble_eq_true rfl) ⟨Nat.le_of_ble_eq_true rfl, Nat.le_of_ble_eq_true rfl⟩ (pk_i ?_)
      rintro r_30 g_30 ⟨hr_30, hq_30⟩
      obtain rfl := hq_30.symm
      rw [hr_30]
      clear hr_30 r_30
      have hpb_30 := (hv.2.2.2.2.2.2.1 (8 * p + q) (by omega)).2
      refine y_iret (hC := hC) (hd := dX6_pixel_33) (hq := ?_)
      have hqq : qPixel S (nI p) (nI q) zb = nI (px S.r (8 * p + q)) := by simp only [qPixel, nn_I (show p < 2147483648 by omega), nn_I (show q < 2147483648 by omega), if_pos c_5, if_pos c_11]
      rw [hqq]
      exact ⟨rfl, ⟨row, hi, sn, tx, C, P, hM, hR, hH, hS, hT⟩⟩
    · refine y_aload_n hC dX6_pixel_14 (i := 0) rfl rfl ?_
      refine y_aload_n hC dX6_pixel_15 (i := 0) rfl rfl ?_
      refine y_iload_n hC dX6_pixel_16 (i := 1) rfl rfl ?_
      refine y_iload_n hC dX6_pixel_17 (i := 2) rfl rfl ?_
      refine y_callV hC mX6_pixelAt kX6_195 dX6_pixel_18 (b := 0) (As := [.int (nI (p)), .int (nI (q))]) (rest := [rf E (0)]) (c_X6_pixelAt l E g row (hi, nI (S.c), sn, nI (S.kp)) C (tx, nI (S.ln)) P hM S.r Bd (by omega) hR hv p q (by omega) (by omega)) (by omega) hM.a0 rfl rfl rfl (Nat.le_of_ble_eq_true rfl) ⟨Nat.le_of_ble_eq_true rfl, Nat.le_of_ble_eq_true rfl⟩ (pk_i ?_)
      rintro r_18 g_18 ⟨hr_18, hq_18⟩
      obtain rfl := hq_18.symm
      rw [hr_18]
      clear hr_18 r_18
      have hpb_18 := (hv.2.2.2.2.2.2.1 (8 * p + q) (by omega)).2
      refine y_callV hC mX6_shownAt kX6_96 dX6_pixel_21 (b := 0) (As := [.int (nI (px S.r (8 * p + q)))]) (rest := []) (c_X6_shownAt l E g row (hi, nI (S.c), sn, nI (S.kp)) C (tx, nI (S.ln)) P hM S.r Bd (by omega) hR hv (px S.r (8 * p + q)) (by omega)) (by omega) hM.a0 rfl rfl rfl (Nat.le_of_ble_eq_true rfl) ⟨Nat.le_of_ble_eq_true rfl, Nat.le_of_ble_eq_true rfl⟩ (pk_i ?_)
      rintro r_21 g_21 ⟨hr_21, hq_21⟩
      obtain rfl := hq_21.symm
      rw [hr_21]
      clear hr_21 r_21
      refine y_goto (tgt := 33) hC dX6_pixel_24 (by decide) ?_
      refine y_iret (hC := hC) (hd := dX6_pixel_33) (hq := ?_)
      have hqq : qPixel S (nI p) (nI q) zb = shd S.r (px S.r (8 * p + q)) 0 := by simp only [qPixel, nn_I (show p < 2147483648 by omega), nn_I (show q < 2147483648 by omega), if_pos c_5, if_neg c_11]
      rw [hqq]
      exact ⟨rfl, ⟨row, hi, sn, tx, C, P, hM, hR, hH, hS, hT⟩⟩
  · refine y_iconst (v := (-1)) hC dX6_pixel_8 (by decide) ?_
    refine y_iret (hC := hC) (hd := dX6_pixel_9) (hq := ?_)
    have hqq : qPixel S xa xb zb = -1 := by simp only [qPixel, if_neg c_5]
    rw [hqq]
    exact ⟨rfl, ⟨row, hi, sn, tx, C, P, hM, hR, hH, hS, hT⟩⟩

