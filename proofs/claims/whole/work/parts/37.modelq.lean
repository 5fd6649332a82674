/-! ===== the model: a text read, a program carried out ===== -/
theorem ft_fail {s : Nat → Nat} {ln n i d : Nat} {due : Bool} (hi : i < ln) (h1 : ¬ (s i = 41 ∧ 0 < d ∧ due = false)) (h2 : ¬ (isBeg (s i) = true ∧ isAlw (s i) (s (i + 1)) = true)) : ft s ln (n + 1) i d due = some (if isBeg (s i) = true then i + 1 else i) := by
  rw [ft, if_pos hi, if_neg h1]
  by_cases q : isBeg (s i) = true
  · rw [if_neg (by simp [q]), if_pos (by simpa [q] using h2), if_pos q]
  · rw [if_pos (by simpa using q), if_neg q]
theorem isBeg_41 : isBeg 41 = false := by decide
theorem rep_beg {a : Nat} (h : 50 ≤ a ∧ a ≤ 57) : isRep a = true ∧ isBeg a = true ∧ isFor a = false := by
  have h1 : isRep a = true := decide_eq_true h
  exact ⟨h1, by unfold isBeg; rw [h1]; simp, decide_eq_false (by omega)⟩
theorem rep_alw {a b : Nat} (h : 50 ≤ a ∧ a ≤ 57) : isAlw a b = true ↔ b = 40 := by
  unfold isAlw
  rw [if_neg (by omega), (rep_beg h).2.2, if_neg (by decide), decide_eq_true_eq]
theorem dX6_isProgram_0 : decode cX6_isProgram 0 = .ok (.aload_n 0, 1) := by decide +kernel
theorem dX6_isProgram_1 : decode cX6_isProgram 1 = .ok (.iconst 0, 1) := by decide +kernel
theorem dX6_isProgram_2 : decode cX6_isProgram 2 = .ok (.putfield 143, 3) := by decide +kernel
theorem dX6_isProgram_5 : decode cX6_isProgram 5 = .ok (.aload_n 0, 1) := by decide +kernel
theorem dX6_isProgram_6 : decode cX6_isProgram 6 = .ok (.iconst 0, 1) := by decide +kernel
theorem dX6_isProgram_7 : decode cX6_isProgram 7 = .ok (.putfield 155, 3) := by decide +kernel
theorem dX6_isProgram_10 : decode cX6_isProgram 10 = .ok (.aload_n 0, 1) := by decide +kernel
theorem dX6_isProgram_11 : decode cX6_isProgram 11 = .ok (.getfield 28, 3) := by decide +kernel
theorem dX6_isProgram_14 : decode cX6_isProgram 14 = .ok (.iconst 0, 1) := by decide +kernel
theorem dX6_isProgram_15 : decode cX6_isProgram 15 = .ok (.iconst 0, 1) := by decide +kernel
theorem dX6_isProgram_16 : decode cX6_isProgram 16 = .ok (.bastore, 1) := by decide +kernel
theorem dX6_isProgram_17 : decode cX6_isProgram 17 = .ok (.aload_n 0, 1) := by decide +kernel
theorem dX6_isProgram_18 : decode cX6_isProgram 18 = .ok (.getfield 32, 3) := by decide +kernel
theorem dX6_isProgram_21 : decode cX6_isProgram 21 = .ok (.iconst 0, 1) := by decide +kernel
theorem dX6_isProgram_22 : decode cX6_isProgram 22 = .ok (.iconst 1, 1) := by decide +kernel
theorem dX6_isProgram_23 : decode cX6_isProgram 23 = .ok (.iastore, 1) := by decide +kernel
theorem dX6_isProgram_24 : decode cX6_isProgram 24 = .ok (.aload_n 0, 1) := by decide +kernel
theorem dX6_isProgram_25 : decode cX6_isProgram 25 = .ok (.iconst 0, 1) := by decide +kernel
theorem dX6_isProgram_26 : decode cX6_isProgram 26 = .ok (.putfield 152, 3) := by decide +kernel
theorem dX6_isProgram_29 : decode cX6_isProgram 29 = .ok (.aload_n 0, 1) := by decide +kernel
theorem dX6_isProgram_30 : decode cX6_isProgram 30 = .ok (.iconst 0, 1) := by decide +kernel
theorem dX6_isProgram_31 : decode cX6_isProgram 31 = .ok (.putfield 171, 3) := by decide +kernel
theorem dX6_isProgram_34 : decode cX6_isProgram 34 = .ok (.aload_n 0, 1) := by decide +kernel
theorem dX6_isProgram_35 : decode cX6_isProgram 35 = .ok (.bipush (-5), 2) := by decide +kernel
theorem dX6_isProgram_37 : decode cX6_isProgram 37 = .ok (.putfield 161, 3) := by decide +kernel
theorem dX6_isProgram_40 : decode cX6_isProgram 40 = .ok (.iconst 1, 1) := by decide +kernel
theorem dX6_isProgram_41 : decode cX6_isProgram 41 = .ok (.istore_n 1, 1) := by decide +kernel
theorem dX6_isProgram_42 : decode cX6_isProgram 42 = .ok (.iload_n 1, 1) := by decide +kernel
theorem dX6_isProgram_43 : decode cX6_isProgram 43 = .ok (.ifCond .eq 66, 3) := by decide +kernel
theorem dX6_isProgram_46 : decode cX6_isProgram 46 = .ok (.aload_n 0, 1) := by decide +kernel
theorem dX6_isProgram_47 : decode cX6_isProgram 47 = .ok (.getfield 143, 3) := by decide +kernel
theorem dX6_isProgram_50 : decode cX6_isProgram 50 = .ok (.aload_n 0, 1) := by decide +kernel
theorem dX6_isProgram_51 : decode cX6_isProgram 51 = .ok (.getfield 140, 3) := by decide +kernel
theorem dX6_isProgram_54 : decode cX6_isProgram 54 = .ok (.if_icmp .ge 55, 3) := by decide +kernel
theorem dX6_isProgram_57 : decode cX6_isProgram 57 = .ok (.aload_n 0, 1) := by decide +kernel
theorem dX6_isProgram_58 : decode cX6_isProgram 58 = .ok (.aload_n 0, 1) := by decide +kernel
theorem dX6_isProgram_59 : decode cX6_isProgram 59 = .ok (.getfield 143, 3) := by decide +kernel
theorem dX6_isProgram_62 : decode cX6_isProgram 62 = .ok (.bipush 50, 2) := by decide +kernel
theorem dX6_isProgram_64 : decode cX6_isProgram 64 = .ok (.bipush 57, 2) := by decide +kernel
theorem dX6_isProgram_66 : decode cX6_isProgram 66 = .ok (.invokevirtual 146, 3) := by decide +kernel
theorem dX6_isProgram_69 : decode cX6_isProgram 69 = .ok (.ifCond .eq 10, 3) := by decide +kernel
theorem dX6_isProgram_72 : decode cX6_isProgram 72 = .ok (.aload_n 0, 1) := by decide +kernel
theorem dX6_isProgram_73 : decode cX6_isProgram 73 = .ok (.invokevirtual 174, 3) := by decide +kernel
theorem dX6_isProgram_76 : decode cX6_isProgram 76 = .ok (.goto 29, 3) := by decide +kernel
theorem dX6_isProgram_79 : decode cX6_isProgram 79 = .ok (.aload_n 0, 1) := by decide +kernel
theorem dX6_isProgram_80 : decode cX6_isProgram 80 = .ok (.aload_n 0, 1) := by decide +kernel
theorem dX6_isProgram_81 : decode cX6_isProgram 81 = .ok (.getfield 143, 3) := by decide +kernel
theorem dX6_isProgram_84 : decode cX6_isProgram 84 = .ok (.bipush 41, 2) := by decide +kernel
theorem dX6_isProgram_86 : decode cX6_isProgram 86 = .ok (.bipush 41, 2) := by decide +kernel
theorem dX6_isProgram_88 : decode cX6_isProgram 88 = .ok (.invokevirtual 146, 3) := by decide +kernel
theorem dX6_isProgram_91 : decode cX6_isProgram 91 = .ok (.ifCond .eq 10, 3) := by decide +kernel
theorem dX6_isProgram_94 : decode cX6_isProgram 94 = .ok (.aload_n 0, 1) := by decide +kernel
theorem dX6_isProgram_95 : decode cX6_isProgram 95 = .ok (.invokevirtual 177, 3) := by decide +kernel
theorem dX6_isProgram_98 : decode cX6_isProgram 98 = .ok (.goto 7, 3) := by decide +kernel
theorem dX6_isProgram_101 : decode cX6_isProgram 101 = .ok (.aload_n 0, 1) := by decide +kernel
theorem dX6_isProgram_102 : decode cX6_isProgram 102 = .ok (.invokevirtual 180, 3) := by decide +kernel
theorem dX6_isProgram_105 : decode cX6_isProgram 105 = .ok (.istore_n 1, 1) := by decide +kernel
theorem dX6_isProgram_106 : decode cX6_isProgram 106 = .ok (.goto (-64), 3) := by decide +kernel
theorem dX6_isProgram_109 : decode cX6_isProgram 109 = .ok (.iload_n 1, 1) := by decide +kernel
theorem dX6_isProgram_110 : decode cX6_isProgram 110 = .ok (.ifCond .eq 23, 3) := by decide +kernel
theorem dX6_isProgram_113 : decode cX6_isProgram 113 = .ok (.aload_n 0, 1) := by decide +kernel
theorem dX6_isProgram_114 : decode cX6_isProgram 114 = .ok (.getfield 155, 3) := by decide +kernel
theorem dX6_isProgram_117 : decode cX6_isProgram 117 = .ok (.ifCond .ne 16, 3) := by decide +kernel
theorem dX6_isProgram_120 : decode cX6_isProgram 120 = .ok (.aload_n 0, 1) := by decide +kernel
theorem dX6_isProgram_121 : decode cX6_isProgram 121 = .ok (.getfield 28, 3) := by decide +kernel
theorem dX6_isProgram_124 : decode cX6_isProgram 124 = .ok (.iconst 0, 1) := by decide +kernel
theorem dX6_isProgram_125 : decode cX6_isProgram 125 = .ok (.baload, 1) := by decide +kernel
theorem dX6_isProgram_126 : decode cX6_isProgram 126 = .ok (.ifCond .eq 7, 3) := by decide +kernel
theorem dX6_isProgram_129 : decode cX6_isProgram 129 = .ok (.iconst 1, 1) := by decide +kernel
theorem dX6_isProgram_130 : decode cX6_isProgram 130 = .ok (.goto 4, 3) := by decide +kernel
theorem dX6_isProgram_133 : decode cX6_isProgram 133 = .ok (.iconst 0, 1) := by decide +kernel
theorem dX6_isProgram_134 : decode cX6_isProgram 134 = .ok (.ireturn, 1) := by decide +kernel
set_option maxHeartbeats 4000000 in
set_option maxRecDepth 100000 in
theorem c_X6_isProgram (l : Launch) (E : gE) (g : Mem) (row : Nat → Int32) (B : GB) (C : GC) (tx : Nat → Int32) (ln : Nat) (P : GP) (hM : MX E g row B C (tx, nI ln) P) (T : Nat → Nat) (hl60 : ln ≤ 60) (hT : ∀ k, k < ln → tx k = nI (T k)) (hTb : ∀ k, k < ln → T k < 65536) : Mt l E yX6_isProgram cX6_isProgram 2 (some .boolean) 5 108 [rf E (0)] g (pI (fun z g' => ∃ P2 : GP, MX E g' row B C (tx, nI ln) P2 ∧ z = bI ((ft (sgn ln T) ln 60 0 0 true).isNone = true) ∧ (∀ k, ft (sgn ln T) ln 60 0 0 true = some k → P2.1 = nI k) ∧ (ft (sgn ln T) ln 60 0 0 true = none → P2.2.2.2.2.2.1 = nI (cT (sgn ln T) ln 60 0 0 (fun _ => 1) 0 0).1 ∧ P2.2.2.2.2.2.2.1 = nI (cT (sgn ln T) ln 60 0 0 (fun _ => 1) 0 0).2 ∧ P2.2.2.2.2.2.2.2 = grI (hiN (sgn ln T) ln)))) := by
  have hK := hM.k
  refine mt_go (own := RX6) (by decide) rfl (lo := [some (rf E (0)), none]) rfl (Nat.le_of_ble_eq_true rfl) (fun X hC => ?_)
  have hsb : ∀ k, sgn ln T k < 65536 := fun k => by unfold sgn; split; exact hTb _ (by assumption); decide
  have hts : ∀ k, k < ln → tx k = nI (sgn ln T k) := fun k hk => by rw [hT k hk]; unfold sgn; rw [if_pos hk]
  refine y_aload_n hC dX6_isProgram_0 (i := 0) rfl rfl ?_
  refine y_iconst (v := nI 0) hC dX6_isProgram_1 (by decide) ?_
  refine y_put hC fpX6_143 dX6_isProgram_2 (k := 0) (by omega) hM.a0 (Nat.le_of_ble_eq_true rfl) (rfl) (rfl) (fs' := [rf E (1), rf E (2), .int (B.2.1), rf E (3), .int (B.2.2.2), rf E (4), rf E (5), rf E (6), .int (nI (ln)), .int (nI (0)), .int (P.2.1), rf E (7), rf E (8), rf E (9), .int (P.2.2.2.2.2.1), .int (P.2.2.2.2.2.2.1), .int (P.2.2.2.2.2.2.2), rf E (10), rf E (11)]) rfl ?_
  have hM_2 : MX E (va_up g (0) (oB 6 [rf E (1), rf E (2), .int (B.2.1), rf E (3), .int (B.2.2.2), rf E (4), rf E (5), rf E (6), .int (nI (ln)), .int (nI (0)), .int (P.2.1), rf E (7), rf E (8), rf E (9), .int (P.2.2.2.2.2.1), .int (P.2.2.2.2.2.2.1), .int (P.2.2.2.2.2.2.2), rf E (10), rf E (11)])) row B C (tx, nI (ln)) (nI (0), (P.2.1), P.2.2.1, P.2.2.2.1, P.2.2.2.2.1, (P.2.2.2.2.2.1), (P.2.2.2.2.2.2.1), (P.2.2.2.2.2.2.2)) := hM.u0 ((B.2.1)) ((B.2.2.2)) (nI (ln)) (nI (0)) ((P.2.1)) ((P.2.2.2.2.2.1)) ((P.2.2.2.2.2.2.1)) ((P.2.2.2.2.2.2.2))
  generalize (va_up g (0) (oB 6 [rf E (1), rf E (2), .int (B.2.1), rf E (3), .int (B.2.2.2), rf E (4), rf E (5), rf E (6), .int (nI (ln)), .int (nI (0)), .int (P.2.1), rf E (7), rf E (8), rf E (9), .int (P.2.2.2.2.2.1), .int (P.2.2.2.2.2.2.1), .int (P.2.2.2.2.2.2.2), rf E (10), rf E (11)])) = g_2 at hM_2 ⊢
  refine y_aload_n hC dX6_isProgram_5 (i := 0) rfl rfl ?_
  refine y_iconst (v := nI 0) hC dX6_isProgram_6 (by decide) ?_
  refine y_put hC fpX6_155 dX6_isProgram_7 (k := 0) (by omega) hM_2.a0 (Nat.le_of_ble_eq_true rfl) (rfl) (rfl) (fs' := [rf E (1), rf E (2), .int (B.2.1), rf E (3), .int (B.2.2.2), rf E (4), rf E (5), rf E (6), .int (nI (ln)), .int (nI (0)), .int (nI (0)), rf E (7), rf E (8), rf E (9), .int (P.2.2.2.2.2.1), .int (P.2.2.2.2.2.2.1), .int (P.2.2.2.2.2.2.2), rf E (10), rf E (11)]) rfl ?_
  have hM_7 : MX E (va_up g_2 (0) (oB 6 [rf E (1), rf E (2), .int (B.2.1), rf E (3), .int (B.2.2.2), rf E (4), rf E (5), rf E (6), .int (nI (ln)), .int (nI (0)), .int (nI (0)), rf E (7), rf E (8), rf E (9), .int (P.2.2.2.2.2.1), .int (P.2.2.2.2.2.2.1), .int (P.2.2.2.2.2.2.2), rf E (10), rf E (11)])) row B C (tx, nI (ln)) (nI (0), nI (0), P.2.2.1, P.2.2.2.1, P.2.2.2.2.1, (P.2.2.2.2.2.1), (P.2.2.2.2.2.2.1), (P.2.2.2.2.2.2.2)) := hM_2.u0 ((B.2.1)) ((B.2.2.2)) (nI (ln)) (nI (0)) (nI (0)) ((P.2.2.2.2.2.1)) ((P.2.2.2.2.2.2.1)) ((P.2.2.2.2.2.2.2))
  generalize (va_up g_2 (0) (oB 6 [rf E (1), rf E (2), .int (B.2.1), rf E (3), .int (B.2.2.2), rf E (4), rf E (5), rf E (6), .int (nI (ln)), .int (nI (0)), .int (nI (0)), rf E (7), rf E (8), rf E (9), .int (P.2.2.2.2.2.1), .int (P.2.2.2.2.2.2.1), .int (P.2.2.2.2.2.2.2), rf E (10), rf E (11)])) = g_7 at hM_7 ⊢
  refine y_aload_n hC dX6_isProgram_10 (i := 0) rfl rfl ?_
  refine y_get hC fX6_28 dX6_isProgram_11 (k := 0) (by omega) hM_7.a0 rfl ?_
  refine y_iconst (v := nI 0) hC dX6_isProgram_14 (by decide) ?_
  refine y_iconst (v := nI 0) hC dX6_isProgram_15 (by decide) ?_
  refine y_zast hC dX6_isProgram_16 (k := 7) (j := 0) (by omega) hM_7.a7 (rfl) (by omega) (by decide) (by decide) ?_
  have hM_16 : MX E (va_up g_7 (7) (aI E 2 32 (upd P.2.2.1 (0) (nI (0))))) row B C (tx, nI (ln)) (nI (0), nI (0), (upd P.2.2.1 (0) (nI (0))), P.2.2.2.1, P.2.2.2.2.1, (P.2.2.2.2.2.1), (P.2.2.2.2.2.2.1), (P.2.2.2.2.2.2.2)) := hM_7.u7 _
  generalize (va_up g_7 (7) (aI E 2 32 (upd P.2.2.1 (0) (nI (0))))) = g_16 at hM_16 ⊢
  refine y_aload_n hC dX6_isProgram_17 (i := 0) rfl rfl ?_
  refine y_get hC fX6_32 dX6_isProgram_18 (k := 0) (by omega) hM_16.a0 rfl ?_
  refine y_iconst (v := nI 0) hC dX6_isProgram_21 (by decide) ?_
  refine y_iconst (v := nI 1) hC dX6_isProgram_22 (by decide) ?_
  refine y_iast hC dX6_isProgram_23 (k := 8) (j := 0) (by omega) hM_16.a8 (rfl) (by omega) (by decide) ?_
  have hM_23 : MX E (va_up g_16 (8) (aI E 0 32 (upd P.2.2.2.1 (0) (nI (1))))) row B C (tx, nI (ln)) (nI (0), nI (0), (upd P.2.2.1 (0) (nI (0))), (upd P.2.2.2.1 (0) (nI (1))), P.2.2.2.2.1, (P.2.2.2.2.2.1), (P.2.2.2.2.2.2.1), (P.2.2.2.2.2.2.2)) := hM_16.u8 _
  generalize (va_up g_16 (8) (aI E 0 32 (upd P.2.2.2.1 (0) (nI (1))))) = g_23 at hM_23 ⊢
  refine y_aload_n hC dX6_isProgram_24 (i := 0) rfl rfl ?_
  refine y_iconst (v := nI 0) hC dX6_isProgram_25 (by decide) ?_
  refine y_put hC fpX6_152 dX6_isProgram_26 (k := 0) (by omega) hM_23.a0 (Nat.le_of_ble_eq_true rfl) (rfl) (rfl) (fs' := [rf E (1), rf E (2), .int (B.2.1), rf E (3), .int (B.2.2.2), rf E (4), rf E (5), rf E (6), .int (nI (ln)), .int (nI (0)), .int (nI (0)), rf E (7), rf E (8), rf E (9), .int (nI (0)), .int (P.2.2.2.2.2.2.1), .int (P.2.2.2.2.2.2.2), rf E (10), rf E (11)]) rfl ?_
  have hM_26 : MX E (va_up g_23 (0) (oB 6 [rf E (1), rf E (2), .int (B.2.1), rf E (3), .int (B.2.2.2), rf E (4), rf E (5), rf E (6), .int (nI (ln)), .int (nI (0)), .int (nI (0)), rf E (7), rf E (8), rf E (9), .int (nI (0)), .int (P.2.2.2.2.2.2.1), .int (P.2.2.2.2.2.2.2), rf E (10), rf E (11)])) row B C (tx, nI (ln)) (nI (0), nI (0), (upd P.2.2.1 (0) (nI (0))), (upd P.2.2.2.1 (0) (nI (1))), P.2.2.2.2.1, nI (0), (P.2.2.2.2.2.2.1), (P.2.2.2.2.2.2.2)) := hM_23.u0 ((B.2.1)) ((B.2.2.2)) (nI (ln)) (nI (0)) (nI (0)) (nI (0)) ((P.2.2.2.2.2.2.1)) ((P.2.2.2.2.2.2.2))
  generalize (va_up g_23 (0) (oB 6 [rf E (1), rf E (2), .int (B.2.1), rf E (3), .int (B.2.2.2), rf E (4), rf E (5), rf E (6), .int (nI (ln)), .int (nI (0)), .int (nI (0)), rf E (7), rf E (8), rf E (9), .int (nI (0)), .int (P.2.2.2.2.2.2.1), .int (P.2.2.2.2.2.2.2), rf E (10), rf E (11)])) = g_26 at hM_26 ⊢
  refine y_aload_n hC dX6_isProgram_29 (i := 0) rfl rfl ?_
  refine y_iconst (v := nI 0) hC dX6_isProgram_30 (by decide) ?_
  refine y_put hC fpX6_171 dX6_isProgram_31 (k := 0) (by omega) hM_26.a0 (Nat.le_of_ble_eq_true rfl) (rfl) (rfl) (fs' := [rf E (1), rf E (2), .int (B.2.1), rf E (3), .int (B.2.2.2), rf E (4), rf E (5), rf E (6), .int (nI (ln)), .int (nI (0)), .int (nI (0)), rf E (7), rf E (8), rf E (9), .int (nI (0)), .int (nI (0)), .int (P.2.2.2.2.2.2.2), rf E (10), rf E (11)]) rfl ?_
  have hM_31 : MX E (va_up g_26 (0) (oB 6 [rf E (1), rf E (2), .int (B.2.1), rf E (3), .int (B.2.2.2), rf E (4), rf E (5), rf E (6), .int (nI (ln)), .int (nI (0)), .int (nI (0)), rf E (7), rf E (8), rf E (9), .int (nI (0)), .int (nI (0)), .int (P.2.2.2.2.2.2.2), rf E (10), rf E (11)])) row B C (tx, nI (ln)) (nI (0), nI (0), (upd P.2.2.1 (0) (nI (0))), (upd P.2.2.2.1 (0) (nI (1))), P.2.2.2.2.1, nI (0), nI (0), (P.2.2.2.2.2.2.2)) := hM_26.u0 ((B.2.1)) ((B.2.2.2)) (nI (ln)) (nI (0)) (nI (0)) (nI (0)) (nI (0)) ((P.2.2.2.2.2.2.2))
  generalize (va_up g_26 (0) (oB 6 [rf E (1), rf E (2), .int (B.2.1), rf E (3), .int (B.2.2.2), rf E (4), rf E (5), rf E (6), .int (nI (ln)), .int (nI (0)), .int (nI (0)), rf E (7), rf E (8), rf E (9), .int (nI (0)), .int (nI (0)), .int (P.2.2.2.2.2.2.2), rf E (10), rf E (11)])) = g_31 at hM_31 ⊢
  refine y_aload_n hC dX6_isProgram_34 (i := 0) rfl rfl ?_
  refine y_bipush (v := (-5)) hC dX6_isProgram_35 (by decide) ?_
  refine y_top (y := (grI 0)) ((rfl : (-5 : Int32) = grI 0)) ?_
  refine y_put hC fpX6_161 dX6_isProgram_37 (k := 0) (by omega) hM_31.a0 (Nat.le_of_ble_eq_true rfl) (rfl) (rfl) (fs' := [rf E (1), rf E (2), .int (B.2.1), rf E (3), .int (B.2.2.2), rf E (4), rf E (5), rf E (6), .int (nI (ln)), .int (nI (0)), .int (nI (0)), rf E (7), rf E (8), rf E (9), .int (nI (0)), .int (nI (0)), .int (grI 0), rf E (10), rf E (11)]) rfl ?_
  have hM_37 : MX E (va_up g_31 (0) (oB 6 [rf E (1), rf E (2), .int (B.2.1), rf E (3), .int (B.2.2.2), rf E (4), rf E (5), rf E (6), .int (nI (ln)), .int (nI (0)), .int (nI (0)), rf E (7), rf E (8), rf E (9), .int (nI (0)), .int (nI (0)), .int (grI 0), rf E (10), rf E (11)])) row B C (tx, nI (ln)) (nI (0), nI (0), (upd P.2.2.1 (0) (nI (0))), (upd P.2.2.2.1 (0) (nI (1))), P.2.2.2.2.1, nI (0), nI (0), (grI 0)) := hM_31.u0 ((B.2.1)) ((B.2.2.2)) (nI (ln)) (nI (0)) (nI (0)) (nI (0)) (nI (0)) ((grI 0))
  generalize (va_up g_31 (0) (oB 6 [rf E (1), rf E (2), .int (B.2.1), rf E (3), .int (B.2.2.2), rf E (4), rf E (5), rf E (6), .int (nI (ln)), .int (nI (0)), .int (nI (0)), rf E (7), rf E (8), rf E (9), .int (nI (0)), .int (nI (0)), .int (grI 0), rf E (10), rf E (11)])) = g_37 at hM_37 ⊢
  refine y_iconst (v := nI 1) hC dX6_isProgram_40 (by decide) ?_
  refine y_top (y := bI (true = true)) (by decide) ?_
  refine y_istore_n hC dX6_isProgram_41 (i := 1) rfl (Nat.le_of_ble_eq_true rfl) rfl (lo' := [some (rf E (0)), some (.int (bI (true = true)))]) rfl ?_
  have L_42 : ∀ (m : Nat) (go : Bool) (i d n tk it : Nat) (due : Bool) (tf : Nat → Nat) (hb tm : Nat → Int32) (aT aJ gr : Int32) (g1 : Mem), (hm : (if go = true then ln - i + 1 else 0) < m) → (hM1 : MX E g1 row B C (tx, nI ln) (nI i, nI d, hb, tm, P.2.2.2.2.1, aT, aJ, gr)) → (hF : go = false → ft (sgn ln T) ln 60 0 0 true = some i) → (hG : go = true → aT = nI tk ∧ aJ = nI it ∧ gr = grI (hiN (sgn ln T) i) ∧ hb d = bI (due = false) ∧ (∀ j, j ≤ d → tm j = nI (tf j) ∧ tf j ≤ 5001) ∧ tk ≤ 5001 ∧ it ≤ 5001 ∧ 2 * d ≤ i ∧ i ≤ ln ∧ ln - i ≤ n ∧ ft (sgn ln T) ln n i d due = ft (sgn ln T) ln 60 0 0 true ∧ cT (sgn ln T) ln n i d tf tk it = cT (sgn ln T) ln 60 0 0 (fun _ => 1) 0 0 ∧ hiN (sgn ln T) i ≤ 10) → (hi61 : i ≤ 61) → Y l E X (pI (fun z g' => ∃ P2 : GP, MX E g' row B C (tx, nI ln) P2 ∧ z = bI ((ft (sgn ln T) ln 60 0 0 true).isNone = true) ∧ (∀ k, ft (sgn ln T) ln 60 0 0 true = some k → P2.1 = nI k) ∧ (ft (sgn ln T) ln 60 0 0 true = none → P2.2.2.2.2.2.1 = nI (cT (sgn ln T) ln 60 0 0 (fun _ => 1) 0 0).1 ∧ P2.2.2.2.2.2.2.1 = nI (cT (sgn ln T) ln 60 0 0 (fun _ => 1) 0 0).2 ∧ P2.2.2.2.2.2.2.2 = grI (hiN (sgn ln T) ln)))) 42 [some (rf E (0)), some (.int (bI (go = true)))] [] g1 := by
    intro m
    induction m with
    | zero => intro go i d n tk it due tf hb tm aT aJ gr g1 hm hM1 hF hG hi61; exact absurd hm (Nat.not_lt_zero _)
    | succ m ih_42 =>
      intro go i d n tk it due tf hb tm aT aJ gr g1 hm hM1 hF hG hi61
      refine y_iload_n hC dX6_isProgram_42 (i := 1) rfl rfl ?_
      refine y_if_eq_b (tgt := 109) hC dX6_isProgram_43 (by decide) (fun c_43 => ?_) (fun c_43 => ?_)
      · refine y_iload_n hC dX6_isProgram_109 (i := 1) rfl rfl ?_
        refine y_if_eq_b (tgt := 133) hC dX6_isProgram_110 (by decide) (fun c_110 => ?_) (fun c_110 => ?_)
        · refine y_iconst (v := nI 0) hC dX6_isProgram_133 (by decide) ?_
          refine y_zret (hrt := rfl) (hn := rfl) (hC := hC) (hd := dX6_isProgram_134) (hq := ?_)
          have hfb : go = false := by simpa using c_43
          have hF2 := hF hfb
          exact ⟨_, hM1, (by rw [hF2]; exact (bI_f (fun z => absurd (show false = true from z) (by decide))).symm), fun k hk => (by rw [hF2] at hk; cases hk; rfl), fun q => (by rw [hF2] at q; cases q)⟩
        · exact absurd c_110 c_43
      · obtain ⟨haT, haJ, hgr, hhb, hTm, htk, hit, hd2, hil, hn, hft, hct, hh10⟩ := hG c_43
        subst haT
        subst haJ
        subst hgr
        refine y_aload_n hC dX6_isProgram_46 (i := 0) rfl rfl ?_
        refine y_get hC fX6_143 dX6_isProgram_47 (k := 0) (by omega) hM1.a0 rfl ?_
        refine y_aload_n hC dX6_isProgram_50 (i := 0) rfl rfl ?_
        refine y_get hC fX6_140 dX6_isProgram_51 (k := 0) (by omega) hM1.a0 rfl ?_
        refine y_icmp_ge_n (tgt := 109) hC dX6_isProgram_54 (by decide) (by omega) (by omega) (fun c_54 => ?_) (fun c_54 => ?_)
        · refine y_iload_n hC dX6_isProgram_109 (i := 1) rfl rfl ?_
          refine y_if_eq_b (tgt := 133) hC dX6_isProgram_110 (by decide) (fun c_110 => ?_) (fun c_110 => ?_)
          · exact absurd c_43 c_110
          · refine y_aload_n hC dX6_isProgram_113 (i := 0) rfl rfl ?_
            refine y_get hC fX6_155 dX6_isProgram_114 (k := 0) (by omega) hM1.a0 rfl ?_
            refine y_if_ne_n (tgt := 133) hC dX6_isProgram_117 (by decide) (by omega) (fun c_117 => ?_) (fun c_117 => ?_)
            · refine y_iconst (v := nI 0) hC dX6_isProgram_133 (by decide) ?_
              refine y_zret (hrt := rfl) (hn := rfl) (hC := hC) (hd := dX6_isProgram_134) (hq := ?_)
              have hil2 : i = ln := by omega
              have hfe : ft (sgn ln T) ln 60 0 0 true = if due = true ∨ 0 < d then some ln else none := by rw [← hft]; exact ft_end (by omega)
              have hce : cT (sgn ln T) ln 60 0 0 (fun _ => 1) 0 0 = (tk, it) := by rw [← hct]; exact cT_end (by omega)
              rw [if_pos (Or.inr (by omega))] at hfe
              exact ⟨_, hM1, (by rw [hfe]; exact (bI_f (fun z => absurd (show false = true from z) (by decide))).symm), fun k hk => (by rw [hfe] at hk; cases hk; rw [← hil2]), fun q => (by rw [hfe] at q; cases q)⟩
            · refine y_aload_n hC dX6_isProgram_120 (i := 0) rfl rfl ?_
              refine y_get hC fX6_28 dX6_isProgram_121 (k := 0) (by omega) hM1.a0 rfl ?_
              refine y_iconst (v := nI 0) hC dX6_isProgram_124 (by decide) ?_
              have hd0 : d = 0 := by omega
              have hhb0 : hb 0 = bI (due = false) := by rw [← hhb, hd0]
              refine y_zald hC dX6_isProgram_125 (k := 7) (j := 0) (by omega) hM1.a7 (rfl) (by omega) (by decide) ?_
              refine y_top (y := bI (due = false)) (hhb0) ?_
              refine y_if_eq_b (tgt := 133) hC dX6_isProgram_126 (by decide) (fun c_126 => ?_) (fun c_126 => ?_)
              · refine y_iconst (v := nI 0) hC dX6_isProgram_133 (by decide) ?_
                refine y_zret (hrt := rfl) (hn := rfl) (hC := hC) (hd := dX6_isProgram_134) (hq := ?_)
                have hil2 : i = ln := by omega
                have hfe : ft (sgn ln T) ln 60 0 0 true = if due = true ∨ 0 < d then some ln else none := by rw [← hft]; exact ft_end (by omega)
                have hce : cT (sgn ln T) ln 60 0 0 (fun _ => 1) 0 0 = (tk, it) := by rw [← hct]; exact cT_end (by omega)
                rw [if_pos (Or.inl (by simpa using c_126))] at hfe
                exact ⟨_, hM1, (by rw [hfe]; exact (bI_f (fun z => absurd (show false = true from z) (by decide))).symm), fun k hk => (by rw [hfe] at hk; cases hk; rw [← hil2]), fun q => (by rw [hfe] at q; cases q)⟩
              · refine y_iconst (v := nI 1) hC dX6_isProgram_129 (by decide) ?_
                refine y_goto (tgt := 134) hC dX6_isProgram_130 (by decide) ?_
                refine y_zret (hrt := rfl) (hn := rfl) (hC := hC) (hd := dX6_isProgram_134) (hq := ?_)
                have hil2 : i = ln := by omega
                have hfe : ft (sgn ln T) ln 60 0 0 true = if due = true ∨ 0 < d then some ln else none := by rw [← hft]; exact ft_end (by omega)
                have hce : cT (sgn ln T) ln 60 0 0 (fun _ => 1) 0 0 = (tk, it) := by rw [← hct]; exact cT_end (by omega)
                rw [if_neg (by rw [c_126]; rintro (q | q); cases q; omega)] at hfe
                exact ⟨_, hM1, (by rw [hfe]; exact (bI_t rfl).symm), fun k hk => (by rw [hfe] at hk; cases hk), fun _ => ⟨(by rw [hce]), (by rw [hce]), (by rw [← hil2])⟩⟩
        · have hlt : i < ln := by omega
          obtain ⟨n, rfl⟩ : ∃ m, n = m + 1 := ⟨n - 1, by omega⟩
          have hmm : ln - i < m := by rw [if_pos c_43] at hm; omega
          refine y_aload_n hC dX6_isProgram_57 (i := 0) rfl rfl ?_
          refine y_aload_n hC dX6_isProgram_58 (i := 0) rfl rfl ?_
          refine y_get hC fX6_143 dX6_isProgram_59 (k := 0) (by omega) hM1.a0 rfl ?_
          refine y_bipush (v := nI 50) hC dX6_isProgram_62 (by decide) ?_
          refine y_bipush (v := nI 57) hC dX6_isProgram_64 (by decide) ?_
          refine y_callV hC mX6_isAt kX6_146 dX6_isProgram_66 (b := 0) (As := [.int (nI (i)), .int (nI (50)), .int (nI (57))]) (rest := []) (c_X6_isAt l E g1 row B C tx ln (i) (d) (hb) (tm) (P.2.2.2.2.1) (nI (tk)) (nI (it)) ((grI (hiN (sgn ln T) i))) hM1 T hl60 hT hTb (i) 50 57 (by omega) (by decide) (by decide) (by decide)) (by omega) hM1.a0 rfl rfl rfl (Nat.le_of_ble_eq_true rfl) ⟨Nat.le_of_ble_eq_true rfl, Nat.le_of_ble_eq_true rfl⟩ (pk_i ?_)
          rintro r_66 g_66 ⟨hr_66, hq_66⟩
          obtain rfl := hq_66.symm
          rw [hr_66]
          clear hr_66 r_66
          refine y_if_eq_b (tgt := 79) hC dX6_isProgram_69 (by decide) (fun c_69 => ?_) (fun c_69 => ?_)
          · refine y_aload_n hC dX6_isProgram_79 (i := 0) rfl rfl ?_
            refine y_aload_n hC dX6_isProgram_80 (i := 0) rfl rfl ?_
            refine y_get hC fX6_143 dX6_isProgram_81 (k := 0) (by omega) hM1.a0 rfl ?_
            refine y_bipush (v := nI 41) hC dX6_isProgram_84 (by decide) ?_
            refine y_bipush (v := nI 41) hC dX6_isProgram_86 (by decide) ?_
            refine y_callV hC mX6_isAt kX6_146 dX6_isProgram_88 (b := 0) (As := [.int (nI (i)), .int (nI (41)), .int (nI (41))]) (rest := []) (c_X6_isAt l E g1 row B C tx ln (i) (d) (hb) (tm) (P.2.2.2.2.1) (nI (tk)) (nI (it)) ((grI (hiN (sgn ln T) i))) hM1 T hl60 hT hTb (i) 41 41 (by omega) (by decide) (by decide) (by decide)) (by omega) hM1.a0 rfl rfl rfl (Nat.le_of_ble_eq_true rfl) ⟨Nat.le_of_ble_eq_true rfl, Nat.le_of_ble_eq_true rfl⟩ (pk_i ?_)
            rintro r_88 g_88 ⟨hr_88, hq_88⟩
            obtain rfl := hq_88.symm
            rw [hr_88]
            clear hr_88 r_88
            refine y_if_eq_b (tgt := 101) hC dX6_isProgram_91 (by decide) (fun c_91 => ?_) (fun c_91 => ?_)
            · refine y_aload_n hC dX6_isProgram_101 (i := 0) rfl rfl ?_
              refine y_callV hC mX6_readItem kX6_180 dX6_isProgram_102 (b := 0) (As := []) (rest := []) (c_X6_readItem l E g1 row B C tx ln (i) (d) (hb) (tm) (P.2.2.2.2.1) (nI (tk)) (nI (it)) ((grI (hiN (sgn ln T) i))) hM1 T hl60 hT hTb tk it (tf d) (hiN (sgn ln T) i) hlt htk hit (hTm d (Nat.le_refl _)).2 hh10 (by omega) rfl rfl rfl (hTm d (Nat.le_refl _)).1 c_69) (by omega) hM1.a0 rfl rfl rfl (Nat.le_of_ble_eq_true rfl) ⟨Nat.le_of_ble_eq_true rfl, Nat.le_of_ble_eq_true rfl⟩ (pk_i ?_)
              rintro r_102 g_102 h102
              obtain ⟨ok, i2, aT2, gr2, hz, hM2, ho1, ho2⟩ := h102
              rw [hz]
              refine y_istore_n hC dX6_isProgram_105 (i := 1) rfl (Nat.le_of_ble_eq_true rfl) rfl (lo' := [some (rf E (0)), some (.int (bI (ok = true)))]) rfl ?_
              refine y_goto (tgt := 42) hC dX6_isProgram_106 (by decide) ?_
              have h41 : ¬ sgn ln T i = 41 := by omega
              have hnr : isRep (sgn ln T i) = false := decide_eq_false c_69
              have hi61 : i2 ≤ 61 := by
                cases ok with
                | true => rw [(ho1 rfl).2.1]; have := (bhd_le (s := sgn ln T) (i := i) sz hlt (Or.inr (by have := tok (s := sgn ln T) (i := i) (by simp [(ho1 rfl).1.1]) (by simp [(ho1 rfl).1.2]); omega))).2.1; omega
                | false => rw [(ho2 rfl).2]; split <;> omega
              exact ih_42 ok i2 d n (min (tk + tf d * (if sgn ln T i = 116 then nmb (sgn ln T) (i + 1) else 0)) 5001) (min (it + tf d) 5001) false tf (upd hb d (nI 1)) tm _ _ _ g_102 (by
                  cases ok with
                  | true => rw [if_pos rfl, (ho1 rfl).2.1]; have := bhd_gt (sgn ln T) i; omega
                  | false => rw [if_neg (by decide)]; omega) hM2 (fun q => by
                  rw [← hft, ft_fail hlt (fun z => h41 z.1) (ho2 q).1, (ho2 q).2]) (fun q => by
                  obtain ⟨o1, o2, o3, o4⟩ := ho1 q
                  have htk2 := tok (s := sgn ln T) (i := i) (by simp [o1.1]) (by simp [o1.2])
                  have hbl := bhd_le (s := sgn ln T) (i := i) sz hlt (Or.inr (by omega))
                  have hst := ft_step (s := sgn ln T) (ln := ln) (n := n) (i := i) (d := d) (due := due) hlt (fun z => h41 z.1) o1.1 o1.2
                  rw [hnr, if_neg (by decide), hft] at hst
                  refine ⟨o3, rfl, ?_, pk_us, hTm, Nat.min_le_right _ _, Nat.min_le_right _ _, by omega, by omega, by omega, by rw [o2]; exact hst.symm, ?_, ?_⟩
                  · rw [o4, o2, hiN_bhd (by simp [o1.1]) (by simp [o1.2])]
                  · rw [← hct, cT, if_pos hlt, if_neg h41, hnr, if_neg Bool.false_ne_true, o2]
                  · rw [o2, hiN_bhd (by simp [o1.1]) (by simp [o1.2])]; split <;> omega) hi61
            · refine y_aload_n hC dX6_isProgram_94 (i := 0) rfl rfl ?_
              refine y_callV hC mX6_readEnd kX6_177 dX6_isProgram_95 (b := 0) (As := []) (rest := []) (c_X6_readEnd l E g1 row B C tx ln (i) (d) (hb) (tm) (P.2.2.2.2.1) (nI (tk)) (nI (it)) ((grI (hiN (sgn ln T) i))) hM1 T hl60 hT hTb due hlt (by omega) hhb) (by omega) hM1.a0 rfl rfl rfl (Nat.le_of_ble_eq_true rfl) ⟨Nat.le_of_ble_eq_true rfl, Nat.le_of_ble_eq_true rfl⟩ (pk_i ?_)
              rintro r_95 g_95 h95
              rcases h95 with ⟨hc1, hz, hM2⟩ | ⟨hc1, hz, hM2⟩
              · rw [hz]
                refine y_top (y := bI (true = true)) (by decide) ?_
                refine y_goto (tgt := 105) hC dX6_isProgram_98 (by decide) ?_
                refine y_istore_n hC dX6_isProgram_105 (i := 1) rfl (Nat.le_of_ble_eq_true rfl) rfl (lo' := [some (rf E (0)), some (.int (bI (true = true)))]) rfl ?_
                refine y_goto (tgt := 42) hC dX6_isProgram_106 (by decide) ?_
                have h41 : sgn ln T i = 41 := by omega
                have hst : ft (sgn ln T) ln 60 0 0 true = ft (sgn ln T) ln n (i + 1) (d - 1) false := by rw [← hft, ft, if_pos hlt, if_pos ⟨h41, hc1⟩]
                have hc2 : cT (sgn ln T) ln n (i + 1) (d - 1) tf tk it = cT (sgn ln T) ln 60 0 0 (fun _ => 1) 0 0 := by
                  rw [← hct, cT, if_pos hlt, if_pos h41, bhd_1 h41]
                exact ih_42 true (i + 1) (d - 1) n tk it false tf (upd hb (d - 1) (nI 1)) tm _ _ _ g_95 (by rw [if_pos rfl]; omega) hM2 (fun q => (by cases q)) (fun _ => ⟨rfl, rfl, by rw [hiN_b1 h41], pk_us, fun j hj => hTm j (by omega), htk, hit, by omega, by omega, by omega, hst.symm, hc2, by rw [hiN_b1 h41]; exact hh10⟩) (by omega)
              · rw [hz]
                refine y_top (y := bI (false = true)) (by decide) ?_
                refine y_goto (tgt := 105) hC dX6_isProgram_98 (by decide) ?_
                refine y_istore_n hC dX6_isProgram_105 (i := 1) rfl (Nat.le_of_ble_eq_true rfl) rfl (lo' := [some (rf E (0)), some (.int (bI (false = true)))]) rfl ?_
                refine y_goto (tgt := 42) hC dX6_isProgram_106 (by decide) ?_
                have h41 : sgn ln T i = 41 := by omega
                have hff := ft_fail (s := sgn ln T) (n := n) (due := due) (d := d) hlt (fun q => hc1 q.2) (fun q => by rw [h41, isBeg_41] at q; exact absurd q.1 (by decide))
                rw [hft, h41, isBeg_41, if_neg (by decide)] at hff
                exact ih_42 false i d n tk it due tf hb tm _ _ _ g_95 (by rw [if_neg (by decide)]; omega) hM2 (fun _ => hff) (fun q => (by cases q)) (by omega)
          · refine y_aload_n hC dX6_isProgram_72 (i := 0) rfl rfl ?_
            refine y_callV hC mX6_readRepeat kX6_174 dX6_isProgram_73 (b := 0) (As := []) (rest := []) (c_X6_readRepeat l E g1 row B C tx ln (i) (d) (hb) (tm) (P.2.2.2.2.1) (nI (tk)) (nI (it)) ((grI (hiN (sgn ln T) i))) hM1 T hl60 hT hTb (tf d) hlt (hTm d (Nat.le_refl _)).2 (by omega) (hTm d (Nat.le_refl _)).1 (by omega) (by omega)) (by omega) hM1.a0 rfl rfl rfl (Nat.le_of_ble_eq_true rfl) ⟨Nat.le_of_ble_eq_true rfl, Nat.le_of_ble_eq_true rfl⟩ (pk_i ?_)
            rintro r_73 g_73 h73
            rcases h73 with ⟨hc1, hz, hM2⟩ | ⟨hc1, hz, hM2⟩
            · rw [hz]
              refine y_top (y := bI (true = true)) (by decide) ?_
              refine y_goto (tgt := 105) hC dX6_isProgram_76 (by decide) ?_
              refine y_istore_n hC dX6_isProgram_105 (i := 1) rfl (Nat.le_of_ble_eq_true rfl) rfl (lo' := [some (rf E (0)), some (.int (bI (true = true)))]) rfl ?_
              refine y_goto (tgt := 42) hC dX6_isProgram_106 (by decide) ?_
              have hR3 := rep_beg c_69
              have hA3 := (rep_alw (b := sgn ln T (i + 1)) c_69).mpr hc1
              have hb2 : bhd (sgn ln T) i = i + 2 := bhd_2 (by omega) (by omega)
              have hhi := hiN_bhd (s := sgn ln T) (i := i) (by simp [hR3.2.1]) (by simp [hA3])
              rw [hR3.2.2, hb2] at hhi
              have hst := ft_step (s := sgn ln T) (ln := ln) (n := n) (i := i) (d := d) (due := due) hlt (by omega) hR3.2.1 hA3
              rw [if_pos hR3.1, hR3.1, hb2, hft] at hst
              have hlt2 : i + 2 ≤ ln := by
                have := (bhd_le (s := sgn ln T) (i := i) sz hlt (Or.inr (by omega))).2.1
                omega
              have hc2 : cT (sgn ln T) ln n (i + 2) (d + 1) (va_up tf (d + 1) (min (tf d * (sgn ln T i - 48)) 5001)) tk it = cT (sgn ln T) ln 60 0 0 (fun _ => 1) 0 0 := by
                rw [← hct, cT, if_pos hlt, if_neg (show ¬ sgn ln T i = 41 by omega), if_pos hR3.1, hb2]
              exact ih_42 true (i + 2) (d + 1) n tk it true (va_up tf (d + 1) (min (tf d * (sgn ln T i - 48)) 5001)) (upd hb (d + 1) (nI 0)) (upd tm (d + 1) (nI (min (tf d * (sgn ln T i - 48)) 5001))) _ _ _ g_73 (by rw [if_pos rfl]; omega) hM2 (fun q => (by cases q)) (fun _ => ⟨rfl, rfl, by rw [hhi]; rfl, pk_us, fun j hj => by
                  by_cases e : j = d + 1
                  · rw [e, pk_us, va_up_self]; exact ⟨rfl, by omega⟩
                  · rw [pk_un e, va_up_ne _ _ e]; exact hTm j (by omega), htk, hit, by omega, hlt2, by omega, hst.symm, hc2, by rw [hhi]; exact hh10⟩) (by omega)
            · rw [hz]
              refine y_top (y := bI (false = true)) (by decide) ?_
              refine y_goto (tgt := 105) hC dX6_isProgram_76 (by decide) ?_
              refine y_istore_n hC dX6_isProgram_105 (i := 1) rfl (Nat.le_of_ble_eq_true rfl) rfl (lo' := [some (rf E (0)), some (.int (bI (false = true)))]) rfl ?_
              refine y_goto (tgt := 42) hC dX6_isProgram_106 (by decide) ?_
              have hR3 := rep_beg c_69
              have hff := ft_fail (s := sgn ln T) (n := n) (due := due) (d := d) hlt (by omega) (fun q => hc1 ((rep_alw c_69).mp q.2))
              rw [hft, if_pos hR3.2.1] at hff
              exact ih_42 false (i + 1) d n tk it due tf hb tm _ _ _ g_73 (by rw [if_neg (by decide)]; omega) hM2 (fun _ => hff) (fun q => (by cases q)) (by omega)
  exact L_42 (ln + 2) true 0 0 60 0 0 true (fun _ => 1) (upd P.2.2.1 (0) (nI (0))) (upd P.2.2.2.1 (0) (nI (1))) _ _ _ g_37 (by rw [if_pos rfl]; omega) hM_37 (fun q => (by cases q)) (fun _ => ⟨rfl, rfl, rfl, pk_us, fun j hj => by rw [show j = 0 by omega]; exact ⟨pk_us, by decide⟩, by decide, by decide, by decide, Nat.zero_le _, by omega, rfl, rfl, Nat.zero_le _⟩) (by omega)

