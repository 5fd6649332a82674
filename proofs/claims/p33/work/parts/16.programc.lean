/-! ===== the program of the class: what it names, counts, does ===== -/
theorem zmin {a b : Nat} (ha : a < 2147483648) (hb : b < 2147483648) : (if nI b < nI a then nI b else nI a) = nI (min a b) := by
  by_cases h : b < a
  · rw [if_pos ((nI_ltI hb ha).mpr h), Nat.min_eq_right (by omega)]
  · rw [if_neg (fun q => h ((nI_ltI hb ha).mp q)), Nat.min_eq_left (by omega)]
/-- the highest number, from its number and one more -/
def hiI (h : Nat) : Int32 := nI h - nI 1
theorem zhi {h d : Nat} (h1 : h ≤ 1000) (h2 : d ≤ 1000) : (if hiI h < nI d then nI d else hiI h) = hiI (max h (d + 1)) := by
  unfold hiI
  have e1 : (nI h - nI 1).toInt = (h : Int) - 1 := sI (by omega) (by decide)
  have e2 : (nI d).toInt = (d : Int) := tI (by omega)
  have e3 : nI (d + 1) - nI 1 = nI d := pk_sub (by omega)
  by_cases q : h < d + 1
  · rw [if_pos (Int32.lt_iff_toInt_lt.mpr (by omega)), Nat.max_eq_right (by omega), e3]
  · rw [if_neg (fun q2 => by have := Int32.lt_iff_toInt_lt.mp q2; omega), Nat.max_eq_left (by omega)]
theorem hiN_le {s : Nat → Nat} {ln : Nat} (hd : ∀ k, k < ln → isFor (s k) = true → 48 ≤ s (k + 1) ∧ s (k + 1) ≤ 57) : ∀ i, i ≤ ln → hiN s i ≤ 10
  | 0, _ => Nat.zero_le _
  | i + 1, h => by
    have := hiN_le hd i (by omega)
    rw [hiN]
    split
    · rename_i q
      have := hd i (by omega) q
      omega
    · exact this
theorem cT_end {s : Nat → Nat} {ln n i d tk it : Nat} {tf : Nat → Nat} (h : ¬ i < ln) : cT s ln n i d tf tk it = (tk, it) := by
  cases n with
  | zero => rfl
  | succ n => rw [cT, if_neg h]
theorem isRep_s {a : Nat} (h : isRep a = true) : 50 ≤ a ∧ a ≤ 57 := of_decide_eq_true h
theorem nmb_le {s : Nat → Nat} {i : Nat} (h : s i ≤ 57) : nmb s i ≤ 99 := by
  unfold nmb
  split <;> omega
theorem bhd_2 {s : Nat → Nat} {i : Nat} (h1 : s i ≠ 41) (h2 : s i ≠ 116) : bhd s i = i + 2 := by
  unfold bhd
  rw [if_neg h1, if_neg (fun q => h2 q.1)]
theorem bhd_1 {s : Nat → Nat} {i : Nat} (h1 : s i = 41) : bhd s i = i + 1 := if_pos h1
theorem zuv {d k x : Nat} {st : Nat → Int32} {sf : Nat → Nat} (h : ∀ j, j < d → st j = nI (sf j)) : ∀ j, (j < d ∨ j = k) → upd st k (nI x) j = nI (va_up sf k x j) := by
  intro j hj
  by_cases e : j = k
  · rw [e, pk_us, va_up_self]
  · rw [pk_un e, va_up_ne _ _ e]
    exact h j (by omega)
theorem Run_ge {s : Nat → Nat} {ln n i d B : Nat} {sf tf : Nat → Nat} {r fin : Row} (h : Run s ln n i d sf tf r B fin) (hi : ¬ i < ln) : fin = r := by
  cases n with
  | zero => exact h.2
  | succ n => exact absurd h.1 hi
theorem Run_lt {s : Nat → Nat} {ln n i d B : Nat} {sf tf : Nat → Nat} {r fin : Row} (h : Run s ln n i d sf tf r B fin) (hi : i < ln) : ∃ k, n = k + 1 ∧ Run s ln (k + 1) i d sf tf r B fin := by
  cases n with
  | zero => exact absurd h.1 (by omega)
  | succ n => exact ⟨n, rfl, h⟩
theorem dX2_highestRange_0 : decode cX2_highestRange 0 = .ok (.iconst (-1), 1) := by decide +kernel
theorem dX2_highestRange_1 : decode cX2_highestRange 1 = .ok (.istore_n 1, 1) := by decide +kernel
theorem dX2_highestRange_2 : decode cX2_highestRange 2 = .ok (.iconst 0, 1) := by decide +kernel
theorem dX2_highestRange_3 : decode cX2_highestRange 3 = .ok (.istore_n 2, 1) := by decide +kernel
theorem dX2_highestRange_4 : decode cX2_highestRange 4 = .ok (.iload_n 2, 1) := by decide +kernel
theorem dX2_highestRange_5 : decode cX2_highestRange 5 = .ok (.aload_n 0, 1) := by decide +kernel
theorem dX2_highestRange_6 : decode cX2_highestRange 6 = .ok (.getfield 22, 3) := by decide +kernel
theorem dX2_highestRange_9 : decode cX2_highestRange 9 = .ok (.if_icmp .ge 32, 3) := by decide +kernel
theorem dX2_highestRange_12 : decode cX2_highestRange 12 = .ok (.aload_n 0, 1) := by decide +kernel
theorem dX2_highestRange_13 : decode cX2_highestRange 13 = .ok (.iload_n 2, 1) := by decide +kernel
theorem dX2_highestRange_14 : decode cX2_highestRange 14 = .ok (.invokevirtual 43, 3) := by decide +kernel
theorem dX2_highestRange_17 : decode cX2_highestRange 17 = .ok (.invokestatic 36, 3) := by decide +kernel
theorem dX2_highestRange_20 : decode cX2_highestRange 20 = .ok (.ifCond .eq 15, 3) := by decide +kernel
theorem dX2_highestRange_23 : decode cX2_highestRange 23 = .ok (.iload_n 1, 1) := by decide +kernel
theorem dX2_highestRange_24 : decode cX2_highestRange 24 = .ok (.aload_n 0, 1) := by decide +kernel
theorem dX2_highestRange_25 : decode cX2_highestRange 25 = .ok (.iload_n 2, 1) := by decide +kernel
theorem dX2_highestRange_26 : decode cX2_highestRange 26 = .ok (.iconst 1, 1) := by decide +kernel
theorem dX2_highestRange_27 : decode cX2_highestRange 27 = .ok (.iadd, 1) := by decide +kernel
theorem dX2_highestRange_28 : decode cX2_highestRange 28 = .ok (.invokevirtual 47, 3) := by decide +kernel
theorem dX2_highestRange_31 : decode cX2_highestRange 31 = .ok (.invokestatic 61, 3) := by decide +kernel
theorem dX2_highestRange_34 : decode cX2_highestRange 34 = .ok (.istore_n 1, 1) := by decide +kernel
theorem dX2_highestRange_35 : decode cX2_highestRange 35 = .ok (.iinc 2 1, 3) := by decide +kernel
theorem dX2_highestRange_38 : decode cX2_highestRange 38 = .ok (.goto (-34), 3) := by decide +kernel
theorem dX2_highestRange_41 : decode cX2_highestRange 41 = .ok (.iload_n 1, 1) := by decide +kernel
theorem dX2_highestRange_42 : decode cX2_highestRange 42 = .ok (.ireturn, 1) := by decide +kernel
set_option maxHeartbeats 4000000 in
set_option maxRecDepth 100000 in
theorem c_X2_highestRange (l : Launch) (E : gE) (g : Mem) (ln : Nat) (tx : Nat → Nat) (f : Nat → Int32) (tk it : Int32) (st ti : Nat → Int32) (h : PX E g ln tx f tk it st ti) (hd : ∀ k, k < ln → isFor (sgn ln tx k) = true → 48 ≤ sgn ln tx (k + 1) ∧ sgn ln tx (k + 1) ≤ 57) : Mt l E yX2_highestRange cX2_highestRange 3 (some .int) 2 42 [rf E (93)] g (pI (fun z g' => z = hiI (hiN (sgn ln tx) ln) ∧ g' = g)) := by
  have hK := h.k
  have hln := h.l
  refine mt_go (own := RX2) (by decide) rfl (lo := [some (rf E (93)), none, none]) rfl (Nat.le_of_ble_eq_true rfl) (fun X hC => ?_)
  refine y_iconst (v := (-1)) hC dX2_highestRange_0 (by decide) ?_
  refine y_top (y := hiI (hiN (sgn ln tx) 0)) (by unfold hiN; decide) ?_
  refine y_istore_n hC dX2_highestRange_1 (i := 1) rfl (Nat.le_of_ble_eq_true rfl) rfl (lo' := [some (rf E (93)), some (.int (hiI (hiN (sgn ln tx) 0))), none]) rfl ?_
  refine y_iconst (v := nI 0) hC dX2_highestRange_2 (by decide) ?_
  refine y_istore_n hC dX2_highestRange_3 (i := 2) rfl (Nat.le_of_ble_eq_true rfl) rfl (lo' := [some (rf E (93)), some (.int (hiI (hiN (sgn ln tx) 0))), some (.int (nI (0)))]) rfl ?_
  have L_4 : ∀ (m : Nat) (i : Nat), (hm : ln - i < m) → (hi : i ≤ ln) → Y l E X (pI (fun z g' => z = hiI (hiN (sgn ln tx) ln) ∧ g' = g)) 4 [some (rf E (93)), some (.int (hiI (hiN (sgn ln tx) i))), some (.int (nI (i)))] [] g := by
    intro m
    induction m with
    | zero => intro i hm hi; exact absurd hm (Nat.not_lt_zero _)
    | succ m ih_4 =>
      intro i hm hi
      refine y_iload_n hC dX2_highestRange_4 (i := 2) rfl rfl ?_
      refine y_aload_n hC dX2_highestRange_5 (i := 0) rfl rfl ?_
      refine y_get hC fX2_22 dX2_highestRange_6 (k := 93) (by omega) h.a93 rfl ?_
      refine y_icmp_ge_n (tgt := 41) hC dX2_highestRange_9 (by decide) (by omega) (by omega) (fun c_9 => ?_) (fun c_9 => ?_)
      · refine y_iload_n hC dX2_highestRange_41 (i := 1) rfl rfl ?_
        refine y_iret (hC := hC) (hd := dX2_highestRange_42) (hq := ?_)
        exact ⟨by rw [show i = ln by omega], rfl⟩
      · refine y_aload_n hC dX2_highestRange_12 (i := 0) rfl rfl ?_
        refine y_iload_n hC dX2_highestRange_13 (i := 2) rfl rfl ?_
        refine y_callV hC mX2_signAt kX2_43 dX2_highestRange_14 (b := 93) (As := [.int (nI (i))]) (rest := []) (c_X2_signAt l E g ln tx f tk it st ti h (i) (by omega)) (by omega) h.a93 rfl rfl rfl (Nat.le_of_ble_eq_true rfl) ⟨Nat.le_of_ble_eq_true rfl, Nat.le_of_ble_eq_true rfl⟩ (pk_i ?_)
        rintro r_14 g_14 ⟨hr_14, hq_14⟩
        obtain rfl := hq_14.symm
        rw [hr_14]
        clear hr_14 r_14
        have hs_14 := sgn_lt h (i)
        refine y_callS hC mX2_isForRange kX2_36 dX2_highestRange_17 (As := [.int (nI (sgn ln tx (i)))]) (rest := []) (c_X2_isForRange l E g (sgn ln tx i) hs_14) rfl rfl rfl (Nat.le_of_ble_eq_true rfl) ⟨Nat.le_of_ble_eq_true rfl, Nat.le_of_ble_eq_true rfl⟩ (pk_i ?_)
        rintro r_17 g_17 ⟨hr_17, hq_17⟩
        obtain rfl := hq_17.symm
        rw [hr_17]
        clear hr_17 r_17
        refine y_if_eq_b (tgt := 35) hC dX2_highestRange_20 (by decide) (fun c_20 => ?_) (fun c_20 => ?_)
        · refine y_iinc_n hC dX2_highestRange_35 (a := i) (k := 1) rfl (by decide) (Nat.le_of_ble_eq_true rfl) rfl (lo' := [some (rf E (93)), some (.int (hiI (hiN (sgn ln tx) i))), some (.int (nI (i + 1)))]) rfl ?_
          refine y_goto (tgt := 4) hC dX2_highestRange_38 (by decide) ?_
          have hst : hiN (sgn ln tx) (i + 1) = hiN (sgn ln tx) i := by rw [hiN]; first | rw [if_pos c_20] | rw [if_neg c_20]
          rw [← hst]
          exact ih_4 (i + 1) (by omega) (by omega)
        · have hdd := hd i (by omega) c_20
          have hhl := hiN_le hd i hi
          refine y_iload_n hC dX2_highestRange_23 (i := 1) rfl rfl ?_
          refine y_aload_n hC dX2_highestRange_24 (i := 0) rfl rfl ?_
          refine y_iload_n hC dX2_highestRange_25 (i := 2) rfl rfl ?_
          refine y_iconst (v := nI 1) hC dX2_highestRange_26 (by decide) ?_
          refine y_iadd_n hC dX2_highestRange_27 ?_
          refine y_callV hC mX2_digitAt kX2_47 dX2_highestRange_28 (b := 93) (As := [.int (nI (i + 1))]) (rest := [.int (hiI (hiN (sgn ln tx) i))]) (c_X2_digitAt l E g ln tx f tk it st ti h (i + 1) (by omega)) (by omega) h.a93 rfl rfl rfl (Nat.le_of_ble_eq_true rfl) ⟨Nat.le_of_ble_eq_true rfl, Nat.le_of_ble_eq_true rfl⟩ (pk_i ?_)
          rintro r_28 g_28 ⟨hr_28, hq_28⟩
          obtain rfl := hq_28.symm
          rw [hr_28]
          clear hr_28 r_28
          rw [pk_sub (a := sgn ln tx (i + 1)) (b := 48) (by omega)]
          refine y_mmax hC rfl kX2_61 wmax_s wmath wmax_c dX2_highestRange_31 (by decide) (Nat.le_of_ble_eq_true rfl) ?_
          refine y_top (y := hiI (max (hiN (sgn ln tx) i) (sgn ln tx (i + 1) - 48 + 1))) (zhi (by omega) (by omega)) ?_
          refine y_istore_n hC dX2_highestRange_34 (i := 1) rfl (Nat.le_of_ble_eq_true rfl) rfl (lo' := [some (rf E (93)), some (.int (hiI (max (hiN (sgn ln tx) i) (sgn ln tx (i + 1) - 48 + 1)))), some (.int (nI (i)))]) rfl ?_
          refine y_iinc_n hC dX2_highestRange_35 (a := i) (k := 1) rfl (by decide) (Nat.le_of_ble_eq_true rfl) rfl (lo' := [some (rf E (93)), some (.int (hiI (max (hiN (sgn ln tx) i) (sgn ln tx (i + 1) - 48 + 1)))), some (.int (nI (i + 1)))]) rfl ?_
          refine y_goto (tgt := 4) hC dX2_highestRange_38 (by decide) ?_
          have hst : hiN (sgn ln tx) (i + 1) = max (hiN (sgn ln tx) i) (sgn ln tx (i + 1) - 48 + 1) := by rw [hiN]; first | rw [if_pos c_20] | rw [if_neg c_20]
          rw [← hst]
          exact ih_4 (i + 1) (by omega) (by omega)
  exact L_4 (ln + 1) 0 (by omega) (by omega)

theorem dX2_count_0 : decode cX2_count 0 = .ok (.aload_n 0, 1) := by decide +kernel
theorem dX2_count_1 : decode cX2_count 1 = .ok (.iconst 0, 1) := by decide +kernel
theorem dX2_count_2 : decode cX2_count 2 = .ok (.putfield 26, 3) := by decide +kernel
theorem dX2_count_5 : decode cX2_count 5 = .ok (.aload_n 0, 1) := by decide +kernel
theorem dX2_count_6 : decode cX2_count 6 = .ok (.iconst 0, 1) := by decide +kernel
theorem dX2_count_7 : decode cX2_count 7 = .ok (.putfield 29, 3) := by decide +kernel
theorem dX2_count_10 : decode cX2_count 10 = .ok (.iconst 0, 1) := by decide +kernel
theorem dX2_count_11 : decode cX2_count 11 = .ok (.istore_n 1, 1) := by decide +kernel
theorem dX2_count_12 : decode cX2_count 12 = .ok (.aload_n 0, 1) := by decide +kernel
theorem dX2_count_13 : decode cX2_count 13 = .ok (.getfield 19, 3) := by decide +kernel
theorem dX2_count_16 : decode cX2_count 16 = .ok (.iconst 0, 1) := by decide +kernel
theorem dX2_count_17 : decode cX2_count 17 = .ok (.iconst 1, 1) := by decide +kernel
theorem dX2_count_18 : decode cX2_count 18 = .ok (.iastore, 1) := by decide +kernel
theorem dX2_count_19 : decode cX2_count 19 = .ok (.iconst 0, 1) := by decide +kernel
theorem dX2_count_20 : decode cX2_count 20 = .ok (.istore_n 2, 1) := by decide +kernel
theorem dX2_count_21 : decode cX2_count 21 = .ok (.iconst 0, 1) := by decide +kernel
theorem dX2_count_22 : decode cX2_count 22 = .ok (.istore_n 3, 1) := by decide +kernel
theorem dX2_count_23 : decode cX2_count 23 = .ok (.iload_n 3, 1) := by decide +kernel
theorem dX2_count_24 : decode cX2_count 24 = .ok (.bipush 60, 2) := by decide +kernel
theorem dX2_count_26 : decode cX2_count 26 = .ok (.if_icmp .ge 148, 3) := by decide +kernel
theorem dX2_count_29 : decode cX2_count 29 = .ok (.iload_n 2, 1) := by decide +kernel
theorem dX2_count_30 : decode cX2_count 30 = .ok (.aload_n 0, 1) := by decide +kernel
theorem dX2_count_31 : decode cX2_count 31 = .ok (.getfield 22, 3) := by decide +kernel
theorem dX2_count_34 : decode cX2_count 34 = .ok (.if_icmp .ge 140, 3) := by decide +kernel
theorem dX2_count_37 : decode cX2_count 37 = .ok (.aload_n 0, 1) := by decide +kernel
theorem dX2_count_38 : decode cX2_count 38 = .ok (.iload_n 2, 1) := by decide +kernel
theorem dX2_count_39 : decode cX2_count 39 = .ok (.invokevirtual 43, 3) := by decide +kernel
theorem dX2_count_42 : decode cX2_count 42 = .ok (.istore 4, 2) := by decide +kernel
theorem dX2_count_44 : decode cX2_count 44 = .ok (.iload 4, 2) := by decide +kernel
theorem dX2_count_46 : decode cX2_count 46 = .ok (.bipush 41, 2) := by decide +kernel
theorem dX2_count_48 : decode cX2_count 48 = .ok (.if_icmp .ne 9, 3) := by decide +kernel
theorem dX2_count_51 : decode cX2_count 51 = .ok (.iinc 1 (-1), 3) := by decide +kernel
theorem dX2_count_54 : decode cX2_count 54 = .ok (.goto 108, 3) := by decide +kernel
theorem dX2_count_57 : decode cX2_count 57 = .ok (.iload 4, 2) := by decide +kernel
theorem dX2_count_59 : decode cX2_count 59 = .ok (.invokestatic 40, 3) := by decide +kernel
theorem dX2_count_62 : decode cX2_count 62 = .ok (.ifCond .eq 35, 3) := by decide +kernel
theorem dX2_count_65 : decode cX2_count 65 = .ok (.aload_n 0, 1) := by decide +kernel
theorem dX2_count_66 : decode cX2_count 66 = .ok (.getfield 19, 3) := by decide +kernel
theorem dX2_count_69 : decode cX2_count 69 = .ok (.iload_n 1, 1) := by decide +kernel
theorem dX2_count_70 : decode cX2_count 70 = .ok (.iconst 1, 1) := by decide +kernel
theorem dX2_count_71 : decode cX2_count 71 = .ok (.iadd, 1) := by decide +kernel
theorem dX2_count_72 : decode cX2_count 72 = .ok (.aload_n 0, 1) := by decide +kernel
theorem dX2_count_73 : decode cX2_count 73 = .ok (.getfield 19, 3) := by decide +kernel
theorem dX2_count_76 : decode cX2_count 76 = .ok (.iload_n 1, 1) := by decide +kernel
theorem dX2_count_77 : decode cX2_count 77 = .ok (.iaload, 1) := by decide +kernel
theorem dX2_count_78 : decode cX2_count 78 = .ok (.aload_n 0, 1) := by decide +kernel
theorem dX2_count_79 : decode cX2_count 79 = .ok (.iload_n 2, 1) := by decide +kernel
theorem dX2_count_80 : decode cX2_count 80 = .ok (.invokevirtual 47, 3) := by decide +kernel
theorem dX2_count_83 : decode cX2_count 83 = .ok (.imul, 1) := by decide +kernel
theorem dX2_count_84 : decode cX2_count 84 = .ok (.sipush 5001, 3) := by decide +kernel
theorem dX2_count_87 : decode cX2_count 87 = .ok (.invokestatic 67, 3) := by decide +kernel
theorem dX2_count_90 : decode cX2_count 90 = .ok (.iastore, 1) := by decide +kernel
theorem dX2_count_91 : decode cX2_count 91 = .ok (.iinc 1 1, 3) := by decide +kernel
theorem dX2_count_94 : decode cX2_count 94 = .ok (.goto 68, 3) := by decide +kernel
theorem dX2_count_97 : decode cX2_count 97 = .ok (.iload 4, 2) := by decide +kernel
theorem dX2_count_99 : decode cX2_count 99 = .ok (.bipush 116, 2) := by decide +kernel
theorem dX2_count_101 : decode cX2_count 101 = .ok (.if_icmp .ne 13, 3) := by decide +kernel
theorem dX2_count_104 : decode cX2_count 104 = .ok (.aload_n 0, 1) := by decide +kernel
theorem dX2_count_105 : decode cX2_count 105 = .ok (.iload_n 2, 1) := by decide +kernel
theorem dX2_count_106 : decode cX2_count 106 = .ok (.iconst 1, 1) := by decide +kernel
theorem dX2_count_107 : decode cX2_count 107 = .ok (.iadd, 1) := by decide +kernel
theorem dX2_count_108 : decode cX2_count 108 = .ok (.invokevirtual 70, 3) := by decide +kernel
theorem dX2_count_111 : decode cX2_count 111 = .ok (.goto 4, 3) := by decide +kernel
theorem dX2_count_114 : decode cX2_count 114 = .ok (.iconst 0, 1) := by decide +kernel
theorem dX2_count_115 : decode cX2_count 115 = .ok (.istore 5, 2) := by decide +kernel
theorem dX2_count_117 : decode cX2_count 117 = .ok (.aload_n 0, 1) := by decide +kernel
theorem dX2_count_118 : decode cX2_count 118 = .ok (.aload_n 0, 1) := by decide +kernel
theorem dX2_count_119 : decode cX2_count 119 = .ok (.getfield 26, 3) := by decide +kernel
theorem dX2_count_122 : decode cX2_count 122 = .ok (.aload_n 0, 1) := by decide +kernel
theorem dX2_count_123 : decode cX2_count 123 = .ok (.getfield 19, 3) := by decide +kernel
theorem dX2_count_126 : decode cX2_count 126 = .ok (.iload_n 1, 1) := by decide +kernel
theorem dX2_count_127 : decode cX2_count 127 = .ok (.iaload, 1) := by decide +kernel
theorem dX2_count_128 : decode cX2_count 128 = .ok (.iload 5, 2) := by decide +kernel
theorem dX2_count_130 : decode cX2_count 130 = .ok (.imul, 1) := by decide +kernel
theorem dX2_count_131 : decode cX2_count 131 = .ok (.iadd, 1) := by decide +kernel
theorem dX2_count_132 : decode cX2_count 132 = .ok (.sipush 5001, 3) := by decide +kernel
theorem dX2_count_135 : decode cX2_count 135 = .ok (.invokestatic 67, 3) := by decide +kernel
theorem dX2_count_138 : decode cX2_count 138 = .ok (.putfield 26, 3) := by decide +kernel
theorem dX2_count_141 : decode cX2_count 141 = .ok (.aload_n 0, 1) := by decide +kernel
theorem dX2_count_142 : decode cX2_count 142 = .ok (.aload_n 0, 1) := by decide +kernel
theorem dX2_count_143 : decode cX2_count 143 = .ok (.getfield 29, 3) := by decide +kernel
theorem dX2_count_146 : decode cX2_count 146 = .ok (.aload_n 0, 1) := by decide +kernel
theorem dX2_count_147 : decode cX2_count 147 = .ok (.getfield 19, 3) := by decide +kernel
theorem dX2_count_150 : decode cX2_count 150 = .ok (.iload_n 1, 1) := by decide +kernel
theorem dX2_count_151 : decode cX2_count 151 = .ok (.iaload, 1) := by decide +kernel
theorem dX2_count_152 : decode cX2_count 152 = .ok (.iadd, 1) := by decide +kernel
theorem dX2_count_153 : decode cX2_count 153 = .ok (.sipush 5001, 3) := by decide +kernel
theorem dX2_count_156 : decode cX2_count 156 = .ok (.invokestatic 67, 3) := by decide +kernel
theorem dX2_count_159 : decode cX2_count 159 = .ok (.putfield 29, 3) := by decide +kernel
theorem dX2_count_162 : decode cX2_count 162 = .ok (.aload_n 0, 1) := by decide +kernel
theorem dX2_count_163 : decode cX2_count 163 = .ok (.iload_n 2, 1) := by decide +kernel
theorem dX2_count_164 : decode cX2_count 164 = .ok (.invokevirtual 58, 3) := by decide +kernel
theorem dX2_count_167 : decode cX2_count 167 = .ok (.istore_n 2, 1) := by decide +kernel
theorem dX2_count_168 : decode cX2_count 168 = .ok (.iinc 3 1, 3) := by decide +kernel
theorem dX2_count_171 : decode cX2_count 171 = .ok (.goto (-148), 3) := by decide +kernel
theorem dX2_count_174 : decode cX2_count 174 = .ok (.return_, 1) := by decide +kernel
set_option maxHeartbeats 4000000 in
set_option maxRecDepth 100000 in
theorem c_X2_count (l : Launch) (E : gE) (g : Mem) (ln : Nat) (tx : Nat → Nat) (f : Nat → Int32) (tk it : Int32) (st ti : Nat → Int32) (h : PX E g ln tx f tk it st ti) (hf0 : ft (sgn ln tx) ln 60 0 0 true = none) : Mt l E yX2_count cX2_count 6 none 3 64 [rf E (93)] g (pV (fun g' => ∃ ti', PF E g g' ln tx f (nI (cT (sgn ln tx) ln 60 0 0 (fun _ => 1) 0 0).1) (nI (cT (sgn ln tx) ln 60 0 0 (fun _ => 1) 0 0).2) st ti')) := by
  have hK := h.k
  have hln := h.l
  refine mt_go (own := RX2) (by decide) rfl (lo := [some (rf E (93)), none, none, none, none, none]) rfl (Nat.le_of_ble_eq_true rfl) (fun X hC => ?_)
  have hP0 : PF E g g ln tx f tk it st ti := ⟨h, fun _ _ => rfl⟩
  refine y_aload_n hC dX2_count_0 (i := 0) rfl rfl ?_
  refine y_iconst (v := nI 0) hC dX2_count_1 (by decide) ?_
  refine y_put hC fpX2_26 dX2_count_2 (k := 93) (by omega) hP0.1.a93 (Nat.le_of_ble_eq_true rfl) (rfl) (rfl) (fs' := [rf E (94), rf E (95), rf E (96), .int (nI (ln)), .int (nI (0)), .int (it)]) rfl ?_
  have hP_2 : PF E g (va_up g (93) (oB 2 [rf E (94), rf E (95), rf E (96), .int (nI (ln)), .int (nI (0)), .int (it)])) ln tx f (nI (0)) ((it)) st ti := hP0.u93 _ _
  generalize (va_up g (93) (oB 2 [rf E (94), rf E (95), rf E (96), .int (nI (ln)), .int (nI (0)), .int (it)])) = g_2 at hP_2 ⊢
  refine y_aload_n hC dX2_count_5 (i := 0) rfl rfl ?_
  refine y_iconst (v := nI 0) hC dX2_count_6 (by decide) ?_
  refine y_put hC fpX2_29 dX2_count_7 (k := 93) (by omega) hP_2.1.a93 (Nat.le_of_ble_eq_true rfl) (rfl) (rfl) (fs' := [rf E (94), rf E (95), rf E (96), .int (nI (ln)), .int (nI (0)), .int (nI (0))]) rfl ?_
  have hP_7 : PF E g (va_up g_2 (93) (oB 2 [rf E (94), rf E (95), rf E (96), .int (nI (ln)), .int (nI (0)), .int (nI (0))])) ln tx f (nI (0)) (nI (0)) st ti := hP_2.u93 _ _
  generalize (va_up g_2 (93) (oB 2 [rf E (94), rf E (95), rf E (96), .int (nI (ln)), .int (nI (0)), .int (nI (0))])) = g_7 at hP_7 ⊢
  refine y_iconst (v := nI 0) hC dX2_count_10 (by decide) ?_
  refine y_istore_n hC dX2_count_11 (i := 1) rfl (Nat.le_of_ble_eq_true rfl) rfl (lo' := [some (rf E (93)), some (.int (nI (0))), none, none, none, none]) rfl ?_
  refine y_aload_n hC dX2_count_12 (i := 0) rfl rfl ?_
  refine y_get hC fX2_19 dX2_count_13 (k := 93) (by omega) hP_7.1.a93 rfl ?_
  refine y_iconst (v := nI 0) hC dX2_count_16 (by decide) ?_
  refine y_iconst (v := nI 1) hC dX2_count_17 (by decide) ?_
  refine y_iast hC dX2_count_18 (k := 96) (j := 0) (by omega) hP_7.1.a96 (rfl) (by omega) (by decide) ?_
  have hP_18 : PF E g (va_up g_7 (96) (aI E 0 60 (upd ti (0) (nI (1))))) ln tx f (nI (0)) (nI (0)) st (upd ti (0) (nI (1))) := hP_7.u96 _
  generalize (va_up g_7 (96) (aI E 0 60 (upd ti (0) (nI (1))))) = g_18 at hP_18 ⊢
  refine y_iconst (v := nI 0) hC dX2_count_19 (by decide) ?_
  refine y_istore_n hC dX2_count_20 (i := 2) rfl (Nat.le_of_ble_eq_true rfl) rfl (lo' := [some (rf E (93)), some (.int (nI (0))), some (.int (nI (0))), none, none, none]) rfl ?_
  refine y_iconst (v := nI 0) hC dX2_count_21 (by decide) ?_
  refine y_istore_n hC dX2_count_22 (i := 3) rfl (Nat.le_of_ble_eq_true rfl) rfl (lo' := [some (rf E (93)), some (.int (nI (0))), some (.int (nI (0))), some (.int (nI (0))), none, none]) rfl ?_
  have L_23 : ∀ (m : Nat) (d i c n tk1 it1 : Nat) (due : Bool) (tf : Nat → Nat) (g1 : Mem) (ti1 : Nat → Int32), (hm : 60 - c < m) → (hci : c ≤ i) → (hil : i ≤ ln) → (hd : 2 * d ≤ i) → (hn : ln - i ≤ n) → (hP : PF E g g1 ln tx f (nI tk1) (nI it1) st ti1) → (hk : tk1 ≤ 5001 ∧ it1 ≤ 5001) → (hT : ∀ j, j ≤ d → ti1 j = nI (tf j) ∧ tf j ≤ 5001) → (hft : ft (sgn ln tx) ln n i d due = none) → (hct : cT (sgn ln tx) ln n i d tf tk1 it1 = cT (sgn ln tx) ln 60 0 0 (fun _ => 1) 0 0) → Y l E X (pV (fun g' => ∃ ti', PF E g g' ln tx f (nI (cT (sgn ln tx) ln 60 0 0 (fun _ => 1) 0 0).1) (nI (cT (sgn ln tx) ln 60 0 0 (fun _ => 1) 0 0).2) st ti')) 23 [some (rf E (93)), some (.int (nI (d))), some (.int (nI (i))), some (.int (nI (c))), none, none] [] g1 := by
    intro m
    induction m with
    | zero => intro d i c n tk1 it1 due tf g1 ti1 hm hci hil hd hn hP hk hT hft hct; exact absurd hm (Nat.not_lt_zero _)
    | succ m ih_23 =>
      intro d i c n tk1 it1 due tf g1 ti1 hm hci hil hd hn hP hk hT hft hct
      refine y_iload_n hC dX2_count_23 (i := 3) rfl rfl ?_
      refine y_bipush (v := nI 60) hC dX2_count_24 (by decide) ?_
      refine y_icmp_ge_n (tgt := 174) hC dX2_count_26 (by decide) (by omega) (by omega) (fun c_26 => ?_) (fun c_26 => ?_)
      · refine y_vret (hC := hC) (hd := dX2_count_174) (hq := ?_)
        have hR : cT (sgn ln tx) ln 60 0 0 (fun _ => 1) 0 0 = (tk1, it1) := by rw [← hct]; exact cT_end (by omega)
        exact ⟨ti1, by rw [hR]; exact hP⟩
      · refine y_iload_n hC dX2_count_29 (i := 2) rfl rfl ?_
        refine y_aload_n hC dX2_count_30 (i := 0) rfl rfl ?_
        refine y_get hC fX2_22 dX2_count_31 (k := 93) (by omega) hP.1.a93 rfl ?_
        refine y_icmp_ge_n (tgt := 174) hC dX2_count_34 (by decide) (by omega) (by omega) (fun c_34 => ?_) (fun c_34 => ?_)
        · refine y_vret (hC := hC) (hd := dX2_count_174) (hq := ?_)
          have hR : cT (sgn ln tx) ln 60 0 0 (fun _ => 1) 0 0 = (tk1, it1) := by rw [← hct]; exact cT_end (by omega)
          exact ⟨ti1, by rw [hR]; exact hP⟩
        · have hlt : i < ln := by omega
          refine y_aload_n hC dX2_count_37 (i := 0) rfl rfl ?_
          refine y_iload_n hC dX2_count_38 (i := 2) rfl rfl ?_
          refine y_callV hC mX2_signAt kX2_43 dX2_count_39 (b := 93) (As := [.int (nI (i))]) (rest := []) (c_X2_signAt l E g1 ln tx f (nI (tk1)) (nI (it1)) st ti1 hP.1 (i) (by omega)) (by omega) hP.1.a93 rfl rfl rfl (Nat.le_of_ble_eq_true rfl) ⟨Nat.le_of_ble_eq_true rfl, Nat.le_of_ble_eq_true rfl⟩ (pk_i ?_)
          rintro r_39 g_39 ⟨hr_39, hq_39⟩
          obtain rfl := hq_39.symm
          rw [hr_39]
          clear hr_39 r_39
          have hs1 := sgn_lt h i
          obtain ⟨n, rfl⟩ : ∃ m, n = m + 1 := ⟨n - 1, by omega⟩
          refine y_istore hC dX2_count_42 (Nat.le_of_ble_eq_true rfl) rfl (lo' := [some (rf E (93)), some (.int (nI (d))), some (.int (nI (i))), some (.int (nI (c))), some (.int (nI (sgn ln tx (i)))), none]) rfl ?_
          refine y_iload hC dX2_count_44 rfl ?_
          refine y_bipush (v := nI 41) hC dX2_count_46 (by decide) ?_
          refine y_icmp_ne_n (tgt := 57) hC dX2_count_48 (by decide) (by omega) (by omega) (fun c_48 => ?_) (fun c_48 => ?_)
          · obtain ⟨a1, -, -, -⟩ | ⟨b1, b2, b3⟩ := ft_inv hlt hft
            · exact absurd a1 c_48
            have htk := tok b1 b2
            have hbl := bhd_le (s := sgn ln tx) (i := i) sz hlt (Or.inr (by omega))
            refine y_iload hC dX2_count_57 rfl ?_
            refine y_callS hC mX2_isRepeat kX2_40 dX2_count_59 (As := [.int (nI (sgn ln tx (i)))]) (rest := []) (c_X2_isRepeat l E g1 (sgn ln tx (i)) hs1) rfl rfl rfl (Nat.le_of_ble_eq_true rfl) ⟨Nat.le_of_ble_eq_true rfl, Nat.le_of_ble_eq_true rfl⟩ (pk_i ?_)
            rintro r_59 g_59 ⟨hr_59, hq_59⟩
            obtain rfl := hq_59.symm
            rw [hr_59]
            clear hr_59 r_59
            refine y_if_eq_b (tgt := 97) hC dX2_count_62 (by decide) (fun c_62 => ?_) (fun c_62 => ?_)
            · have hnr : ¬ (50 ≤ sgn ln tx i ∧ sgn ln tx i ≤ 57) := fun q => c_62 (decide_eq_true q)
              refine y_iload hC dX2_count_97 rfl ?_
              refine y_bipush (v := nI 116) hC dX2_count_99 (by decide) ?_
              refine y_icmp_ne_n (tgt := 114) hC dX2_count_101 (by decide) (by omega) (by omega) (fun c_101 => ?_) (fun c_101 => ?_)
              · refine y_iconst (v := nI 0) hC dX2_count_114 (by decide) ?_
                refine y_istore hC dX2_count_115 (Nat.le_of_ble_eq_true rfl) rfl (lo' := [some (rf E (93)), some (.int (nI (d))), some (.int (nI (i))), some (.int (nI (c))), some (.int (nI (sgn ln tx (i)))), some (.int (nI (0)))]) rfl ?_
                refine y_aload_n hC dX2_count_117 (i := 0) rfl rfl ?_
                refine y_aload_n hC dX2_count_118 (i := 0) rfl rfl ?_
                refine y_get hC fX2_26 dX2_count_119 (k := 93) (by omega) hP.1.a93 rfl ?_
                refine y_aload_n hC dX2_count_122 (i := 0) rfl rfl ?_
                refine y_get hC fX2_19 dX2_count_123 (k := 93) (by omega) hP.1.a93 rfl ?_
                refine y_iload_n hC dX2_count_126 (i := 1) rfl rfl ?_
                refine y_iald hC dX2_count_127 (k := 96) (j := d) (by omega) hP.1.a96 (rfl) (by omega) (by decide) ?_
                refine y_top (y := nI (tf (d))) (hT d (Nat.le_refl _)).1 ?_
                have hTl := (hT d (Nat.le_refl _)).2
                refine y_iload hC dX2_count_128 rfl ?_
                refine y_imul_n hC dX2_count_130 ?_
                refine y_iadd_n hC dX2_count_131 ?_
                refine y_sipush (v := nI 5001) hC dX2_count_132 (by decide) ?_
                refine y_mmin hC rfl kX2_67 wmin_s wmath wmin_c dX2_count_135 (by decide) (Nat.le_of_ble_eq_true rfl) ?_
                have hmu : tf d * (0) ≤ 5001 * 99 := Nat.mul_le_mul hTl (by omega)
                refine y_top (y := nI (min (tk1 + tf d * (0)) 5001)) (zmin (by omega) (by omega)) ?_
                refine y_put hC fpX2_26 dX2_count_138 (k := 93) (by omega) hP.1.a93 (Nat.le_of_ble_eq_true rfl) (rfl) (rfl) (fs' := [rf E (94), rf E (95), rf E (96), .int (nI (ln)), .int (nI (min (tk1 + tf d * (0)) 5001)), .int (nI (it1))]) rfl ?_
                have hP_138 : PF E g (va_up g1 (93) (oB 2 [rf E (94), rf E (95), rf E (96), .int (nI (ln)), .int (nI (min (tk1 + tf d * (0)) 5001)), .int (nI (it1))])) ln tx f (nI (min (tk1 + tf d * (0)) 5001)) (nI (it1)) st ti1 := hP.u93 _ _
                generalize (va_up g1 (93) (oB 2 [rf E (94), rf E (95), rf E (96), .int (nI (ln)), .int (nI (min (tk1 + tf d * (0)) 5001)), .int (nI (it1))])) = g_138 at hP_138 ⊢
                refine y_aload_n hC dX2_count_141 (i := 0) rfl rfl ?_
                refine y_aload_n hC dX2_count_142 (i := 0) rfl rfl ?_
                refine y_get hC fX2_29 dX2_count_143 (k := 93) (by omega) hP_138.1.a93 rfl ?_
                refine y_aload_n hC dX2_count_146 (i := 0) rfl rfl ?_
                refine y_get hC fX2_19 dX2_count_147 (k := 93) (by omega) hP_138.1.a93 rfl ?_
                refine y_iload_n hC dX2_count_150 (i := 1) rfl rfl ?_
                refine y_iald hC dX2_count_151 (k := 96) (j := d) (by omega) hP_138.1.a96 (rfl) (by omega) (by decide) ?_
                refine y_top (y := nI (tf (d))) (hT d (Nat.le_refl _)).1 ?_
                have hTl := (hT d (Nat.le_refl _)).2
                refine y_iadd_n hC dX2_count_152 ?_
                refine y_sipush (v := nI 5001) hC dX2_count_153 (by decide) ?_
                refine y_mmin hC rfl kX2_67 wmin_s wmath wmin_c dX2_count_156 (by decide) (Nat.le_of_ble_eq_true rfl) ?_
                refine y_top (y := nI (min (it1 + tf d) 5001)) (zmin (by omega) (by omega)) ?_
                refine y_put hC fpX2_29 dX2_count_159 (k := 93) (by omega) hP_138.1.a93 (Nat.le_of_ble_eq_true rfl) (rfl) (rfl) (fs' := [rf E (94), rf E (95), rf E (96), .int (nI (ln)), .int (nI (min (tk1 + tf d * (0)) 5001)), .int (nI (min (it1 + tf d) 5001))]) rfl ?_
                have hP_159 : PF E g (va_up g_138 (93) (oB 2 [rf E (94), rf E (95), rf E (96), .int (nI (ln)), .int (nI (min (tk1 + tf d * (0)) 5001)), .int (nI (min (it1 + tf d) 5001))])) ln tx f (nI (min (tk1 + tf d * (0)) 5001)) (nI (min (it1 + tf d) 5001)) st ti1 := hP_138.u93 _ _
                generalize (va_up g_138 (93) (oB 2 [rf E (94), rf E (95), rf E (96), .int (nI (ln)), .int (nI (min (tk1 + tf d * (0)) 5001)), .int (nI (min (it1 + tf d) 5001))])) = g_159 at hP_159 ⊢
                refine y_aload_n hC dX2_count_162 (i := 0) rfl rfl ?_
                refine y_iload_n hC dX2_count_163 (i := 2) rfl rfl ?_
                refine y_callV hC mX2_behind kX2_58 dX2_count_164 (b := 93) (As := [.int (nI (i))]) (rest := []) (c_X2_behind l E g_159 ln tx f (nI (min (tk1 + tf d * (0)) 5001)) (nI (min (it1 + tf d) 5001)) st ti1 hP_159.1 (i) (by omega)) (by omega) hP_159.1.a93 rfl rfl rfl (Nat.le_of_ble_eq_true rfl) ⟨Nat.le_of_ble_eq_true rfl, Nat.le_of_ble_eq_true rfl⟩ (pk_i ?_)
                rintro r_164 g_164 ⟨hr_164, hq_164⟩
                obtain rfl := hq_164.symm
                rw [hr_164]
                clear hr_164 r_164
                refine y_istore_n hC dX2_count_167 (i := 2) rfl (Nat.le_of_ble_eq_true rfl) rfl (lo' := [some (rf E (93)), some (.int (nI (d))), some (.int (nI (bhd (sgn ln tx) i))), some (.int (nI (c))), some (.int (nI (sgn ln tx (i)))), some (.int (nI (0)))]) rfl ?_
                refine y_iinc_n hC dX2_count_168 (a := c) (k := 1) rfl (by decide) (Nat.le_of_ble_eq_true rfl) rfl (lo' := [some (rf E (93)), some (.int (nI (d))), some (.int (nI (bhd (sgn ln tx) i))), some (.int (nI (c + 1))), some (.int (nI (sgn ln tx (i)))), some (.int (nI (0)))]) rfl ?_
                refine y_goto (tgt := 23) hC dX2_count_171 (by decide) ?_
                refine y_fg 4 (lo' := [some (rf E (93)), some (.int (nI (d))), some (.int (nI (bhd (sgn ln tx) i))), some (.int (nI (c + 1))), none, some (.int (nI (0)))]) rfl ?_
                refine y_fg 5 (lo' := [some (rf E (93)), some (.int (nI (d))), some (.int (nI (bhd (sgn ln tx) i))), some (.int (nI (c + 1))), none, none]) rfl ?_
                have e5 : (if isRep (sgn ln tx i) then d + 1 else d) = d := if_neg c_62
                rw [e5] at b3
                exact ih_23 d (bhd (sgn ln tx) i) (c + 1) n _ _ (isRep (sgn ln tx i)) tf g_159 ti1 (by omega) (by omega) (by omega) (by omega) (by omega) hP_159 ⟨by omega, by omega⟩ hT b3 (by rw [← hct, cT, if_pos hlt, if_neg c_48, if_neg c_62, if_neg c_101])
              · refine y_aload_n hC dX2_count_104 (i := 0) rfl rfl ?_
                refine y_iload_n hC dX2_count_105 (i := 2) rfl rfl ?_
                refine y_iconst (v := nI 1) hC dX2_count_106 (by decide) ?_
                refine y_iadd_n hC dX2_count_107 ?_
                refine y_callV hC mX2_numberAt kX2_70 dX2_count_108 (b := 93) (As := [.int (nI (i + 1))]) (rest := []) (c_X2_numberAt l E g1 ln tx f (nI (tk1)) (nI (it1)) st ti1 hP.1 (i + 1) (by omega) (by omega) (by omega)) (by omega) hP.1.a93 rfl rfl rfl (Nat.le_of_ble_eq_true rfl) ⟨Nat.le_of_ble_eq_true rfl, Nat.le_of_ble_eq_true rfl⟩ (pk_i ?_)
                rintro r_108 g_108 ⟨hr_108, hq_108⟩
                obtain rfl := hq_108.symm
                rw [hr_108]
                clear hr_108 r_108
                have hnm := nmb_le (s := sgn ln tx) (i := i + 1) (by omega)
                refine y_goto (tgt := 115) hC dX2_count_111 (by decide) ?_
                refine y_istore hC dX2_count_115 (Nat.le_of_ble_eq_true rfl) rfl (lo' := [some (rf E (93)), some (.int (nI (d))), some (.int (nI (i))), some (.int (nI (c))), some (.int (nI (sgn ln tx (i)))), some (.int (nI (nmb (sgn ln tx) (i + 1))))]) rfl ?_
                refine y_aload_n hC dX2_count_117 (i := 0) rfl rfl ?_
                refine y_aload_n hC dX2_count_118 (i := 0) rfl rfl ?_
                refine y_get hC fX2_26 dX2_count_119 (k := 93) (by omega) hP.1.a93 rfl ?_
                refine y_aload_n hC dX2_count_122 (i := 0) rfl rfl ?_
                refine y_get hC fX2_19 dX2_count_123 (k := 93) (by omega) hP.1.a93 rfl ?_
                refine y_iload_n hC dX2_count_126 (i := 1) rfl rfl ?_
                refine y_iald hC dX2_count_127 (k := 96) (j := d) (by omega) hP.1.a96 (rfl) (by omega) (by decide) ?_
                refine y_top (y := nI (tf (d))) (hT d (Nat.le_refl _)).1 ?_
                have hTl := (hT d (Nat.le_refl _)).2
                refine y_iload hC dX2_count_128 rfl ?_
                refine y_imul_n hC dX2_count_130 ?_
                refine y_iadd_n hC dX2_count_131 ?_
                refine y_sipush (v := nI 5001) hC dX2_count_132 (by decide) ?_
                refine y_mmin hC rfl kX2_67 wmin_s wmath wmin_c dX2_count_135 (by decide) (Nat.le_of_ble_eq_true rfl) ?_
                have hmu : tf d * (nmb (sgn ln tx) (i + 1)) ≤ 5001 * 99 := Nat.mul_le_mul hTl (by omega)
                refine y_top (y := nI (min (tk1 + tf d * (nmb (sgn ln tx) (i + 1))) 5001)) (zmin (by omega) (by omega)) ?_
                refine y_put hC fpX2_26 dX2_count_138 (k := 93) (by omega) hP.1.a93 (Nat.le_of_ble_eq_true rfl) (rfl) (rfl) (fs' := [rf E (94), rf E (95), rf E (96), .int (nI (ln)), .int (nI (min (tk1 + tf d * (nmb (sgn ln tx) (i + 1))) 5001)), .int (nI (it1))]) rfl ?_
                have hP_138 : PF E g (va_up g1 (93) (oB 2 [rf E (94), rf E (95), rf E (96), .int (nI (ln)), .int (nI (min (tk1 + tf d * (nmb (sgn ln tx) (i + 1))) 5001)), .int (nI (it1))])) ln tx f (nI (min (tk1 + tf d * (nmb (sgn ln tx) (i + 1))) 5001)) (nI (it1)) st ti1 := hP.u93 _ _
                generalize (va_up g1 (93) (oB 2 [rf E (94), rf E (95), rf E (96), .int (nI (ln)), .int (nI (min (tk1 + tf d * (nmb (sgn ln tx) (i + 1))) 5001)), .int (nI (it1))])) = g_138 at hP_138 ⊢
                refine y_aload_n hC dX2_count_141 (i := 0) rfl rfl ?_
                refine y_aload_n hC dX2_count_142 (i := 0) rfl rfl ?_
                refine y_get hC fX2_29 dX2_count_143 (k := 93) (by omega) hP_138.1.a93 rfl ?_
                refine y_aload_n hC dX2_count_146 (i := 0) rfl rfl ?_
                refine y_get hC fX2_19 dX2_count_147 (k := 93) (by omega) hP_138.1.a93 rfl ?_
                refine y_iload_n hC dX2_count_150 (i := 1) rfl rfl ?_
                refine y_iald hC dX2_count_151 (k := 96) (j := d) (by omega) hP_138.1.a96 (rfl) (by omega) (by decide) ?_
                refine y_top (y := nI (tf (d))) (hT d (Nat.le_refl _)).1 ?_
                have hTl := (hT d (Nat.le_refl _)).2
                refine y_iadd_n hC dX2_count_152 ?_
                refine y_sipush (v := nI 5001) hC dX2_count_153 (by decide) ?_
                refine y_mmin hC rfl kX2_67 wmin_s wmath wmin_c dX2_count_156 (by decide) (Nat.le_of_ble_eq_true rfl) ?_
                refine y_top (y := nI (min (it1 + tf d) 5001)) (zmin (by omega) (by omega)) ?_
                refine y_put hC fpX2_29 dX2_count_159 (k := 93) (by omega) hP_138.1.a93 (Nat.le_of_ble_eq_true rfl) (rfl) (rfl) (fs' := [rf E (94), rf E (95), rf E (96), .int (nI (ln)), .int (nI (min (tk1 + tf d * (nmb (sgn ln tx) (i + 1))) 5001)), .int (nI (min (it1 + tf d) 5001))]) rfl ?_
                have hP_159 : PF E g (va_up g_138 (93) (oB 2 [rf E (94), rf E (95), rf E (96), .int (nI (ln)), .int (nI (min (tk1 + tf d * (nmb (sgn ln tx) (i + 1))) 5001)), .int (nI (min (it1 + tf d) 5001))])) ln tx f (nI (min (tk1 + tf d * (nmb (sgn ln tx) (i + 1))) 5001)) (nI (min (it1 + tf d) 5001)) st ti1 := hP_138.u93 _ _
                generalize (va_up g_138 (93) (oB 2 [rf E (94), rf E (95), rf E (96), .int (nI (ln)), .int (nI (min (tk1 + tf d * (nmb (sgn ln tx) (i + 1))) 5001)), .int (nI (min (it1 + tf d) 5001))])) = g_159 at hP_159 ⊢
                refine y_aload_n hC dX2_count_162 (i := 0) rfl rfl ?_
                refine y_iload_n hC dX2_count_163 (i := 2) rfl rfl ?_
                refine y_callV hC mX2_behind kX2_58 dX2_count_164 (b := 93) (As := [.int (nI (i))]) (rest := []) (c_X2_behind l E g_159 ln tx f (nI (min (tk1 + tf d * (nmb (sgn ln tx) (i + 1))) 5001)) (nI (min (it1 + tf d) 5001)) st ti1 hP_159.1 (i) (by omega)) (by omega) hP_159.1.a93 rfl rfl rfl (Nat.le_of_ble_eq_true rfl) ⟨Nat.le_of_ble_eq_true rfl, Nat.le_of_ble_eq_true rfl⟩ (pk_i ?_)
                rintro r_164 g_164 ⟨hr_164, hq_164⟩
                obtain rfl := hq_164.symm
                rw [hr_164]
                clear hr_164 r_164
                refine y_istore_n hC dX2_count_167 (i := 2) rfl (Nat.le_of_ble_eq_true rfl) rfl (lo' := [some (rf E (93)), some (.int (nI (d))), some (.int (nI (bhd (sgn ln tx) i))), some (.int (nI (c))), some (.int (nI (sgn ln tx (i)))), some (.int (nI (nmb (sgn ln tx) (i + 1))))]) rfl ?_
                refine y_iinc_n hC dX2_count_168 (a := c) (k := 1) rfl (by decide) (Nat.le_of_ble_eq_true rfl) rfl (lo' := [some (rf E (93)), some (.int (nI (d))), some (.int (nI (bhd (sgn ln tx) i))), some (.int (nI (c + 1))), some (.int (nI (sgn ln tx (i)))), some (.int (nI (nmb (sgn ln tx) (i + 1))))]) rfl ?_
                refine y_goto (tgt := 23) hC dX2_count_171 (by decide) ?_
                refine y_fg 4 (lo' := [some (rf E (93)), some (.int (nI (d))), some (.int (nI (bhd (sgn ln tx) i))), some (.int (nI (c + 1))), none, some (.int (nI (nmb (sgn ln tx) (i + 1))))]) rfl ?_
                refine y_fg 5 (lo' := [some (rf E (93)), some (.int (nI (d))), some (.int (nI (bhd (sgn ln tx) i))), some (.int (nI (c + 1))), none, none]) rfl ?_
                have e5 : (if isRep (sgn ln tx i) then d + 1 else d) = d := if_neg c_62
                rw [e5] at b3
                exact ih_23 d (bhd (sgn ln tx) i) (c + 1) n _ _ (isRep (sgn ln tx i)) tf g_159 ti1 (by omega) (by omega) (by omega) (by omega) (by omega) hP_159 ⟨by omega, by omega⟩ hT b3 (by rw [← hct, cT, if_pos hlt, if_neg c_48, if_neg c_62, if_pos c_101])
            · have hrr := isRep_s c_62
              refine y_aload_n hC dX2_count_65 (i := 0) rfl rfl ?_
              refine y_get hC fX2_19 dX2_count_66 (k := 93) (by omega) hP.1.a93 rfl ?_
              refine y_iload_n hC dX2_count_69 (i := 1) rfl rfl ?_
              refine y_iconst (v := nI 1) hC dX2_count_70 (by decide) ?_
              refine y_iadd_n hC dX2_count_71 ?_
              refine y_aload_n hC dX2_count_72 (i := 0) rfl rfl ?_
              refine y_get hC fX2_19 dX2_count_73 (k := 93) (by omega) hP.1.a93 rfl ?_
              refine y_iload_n hC dX2_count_76 (i := 1) rfl rfl ?_
              refine y_iald hC dX2_count_77 (k := 96) (j := d) (by omega) hP.1.a96 (rfl) (by omega) (by decide) ?_
              refine y_top (y := nI (tf (d))) (hT d (Nat.le_refl _)).1 ?_
              have hTl := (hT d (Nat.le_refl _)).2
              refine y_aload_n hC dX2_count_78 (i := 0) rfl rfl ?_
              refine y_iload_n hC dX2_count_79 (i := 2) rfl rfl ?_
              refine y_callV hC mX2_digitAt kX2_47 dX2_count_80 (b := 93) (As := [.int (nI (i))]) (rest := [.int (nI (tf (d))), .int (nI (d + 1)), rf E (96)]) (c_X2_digitAt l E g1 ln tx f (nI (tk1)) (nI (it1)) st ti1 hP.1 (i) (by omega)) (by omega) hP.1.a93 rfl rfl rfl (Nat.le_of_ble_eq_true rfl) ⟨Nat.le_of_ble_eq_true rfl, Nat.le_of_ble_eq_true rfl⟩ (pk_i ?_)
              rintro r_80 g_80 ⟨hr_80, hq_80⟩
              obtain rfl := hq_80.symm
              rw [hr_80]
              clear hr_80 r_80
              rw [pk_sub (a := sgn ln tx (i)) (b := 48) (by omega)]
              refine y_imul_n hC dX2_count_83 ?_
              refine y_sipush (v := nI 5001) hC dX2_count_84 (by decide) ?_
              refine y_mmin hC rfl kX2_67 wmin_s wmath wmin_c dX2_count_87 (by decide) (Nat.le_of_ble_eq_true rfl) ?_
              have hmu : tf d * (sgn ln tx (i) - 48) ≤ 5001 * 9 := Nat.mul_le_mul hTl (by omega)
              refine y_top (y := nI (min (tf d * (sgn ln tx i - 48)) 5001)) (zmin (by omega) (by omega)) ?_
              refine y_iast hC dX2_count_90 (k := 96) (j := d + 1) (by omega) hP.1.a96 (rfl) (by omega) (by decide) ?_
              have hP_90 : PF E g (va_up g1 (96) (aI E 0 60 (upd ti1 (d + 1) (nI (min (tf d * (sgn ln tx i - 48)) 5001))))) ln tx f (nI (tk1)) (nI (it1)) st (upd ti1 (d + 1) (nI (min (tf d * (sgn ln tx i - 48)) 5001))) := hP.u96 _
              generalize (va_up g1 (96) (aI E 0 60 (upd ti1 (d + 1) (nI (min (tf d * (sgn ln tx i - 48)) 5001))))) = g_90 at hP_90 ⊢
              refine y_iinc_n hC dX2_count_91 (a := d) (k := 1) rfl (by decide) (Nat.le_of_ble_eq_true rfl) rfl (lo' := [some (rf E (93)), some (.int (nI (d + 1))), some (.int (nI (i))), some (.int (nI (c))), some (.int (nI (sgn ln tx (i)))), none]) rfl ?_
              refine y_goto (tgt := 162) hC dX2_count_94 (by decide) ?_
              refine y_aload_n hC dX2_count_162 (i := 0) rfl rfl ?_
              refine y_iload_n hC dX2_count_163 (i := 2) rfl rfl ?_
              refine y_callV hC mX2_behind kX2_58 dX2_count_164 (b := 93) (As := [.int (nI (i))]) (rest := []) (c_X2_behind l E g_90 ln tx f (nI (tk1)) (nI (it1)) st (upd ti1 (d + 1) (nI (min (tf d * (sgn ln tx i - 48)) 5001))) hP_90.1 (i) (by omega)) (by omega) hP_90.1.a93 rfl rfl rfl (Nat.le_of_ble_eq_true rfl) ⟨Nat.le_of_ble_eq_true rfl, Nat.le_of_ble_eq_true rfl⟩ (pk_i ?_)
              rintro r_164 g_164 ⟨hr_164, hq_164⟩
              obtain rfl := hq_164.symm
              rw [hr_164]
              clear hr_164 r_164
              refine y_istore_n hC dX2_count_167 (i := 2) rfl (Nat.le_of_ble_eq_true rfl) rfl (lo' := [some (rf E (93)), some (.int (nI (d + 1))), some (.int (nI (bhd (sgn ln tx) i))), some (.int (nI (c))), some (.int (nI (sgn ln tx (i)))), none]) rfl ?_
              refine y_iinc_n hC dX2_count_168 (a := c) (k := 1) rfl (by decide) (Nat.le_of_ble_eq_true rfl) rfl (lo' := [some (rf E (93)), some (.int (nI (d + 1))), some (.int (nI (bhd (sgn ln tx) i))), some (.int (nI (c + 1))), some (.int (nI (sgn ln tx (i)))), none]) rfl ?_
              refine y_goto (tgt := 23) hC dX2_count_171 (by decide) ?_
              refine y_fg 4 (lo' := [some (rf E (93)), some (.int (nI (d + 1))), some (.int (nI (bhd (sgn ln tx) i))), some (.int (nI (c + 1))), none, none]) rfl ?_
              have e5 : (if isRep (sgn ln tx i) then d + 1 else d) = d + 1 := if_pos c_62
              rw [e5] at b3
              exact ih_23 (d + 1) (bhd (sgn ln tx) i) (c + 1) n tk1 it1 (isRep (sgn ln tx i)) (va_up tf (d + 1) (min (tf d * (sgn ln tx i - 48)) 5001)) g_90 (upd ti1 (d + 1) (nI (min (tf d * (sgn ln tx i - 48)) 5001))) (by omega) (by omega) (by omega) (by omega) (by omega) hP_90 hk (fun j hj => by
                  by_cases e : j = d + 1
                  · subst e; exact ⟨by rw [pk_us, va_up_self], by rw [va_up_self]; omega⟩
                  · rw [pk_un e, va_up_ne _ _ e]; exact hT j (by omega)) b3 (by rw [← hct, cT, if_pos hlt, if_neg c_48, if_pos c_62])
          · obtain ⟨a1, a2, a3, a4⟩ | ⟨b1, -, -⟩ := ft_inv hlt hft
            rotate_left
            · exact absurd (by rw [c_48]; decide) b1
            have hbl := bhd_le (s := sgn ln tx) (i := i) sz hlt (Or.inl c_48)
            have hb1 := bhd_1 (s := sgn ln tx) c_48
            refine y_iinc hC dX2_count_51 (x := nI (d)) (v := nI (d - 1)) rfl (by rw [show Int32.ofInt (-1) = -nI 1 from by decide, ← Int32.sub_eq_add_neg]; exact pk_sub (by omega)) (Nat.le_of_ble_eq_true rfl) rfl (lo' := [some (rf E (93)), some (.int (nI (d - 1))), some (.int (nI (i))), some (.int (nI (c))), some (.int (nI (sgn ln tx (i)))), none]) rfl ?_
            refine y_goto (tgt := 162) hC dX2_count_54 (by decide) ?_
            refine y_aload_n hC dX2_count_162 (i := 0) rfl rfl ?_
            refine y_iload_n hC dX2_count_163 (i := 2) rfl rfl ?_
            refine y_callV hC mX2_behind kX2_58 dX2_count_164 (b := 93) (As := [.int (nI (i))]) (rest := []) (c_X2_behind l E g1 ln tx f (nI (tk1)) (nI (it1)) st ti1 hP.1 (i) (by omega)) (by omega) hP.1.a93 rfl rfl rfl (Nat.le_of_ble_eq_true rfl) ⟨Nat.le_of_ble_eq_true rfl, Nat.le_of_ble_eq_true rfl⟩ (pk_i ?_)
            rintro r_164 g_164 ⟨hr_164, hq_164⟩
            obtain rfl := hq_164.symm
            rw [hr_164]
            clear hr_164 r_164
            refine y_istore_n hC dX2_count_167 (i := 2) rfl (Nat.le_of_ble_eq_true rfl) rfl (lo' := [some (rf E (93)), some (.int (nI (d - 1))), some (.int (nI (bhd (sgn ln tx) i))), some (.int (nI (c))), some (.int (nI (sgn ln tx (i)))), none]) rfl ?_
            refine y_iinc_n hC dX2_count_168 (a := c) (k := 1) rfl (by decide) (Nat.le_of_ble_eq_true rfl) rfl (lo' := [some (rf E (93)), some (.int (nI (d - 1))), some (.int (nI (bhd (sgn ln tx) i))), some (.int (nI (c + 1))), some (.int (nI (sgn ln tx (i)))), none]) rfl ?_
            refine y_goto (tgt := 23) hC dX2_count_171 (by decide) ?_
            refine y_fg 4 (lo' := [some (rf E (93)), some (.int (nI (d - 1))), some (.int (nI (bhd (sgn ln tx) i))), some (.int (nI (c + 1))), none, none]) rfl ?_
            exact ih_23 (d - 1) (bhd (sgn ln tx) i) (c + 1) n tk1 it1 false tf g1 ti1 (by omega) (by omega) (by omega) (by omega) (by omega) hP hk (fun j hj => hT j (by omega)) (by rw [bhd_1 c_48]; exact a4) (by rw [← hct, cT, if_pos hlt, if_pos c_48])
  exact L_23 61 0 0 0 60 0 0 true (fun _ => 1) g_18 (upd ti (0) (nI (1))) (by omega) (by omega) (by omega) (by omega) (by omega) hP_18 ⟨by omega, by omega⟩ (fun j hj => by rw [show j = 0 by omega]; exact ⟨pk_us, by decide⟩) hf0 rfl

theorem dX2_carryOutItem_0 : decode cX2_carryOutItem 0 = .ok (.aload_n 0, 1) := by decide +kernel
theorem dX2_carryOutItem_1 : decode cX2_carryOutItem 1 = .ok (.iload_n 1, 1) := by decide +kernel
theorem dX2_carryOutItem_2 : decode cX2_carryOutItem 2 = .ok (.invokevirtual 43, 3) := by decide +kernel
theorem dX2_carryOutItem_5 : decode cX2_carryOutItem 5 = .ok (.lookupswitch 56 #[(112, 42), (116, 27)], 27) := by decide +kernel
theorem dX2_carryOutItem_32 : decode cX2_carryOutItem 32 = .ok (.aload_n 2, 1) := by decide +kernel
theorem dX2_carryOutItem_33 : decode cX2_carryOutItem 33 = .ok (.aload_n 0, 1) := by decide +kernel
theorem dX2_carryOutItem_34 : decode cX2_carryOutItem 34 = .ok (.iload_n 1, 1) := by decide +kernel
theorem dX2_carryOutItem_35 : decode cX2_carryOutItem 35 = .ok (.iconst 1, 1) := by decide +kernel
theorem dX2_carryOutItem_36 : decode cX2_carryOutItem 36 = .ok (.iadd, 1) := by decide +kernel
theorem dX2_carryOutItem_37 : decode cX2_carryOutItem 37 = .ok (.invokevirtual 70, 3) := by decide +kernel
theorem dX2_carryOutItem_40 : decode cX2_carryOutItem 40 = .ok (.invokevirtual 78, 3) := by decide +kernel
theorem dX2_carryOutItem_43 : decode cX2_carryOutItem 43 = .ok (.pop, 1) := by decide +kernel
theorem dX2_carryOutItem_44 : decode cX2_carryOutItem 44 = .ok (.goto 28, 3) := by decide +kernel
theorem dX2_carryOutItem_47 : decode cX2_carryOutItem 47 = .ok (.aload_n 2, 1) := by decide +kernel
theorem dX2_carryOutItem_48 : decode cX2_carryOutItem 48 = .ok (.aload_n 0, 1) := by decide +kernel
theorem dX2_carryOutItem_49 : decode cX2_carryOutItem 49 = .ok (.iload_n 1, 1) := by decide +kernel
theorem dX2_carryOutItem_50 : decode cX2_carryOutItem 50 = .ok (.iconst 1, 1) := by decide +kernel
theorem dX2_carryOutItem_51 : decode cX2_carryOutItem 51 = .ok (.iadd, 1) := by decide +kernel
theorem dX2_carryOutItem_52 : decode cX2_carryOutItem 52 = .ok (.invokevirtual 47, 3) := by decide +kernel
theorem dX2_carryOutItem_55 : decode cX2_carryOutItem 55 = .ok (.invokevirtual 83, 3) := by decide +kernel
theorem dX2_carryOutItem_58 : decode cX2_carryOutItem 58 = .ok (.goto 14, 3) := by decide +kernel
theorem dX2_carryOutItem_61 : decode cX2_carryOutItem 61 = .ok (.aload_n 2, 1) := by decide +kernel
theorem dX2_carryOutItem_62 : decode cX2_carryOutItem 62 = .ok (.aload_n 0, 1) := by decide +kernel
theorem dX2_carryOutItem_63 : decode cX2_carryOutItem 63 = .ok (.iload_n 1, 1) := by decide +kernel
theorem dX2_carryOutItem_64 : decode cX2_carryOutItem 64 = .ok (.iconst 1, 1) := by decide +kernel
theorem dX2_carryOutItem_65 : decode cX2_carryOutItem 65 = .ok (.iadd, 1) := by decide +kernel
theorem dX2_carryOutItem_66 : decode cX2_carryOutItem 66 = .ok (.invokevirtual 47, 3) := by decide +kernel
theorem dX2_carryOutItem_69 : decode cX2_carryOutItem 69 = .ok (.invokevirtual 87, 3) := by decide +kernel
theorem dX2_carryOutItem_72 : decode cX2_carryOutItem 72 = .ok (.return_, 1) := by decide +kernel
set_option maxHeartbeats 4000000 in
set_option maxRecDepth 100000 in
theorem c_X2_carryOutItem (l : Launch) (E : gE) (g : Mem) (ln : Nat) (tx : Nat → Nat) (f : Nat → Int32) (tk it : Int32) (st ti : Nat → Int32) (h : PX E g ln tx f tk it st ti) (r : Row) (B : Nat) (hB : B < 90000000) (hs : StA E g 1 r) (hv : Vr r B) (i : Nat) (hi : i < 1000) (hit : itOk (sgn ln tx) r i) : Mt l E yX2_carryOutItem cX2_carryOutItem 3 none 3 64 [rf E (93), .int (nI (i)), rf E (1)] g (pV (fun g' => StA E g' 1 (itR (sgn ln tx) r i) ∧ Fr 1 g g')) := by
  have hK := h.k
  have hln := h.l
  refine mt_go (own := RX2) (by decide) rfl (lo := [some (rf E (93)), some (.int (nI (i))), some (rf E (1))]) rfl (Nat.le_of_ble_eq_true rfl) (fun X hC => ?_)
  refine y_aload_n hC dX2_carryOutItem_0 (i := 0) rfl rfl ?_
  refine y_iload_n hC dX2_carryOutItem_1 (i := 1) rfl rfl ?_
  refine y_callV hC mX2_signAt kX2_43 dX2_carryOutItem_2 (b := 93) (As := [.int (nI (i))]) (rest := []) (c_X2_signAt l E g ln tx f tk it st ti h (i) (by omega)) (by omega) h.a93 rfl rfl rfl (Nat.le_of_ble_eq_true rfl) ⟨Nat.le_of_ble_eq_true rfl, Nat.le_of_ble_eq_true rfl⟩ (pk_i ?_)
  rintro r_2 g_2 ⟨hr_2, hq_2⟩
  obtain rfl := hq_2.symm
  rw [hr_2]
  clear hr_2 r_2
  have hs_2 := sgn_lt h (i)
  rcases hit with ⟨e1, e2, e3⟩ | ⟨e1 | e1, e2, e3, e4⟩
  · refine y_look (off := 27) (tgt := 32) hC dX2_carryOutItem_5 (by decide) (by rw [e1]; decide) (by decide) ?_
    refine y_aload_n hC dX2_carryOutItem_32 (i := 2) rfl rfl ?_
    refine y_aload_n hC dX2_carryOutItem_33 (i := 0) rfl rfl ?_
    refine y_iload_n hC dX2_carryOutItem_34 (i := 1) rfl rfl ?_
    refine y_iconst (v := nI 1) hC dX2_carryOutItem_35 (by decide) ?_
    refine y_iadd_n hC dX2_carryOutItem_36 ?_
    refine y_callV hC mX2_numberAt kX2_70 dX2_carryOutItem_37 (b := 93) (As := [.int (nI (i + 1))]) (rest := [rf E (1)]) (c_X2_numberAt l E g ln tx f tk it st ti h (i + 1) (by omega) (by omega) (by omega)) (by omega) h.a93 rfl rfl rfl (Nat.le_of_ble_eq_true rfl) ⟨Nat.le_of_ble_eq_true rfl, Nat.le_of_ble_eq_true rfl⟩ (pk_i ?_)
    rintro r_37 g_37 ⟨hr_37, hq_37⟩
    obtain rfl := hq_37.symm
    rw [hr_37]
    clear hr_37 r_37
    have hnm := nmb_le (s := sgn ln tx) (i := i + 1) (by omega)
    refine y_callV hC mX4_advance kX2_78 dX2_carryOutItem_40 (b := 1) (As := [.int (nI (nmb (sgn ln tx) (i + 1)))]) (rest := []) (c_X4_advance l E g 1 r B (by omega) hs hv (nmb (sgn ln tx) (i + 1)) (by omega)) hs.of_lt.1 hs.of_lt.2.choose_spec rfl rfl rfl (Nat.le_of_ble_eq_true rfl) ⟨Nat.le_of_ble_eq_true rfl, Nat.le_of_ble_eq_true rfl⟩ (pk_i ?_)
    rintro rz g_40 ⟨-, hst, hfr⟩
    refine y_pop hC dX2_carryOutItem_43 rfl ?_
    refine y_goto (tgt := 72) hC dX2_carryOutItem_44 (by decide) ?_
    refine y_vret (hC := hC) (hd := dX2_carryOutItem_72) (hq := ?_)
    refine ⟨?_, hfr⟩
    unfold itR
    first
      | (rw [if_pos e1]; exact hst)
      | (rw [if_neg (by omega), if_pos e1]; exact hst)
      | (rw [if_neg (by omega), if_neg (by omega)]; exact hst)
  · refine y_look (off := 42) (tgt := 47) hC dX2_carryOutItem_5 (by decide) (by rw [e1]; decide) (by decide) ?_
    refine y_aload_n hC dX2_carryOutItem_47 (i := 2) rfl rfl ?_
    refine y_aload_n hC dX2_carryOutItem_48 (i := 0) rfl rfl ?_
    refine y_iload_n hC dX2_carryOutItem_49 (i := 1) rfl rfl ?_
    refine y_iconst (v := nI 1) hC dX2_carryOutItem_50 (by decide) ?_
    refine y_iadd_n hC dX2_carryOutItem_51 ?_
    refine y_callV hC mX2_digitAt kX2_47 dX2_carryOutItem_52 (b := 93) (As := [.int (nI (i + 1))]) (rest := [rf E (1)]) (c_X2_digitAt l E g ln tx f tk it st ti h (i + 1) (by omega)) (by omega) h.a93 rfl rfl rfl (Nat.le_of_ble_eq_true rfl) ⟨Nat.le_of_ble_eq_true rfl, Nat.le_of_ble_eq_true rfl⟩ (pk_i ?_)
    rintro r_52 g_52 ⟨hr_52, hq_52⟩
    obtain rfl := hq_52.symm
    rw [hr_52]
    clear hr_52 r_52
    rw [pk_sub (a := sgn ln tx (i + 1)) (b := 48) (by omega)]
    refine y_callV hC mX4_runOrPause kX2_83 dX2_carryOutItem_55 (b := 1) (As := [.int (nI (sgn ln tx (i + 1) - 48))]) (rest := []) (c_X4_runOrPause l E g 1 r B (by omega) hs hv (sgn ln tx (i + 1) - 48) e4) hs.of_lt.1 hs.of_lt.2.choose_spec rfl rfl rfl (Nat.le_of_ble_eq_true rfl) ⟨Nat.le_of_ble_eq_true rfl, Nat.le_of_ble_eq_true rfl⟩ (pk_v ?_)
    rintro g_55 ⟨hst, hfr⟩
    refine y_goto (tgt := 72) hC dX2_carryOutItem_58 (by decide) ?_
    refine y_vret (hC := hC) (hd := dX2_carryOutItem_72) (hq := ?_)
    refine ⟨?_, hfr⟩
    unfold itR
    first
      | (rw [if_pos e1]; exact hst)
      | (rw [if_neg (by omega), if_pos e1]; exact hst)
      | (rw [if_neg (by omega), if_neg (by omega)]; exact hst)
  · refine y_look (off := 56) (tgt := 61) hC dX2_carryOutItem_5 (by decide) (by rw [e1]; decide) (by decide) ?_
    refine y_aload_n hC dX2_carryOutItem_61 (i := 2) rfl rfl ?_
    refine y_aload_n hC dX2_carryOutItem_62 (i := 0) rfl rfl ?_
    refine y_iload_n hC dX2_carryOutItem_63 (i := 1) rfl rfl ?_
    refine y_iconst (v := nI 1) hC dX2_carryOutItem_64 (by decide) ?_
    refine y_iadd_n hC dX2_carryOutItem_65 ?_
    refine y_callV hC mX2_digitAt kX2_47 dX2_carryOutItem_66 (b := 93) (As := [.int (nI (i + 1))]) (rest := [rf E (1)]) (c_X2_digitAt l E g ln tx f tk it st ti h (i + 1) (by omega)) (by omega) h.a93 rfl rfl rfl (Nat.le_of_ble_eq_true rfl) ⟨Nat.le_of_ble_eq_true rfl, Nat.le_of_ble_eq_true rfl⟩ (pk_i ?_)
    rintro r_66 g_66 ⟨hr_66, hq_66⟩
    obtain rfl := hq_66.symm
    rw [hr_66]
    clear hr_66 r_66
    rw [pk_sub (a := sgn ln tx (i + 1)) (b := 48) (by omega)]
    refine y_callV hC mX4_stepAtOnce kX2_87 dX2_carryOutItem_69 (b := 1) (As := [.int (nI (sgn ln tx (i + 1) - 48))]) (rest := []) (c_X4_stepAtOnce l E g 1 r B (by omega) hs hv (sgn ln tx (i + 1) - 48) e4) hs.of_lt.1 hs.of_lt.2.choose_spec rfl rfl rfl (Nat.le_of_ble_eq_true rfl) ⟨Nat.le_of_ble_eq_true rfl, Nat.le_of_ble_eq_true rfl⟩ (pk_v ?_)
    rintro g_69 ⟨hst, hfr⟩
    refine y_vret (hC := hC) (hd := dX2_carryOutItem_72) (hq := ?_)
    refine ⟨?_, hfr⟩
    unfold itR
    first
      | (rw [if_pos e1]; exact hst)
      | (rw [if_neg (by omega), if_pos e1]; exact hst)
      | (rw [if_neg (by omega), if_neg (by omega)]; exact hst)

theorem dX2_carryOut_0 : decode cX2_carryOut 0 = .ok (.iconst 0, 1) := by decide +kernel
theorem dX2_carryOut_1 : decode cX2_carryOut 1 = .ok (.istore_n 2, 1) := by decide +kernel
theorem dX2_carryOut_2 : decode cX2_carryOut 2 = .ok (.iconst 0, 1) := by decide +kernel
theorem dX2_carryOut_3 : decode cX2_carryOut 3 = .ok (.istore_n 3, 1) := by decide +kernel
theorem dX2_carryOut_4 : decode cX2_carryOut 4 = .ok (.iconst 0, 1) := by decide +kernel
theorem dX2_carryOut_5 : decode cX2_carryOut 5 = .ok (.istore 4, 2) := by decide +kernel
theorem dX2_carryOut_7 : decode cX2_carryOut 7 = .ok (.iload 4, 2) := by decide +kernel
theorem dX2_carryOut_9 : decode cX2_carryOut 9 = .ok (.ldc 73, 2) := by decide +kernel
theorem dX2_carryOut_11 : decode cX2_carryOut 11 = .ok (.if_icmp .ge 123, 3) := by decide +kernel
theorem dX2_carryOut_14 : decode cX2_carryOut 14 = .ok (.iload_n 3, 1) := by decide +kernel
theorem dX2_carryOut_15 : decode cX2_carryOut 15 = .ok (.aload_n 0, 1) := by decide +kernel
theorem dX2_carryOut_16 : decode cX2_carryOut 16 = .ok (.getfield 22, 3) := by decide +kernel
theorem dX2_carryOut_19 : decode cX2_carryOut 19 = .ok (.if_icmp .ge 115, 3) := by decide +kernel
theorem dX2_carryOut_22 : decode cX2_carryOut 22 = .ok (.aload_n 0, 1) := by decide +kernel
theorem dX2_carryOut_23 : decode cX2_carryOut 23 = .ok (.iload_n 3, 1) := by decide +kernel
theorem dX2_carryOut_24 : decode cX2_carryOut 24 = .ok (.invokevirtual 43, 3) := by decide +kernel
theorem dX2_carryOut_27 : decode cX2_carryOut 27 = .ok (.istore 5, 2) := by decide +kernel
theorem dX2_carryOut_29 : decode cX2_carryOut 29 = .ok (.aload_n 0, 1) := by decide +kernel
theorem dX2_carryOut_30 : decode cX2_carryOut 30 = .ok (.iload_n 3, 1) := by decide +kernel
theorem dX2_carryOut_31 : decode cX2_carryOut 31 = .ok (.invokevirtual 58, 3) := by decide +kernel
theorem dX2_carryOut_34 : decode cX2_carryOut 34 = .ok (.istore 6, 2) := by decide +kernel
theorem dX2_carryOut_36 : decode cX2_carryOut 36 = .ok (.iload 5, 2) := by decide +kernel
theorem dX2_carryOut_38 : decode cX2_carryOut 38 = .ok (.invokestatic 40, 3) := by decide +kernel
theorem dX2_carryOut_41 : decode cX2_carryOut 41 = .ok (.ifCond .eq 28, 3) := by decide +kernel
theorem dX2_carryOut_44 : decode cX2_carryOut 44 = .ok (.aload_n 0, 1) := by decide +kernel
theorem dX2_carryOut_45 : decode cX2_carryOut 45 = .ok (.getfield 15, 3) := by decide +kernel
theorem dX2_carryOut_48 : decode cX2_carryOut 48 = .ok (.iload_n 2, 1) := by decide +kernel
theorem dX2_carryOut_49 : decode cX2_carryOut 49 = .ok (.iload 6, 2) := by decide +kernel
theorem dX2_carryOut_51 : decode cX2_carryOut 51 = .ok (.iastore, 1) := by decide +kernel
theorem dX2_carryOut_52 : decode cX2_carryOut 52 = .ok (.aload_n 0, 1) := by decide +kernel
theorem dX2_carryOut_53 : decode cX2_carryOut 53 = .ok (.getfield 19, 3) := by decide +kernel
theorem dX2_carryOut_56 : decode cX2_carryOut 56 = .ok (.iload_n 2, 1) := by decide +kernel
theorem dX2_carryOut_57 : decode cX2_carryOut 57 = .ok (.aload_n 0, 1) := by decide +kernel
theorem dX2_carryOut_58 : decode cX2_carryOut 58 = .ok (.iload_n 3, 1) := by decide +kernel
theorem dX2_carryOut_59 : decode cX2_carryOut 59 = .ok (.invokevirtual 47, 3) := by decide +kernel
theorem dX2_carryOut_62 : decode cX2_carryOut 62 = .ok (.iastore, 1) := by decide +kernel
theorem dX2_carryOut_63 : decode cX2_carryOut 63 = .ok (.iinc 2 1, 3) := by decide +kernel
theorem dX2_carryOut_66 : decode cX2_carryOut 66 = .ok (.goto 59, 3) := by decide +kernel
theorem dX2_carryOut_69 : decode cX2_carryOut 69 = .ok (.iload 5, 2) := by decide +kernel
theorem dX2_carryOut_71 : decode cX2_carryOut 71 = .ok (.bipush 41, 2) := by decide +kernel
theorem dX2_carryOut_73 : decode cX2_carryOut 73 = .ok (.if_icmp .eq 12, 3) := by decide +kernel
theorem dX2_carryOut_76 : decode cX2_carryOut 76 = .ok (.aload_n 0, 1) := by decide +kernel
theorem dX2_carryOut_77 : decode cX2_carryOut 77 = .ok (.iload_n 3, 1) := by decide +kernel
theorem dX2_carryOut_78 : decode cX2_carryOut 78 = .ok (.aload_n 1, 1) := by decide +kernel
theorem dX2_carryOut_79 : decode cX2_carryOut 79 = .ok (.invokevirtual 74, 3) := by decide +kernel
theorem dX2_carryOut_82 : decode cX2_carryOut 82 = .ok (.goto 43, 3) := by decide +kernel
theorem dX2_carryOut_85 : decode cX2_carryOut 85 = .ok (.aload_n 0, 1) := by decide +kernel
theorem dX2_carryOut_86 : decode cX2_carryOut 86 = .ok (.getfield 19, 3) := by decide +kernel
theorem dX2_carryOut_89 : decode cX2_carryOut 89 = .ok (.iload_n 2, 1) := by decide +kernel
theorem dX2_carryOut_90 : decode cX2_carryOut 90 = .ok (.iconst 1, 1) := by decide +kernel
theorem dX2_carryOut_91 : decode cX2_carryOut 91 = .ok (.isub, 1) := by decide +kernel
theorem dX2_carryOut_92 : decode cX2_carryOut 92 = .ok (.iaload, 1) := by decide +kernel
theorem dX2_carryOut_93 : decode cX2_carryOut 93 = .ok (.iconst 1, 1) := by decide +kernel
theorem dX2_carryOut_94 : decode cX2_carryOut 94 = .ok (.if_icmp .le 28, 3) := by decide +kernel
theorem dX2_carryOut_97 : decode cX2_carryOut 97 = .ok (.aload_n 0, 1) := by decide +kernel
theorem dX2_carryOut_98 : decode cX2_carryOut 98 = .ok (.getfield 19, 3) := by decide +kernel
theorem dX2_carryOut_101 : decode cX2_carryOut 101 = .ok (.iload_n 2, 1) := by decide +kernel
theorem dX2_carryOut_102 : decode cX2_carryOut 102 = .ok (.iconst 1, 1) := by decide +kernel
theorem dX2_carryOut_103 : decode cX2_carryOut 103 = .ok (.isub, 1) := by decide +kernel
theorem dX2_carryOut_104 : decode cX2_carryOut 104 = .ok (.dup2, 1) := by decide +kernel
theorem dX2_carryOut_105 : decode cX2_carryOut 105 = .ok (.iaload, 1) := by decide +kernel
theorem dX2_carryOut_106 : decode cX2_carryOut 106 = .ok (.iconst 1, 1) := by decide +kernel
theorem dX2_carryOut_107 : decode cX2_carryOut 107 = .ok (.isub, 1) := by decide +kernel
theorem dX2_carryOut_108 : decode cX2_carryOut 108 = .ok (.iastore, 1) := by decide +kernel
theorem dX2_carryOut_109 : decode cX2_carryOut 109 = .ok (.aload_n 0, 1) := by decide +kernel
theorem dX2_carryOut_110 : decode cX2_carryOut 110 = .ok (.getfield 15, 3) := by decide +kernel
theorem dX2_carryOut_113 : decode cX2_carryOut 113 = .ok (.iload_n 2, 1) := by decide +kernel
theorem dX2_carryOut_114 : decode cX2_carryOut 114 = .ok (.iconst 1, 1) := by decide +kernel
theorem dX2_carryOut_115 : decode cX2_carryOut 115 = .ok (.isub, 1) := by decide +kernel
theorem dX2_carryOut_116 : decode cX2_carryOut 116 = .ok (.iaload, 1) := by decide +kernel
theorem dX2_carryOut_117 : decode cX2_carryOut 117 = .ok (.istore 6, 2) := by decide +kernel
theorem dX2_carryOut_119 : decode cX2_carryOut 119 = .ok (.goto 6, 3) := by decide +kernel
theorem dX2_carryOut_122 : decode cX2_carryOut 122 = .ok (.iinc 2 (-1), 3) := by decide +kernel
theorem dX2_carryOut_125 : decode cX2_carryOut 125 = .ok (.iload 6, 2) := by decide +kernel
theorem dX2_carryOut_127 : decode cX2_carryOut 127 = .ok (.istore_n 3, 1) := by decide +kernel
theorem dX2_carryOut_128 : decode cX2_carryOut 128 = .ok (.iinc 4 1, 3) := by decide +kernel
theorem dX2_carryOut_131 : decode cX2_carryOut 131 = .ok (.goto (-124), 3) := by decide +kernel
theorem dX2_carryOut_134 : decode cX2_carryOut 134 = .ok (.return_, 1) := by decide +kernel
set_option maxHeartbeats 4000000 in
set_option maxRecDepth 100000 in
theorem c_X2_carryOut (l : Launch) (E : gE) (g : Mem) (ln : Nat) (tx : Nat → Nat) (f : Nat → Int32) (tk it : Int32) (st ti : Nat → Int32) (h : PX E g ln tx f tk it st ti) (r fin : Row) (B n : Nat) (sf0 tf0 : Nat → Nat) (hs : StA E g 1 r) (hn : n ≤ 999999) (hrun : Run (sgn ln tx) ln n 0 0 sf0 tf0 r B fin) : Mt l E yX2_carryOut cX2_carryOut 7 none 4 86 [rf E (93), rf E (1)] g (pV (fun g' => (∃ st' ti', PX E g' ln tx f tk it st' ti') ∧ StA E g' 1 fin ∧ ∀ k, k < 1 ∨ 16 ≤ k → k ≠ 95 → k ≠ 96 → g' k = g k)) := by
  have hK := h.k
  have hln := h.l
  refine mt_go (own := RX2) (by decide) rfl (lo := [some (rf E (93)), some (rf E (1)), none, none, none, none, none]) rfl (Nat.le_of_ble_eq_true rfl) (fun X hC => ?_)
  refine y_iconst (v := nI 0) hC dX2_carryOut_0 (by decide) ?_
  refine y_istore_n hC dX2_carryOut_1 (i := 2) rfl (Nat.le_of_ble_eq_true rfl) rfl (lo' := [some (rf E (93)), some (rf E (1)), some (.int (nI (0))), none, none, none, none]) rfl ?_
  refine y_iconst (v := nI 0) hC dX2_carryOut_2 (by decide) ?_
  refine y_istore_n hC dX2_carryOut_3 (i := 3) rfl (Nat.le_of_ble_eq_true rfl) rfl (lo' := [some (rf E (93)), some (rf E (1)), some (.int (nI (0))), some (.int (nI (0))), none, none, none]) rfl ?_
  refine y_iconst (v := nI 0) hC dX2_carryOut_4 (by decide) ?_
  refine y_istore hC dX2_carryOut_5 (Nat.le_of_ble_eq_true rfl) rfl (lo' := [some (rf E (93)), some (rf E (1)), some (.int (nI (0))), some (.int (nI (0))), some (.int (nI (0))), none, none]) rfl ?_
  have L_7 : ∀ (m : Nat) (n B1 d i c : Nat) (sf tf : Nat → Nat) (r1 : Row) (g1 : Mem) (st1 ti1 : Nat → Int32), (hm : n < m) → (hc : c + n ≤ 999999) → (hP : PX E g1 ln tx f tk it st1 ti1) → (hs1 : StA E g1 1 r1) → (hF : ∀ k, k < 1 ∨ 16 ≤ k → k ≠ 95 → k ≠ 96 → g1 k = g k) → (hS : ∀ j, j < d → st1 j = nI (sf j)) → (hT : ∀ j, j < d → ti1 j = nI (tf j)) → (hr : Run (sgn ln tx) ln n i d sf tf r1 B1 fin) → (hi : i ≤ 60) → (hd : d ≤ 30) → Y l E X (pV (fun g' => (∃ st' ti', PX E g' ln tx f tk it st' ti') ∧ StA E g' 1 fin ∧ ∀ k, k < 1 ∨ 16 ≤ k → k ≠ 95 → k ≠ 96 → g' k = g k)) 7 [some (rf E (93)), some (rf E (1)), some (.int (nI (d))), some (.int (nI (i))), some (.int (nI (c))), none, none] [] g1 := by
    intro m
    induction m with
    | zero => intro n B1 d i c sf tf r1 g1 st1 ti1 hm hc hP hs1 hF hS hT hr hi hd; exact absurd hm (Nat.not_lt_zero _)
    | succ m ih_7 =>
      intro n B1 d i c sf tf r1 g1 st1 ti1 hm hc hP hs1 hF hS hT hr hi hd
      refine y_iload hC dX2_carryOut_7 rfl ?_
      refine y_ldc hC cnX2_73 dX2_carryOut_9 ?_
      refine y_top (show (1000000 : Int32) = nI 1000000 from by decide) ?_
      refine y_icmp_ge_n (tgt := 134) hC dX2_carryOut_11 (by decide) (by omega) (by omega) (fun c_11 => ?_) (fun c_11 => ?_)
      · refine y_vret (hC := hC) (hd := dX2_carryOut_134) (hq := ?_)
        first
          | (exact absurd hc (by omega))
          | (have hfi := Run_ge hr (by omega)
             subst hfi
             exact ⟨⟨st1, ti1, hP⟩, hs1, hF⟩)
      · refine y_iload_n hC dX2_carryOut_14 (i := 3) rfl rfl ?_
        refine y_aload_n hC dX2_carryOut_15 (i := 0) rfl rfl ?_
        refine y_get hC fX2_22 dX2_carryOut_16 (k := 93) (by omega) hP.a93 rfl ?_
        refine y_icmp_ge_n (tgt := 134) hC dX2_carryOut_19 (by decide) (by omega) (by omega) (fun c_19 => ?_) (fun c_19 => ?_)
        · refine y_vret (hC := hC) (hd := dX2_carryOut_134) (hq := ?_)
          first
            | (exact absurd hc (by omega))
            | (have hfi := Run_ge hr (by omega)
               subst hfi
               exact ⟨⟨st1, ti1, hP⟩, hs1, hF⟩)
        · have hlt : i < ln := by omega
          obtain ⟨k, hk, hr2⟩ := Run_lt hr hlt
          clear hr
          subst hk
          obtain ⟨-, hv, hB, hcs⟩ := hr2
          have hs0 := sgn_lt h i
          have hbu : bhd (sgn ln tx) i ≤ 60 := by
            have := bhd_le (s := sgn ln tx) (i := i) sz hlt (by unfold itOk at hcs; omega)
            omega
          refine y_aload_n hC dX2_carryOut_22 (i := 0) rfl rfl ?_
          refine y_iload_n hC dX2_carryOut_23 (i := 3) rfl rfl ?_
          refine y_callV hC mX2_signAt kX2_43 dX2_carryOut_24 (b := 93) (As := [.int (nI (i))]) (rest := []) (c_X2_signAt l E g1 ln tx f ((tk)) ((it)) st1 ti1 hP (i) (by omega)) (by omega) hP.a93 rfl rfl rfl (Nat.le_of_ble_eq_true rfl) ⟨Nat.le_of_ble_eq_true rfl, Nat.le_of_ble_eq_true rfl⟩ (pk_i ?_)
          rintro r_24 g_24 ⟨hr_24, hq_24⟩
          obtain rfl := hq_24.symm
          rw [hr_24]
          clear hr_24 r_24
          refine y_istore hC dX2_carryOut_27 (Nat.le_of_ble_eq_true rfl) rfl (lo' := [some (rf E (93)), some (rf E (1)), some (.int (nI (d))), some (.int (nI (i))), some (.int (nI (c))), some (.int (nI (sgn ln tx (i)))), none]) rfl ?_
          refine y_aload_n hC dX2_carryOut_29 (i := 0) rfl rfl ?_
          refine y_iload_n hC dX2_carryOut_30 (i := 3) rfl rfl ?_
          refine y_callV hC mX2_behind kX2_58 dX2_carryOut_31 (b := 93) (As := [.int (nI (i))]) (rest := []) (c_X2_behind l E g1 ln tx f ((tk)) ((it)) st1 ti1 hP (i) (by omega)) (by omega) hP.a93 rfl rfl rfl (Nat.le_of_ble_eq_true rfl) ⟨Nat.le_of_ble_eq_true rfl, Nat.le_of_ble_eq_true rfl⟩ (pk_i ?_)
          rintro r_31 g_31 ⟨hr_31, hq_31⟩
          obtain rfl := hq_31.symm
          rw [hr_31]
          clear hr_31 r_31
          refine y_istore hC dX2_carryOut_34 (Nat.le_of_ble_eq_true rfl) rfl (lo' := [some (rf E (93)), some (rf E (1)), some (.int (nI (d))), some (.int (nI (i))), some (.int (nI (c))), some (.int (nI (sgn ln tx (i)))), some (.int (nI (bhd (sgn ln tx) i)))]) rfl ?_
          refine y_iload hC dX2_carryOut_36 rfl ?_
          refine y_callS hC mX2_isRepeat kX2_40 dX2_carryOut_38 (As := [.int (nI (sgn ln tx (i)))]) (rest := []) (c_X2_isRepeat l E g1 (sgn ln tx (i)) hs0) rfl rfl rfl (Nat.le_of_ble_eq_true rfl) ⟨Nat.le_of_ble_eq_true rfl, Nat.le_of_ble_eq_true rfl⟩ (pk_i ?_)
          rintro r_38 g_38 ⟨hr_38, hq_38⟩
          obtain rfl := hq_38.symm
          rw [hr_38]
          clear hr_38 r_38
          refine y_if_eq_b (tgt := 69) hC dX2_carryOut_41 (by decide) (fun c_41 => ?_) (fun c_41 => ?_)
          · have hnr : ¬ (50 ≤ sgn ln tx i ∧ sgn ln tx i ≤ 57) := fun q => c_41 (decide_eq_true q)
            refine y_iload hC dX2_carryOut_69 rfl ?_
            refine y_bipush (v := nI 41) hC dX2_carryOut_71 (by decide) ?_
            refine y_icmp_eq_n (tgt := 85) hC dX2_carryOut_73 (by decide) (by omega) (by omega) (fun c_73 => ?_) (fun c_73 => ?_)
            · rcases hcs with ⟨e1, e2, -⟩ | ⟨e1, e2, e3, e4, e5, e6, e7⟩ | ⟨e1, -⟩
              · exfalso; omega
              rotate_left
              · exfalso; unfold itOk at e1; omega
              refine y_aload_n hC dX2_carryOut_85 (i := 0) rfl rfl ?_
              refine y_get hC fX2_19 dX2_carryOut_86 (k := 93) (by omega) hP.a93 rfl ?_
              refine y_iload_n hC dX2_carryOut_89 (i := 2) rfl rfl ?_
              refine y_iconst (v := nI 1) hC dX2_carryOut_90 (by decide) ?_
              refine y_isub_n hC dX2_carryOut_91 (by omega) ?_
              refine y_iald hC dX2_carryOut_92 (k := 96) (j := d - (1)) (by omega) hP.a96 (rfl) (by omega) (by decide) ?_
              refine y_top (y := nI (tf (d - 1))) (hT (d - 1) (by omega)) ?_
              refine y_iconst (v := nI 1) hC dX2_carryOut_93 (by decide) ?_
              refine y_icmp_le_n (tgt := 122) hC dX2_carryOut_94 (by decide) (by omega) (by omega) (fun c_94 => ?_) (fun c_94 => ?_)
              · obtain ⟨e8, -⟩ | ⟨-, e8⟩ := e7
                · exfalso; omega
                refine y_iinc hC dX2_carryOut_122 (x := nI (d)) (v := nI (d - 1)) rfl (by rw [show Int32.ofInt (-1) = -nI 1 from by decide, ← Int32.sub_eq_add_neg]; exact pk_sub (by omega)) (Nat.le_of_ble_eq_true rfl) rfl (lo' := [some (rf E (93)), some (rf E (1)), some (.int (nI (d - 1))), some (.int (nI (i))), some (.int (nI (c))), some (.int (nI (sgn ln tx (i)))), some (.int (nI (bhd (sgn ln tx) i)))]) rfl ?_
                refine y_iload hC dX2_carryOut_125 rfl ?_
                refine y_istore_n hC dX2_carryOut_127 (i := 3) rfl (Nat.le_of_ble_eq_true rfl) rfl (lo' := [some (rf E (93)), some (rf E (1)), some (.int (nI (d - 1))), some (.int (nI (bhd (sgn ln tx) i))), some (.int (nI (c))), some (.int (nI (sgn ln tx (i)))), some (.int (nI (bhd (sgn ln tx) i)))]) rfl ?_
                refine y_iinc_n hC dX2_carryOut_128 (a := c) (k := 1) rfl (by decide) (Nat.le_of_ble_eq_true rfl) rfl (lo' := [some (rf E (93)), some (rf E (1)), some (.int (nI (d - 1))), some (.int (nI (bhd (sgn ln tx) i))), some (.int (nI (c + 1))), some (.int (nI (sgn ln tx (i)))), some (.int (nI (bhd (sgn ln tx) i)))]) rfl ?_
                refine y_goto (tgt := 7) hC dX2_carryOut_131 (by decide) ?_
                refine y_fg 5 (lo' := [some (rf E (93)), some (rf E (1)), some (.int (nI (d - 1))), some (.int (nI (bhd (sgn ln tx) i))), some (.int (nI (c + 1))), none, some (.int (nI (bhd (sgn ln tx) i)))]) rfl ?_
                refine y_fg 6 (lo' := [some (rf E (93)), some (rf E (1)), some (.int (nI (d - 1))), some (.int (nI (bhd (sgn ln tx) i))), some (.int (nI (c + 1))), none, none]) rfl ?_
                exact ih_7 k B1 (d - 1) (bhd (sgn ln tx) i) (c + 1) sf tf r1 g1 st1 ti1 (by omega) (by omega) hP hs1 hF (fun j hj => hS j (by omega)) (fun j hj => hT j (by omega)) e8 (by omega) (by omega)
              · obtain ⟨e9, e8⟩ | ⟨e8, -⟩ := e7
                rotate_left
                · exfalso; omega
                refine y_aload_n hC dX2_carryOut_97 (i := 0) rfl rfl ?_
                refine y_get hC fX2_19 dX2_carryOut_98 (k := 93) (by omega) hP.a93 rfl ?_
                refine y_iload_n hC dX2_carryOut_101 (i := 2) rfl rfl ?_
                refine y_iconst (v := nI 1) hC dX2_carryOut_102 (by decide) ?_
                refine y_isub_n hC dX2_carryOut_103 (by omega) ?_
                refine y_dup2 hC dX2_carryOut_104 rfl rfl ?_
                refine y_iald hC dX2_carryOut_105 (k := 96) (j := d - (1)) (by omega) hP.a96 (rfl) (by omega) (by decide) ?_
                refine y_top (y := nI (tf (d - 1))) (hT (d - 1) (by omega)) ?_
                refine y_iconst (v := nI 1) hC dX2_carryOut_106 (by decide) ?_
                refine y_isub_n hC dX2_carryOut_107 (by omega) ?_
                refine y_iast hC dX2_carryOut_108 (k := 96) (j := d - (1)) (by omega) hP.a96 (rfl) (by omega) (by decide) ?_
                have hP_108 : PX E (va_up g1 (96) (aI E 0 60 (upd ti1 (d - (1)) (nI ((tf (d - 1)) - (1)))))) ln tx f ((tk)) ((it)) st1 (upd ti1 (d - (1)) (nI ((tf (d - 1)) - (1)))) := hP.u96 _
                have hF_108 : ∀ k, k < 1 ∨ 16 ≤ k → k ≠ 95 → k ≠ 96 → (va_up g1 (96) (aI E 0 60 (upd ti1 (d - (1)) (nI ((tf (d - 1)) - (1)))))) k = g k := fun k h1 h2 h3 => (va_up_ne _ _ (by omega)).trans (hF k h1 h2 h3)
                have hs_108 : StA E (va_up g1 (96) (aI E 0 60 (upd ti1 (d - (1)) (nI ((tf (d - 1)) - (1)))))) 1 r1 := hs1.ne16 (by omega)
                generalize (va_up g1 (96) (aI E 0 60 (upd ti1 (d - (1)) (nI ((tf (d - 1)) - (1)))))) = g_108 at hP_108 hF_108 hs_108 ⊢
                refine y_aload_n hC dX2_carryOut_109 (i := 0) rfl rfl ?_
                refine y_get hC fX2_15 dX2_carryOut_110 (k := 93) (by omega) hP_108.a93 rfl ?_
                refine y_iload_n hC dX2_carryOut_113 (i := 2) rfl rfl ?_
                refine y_iconst (v := nI 1) hC dX2_carryOut_114 (by decide) ?_
                refine y_isub_n hC dX2_carryOut_115 (by omega) ?_
                refine y_iald hC dX2_carryOut_116 (k := 95) (j := d - (1)) (by omega) hP_108.a95 (rfl) (by omega) (by decide) ?_
                refine y_top (y := nI (sf (d - 1))) (hS (d - 1) (by omega)) ?_
                refine y_istore hC dX2_carryOut_117 (Nat.le_of_ble_eq_true rfl) rfl (lo' := [some (rf E (93)), some (rf E (1)), some (.int (nI (d))), some (.int (nI (i))), some (.int (nI (c))), some (.int (nI (sgn ln tx (i)))), some (.int (nI (sf (d - 1))))]) rfl ?_
                refine y_goto (tgt := 125) hC dX2_carryOut_119 (by decide) ?_
                refine y_iload hC dX2_carryOut_125 rfl ?_
                refine y_istore_n hC dX2_carryOut_127 (i := 3) rfl (Nat.le_of_ble_eq_true rfl) rfl (lo' := [some (rf E (93)), some (rf E (1)), some (.int (nI (d))), some (.int (nI (sf (d - 1)))), some (.int (nI (c))), some (.int (nI (sgn ln tx (i)))), some (.int (nI (sf (d - 1))))]) rfl ?_
                refine y_iinc_n hC dX2_carryOut_128 (a := c) (k := 1) rfl (by decide) (Nat.le_of_ble_eq_true rfl) rfl (lo' := [some (rf E (93)), some (rf E (1)), some (.int (nI (d))), some (.int (nI (sf (d - 1)))), some (.int (nI (c + 1))), some (.int (nI (sgn ln tx (i)))), some (.int (nI (sf (d - 1))))]) rfl ?_
                refine y_goto (tgt := 7) hC dX2_carryOut_131 (by decide) ?_
                refine y_fg 5 (lo' := [some (rf E (93)), some (rf E (1)), some (.int (nI (d))), some (.int (nI (sf (d - 1)))), some (.int (nI (c + 1))), none, some (.int (nI (sf (d - 1))))]) rfl ?_
                refine y_fg 6 (lo' := [some (rf E (93)), some (rf E (1)), some (.int (nI (d))), some (.int (nI (sf (d - 1)))), some (.int (nI (c + 1))), none, none]) rfl ?_
                exact ih_7 k B1 d (sf (d - 1)) (c + 1) sf _ r1 g_108 st1 (upd ti1 (d - (1)) (nI ((tf (d - 1)) - (1)))) (by omega) (by omega) hP_108 hs_108 hF_108 hS (fun j hj => zuv hT j (by omega)) e8 (by omega) (by omega)
            · rcases hcs with ⟨e1, e2, -⟩ | ⟨e1, -⟩ | ⟨e1, e2⟩
              · exfalso; omega
              · exfalso; omega
              refine y_aload_n hC dX2_carryOut_76 (i := 0) rfl rfl ?_
              refine y_iload_n hC dX2_carryOut_77 (i := 3) rfl rfl ?_
              refine y_aload_n hC dX2_carryOut_78 (i := 1) rfl rfl ?_
              refine y_callV hC mX2_carryOutItem kX2_74 dX2_carryOut_79 (b := 93) (As := [.int (nI (i)), rf E (1)]) (rest := []) (c_X2_carryOutItem l E g1 ln tx f ((tk)) ((it)) st1 ti1 hP r1 B1 hB hs1 hv (i) (by omega) e1) (by omega) hP.a93 rfl rfl rfl (Nat.le_of_ble_eq_true rfl) ⟨Nat.le_of_ble_eq_true rfl, Nat.le_of_ble_eq_true rfl⟩ (pk_v ?_)
              rintro g_79 ⟨hst, hfr⟩
              have hP_79 := hP.keep (fun k h1 h2 => hfr k (by omega))
              have hF_79 : ∀ k, k < 1 ∨ 16 ≤ k → k ≠ 95 → k ≠ 96 → g_79 k = g k := fun k h1 h2 h3 => (hfr k h1).trans (hF k h1 h2 h3)
              refine y_goto (tgt := 125) hC dX2_carryOut_82 (by decide) ?_
              refine y_iload hC dX2_carryOut_125 rfl ?_
              refine y_istore_n hC dX2_carryOut_127 (i := 3) rfl (Nat.le_of_ble_eq_true rfl) rfl (lo' := [some (rf E (93)), some (rf E (1)), some (.int (nI (d))), some (.int (nI (bhd (sgn ln tx) i))), some (.int (nI (c))), some (.int (nI (sgn ln tx (i)))), some (.int (nI (bhd (sgn ln tx) i)))]) rfl ?_
              refine y_iinc_n hC dX2_carryOut_128 (a := c) (k := 1) rfl (by decide) (Nat.le_of_ble_eq_true rfl) rfl (lo' := [some (rf E (93)), some (rf E (1)), some (.int (nI (d))), some (.int (nI (bhd (sgn ln tx) i))), some (.int (nI (c + 1))), some (.int (nI (sgn ln tx (i)))), some (.int (nI (bhd (sgn ln tx) i)))]) rfl ?_
              refine y_goto (tgt := 7) hC dX2_carryOut_131 (by decide) ?_
              refine y_fg 5 (lo' := [some (rf E (93)), some (rf E (1)), some (.int (nI (d))), some (.int (nI (bhd (sgn ln tx) i))), some (.int (nI (c + 1))), none, some (.int (nI (bhd (sgn ln tx) i)))]) rfl ?_
              refine y_fg 6 (lo' := [some (rf E (93)), some (rf E (1)), some (.int (nI (d))), some (.int (nI (bhd (sgn ln tx) i))), some (.int (nI (c + 1))), none, none]) rfl ?_
              exact ih_7 k (B1 + itB (sgn ln tx) i) d (bhd (sgn ln tx) i) (c + 1) sf tf (itR (sgn ln tx) r1 i) g_79 st1 ti1 (by omega) (by omega) hP_79 hst hF_79 hS hT e2 (by omega) (by omega)
          · have hrr := isRep_s c_41
            rcases hcs with ⟨e1, e2, e3, e4, e5⟩ | ⟨e1, -⟩ | ⟨e1, -⟩
            rotate_left
            · exfalso; omega
            · exfalso; unfold itOk at e1; omega
            refine y_aload_n hC dX2_carryOut_44 (i := 0) rfl rfl ?_
            refine y_get hC fX2_15 dX2_carryOut_45 (k := 93) (by omega) hP.a93 rfl ?_
            refine y_iload_n hC dX2_carryOut_48 (i := 2) rfl rfl ?_
            refine y_iload hC dX2_carryOut_49 rfl ?_
            refine y_iast hC dX2_carryOut_51 (k := 95) (j := d) (by omega) hP.a95 (rfl) (by omega) (by decide) ?_
            have hP_51 : PX E (va_up g1 (95) (aI E 0 60 (upd st1 (d) (nI (bhd (sgn ln tx) i))))) ln tx f ((tk)) ((it)) (upd st1 (d) (nI (bhd (sgn ln tx) i))) ti1 := hP.u95 _
            have hF_51 : ∀ k, k < 1 ∨ 16 ≤ k → k ≠ 95 → k ≠ 96 → (va_up g1 (95) (aI E 0 60 (upd st1 (d) (nI (bhd (sgn ln tx) i))))) k = g k := fun k h1 h2 h3 => (va_up_ne _ _ (by omega)).trans (hF k h1 h2 h3)
            have hs_51 : StA E (va_up g1 (95) (aI E 0 60 (upd st1 (d) (nI (bhd (sgn ln tx) i))))) 1 r1 := hs1.ne16 (by omega)
            generalize (va_up g1 (95) (aI E 0 60 (upd st1 (d) (nI (bhd (sgn ln tx) i))))) = g_51 at hP_51 hF_51 hs_51 ⊢
            refine y_aload_n hC dX2_carryOut_52 (i := 0) rfl rfl ?_
            refine y_get hC fX2_19 dX2_carryOut_53 (k := 93) (by omega) hP_51.a93 rfl ?_
            refine y_iload_n hC dX2_carryOut_56 (i := 2) rfl rfl ?_
            refine y_aload_n hC dX2_carryOut_57 (i := 0) rfl rfl ?_
            refine y_iload_n hC dX2_carryOut_58 (i := 3) rfl rfl ?_
            refine y_callV hC mX2_digitAt kX2_47 dX2_carryOut_59 (b := 93) (As := [.int (nI (i))]) (rest := [.int (nI (d)), rf E (96)]) (c_X2_digitAt l E g_51 ln tx f ((tk)) ((it)) (upd st1 (d) (nI (bhd (sgn ln tx) i))) ti1 hP_51 (i) (by omega)) (by omega) hP_51.a93 rfl rfl rfl (Nat.le_of_ble_eq_true rfl) ⟨Nat.le_of_ble_eq_true rfl, Nat.le_of_ble_eq_true rfl⟩ (pk_i ?_)
            rintro r_59 g_59 ⟨hr_59, hq_59⟩
            obtain rfl := hq_59.symm
            rw [hr_59]
            clear hr_59 r_59
            rw [pk_sub (a := sgn ln tx (i)) (b := 48) (by omega)]
            refine y_iast hC dX2_carryOut_62 (k := 96) (j := d) (by omega) hP_51.a96 (rfl) (by omega) (by decide) ?_
            have hP_62 : PX E (va_up g_51 (96) (aI E 0 60 (upd ti1 (d) (nI (sgn ln tx (i) - 48))))) ln tx f ((tk)) ((it)) (upd st1 (d) (nI (bhd (sgn ln tx) i))) (upd ti1 (d) (nI (sgn ln tx (i) - 48))) := hP_51.u96 _
            have hF_62 : ∀ k, k < 1 ∨ 16 ≤ k → k ≠ 95 → k ≠ 96 → (va_up g_51 (96) (aI E 0 60 (upd ti1 (d) (nI (sgn ln tx (i) - 48))))) k = g k := fun k h1 h2 h3 => (va_up_ne _ _ (by omega)).trans (hF_51 k h1 h2 h3)
            have hs_62 : StA E (va_up g_51 (96) (aI E 0 60 (upd ti1 (d) (nI (sgn ln tx (i) - 48))))) 1 r1 := hs_51.ne16 (by omega)
            generalize (va_up g_51 (96) (aI E 0 60 (upd ti1 (d) (nI (sgn ln tx (i) - 48))))) = g_62 at hP_62 hF_62 hs_62 ⊢
            refine y_iinc_n hC dX2_carryOut_63 (a := d) (k := 1) rfl (by decide) (Nat.le_of_ble_eq_true rfl) rfl (lo' := [some (rf E (93)), some (rf E (1)), some (.int (nI (d + 1))), some (.int (nI (i))), some (.int (nI (c))), some (.int (nI (sgn ln tx (i)))), some (.int (nI (bhd (sgn ln tx) i)))]) rfl ?_
            refine y_goto (tgt := 125) hC dX2_carryOut_66 (by decide) ?_
            refine y_iload hC dX2_carryOut_125 rfl ?_
            refine y_istore_n hC dX2_carryOut_127 (i := 3) rfl (Nat.le_of_ble_eq_true rfl) rfl (lo' := [some (rf E (93)), some (rf E (1)), some (.int (nI (d + 1))), some (.int (nI (bhd (sgn ln tx) i))), some (.int (nI (c))), some (.int (nI (sgn ln tx (i)))), some (.int (nI (bhd (sgn ln tx) i)))]) rfl ?_
            refine y_iinc_n hC dX2_carryOut_128 (a := c) (k := 1) rfl (by decide) (Nat.le_of_ble_eq_true rfl) rfl (lo' := [some (rf E (93)), some (rf E (1)), some (.int (nI (d + 1))), some (.int (nI (bhd (sgn ln tx) i))), some (.int (nI (c + 1))), some (.int (nI (sgn ln tx (i)))), some (.int (nI (bhd (sgn ln tx) i)))]) rfl ?_
            refine y_goto (tgt := 7) hC dX2_carryOut_131 (by decide) ?_
            refine y_fg 5 (lo' := [some (rf E (93)), some (rf E (1)), some (.int (nI (d + 1))), some (.int (nI (bhd (sgn ln tx) i))), some (.int (nI (c + 1))), none, some (.int (nI (bhd (sgn ln tx) i)))]) rfl ?_
            refine y_fg 6 (lo' := [some (rf E (93)), some (rf E (1)), some (.int (nI (d + 1))), some (.int (nI (bhd (sgn ln tx) i))), some (.int (nI (c + 1))), none, none]) rfl ?_
            exact ih_7 k B1 (d + 1) (bhd (sgn ln tx) i) (c + 1) _ _ r1 g_62 (upd st1 (d) (nI (bhd (sgn ln tx) i))) (upd ti1 (d) (nI (sgn ln tx (i) - 48))) (by omega) (by omega) hP_62 hs_62 hF_62 (fun j hj => zuv hS j (by omega)) (fun j hj => zuv hT j (by omega)) e5 (by omega) (by omega)
  exact L_7 (n + 1) n B 0 0 0 sf0 tf0 r g st ti (by omega) (by omega) h hs (fun _ _ _ _ => rfl) (fun _ hj => absurd hj (Nat.not_lt_zero _)) (fun _ hj => absurd hj (Nat.not_lt_zero _)) hrun (by omega) (by omega)

