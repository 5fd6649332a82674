/-! ===== the class itself: a program performed ===== -/
def ctS (S : AS) : Nat × Nat := cT (sgn S.ln S.tx) S.ln 60 0 0 (fun _ => 1) 0 0
def exS (S : AS) : Row := exR (sgn S.ln S.tx) S.ln 1000000 0 0 (fun _ => 0) (fun _ => 0) S.r
def qPerform (S : AS) : Int32 × AS := match ft (sgn S.ln S.tx) S.ln 60 0 0 true with
  | some k => (-100 - nI k, S)
  | none => if rc S.r < hiN (sgn S.ln S.tx) S.ln then (-1, S) else (if 5000 < (ctS S).1 ∨ 5000 < (ctS S).2 then (-3, S) else (nI (ctS S).1, S.rec.row (exS S)))
theorem cT_le {s : Nat → Nat} {ln : Nat} : ∀ {n i d tk it : Nat} {tf : Nat → Nat}, tk ≤ 5001 → it ≤ 5001 → (cT s ln n i d tf tk it).1 ≤ 5001 ∧ (cT s ln n i d tf tk it).2 ≤ 5001
  | 0, _, _, _, _, _, h1, h2 => ⟨h1, h2⟩
  | n + 1, i, d, tk, it, tf, h1, h2 => by
    rw [cT]
    split
    · split
      · exact cT_le h1 h2
      · split
        · exact cT_le h1 h2
        · exact cT_le (Nat.min_le_right _ _) (Nat.min_le_right _ _)
    · exact ⟨h1, h2⟩
theorem ftI_n {o : Option Nat} (h : ftI o = -1) (hb : ∀ k, o = some k → k ≤ 60) : o = none := by
  cases o with
  | none => rfl
  | some k =>
    have h1 := congrArg Int32.toInt (show nI k = -1 from h)
    rw [tI (by have := hb k rfl; omega)] at h1
    have : (-1 : Int32).toInt = -1 := by decide
    omega
theorem ftI_s {o : Option Nat} (h : ¬ ftI o = -1) : ∃ k, o = some k := by
  cases o with
  | none => exact absurd rfl h
  | some k => exact ⟨k, rfl⟩
theorem hiI_lt {h c : Nat} (h1 : h ≤ 1000) (h2 : c ≤ 1000) : hiI h < nI c ↔ h ≤ c := by
  unfold hiI
  have e1 : (nI h - nI 1).toInt = (h : Int) - 1 := sI (by omega) (by decide)
  have e2 : (nI c).toInt = (c : Int) := tI (by omega)
  rw [Int32.lt_iff_toInt_lt]
  omega
theorem CQ.uppr {E : gE} {g g2 : Mem} {S : AS} {sh mk wa : Nat → Int32} {r : Row} (h : CQ E g S sh mk wa) (hs : StA E g2 1 r) (hp : PA E g2 S.ln S.tx) (hf : ∀ k, k < 1 ∨ 16 ≤ k → k < 93 ∨ 97 ≤ k → g2 k = g k) : CQ E g2 (S.row r) sh mk wa := by
  obtain ⟨h0, h1, h2, h3, h4, h5, h6, h7⟩ := h
  exact ⟨h0, (hf _ (by decide) (by decide)).trans h1, hs, h3.keep (fun k _ _ => hf k (by omega) (by omega)), hp, (hf _ (by decide) (by decide)).trans h5, (hf _ (by decide) (by decide)).trans h6, (hf _ (by decide) (by decide)).trans h7⟩
theorem dX5_perform_0 : decode cX5_perform 0 = .ok (.aload_n 0, 1) := by decide +kernel
theorem dX5_perform_1 : decode cX5_perform 1 = .ok (.getfield 26, 3) := by decide +kernel
theorem dX5_perform_4 : decode cX5_perform 4 = .ok (.invokevirtual 138, 3) := by decide +kernel
theorem dX5_perform_7 : decode cX5_perform 7 = .ok (.istore_n 1, 1) := by decide +kernel
theorem dX5_perform_8 : decode cX5_perform 8 = .ok (.iload_n 1, 1) := by decide +kernel
theorem dX5_perform_9 : decode cX5_perform 9 = .ok (.iconst (-1), 1) := by decide +kernel
theorem dX5_perform_10 : decode cX5_perform 10 = .ok (.if_icmp .eq 8, 3) := by decide +kernel
theorem dX5_perform_13 : decode cX5_perform 13 = .ok (.bipush (-100), 2) := by decide +kernel
theorem dX5_perform_15 : decode cX5_perform 15 = .ok (.iload_n 1, 1) := by decide +kernel
theorem dX5_perform_16 : decode cX5_perform 16 = .ok (.isub, 1) := by decide +kernel
theorem dX5_perform_17 : decode cX5_perform 17 = .ok (.ireturn, 1) := by decide +kernel
theorem dX5_perform_18 : decode cX5_perform 18 = .ok (.aload_n 0, 1) := by decide +kernel
theorem dX5_perform_19 : decode cX5_perform 19 = .ok (.getfield 26, 3) := by decide +kernel
theorem dX5_perform_22 : decode cX5_perform 22 = .ok (.invokevirtual 141, 3) := by decide +kernel
theorem dX5_perform_25 : decode cX5_perform 25 = .ok (.aload_n 0, 1) := by decide +kernel
theorem dX5_perform_26 : decode cX5_perform 26 = .ok (.getfield 12, 3) := by decide +kernel
theorem dX5_perform_29 : decode cX5_perform 29 = .ok (.getfield 83, 3) := by decide +kernel
theorem dX5_perform_32 : decode cX5_perform 32 = .ok (.if_icmp .lt 5, 3) := by decide +kernel
theorem dX5_perform_35 : decode cX5_perform 35 = .ok (.iconst (-1), 1) := by decide +kernel
theorem dX5_perform_36 : decode cX5_perform 36 = .ok (.ireturn, 1) := by decide +kernel
theorem dX5_perform_37 : decode cX5_perform 37 = .ok (.aload_n 0, 1) := by decide +kernel
theorem dX5_perform_38 : decode cX5_perform 38 = .ok (.getfield 26, 3) := by decide +kernel
theorem dX5_perform_41 : decode cX5_perform 41 = .ok (.invokevirtual 144, 3) := by decide +kernel
theorem dX5_perform_44 : decode cX5_perform 44 = .ok (.aload_n 0, 1) := by decide +kernel
theorem dX5_perform_45 : decode cX5_perform 45 = .ok (.getfield 26, 3) := by decide +kernel
theorem dX5_perform_48 : decode cX5_perform 48 = .ok (.getfield 147, 3) := by decide +kernel
theorem dX5_perform_51 : decode cX5_perform 51 = .ok (.sipush 5000, 3) := by decide +kernel
theorem dX5_perform_54 : decode cX5_perform 54 = .ok (.if_icmp .gt 16, 3) := by decide +kernel
theorem dX5_perform_57 : decode cX5_perform 57 = .ok (.aload_n 0, 1) := by decide +kernel
theorem dX5_perform_58 : decode cX5_perform 58 = .ok (.getfield 26, 3) := by decide +kernel
theorem dX5_perform_61 : decode cX5_perform 61 = .ok (.getfield 150, 3) := by decide +kernel
theorem dX5_perform_64 : decode cX5_perform 64 = .ok (.sipush 5000, 3) := by decide +kernel
theorem dX5_perform_67 : decode cX5_perform 67 = .ok (.if_icmp .le 6, 3) := by decide +kernel
theorem dX5_perform_70 : decode cX5_perform 70 = .ok (.bipush (-3), 2) := by decide +kernel
theorem dX5_perform_72 : decode cX5_perform 72 = .ok (.ireturn, 1) := by decide +kernel
theorem dX5_perform_73 : decode cX5_perform 73 = .ok (.aload_n 0, 1) := by decide +kernel
theorem dX5_perform_74 : decode cX5_perform 74 = .ok (.getfield 19, 3) := by decide +kernel
theorem dX5_perform_77 : decode cX5_perform 77 = .ok (.aload_n 0, 1) := by decide +kernel
theorem dX5_perform_78 : decode cX5_perform 78 = .ok (.getfield 12, 3) := by decide +kernel
theorem dX5_perform_81 : decode cX5_perform 81 = .ok (.invokevirtual 51, 3) := by decide +kernel
theorem dX5_perform_84 : decode cX5_perform 84 = .ok (.aload_n 0, 1) := by decide +kernel
theorem dX5_perform_85 : decode cX5_perform 85 = .ok (.getfield 26, 3) := by decide +kernel
theorem dX5_perform_88 : decode cX5_perform 88 = .ok (.aload_n 0, 1) := by decide +kernel
theorem dX5_perform_89 : decode cX5_perform 89 = .ok (.getfield 12, 3) := by decide +kernel
theorem dX5_perform_92 : decode cX5_perform 92 = .ok (.invokevirtual 153, 3) := by decide +kernel
theorem dX5_perform_95 : decode cX5_perform 95 = .ok (.aload_n 0, 1) := by decide +kernel
theorem dX5_perform_96 : decode cX5_perform 96 = .ok (.getfield 26, 3) := by decide +kernel
theorem dX5_perform_99 : decode cX5_perform 99 = .ok (.getfield 147, 3) := by decide +kernel
theorem dX5_perform_102 : decode cX5_perform 102 = .ok (.ireturn, 1) := by decide +kernel
set_option maxHeartbeats 4000000 in
set_option maxRecDepth 100000 in
theorem c_X5_perform (l : Launch) (E : gE) (g : Mem) (S : AS) (B : Nat) (hB : B < 90000000) (ho : OK S B) (sh mk wa : Nat → Int32) (h : CQ E g S sh mk wa) (hB8 : B < 80000000) : Mt l E yX5_perform cX5_perform 2 (some .int) 5 112 [rf E (0)] g (pI (fun z g' => z = (qPerform S ).1 ∧ CP E g' (qPerform S ).2)) := by
  have hK := h.k
  have hv := ho.v
  have hrc : rc S.r ≤ 6 := hv.1.2
  have hgc : gc S.r ≤ 4 := hv.2.1.2
  have hc4 := ho.c4
  refine mt_go (own := RX5) (by decide) rfl (lo := [some (rf E (0)), none]) rfl (Nat.le_of_ble_eq_true rfl) (fun X hC => ?_)
  obtain ⟨co, pi, π, ρ, V, U, hX, e1, e2, e3, e4⟩ := zStF (r := S.r) (B := B) h.sta hv
  obtain ⟨fx, tk, it, stq, tiq, hP⟩ := h.pa
  refine y_aload_n hC dX5_perform_0 (i := 0) rfl rfl ?_
  refine y_get hC fX5_26 dX5_perform_1 (k := 0) (by omega) h.a0 rfl ?_
  refine y_callV hC mX2_fault kX5_138 dX5_perform_4 (b := 93) (As := []) (rest := []) (c_X2_fault l E g S.ln S.tx fx tk it stq tiq hP) (by omega) hP.a93 rfl rfl rfl (Nat.le_of_ble_eq_true rfl) ⟨Nat.le_of_ble_eq_true rfl, Nat.le_of_ble_eq_true rfl⟩ (pk_i ?_)
  rintro r_4 g_4 ⟨hr_4, hq_4⟩
  obtain rfl := hq_4.symm
  rw [hr_4]
  clear hr_4 r_4
  refine y_istore_n hC dX5_perform_7 (i := 1) rfl (Nat.le_of_ble_eq_true rfl) rfl (lo' := [some (rf E (0)), some (.int (ftI (ft (sgn S.ln S.tx) S.ln 60 0 0 true)))]) rfl ?_
  refine y_iload_n hC dX5_perform_8 (i := 1) rfl rfl ?_
  refine y_iconst (v := (-1)) hC dX5_perform_9 (by decide) ?_
  refine y_icmp_eq (tgt := 18) hC dX5_perform_10 (by decide) (fun c_10 => ?_) (fun c_10 => ?_)
  · have hft : ft (sgn S.ln S.tx) S.ln 60 0 0 true = none := ftI_n c_10 (fun k hk => Nat.le_trans (ft_b (s := sgn S.ln S.tx) sz (Nat.zero_le _) hk) hP.l)
    have hdg := fun k (hk : k < S.ln) => ft_dig (s := sgn S.ln S.tx) (n := 60) (by have := hP.l; omega) hft k (Nat.zero_le _) hk
    have hhi := hiN_le (s := sgn S.ln S.tx) (fun k hk hq => ⟨(hdg k hk hq).1, by have := (hdg k hk hq).2; omega⟩) S.ln (Nat.le_refl _)
    refine y_aload_n hC dX5_perform_18 (i := 0) rfl rfl ?_
    refine y_get hC fX5_26 dX5_perform_19 (k := 0) (by omega) h.a0 rfl ?_
    refine y_callV hC mX2_highestRange kX5_141 dX5_perform_22 (b := 93) (As := []) (rest := []) (c_X2_highestRange l E g S.ln S.tx fx tk it stq tiq hP (fun k hk hq => ⟨(hdg k hk hq).1, by have := (hdg k hk hq).2; omega⟩)) (by omega) hP.a93 rfl rfl rfl (Nat.le_of_ble_eq_true rfl) ⟨Nat.le_of_ble_eq_true rfl, Nat.le_of_ble_eq_true rfl⟩ (pk_i ?_)
    rintro r_22 g_22 ⟨hr_22, hq_22⟩
    obtain rfl := hq_22.symm
    rw [hr_22]
    clear hr_22 r_22
    refine y_aload_n hC dX5_perform_25 (i := 0) rfl rfl ?_
    refine y_get hC fX5_12 dX5_perform_26 (k := 0) (by omega) h.a0 rfl ?_
    refine y_get hC fX5_83 dX5_perform_29 (k := 1) (hX.k (k := 0) (by decide)) hX.s0 rfl ?_
    refine y_icmp_lt (tgt := 37) hC dX5_perform_32 (by decide) (fun c_32 => ?_) (fun c_32 => ?_)
    · refine y_aload_n hC dX5_perform_37 (i := 0) rfl rfl ?_
      refine y_get hC fX5_26 dX5_perform_38 (k := 0) (by omega) h.a0 rfl ?_
      refine y_callV hC mX2_count kX5_144 dX5_perform_41 (b := 93) (As := []) (rest := []) (c_X2_count l E g S.ln S.tx fx tk it stq tiq hP hft) (by omega) hP.a93 rfl rfl rfl (Nat.le_of_ble_eq_true rfl) ⟨Nat.le_of_ble_eq_true rfl, Nat.le_of_ble_eq_true rfl⟩ (pk_v ?_)
      rintro g_41 ⟨ti2, hPF⟩
      have hPF : PF E g g_41 S.ln S.tx fx (nI (ctS S).1) (nI (ctS S).2) stq ti2 := hPF
      have hq_41 : CQ E g_41 S sh mk wa := h.uppa ⟨_, _, _, _, _, hPF.1⟩ hPF.2
      have hcl : (ctS S).1 ≤ 5001 ∧ (ctS S).2 ≤ 5001 := cT_le (by decide) (by decide)
      refine y_aload_n hC dX5_perform_44 (i := 0) rfl rfl ?_
      refine y_get hC fX5_26 dX5_perform_45 (k := 0) (by omega) hq_41.a0 rfl ?_
      refine y_get hC fX5_147 dX5_perform_48 (k := 93) (by omega) hPF.1.a93 rfl ?_
      refine y_sipush (v := nI 5000) hC dX5_perform_51 (by decide) ?_
      refine y_icmp_gt_n (tgt := 70) hC dX5_perform_54 (by decide) (by omega) (by omega) (fun c_54 => ?_) (fun c_54 => ?_)
      · refine y_bipush (v := (-3)) hC dX5_perform_70 (by decide) ?_
        refine y_iret (hC := hC) (hd := dX5_perform_72) (hq := ?_)
        have hqq : qPerform S  = (-3, S) := by simp only [qPerform, hft, if_neg (show ¬ rc S.r < hiN (sgn S.ln S.tx) S.ln from Nat.not_lt.mpr ((hiI_lt (by omega) (by omega)).mp c_32)), if_pos (show 5000 < (ctS S).1 ∨ 5000 < (ctS S).2 from Or.inl c_54)]
        rw [hqq]
        exact ⟨rfl, hq_41.cp⟩
      · refine y_aload_n hC dX5_perform_57 (i := 0) rfl rfl ?_
        refine y_get hC fX5_26 dX5_perform_58 (k := 0) (by omega) hq_41.a0 rfl ?_
        refine y_get hC fX5_150 dX5_perform_61 (k := 93) (by omega) hPF.1.a93 rfl ?_
        refine y_sipush (v := nI 5000) hC dX5_perform_64 (by decide) ?_
        refine y_icmp_le_n (tgt := 73) hC dX5_perform_67 (by decide) (by omega) (by omega) (fun c_67 => ?_) (fun c_67 => ?_)
        · have hrl : hiN (sgn S.ln S.tx) S.ln ≤ rc S.r := (hiI_lt (by omega) (by omega)).mp c_32
          refine y_aload_n hC dX5_perform_73 (i := 0) rfl rfl ?_
          refine y_get hC fX5_19 dX5_perform_74 (k := 0) (by omega) hq_41.a0 rfl ?_
          refine y_aload_n hC dX5_perform_77 (i := 0) rfl rfl ?_
          refine y_get hC fX5_12 dX5_perform_78 (k := 0) (by omega) hq_41.a0 rfl ?_
          refine y_callV hC mX1_record kX5_51 dX5_perform_81 (b := 16) (As := [rf E (1)]) (rest := []) (c_X1_record l E g_41 S.c S.kp S.hr S.sn S.r B hq_41.ha hq_41.sta hv) (by omega) hq_41.a16 rfl rfl rfl (Nat.le_of_ble_eq_true rfl) ⟨Nat.le_of_ble_eq_true rfl, Nat.le_of_ble_eq_true rfl⟩ (pk_v ?_)
          rintro g_81 hrec_81
          have hq_81 := hq_41.uprec hrec_81
          obtain ⟨co_81, pi_81, π_81, ρ_81, V_81, U_81, hX_81, e1_81, e2_81, e3_81, e4_81⟩ := zStF (r := S.r) (B := B) hq_81.sta hv
          have hPX3 := hPF.1.keep (fun k h1 h2 => hrec_81.2.2 k (by omega))
          obtain ⟨n, hn, hrun, hvf, htk⟩ := prog (s := sgn S.ln S.tx) (ln := S.ln) sz hP.l hv hB8 (show hiN (sgn S.ln S.tx) S.ln ≤ rc S.r by omega) hft (show (ctS S).1 ≤ 5000 by omega) (show (ctS S).2 ≤ 5000 by omega)
          refine y_aload_n hC dX5_perform_84 (i := 0) rfl rfl ?_
          refine y_get hC fX5_26 dX5_perform_85 (k := 0) (by omega) hq_81.a0 rfl ?_
          refine y_aload_n hC dX5_perform_88 (i := 0) rfl rfl ?_
          refine y_get hC fX5_12 dX5_perform_89 (k := 0) (by omega) hq_81.a0 rfl ?_
          refine y_callV hC mX2_carryOut kX5_153 dX5_perform_92 (b := 93) (As := [rf E (1)]) (rest := []) (c_X2_carryOut l E g_81 S.ln S.tx fx (nI (ctS S).1) (nI (ctS S).2) stq ti2 hPX3 S.r (exS S) B n (fun _ => 0) (fun _ => 0) hq_81.sta hn (hrun _ _)) (by omega) hPX3.a93 rfl rfl rfl (Nat.le_of_ble_eq_true rfl) ⟨Nat.le_of_ble_eq_true rfl, Nat.le_of_ble_eq_true rfl⟩ (pk_v ?_)
          rintro g_92 hco
          obtain ⟨⟨st3, ti3, hP3⟩, hst, hfr⟩ := hco
          have hq_n := hq_81.uppr hst ⟨_, _, _, _, _, hP3⟩ (fun k h1 h2 => hfr k h1 (by omega) (by omega))
          refine y_aload_n hC dX5_perform_95 (i := 0) rfl rfl ?_
          refine y_get hC fX5_26 dX5_perform_96 (k := 0) (by omega) hq_n.a0 rfl ?_
          refine y_get hC fX5_147 dX5_perform_99 (k := 93) (by omega) hP3.a93 rfl ?_
          refine y_iret (hC := hC) (hd := dX5_perform_102) (hq := ?_)
          have hqq : qPerform S  = (nI (ctS S).1, S.rec.row (exS S)) := by simp only [qPerform, hft, if_neg (show ¬ rc S.r < hiN (sgn S.ln S.tx) S.ln from Nat.not_lt.mpr ((hiI_lt (by omega) (by omega)).mp c_32)), if_neg (show ¬ (5000 < (ctS S).1 ∨ 5000 < (ctS S).2) by omega)]
          rw [hqq]
          exact ⟨rfl, hq_n.cp⟩
        · refine y_bipush (v := (-3)) hC dX5_perform_70 (by decide) ?_
          refine y_iret (hC := hC) (hd := dX5_perform_72) (hq := ?_)
          have hqq : qPerform S  = (-3, S) := by simp only [qPerform, hft, if_neg (show ¬ rc S.r < hiN (sgn S.ln S.tx) S.ln from Nat.not_lt.mpr ((hiI_lt (by omega) (by omega)).mp c_32)), if_pos (show 5000 < (ctS S).1 ∨ 5000 < (ctS S).2 by omega)]
          rw [hqq]
          exact ⟨rfl, hq_41.cp⟩
    · refine y_iconst (v := (-1)) hC dX5_perform_35 (by decide) ?_
      refine y_iret (hC := hC) (hd := dX5_perform_36) (hq := ?_)
      have hqq : qPerform S  = (-1, S) := by simp only [qPerform, hft, if_pos (show rc S.r < hiN (sgn S.ln S.tx) S.ln from Nat.lt_of_not_le (fun q => c_32 ((hiI_lt (by omega) (by omega)).mpr q)))]
      rw [hqq]
      exact ⟨rfl, h.cp⟩
  · obtain ⟨k, hft⟩ : ∃ k, ft (sgn S.ln S.tx) S.ln 60 0 0 true = some k := ftI_s c_10
    refine y_bipush (v := (-100)) hC dX5_perform_13 (by decide) ?_
    refine y_iload_n hC dX5_perform_15 (i := 1) rfl rfl ?_
    refine y_isub hC dX5_perform_16 ?_
    refine y_iret (hC := hC) (hd := dX5_perform_17) (hq := ?_)
    have hqq : qPerform S  = (-100 - nI k, S) := by simp only [qPerform, hft]
    rw [hqq]
    exact ⟨by rw [hft]; rfl, h.cp⟩

