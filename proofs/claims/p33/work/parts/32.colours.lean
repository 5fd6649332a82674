/-! ===== the law: colours between, distances ===== -/
theorem zs_l : ∀ n, n < 32 → ((nI n &&& 31).toBitVec.smod 32).toNat = n := by decide +kernel
theorem zshr {a d : Nat} (hd : d < 32) (h : a < 2147483648) : nI a >>> (nI d &&& 31) = nI (a / 2 ^ d) := by
  have hl : a / 2 ^ d ≤ a := Nat.div_le_self _ _
  apply Int32.toInt_inj.mp
  have e : (nI a >>> (nI d &&& 31)).toInt = (nI a).toInt >>> d := by
    conv => rhs; rw [← zs_l d hd]
    exact BitVec.toInt_sshiftRight ..
  rw [e, Int.shiftRight_eq_div_pow, tI (by omega), tI (by omega)]
  rfl
theorem zand (a b : Nat) : nI a &&& nI b = nI (a &&& b) := by
  apply Int32.toBitVec_inj.1
  show BitVec.ofNat 32 a &&& BitVec.ofNat 32 b = BitVec.ofNat 32 (a &&& b)
  apply BitVec.eq_of_getLsbD_eq
  intro i hi
  simp [hi]
theorem zand63 (a : Nat) : nI a &&& nI 63 = nI (a % 64) := by
  rw [zand]
  have h := Nat.and_two_pow_sub_one_eq_mod a 6
  rw [show 2 ^ 6 - 1 = 63 from by decide, show 2 ^ 6 = 64 from by decide] at h
  rw [h]
theorem zshl (x : Int32) {d : Nat} (hd : d < 32) : x <<< (nI d &&& 31) = nI (2 ^ d) * x := by
  apply Int32.toBitVec_inj.1
  rw [Int32.toBitVec_shiftLeft]
  show (x.toBitVec <<< ((nI d &&& 31).toBitVec.smod 32).toNat) = BitVec.ofNat 32 (2 ^ d) * x.toBitVec
  rw [zs_l d hd]
  apply BitVec.eq_of_toNat_eq
  rw [BitVec.toNat_shiftLeft, BitVec.toNat_mul, BitVec.toNat_ofNat, Nat.shiftLeft_eq, Nat.mod_mul_mod, Nat.mul_comm]
theorem sh12 {u : Nat} (h : u < 262144) : nI u >>> (nI 12 &&& 31) = nI (u / 4096) := zshr (d := 12) (by decide) (by omega)
theorem sh6 {u : Nat} (h : u < 262144) : nI u >>> (nI 6 &&& 31) = nI (u / 64) := zshr (d := 6) (by decide) (by omega)
theorem cP12 {u : Nat} (h : u < 262144) : cPart (nI u) 12 = nI (u / 4096) := by
  unfold cPart
  rw [sh12 h, zand63, Nat.mod_eq_of_lt (by omega)]
theorem cP6 {u : Nat} (h : u < 262144) : cPart (nI u) 6 = nI (u / 64 % 64) := by
  unfold cPart
  rw [sh6 h, zand63]
theorem cP0 {u : Nat} (h : u < 262144) : cPart (nI u) 0 = nI (u % 64) := by
  unfold cPart
  rw [zshr (d := 0) (by decide) (by omega), zand63, Nat.pow_zero, Nat.div_one]
/-- a part between two parts -/
theorem mx1 {p q k n : Nat} (hp : p < 64) (hq : q < 64) (h0 : 0 < n) (hn : n ≤ 31) (hk : k ≤ n) : ∃ m : Nat, m < 64 ∧ cMix1 (nI p) (nI q) (nI k) (nI n) = nI m := by
  unfold cMix1
  by_cases h : p ≤ q
  · have h1 : (q - p) * k ≤ 63 * 31 := Nat.mul_le_mul (by omega) (by omega)
    have h2 : (q - p) * k / n ≤ q - p := Nat.div_le_of_le_mul (by rw [Nat.mul_comm]; exact Nat.mul_le_mul_right _ hk)
    refine ⟨p + (q - p) * k / n, by omega, ?_⟩
    rw [pk_sub h, pk_mul, pk_div (by omega) h0 (by omega), nI_add]
  · have h1 : (p - q) * k ≤ 63 * 31 := Nat.mul_le_mul (by omega) (by omega)
    have h2 : (p - q) * k / n ≤ p - q := Nat.div_le_of_le_mul (by rw [Nat.mul_comm]; exact Nat.mul_le_mul_right _ hk)
    obtain ⟨w, hw⟩ : ∃ w, w = (p - q) * k / n := ⟨_, rfl⟩
    rw [← hw] at h2
    refine ⟨p - w, by omega, ?_⟩
    have e1 : (nI q - nI p).toInt = (q : Int) - p := sI (by omega) (by omega)
    have tk : (nI k).toInt = (k : Int) := tI (by omega)
    have tn : (nI n).toInt = (n : Int) := tI (by omega)
    have e0 : ((q : Int) - p) * k = -(((p - q) * k : Nat) : Int) := by
      rw [Int.natCast_mul, ← Int.neg_mul]
      congr 1
      omega
    have e2 : ((nI q - nI p) * nI k).toInt = -(((p - q) * k : Nat) : Int) := by
      rw [zmulI (by rw [e1, tk, e0]; omega) (by rw [e1, tk, e0]; omega), e1, tk, e0]
    have hne : nI n ≠ -1 := fun z => by
      have := congrArg Int32.toInt z
      rw [tn] at this
      have h3 : (-1 : Int32).toInt = -1 := by decide
      omega
    have e3 : ((nI q - nI p) * nI k / nI n).toInt = -(w : Int) := by
      rw [hw, Int32.toInt_div_of_ne_right _ _ hne, e2, tn, Int.neg_tdiv, ← Int.ofNat_tdiv]
    apply Int32.toInt_inj.mp
    rw [zaddI (by rw [e3, tI (by omega)]; omega) (by rw [e3, tI (by omega)]; omega), e3, tI (by omega), tI (by omega)]
    omega
theorem mx_C {u v k n : Nat} (hu : u < 262144) (hv : v < 262144) (h0 : 0 < n) (hn : n ≤ 31) (hk : k ≤ n) : isC (cMix (nI u) (nI v) (nI k) (nI n)) := by
  unfold cMix
  rw [cP12 hu, cP12 hv, cP6 hu, cP6 hv, cP0 hu, cP0 hv]
  obtain ⟨a, ha, ea⟩ := mx1 (p := u / 4096) (q := v / 4096) (by omega) (by omega) h0 hn hk
  obtain ⟨b, hb, eb⟩ := mx1 (p := u / 64 % 64) (q := v / 64 % 64) (by omega) (by omega) h0 hn hk
  obtain ⟨c, hc, ec⟩ := mx1 (p := u % 64) (q := v % 64) (by omega) (by omega) h0 hn hk
  rw [ea, eb, ec, zshl _ (by decide), zshl _ (by decide), pk_mul, pk_mul, nI_add, nI_add]
  exact ⟨_, by omega, rfl⟩
theorem dL_mixed_0 : decode cL_mixed 0 = .ok (.iload_n 0, 1) := by decide +kernel
theorem dL_mixed_1 : decode cL_mixed 1 = .ok (.bipush 12, 2) := by decide +kernel
theorem dL_mixed_3 : decode cL_mixed 3 = .ok (.ishr, 1) := by decide +kernel
theorem dL_mixed_4 : decode cL_mixed 4 = .ok (.iload_n 1, 1) := by decide +kernel
theorem dL_mixed_5 : decode cL_mixed 5 = .ok (.bipush 12, 2) := by decide +kernel
theorem dL_mixed_7 : decode cL_mixed 7 = .ok (.ishr, 1) := by decide +kernel
theorem dL_mixed_8 : decode cL_mixed 8 = .ok (.iload_n 0, 1) := by decide +kernel
theorem dL_mixed_9 : decode cL_mixed 9 = .ok (.bipush 12, 2) := by decide +kernel
theorem dL_mixed_11 : decode cL_mixed 11 = .ok (.ishr, 1) := by decide +kernel
theorem dL_mixed_12 : decode cL_mixed 12 = .ok (.isub, 1) := by decide +kernel
theorem dL_mixed_13 : decode cL_mixed 13 = .ok (.iload_n 2, 1) := by decide +kernel
theorem dL_mixed_14 : decode cL_mixed 14 = .ok (.imul, 1) := by decide +kernel
theorem dL_mixed_15 : decode cL_mixed 15 = .ok (.iload_n 3, 1) := by decide +kernel
theorem dL_mixed_16 : decode cL_mixed 16 = .ok (.idiv, 1) := by decide +kernel
theorem dL_mixed_17 : decode cL_mixed 17 = .ok (.iadd, 1) := by decide +kernel
theorem dL_mixed_18 : decode cL_mixed 18 = .ok (.istore 4, 2) := by decide +kernel
theorem dL_mixed_20 : decode cL_mixed 20 = .ok (.iload_n 0, 1) := by decide +kernel
theorem dL_mixed_21 : decode cL_mixed 21 = .ok (.bipush 6, 2) := by decide +kernel
theorem dL_mixed_23 : decode cL_mixed 23 = .ok (.ishr, 1) := by decide +kernel
theorem dL_mixed_24 : decode cL_mixed 24 = .ok (.bipush 63, 2) := by decide +kernel
theorem dL_mixed_26 : decode cL_mixed 26 = .ok (.iand, 1) := by decide +kernel
theorem dL_mixed_27 : decode cL_mixed 27 = .ok (.iload_n 1, 1) := by decide +kernel
theorem dL_mixed_28 : decode cL_mixed 28 = .ok (.bipush 6, 2) := by decide +kernel
theorem dL_mixed_30 : decode cL_mixed 30 = .ok (.ishr, 1) := by decide +kernel
theorem dL_mixed_31 : decode cL_mixed 31 = .ok (.bipush 63, 2) := by decide +kernel
theorem dL_mixed_33 : decode cL_mixed 33 = .ok (.iand, 1) := by decide +kernel
theorem dL_mixed_34 : decode cL_mixed 34 = .ok (.iload_n 0, 1) := by decide +kernel
theorem dL_mixed_35 : decode cL_mixed 35 = .ok (.bipush 6, 2) := by decide +kernel
theorem dL_mixed_37 : decode cL_mixed 37 = .ok (.ishr, 1) := by decide +kernel
theorem dL_mixed_38 : decode cL_mixed 38 = .ok (.bipush 63, 2) := by decide +kernel
theorem dL_mixed_40 : decode cL_mixed 40 = .ok (.iand, 1) := by decide +kernel
theorem dL_mixed_41 : decode cL_mixed 41 = .ok (.isub, 1) := by decide +kernel
theorem dL_mixed_42 : decode cL_mixed 42 = .ok (.iload_n 2, 1) := by decide +kernel
theorem dL_mixed_43 : decode cL_mixed 43 = .ok (.imul, 1) := by decide +kernel
theorem dL_mixed_44 : decode cL_mixed 44 = .ok (.iload_n 3, 1) := by decide +kernel
theorem dL_mixed_45 : decode cL_mixed 45 = .ok (.idiv, 1) := by decide +kernel
theorem dL_mixed_46 : decode cL_mixed 46 = .ok (.iadd, 1) := by decide +kernel
theorem dL_mixed_47 : decode cL_mixed 47 = .ok (.istore 5, 2) := by decide +kernel
theorem dL_mixed_49 : decode cL_mixed 49 = .ok (.iload_n 0, 1) := by decide +kernel
theorem dL_mixed_50 : decode cL_mixed 50 = .ok (.bipush 63, 2) := by decide +kernel
theorem dL_mixed_52 : decode cL_mixed 52 = .ok (.iand, 1) := by decide +kernel
theorem dL_mixed_53 : decode cL_mixed 53 = .ok (.iload_n 1, 1) := by decide +kernel
theorem dL_mixed_54 : decode cL_mixed 54 = .ok (.bipush 63, 2) := by decide +kernel
theorem dL_mixed_56 : decode cL_mixed 56 = .ok (.iand, 1) := by decide +kernel
theorem dL_mixed_57 : decode cL_mixed 57 = .ok (.iload_n 0, 1) := by decide +kernel
theorem dL_mixed_58 : decode cL_mixed 58 = .ok (.bipush 63, 2) := by decide +kernel
theorem dL_mixed_60 : decode cL_mixed 60 = .ok (.iand, 1) := by decide +kernel
theorem dL_mixed_61 : decode cL_mixed 61 = .ok (.isub, 1) := by decide +kernel
theorem dL_mixed_62 : decode cL_mixed 62 = .ok (.iload_n 2, 1) := by decide +kernel
theorem dL_mixed_63 : decode cL_mixed 63 = .ok (.imul, 1) := by decide +kernel
theorem dL_mixed_64 : decode cL_mixed 64 = .ok (.iload_n 3, 1) := by decide +kernel
theorem dL_mixed_65 : decode cL_mixed 65 = .ok (.idiv, 1) := by decide +kernel
theorem dL_mixed_66 : decode cL_mixed 66 = .ok (.iadd, 1) := by decide +kernel
theorem dL_mixed_67 : decode cL_mixed 67 = .ok (.istore 6, 2) := by decide +kernel
theorem dL_mixed_69 : decode cL_mixed 69 = .ok (.sipush 4096, 3) := by decide +kernel
theorem dL_mixed_72 : decode cL_mixed 72 = .ok (.iload 4, 2) := by decide +kernel
theorem dL_mixed_74 : decode cL_mixed 74 = .ok (.imul, 1) := by decide +kernel
theorem dL_mixed_75 : decode cL_mixed 75 = .ok (.bipush 64, 2) := by decide +kernel
theorem dL_mixed_77 : decode cL_mixed 77 = .ok (.iload 5, 2) := by decide +kernel
theorem dL_mixed_79 : decode cL_mixed 79 = .ok (.imul, 1) := by decide +kernel
theorem dL_mixed_80 : decode cL_mixed 80 = .ok (.iadd, 1) := by decide +kernel
theorem dL_mixed_81 : decode cL_mixed 81 = .ok (.iload 6, 2) := by decide +kernel
theorem dL_mixed_83 : decode cL_mixed 83 = .ok (.iadd, 1) := by decide +kernel
theorem dL_mixed_84 : decode cL_mixed 84 = .ok (.ireturn, 1) := by decide +kernel
set_option maxHeartbeats 4000000 in
set_option maxRecDepth 100000 in
theorem c_L_mixed (l : Launch) (E : gE) (g : Mem) (u v k n : Nat) (hu : u < 262144) (hv : v < 262144) (h0 : 0 < n) (hn : n ≤ 31) : Mt l E yL_mixed cL_mixed 7 (some .int) 0 0 [.int (nI (u)), .int (nI (v)), .int (nI (k)), .int (nI (n))] g (pI (fun z g' => z = cMix (nI u) (nI v) (nI k) (nI n) ∧ g' = g)) := by
  refine mt_go (own := RXL) (by decide) rfl (lo := [some (.int (nI (u))), some (.int (nI (v))), some (.int (nI (k))), some (.int (nI (n))), none, none, none]) rfl (Nat.le_of_ble_eq_true rfl) (fun X hC => ?_)
  refine y_iload_n hC dL_mixed_0 (i := 0) rfl rfl ?_
  refine y_bipush (v := nI 12) hC dL_mixed_1 (by decide) ?_
  refine y_ishr hC dL_mixed_3 ?_
  refine y_top (y := nI (u / 4096)) (sh12 hu) ?_
  refine y_iload_n hC dL_mixed_4 (i := 1) rfl rfl ?_
  refine y_bipush (v := nI 12) hC dL_mixed_5 (by decide) ?_
  refine y_ishr hC dL_mixed_7 ?_
  refine y_top (y := nI (v / 4096)) (sh12 hv) ?_
  refine y_iload_n hC dL_mixed_8 (i := 0) rfl rfl ?_
  refine y_bipush (v := nI 12) hC dL_mixed_9 (by decide) ?_
  refine y_ishr hC dL_mixed_11 ?_
  refine y_top (y := nI (u / 4096)) (sh12 hu) ?_
  refine y_isub hC dL_mixed_12 ?_
  refine y_iload_n hC dL_mixed_13 (i := 2) rfl rfl ?_
  refine y_imul hC dL_mixed_14 ?_
  refine y_iload_n hC dL_mixed_15 (i := 3) rfl rfl ?_
  refine y_idiv hC dL_mixed_16 (nI_ne0 h0 (by omega)) ?_
  refine y_iadd hC dL_mixed_17 ?_
  refine y_istore hC dL_mixed_18 (Nat.le_of_ble_eq_true rfl) rfl (lo' := [some (.int (nI (u))), some (.int (nI (v))), some (.int (nI (k))), some (.int (nI (n))), some (.int (nI (u / 4096) + (((nI (v / 4096) - nI (u / 4096)) * nI (k)) / nI (n)))), none, none]) rfl ?_
  refine y_iload_n hC dL_mixed_20 (i := 0) rfl rfl ?_
  refine y_bipush (v := nI 6) hC dL_mixed_21 (by decide) ?_
  refine y_ishr hC dL_mixed_23 ?_
  refine y_top (y := nI (u / 64)) (sh6 hu) ?_
  refine y_bipush (v := nI 63) hC dL_mixed_24 (by decide) ?_
  refine y_iand hC dL_mixed_26 ?_
  refine y_top (y := nI (u / 64 % 64)) (zand63 _) ?_
  refine y_iload_n hC dL_mixed_27 (i := 1) rfl rfl ?_
  refine y_bipush (v := nI 6) hC dL_mixed_28 (by decide) ?_
  refine y_ishr hC dL_mixed_30 ?_
  refine y_top (y := nI (v / 64)) (sh6 hv) ?_
  refine y_bipush (v := nI 63) hC dL_mixed_31 (by decide) ?_
  refine y_iand hC dL_mixed_33 ?_
  refine y_top (y := nI (v / 64 % 64)) (zand63 _) ?_
  refine y_iload_n hC dL_mixed_34 (i := 0) rfl rfl ?_
  refine y_bipush (v := nI 6) hC dL_mixed_35 (by decide) ?_
  refine y_ishr hC dL_mixed_37 ?_
  refine y_top (y := nI (u / 64)) (sh6 hu) ?_
  refine y_bipush (v := nI 63) hC dL_mixed_38 (by decide) ?_
  refine y_iand hC dL_mixed_40 ?_
  refine y_top (y := nI (u / 64 % 64)) (zand63 _) ?_
  refine y_isub hC dL_mixed_41 ?_
  refine y_iload_n hC dL_mixed_42 (i := 2) rfl rfl ?_
  refine y_imul hC dL_mixed_43 ?_
  refine y_iload_n hC dL_mixed_44 (i := 3) rfl rfl ?_
  refine y_idiv hC dL_mixed_45 (nI_ne0 h0 (by omega)) ?_
  refine y_iadd hC dL_mixed_46 ?_
  refine y_istore hC dL_mixed_47 (Nat.le_of_ble_eq_true rfl) rfl (lo' := [some (.int (nI (u))), some (.int (nI (v))), some (.int (nI (k))), some (.int (nI (n))), some (.int (nI (u / 4096) + (((nI (v / 4096) - nI (u / 4096)) * nI (k)) / nI (n)))), some (.int (nI (u / 64 % 64) + (((nI (v / 64 % 64) - nI (u / 64 % 64)) * nI (k)) / nI (n)))), none]) rfl ?_
  refine y_iload_n hC dL_mixed_49 (i := 0) rfl rfl ?_
  refine y_bipush (v := nI 63) hC dL_mixed_50 (by decide) ?_
  refine y_iand hC dL_mixed_52 ?_
  refine y_top (y := nI (u % 64)) (zand63 _) ?_
  refine y_iload_n hC dL_mixed_53 (i := 1) rfl rfl ?_
  refine y_bipush (v := nI 63) hC dL_mixed_54 (by decide) ?_
  refine y_iand hC dL_mixed_56 ?_
  refine y_top (y := nI (v % 64)) (zand63 _) ?_
  refine y_iload_n hC dL_mixed_57 (i := 0) rfl rfl ?_
  refine y_bipush (v := nI 63) hC dL_mixed_58 (by decide) ?_
  refine y_iand hC dL_mixed_60 ?_
  refine y_top (y := nI (u % 64)) (zand63 _) ?_
  refine y_isub hC dL_mixed_61 ?_
  refine y_iload_n hC dL_mixed_62 (i := 2) rfl rfl ?_
  refine y_imul hC dL_mixed_63 ?_
  refine y_iload_n hC dL_mixed_64 (i := 3) rfl rfl ?_
  refine y_idiv hC dL_mixed_65 (nI_ne0 h0 (by omega)) ?_
  refine y_iadd hC dL_mixed_66 ?_
  refine y_istore hC dL_mixed_67 (Nat.le_of_ble_eq_true rfl) rfl (lo' := [some (.int (nI (u))), some (.int (nI (v))), some (.int (nI (k))), some (.int (nI (n))), some (.int (nI (u / 4096) + (((nI (v / 4096) - nI (u / 4096)) * nI (k)) / nI (n)))), some (.int (nI (u / 64 % 64) + (((nI (v / 64 % 64) - nI (u / 64 % 64)) * nI (k)) / nI (n)))), some (.int (nI (u % 64) + (((nI (v % 64) - nI (u % 64)) * nI (k)) / nI (n))))]) rfl ?_
  refine y_sipush (v := nI 4096) hC dL_mixed_69 (by decide) ?_
  refine y_iload hC dL_mixed_72 rfl ?_
  refine y_imul hC dL_mixed_74 ?_
  refine y_bipush (v := nI 64) hC dL_mixed_75 (by decide) ?_
  refine y_iload hC dL_mixed_77 rfl ?_
  refine y_imul hC dL_mixed_79 ?_
  refine y_iadd hC dL_mixed_80 ?_
  refine y_iload hC dL_mixed_81 rfl ?_
  refine y_iadd hC dL_mixed_83 ?_
  refine y_iret (hC := hC) (hd := dL_mixed_84) (hq := ?_)
  refine ⟨?_, rfl⟩
  unfold cMix
  rw [cP12 hu, cP12 hv, cP6 hu, cP6 hv, cP0 hu, cP0 hv, zshl _ (by decide), zshl _ (by decide)]
  rfl

theorem dL_apart_0 : decode cL_apart 0 = .ok (.iload_n 0, 1) := by decide +kernel
theorem dL_apart_1 : decode cL_apart 1 = .ok (.bipush 12, 2) := by decide +kernel
theorem dL_apart_3 : decode cL_apart 3 = .ok (.ishr, 1) := by decide +kernel
theorem dL_apart_4 : decode cL_apart 4 = .ok (.iload_n 1, 1) := by decide +kernel
theorem dL_apart_5 : decode cL_apart 5 = .ok (.bipush 12, 2) := by decide +kernel
theorem dL_apart_7 : decode cL_apart 7 = .ok (.ishr, 1) := by decide +kernel
theorem dL_apart_8 : decode cL_apart 8 = .ok (.isub, 1) := by decide +kernel
theorem dL_apart_9 : decode cL_apart 9 = .ok (.istore_n 2, 1) := by decide +kernel
theorem dL_apart_10 : decode cL_apart 10 = .ok (.iload_n 0, 1) := by decide +kernel
theorem dL_apart_11 : decode cL_apart 11 = .ok (.bipush 6, 2) := by decide +kernel
theorem dL_apart_13 : decode cL_apart 13 = .ok (.ishr, 1) := by decide +kernel
theorem dL_apart_14 : decode cL_apart 14 = .ok (.bipush 63, 2) := by decide +kernel
theorem dL_apart_16 : decode cL_apart 16 = .ok (.iand, 1) := by decide +kernel
theorem dL_apart_17 : decode cL_apart 17 = .ok (.iload_n 1, 1) := by decide +kernel
theorem dL_apart_18 : decode cL_apart 18 = .ok (.bipush 6, 2) := by decide +kernel
theorem dL_apart_20 : decode cL_apart 20 = .ok (.ishr, 1) := by decide +kernel
theorem dL_apart_21 : decode cL_apart 21 = .ok (.bipush 63, 2) := by decide +kernel
theorem dL_apart_23 : decode cL_apart 23 = .ok (.iand, 1) := by decide +kernel
theorem dL_apart_24 : decode cL_apart 24 = .ok (.isub, 1) := by decide +kernel
theorem dL_apart_25 : decode cL_apart 25 = .ok (.istore_n 3, 1) := by decide +kernel
theorem dL_apart_26 : decode cL_apart 26 = .ok (.iload_n 0, 1) := by decide +kernel
theorem dL_apart_27 : decode cL_apart 27 = .ok (.bipush 63, 2) := by decide +kernel
theorem dL_apart_29 : decode cL_apart 29 = .ok (.iand, 1) := by decide +kernel
theorem dL_apart_30 : decode cL_apart 30 = .ok (.iload_n 1, 1) := by decide +kernel
theorem dL_apart_31 : decode cL_apart 31 = .ok (.bipush 63, 2) := by decide +kernel
theorem dL_apart_33 : decode cL_apart 33 = .ok (.iand, 1) := by decide +kernel
theorem dL_apart_34 : decode cL_apart 34 = .ok (.isub, 1) := by decide +kernel
theorem dL_apart_35 : decode cL_apart 35 = .ok (.istore 4, 2) := by decide +kernel
theorem dL_apart_37 : decode cL_apart 37 = .ok (.iload_n 2, 1) := by decide +kernel
theorem dL_apart_38 : decode cL_apart 38 = .ok (.iload_n 2, 1) := by decide +kernel
theorem dL_apart_39 : decode cL_apart 39 = .ok (.imul, 1) := by decide +kernel
theorem dL_apart_40 : decode cL_apart 40 = .ok (.iload_n 3, 1) := by decide +kernel
theorem dL_apart_41 : decode cL_apart 41 = .ok (.iload_n 3, 1) := by decide +kernel
theorem dL_apart_42 : decode cL_apart 42 = .ok (.imul, 1) := by decide +kernel
theorem dL_apart_43 : decode cL_apart 43 = .ok (.iadd, 1) := by decide +kernel
theorem dL_apart_44 : decode cL_apart 44 = .ok (.iload 4, 2) := by decide +kernel
theorem dL_apart_46 : decode cL_apart 46 = .ok (.iload 4, 2) := by decide +kernel
theorem dL_apart_48 : decode cL_apart 48 = .ok (.imul, 1) := by decide +kernel
theorem dL_apart_49 : decode cL_apart 49 = .ok (.iadd, 1) := by decide +kernel
theorem dL_apart_50 : decode cL_apart 50 = .ok (.ireturn, 1) := by decide +kernel
set_option maxHeartbeats 4000000 in
set_option maxRecDepth 100000 in
theorem c_L_apart (l : Launch) (E : gE) (g : Mem) (u v : Nat) (hu : u < 262144) (hv : v < 262144) : Mt l E yL_apart cL_apart 5 (some .int) 0 0 [.int (nI (u)), .int (nI (v))] g (pI (fun z g' => z = cDist (nI u) (nI v) ∧ g' = g)) := by
  refine mt_go (own := RXL) (by decide) rfl (lo := [some (.int (nI (u))), some (.int (nI (v))), none, none, none]) rfl (Nat.le_of_ble_eq_true rfl) (fun X hC => ?_)
  refine y_iload_n hC dL_apart_0 (i := 0) rfl rfl ?_
  refine y_bipush (v := nI 12) hC dL_apart_1 (by decide) ?_
  refine y_ishr hC dL_apart_3 ?_
  refine y_top (y := nI (u / 4096)) (sh12 hu) ?_
  refine y_iload_n hC dL_apart_4 (i := 1) rfl rfl ?_
  refine y_bipush (v := nI 12) hC dL_apart_5 (by decide) ?_
  refine y_ishr hC dL_apart_7 ?_
  refine y_top (y := nI (v / 4096)) (sh12 hv) ?_
  refine y_isub hC dL_apart_8 ?_
  refine y_istore_n hC dL_apart_9 (i := 2) rfl (Nat.le_of_ble_eq_true rfl) rfl (lo' := [some (.int (nI (u))), some (.int (nI (v))), some (.int (nI (u / 4096) - nI (v / 4096))), none, none]) rfl ?_
  refine y_iload_n hC dL_apart_10 (i := 0) rfl rfl ?_
  refine y_bipush (v := nI 6) hC dL_apart_11 (by decide) ?_
  refine y_ishr hC dL_apart_13 ?_
  refine y_top (y := nI (u / 64)) (sh6 hu) ?_
  refine y_bipush (v := nI 63) hC dL_apart_14 (by decide) ?_
  refine y_iand hC dL_apart_16 ?_
  refine y_top (y := nI (u / 64 % 64)) (zand63 _) ?_
  refine y_iload_n hC dL_apart_17 (i := 1) rfl rfl ?_
  refine y_bipush (v := nI 6) hC dL_apart_18 (by decide) ?_
  refine y_ishr hC dL_apart_20 ?_
  refine y_top (y := nI (v / 64)) (sh6 hv) ?_
  refine y_bipush (v := nI 63) hC dL_apart_21 (by decide) ?_
  refine y_iand hC dL_apart_23 ?_
  refine y_top (y := nI (v / 64 % 64)) (zand63 _) ?_
  refine y_isub hC dL_apart_24 ?_
  refine y_istore_n hC dL_apart_25 (i := 3) rfl (Nat.le_of_ble_eq_true rfl) rfl (lo' := [some (.int (nI (u))), some (.int (nI (v))), some (.int (nI (u / 4096) - nI (v / 4096))), some (.int (nI (u / 64 % 64) - nI (v / 64 % 64))), none]) rfl ?_
  refine y_iload_n hC dL_apart_26 (i := 0) rfl rfl ?_
  refine y_bipush (v := nI 63) hC dL_apart_27 (by decide) ?_
  refine y_iand hC dL_apart_29 ?_
  refine y_top (y := nI (u % 64)) (zand63 _) ?_
  refine y_iload_n hC dL_apart_30 (i := 1) rfl rfl ?_
  refine y_bipush (v := nI 63) hC dL_apart_31 (by decide) ?_
  refine y_iand hC dL_apart_33 ?_
  refine y_top (y := nI (v % 64)) (zand63 _) ?_
  refine y_isub hC dL_apart_34 ?_
  refine y_istore hC dL_apart_35 (Nat.le_of_ble_eq_true rfl) rfl (lo' := [some (.int (nI (u))), some (.int (nI (v))), some (.int (nI (u / 4096) - nI (v / 4096))), some (.int (nI (u / 64 % 64) - nI (v / 64 % 64))), some (.int (nI (u % 64) - nI (v % 64)))]) rfl ?_
  refine y_iload_n hC dL_apart_37 (i := 2) rfl rfl ?_
  refine y_iload_n hC dL_apart_38 (i := 2) rfl rfl ?_
  refine y_imul hC dL_apart_39 ?_
  refine y_iload_n hC dL_apart_40 (i := 3) rfl rfl ?_
  refine y_iload_n hC dL_apart_41 (i := 3) rfl rfl ?_
  refine y_imul hC dL_apart_42 ?_
  refine y_iadd hC dL_apart_43 ?_
  refine y_iload hC dL_apart_44 rfl ?_
  refine y_iload hC dL_apart_46 rfl ?_
  refine y_imul hC dL_apart_48 ?_
  refine y_iadd hC dL_apart_49 ?_
  refine y_iret (hC := hC) (hd := dL_apart_50) (hq := ?_)
  refine ⟨?_, rfl⟩
  unfold cDist
  rw [cP12 hu, cP12 hv, cP6 hu, cP6 hv, cP0 hu, cP0 hv]

