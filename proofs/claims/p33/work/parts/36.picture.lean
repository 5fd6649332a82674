/-! ===== the law: the picture ===== -/
theorem shd_i {ρ : Row} {B p : Nat} (hv : Vr ρ B) (hc : VC ρ) (hp : p < 32) : shd ρ p 0 = nI (nn (shd ρ p 0)) ∧ nn (shd ρ p 0) < 262144 := by
  obtain ⟨n, hn, e⟩ := shd_C (t := 0) hv hc hp
  rw [e, nn_I (by omega)]
  exact ⟨rfl, hn⟩
def sN (ρ : Row) (p : Nat) : Nat := nn (shd ρ p 0)
theorem sN_e {ρ : Row} {B p : Nat} (hv : Vr ρ B) (hc : VC ρ) (hp : p < 32) : shd ρ p 0 = nI (sN ρ p) := (shd_i hv hc hp).1
theorem sN_l {ρ : Row} {B p : Nat} (hv : Vr ρ B) (hc : VC ρ) (hp : p < 32) : sN ρ p < 262144 := (shd_i hv hc hp).2
/-- none of the first n pixels shows what pixel k shows -/
def fsB (ρ : Row) (k : Nat) : Nat → Bool
  | 0 => true
  | j + 1 => fsB ρ k j && decide (¬ sN ρ (px ρ j) = sN ρ (px ρ k))
theorem fsB_s {ρ : Row} {k j : Nat} : fsB ρ k (j + 1) = true ↔ fsB ρ k j = true ∧ ¬ sN ρ (px ρ j) = sN ρ (px ρ k) := by
  show (fsB ρ k j && decide (¬ sN ρ (px ρ j) = sN ρ (px ρ k))) = true ↔ _
  rw [Bool.and_eq_true, decide_eq_true_iff]
theorem fsB_iff {ρ : Row} {k : Nat} : ∀ {n : Nat}, fsB ρ k n = true ↔ ∀ j, j < n → ¬ sN ρ (px ρ j) = sN ρ (px ρ k)
  | 0 => ⟨fun _ j hj => absurd hj (Nat.not_lt_zero j), fun _ => rfl⟩
  | n + 1 => by
    rw [fsB_s, fsB_iff]
    constructor
    · rintro ⟨h1, h2⟩ j hj
      by_cases e : j = n
      · rw [e]; exact h2
      · exact h1 j (by omega)
    · exact fun h => ⟨fun j hj => h j (by omega), h n (by omega)⟩
theorem fsB_m {ρ : Row} {k j : Nat} (hj : j ≤ k) (h : ¬ fsB ρ k j = true) : bI (fsB ρ k j = true) = bI (fsB ρ k k = true) :=
  bI_cg ⟨fun q => absurd q h, fun q => fsB_iff.mpr (fun i hi => fsB_iff.mp q i (by omega))⟩
/-- so many colours are shown in the picture, by places and by pixels -/
theorem dc_eq {ρ : Row} {B : Nat} (hv : Vr ρ B) (hc : VC ρ) : dcK ρ = cn 64 (fun i => fsB ρ i i) := by
  have hpx : ∀ p, p < 64 → px ρ p < 32 := fun p hp => (hv.2.2.2.2.2.2.1 p hp).2
  have hs : ∀ a b, a < 32 → b < 32 → (shS ρ a = shS ρ b ↔ sN ρ a = sN ρ b) := fun a b ha hb => by
    have e1 := sN_e hv hc ha
    have e2 := sN_e hv hc hb
    have l1 := sN_l hv hc ha
    have l2 := sN_l hv hc hb
    show shd ρ a 0 = shd ρ b 0 ↔ _
    rw [e1, e2]
    exact nI_eq (by omega) (by omega)
  have hD : ∀ p, p < 32 → ((inU ρ 64 p && !mbB (inU ρ 64) (shS ρ) p p) = true ↔ (∃ i, i < 64 ∧ px ρ i = p) ∧ ∀ e, e < p → (∃ i, i < 64 ∧ px ρ i = e) → ¬ sN ρ e = sN ρ p) := fun p hp => by
    rw [Bool.and_eq_true, inU_iff]
    refine and_congr_right fun _ => ?_
    have h1 : (!mbB (inU ρ 64) (shS ρ) p p) = true ↔ ¬ mbB (inU ρ 64) (shS ρ) p p = true := by simp
    rw [h1, mbB_iff]
    constructor
    · intro h e he hi hse
      exact h ⟨e, he, inU_iff.mpr hi, (hs e p (by omega) hp).mpr hse⟩
    · rintro h ⟨e, he, hi, hse⟩
      exact h e he (inU_iff.mp hi) ((hs e p (by omega) hp).mp hse)
  apply Nat.le_antisymm
  · -- from a place to the first pixel that shows the same
    let φ : Nat → Nat := fun p => (fst 64 (fun i => decide (sN ρ (px ρ i) = sN ρ p))).getD 0
    have hφ : ∀ p, p < 32 → (inU ρ 64 p && !mbB (inU ρ 64) (shS ρ) p p) = true → φ p < 64 ∧ sN ρ (px ρ (φ p)) = sN ρ p ∧ ∀ j, j < φ p → ¬ sN ρ (px ρ j) = sN ρ p := fun p hp h => by
      obtain ⟨⟨i, hi, hip⟩, -⟩ := (hD p hp).mp h
      cases e : fst 64 (fun i => decide (sN ρ (px ρ i) = sN ρ p)) with
      | none =>
        have := fst_invn e i hi
        rw [hip] at this
        simp at this
      | some q =>
        obtain ⟨h1, h2, h3⟩ := fst_inv e
        have hq : φ p = q := by show (fst 64 _).getD 0 = q; rw [e]; rfl
        rw [hq]
        exact ⟨h1, by simpa using h2, fun j hj => by simpa using h3 j hj⟩
    refine cn_inj φ (fun p hp h => ?_) (fun p q hp hq h1 h2 e => ?_)
    · obtain ⟨a1, a2, a3⟩ := hφ p hp h
      exact ⟨a1, fsB_iff.mpr (fun j hj => by rw [a2]; exact a3 j hj)⟩
    · obtain ⟨a1, a2, a3⟩ := hφ p hp h1
      obtain ⟨b1, b2, b3⟩ := hφ q hq h2
      have he : sN ρ p = sN ρ q := by rw [← a2, ← b2, e]
      obtain ⟨c1, c2⟩ := (hD p hp).mp h1
      obtain ⟨d1, d2⟩ := (hD q hq).mp h2
      apply Decidable.byContradiction
      intro hne
      rcases Nat.lt_or_gt_of_ne hne with hl | hl
      · exact d2 p hl c1 he
      · exact c2 q hl d1 he.symm
  · let ψ : Nat → Nat := fun i => (fst 32 (fun e => inU ρ 64 e && decide (sN ρ e = sN ρ (px ρ i)))).getD 0
    have hψ : ∀ i, i < 64 → ψ i < 32 ∧ (∃ j, j < 64 ∧ px ρ j = ψ i) ∧ sN ρ (ψ i) = sN ρ (px ρ i) ∧ ∀ e, e < ψ i → (∃ j, j < 64 ∧ px ρ j = e) → ¬ sN ρ e = sN ρ (px ρ i) := fun i hi => by
      cases e : fst 32 (fun e => inU ρ 64 e && decide (sN ρ e = sN ρ (px ρ i))) with
      | none =>
        have := fst_invn e (px ρ i) (hpx i hi)
        rw [inU_iff.mpr ⟨i, hi, rfl⟩] at this
        simp at this
      | some q =>
        obtain ⟨h1, h2, h3⟩ := fst_inv e
        have hq : ψ i = q := by show (fst 32 _).getD 0 = q; rw [e]; rfl
        rw [hq]
        rw [Bool.and_eq_true, inU_iff, decide_eq_true_iff] at h2
        refine ⟨h1, h2.1, h2.2, fun e' he' hi' hs' => ?_⟩
        have := h3 e' he'
        rw [inU_iff.mpr hi'] at this
        simp [hs'] at this
    refine cn_inj ψ (fun i hi h => ?_) (fun i j hi hj h1 h2 e => ?_)
    · obtain ⟨a1, a2, a3, a4⟩ := hψ i hi
      exact ⟨a1, (hD _ a1).mpr ⟨a2, fun e he hx => by rw [a3]; exact a4 e he hx⟩⟩
    · obtain ⟨a1, a2, a3, a4⟩ := hψ i hi
      obtain ⟨b1, b2, b3, b4⟩ := hψ j hj
      have he : sN ρ (px ρ i) = sN ρ (px ρ j) := by rw [← a3, ← b3, e]
      apply Decidable.byContradiction
      intro hne
      rcases Nat.lt_or_gt_of_ne hne with hl | hl
      · exact fsB_iff.mp h2 i hl he
      · exact fsB_iff.mp h1 j hl he.symm
/-- to the right, below -/
def rtQ (ρ : Row) (k : Nat) : Int32 := if k % 8 + 1 < 8 then pxD ρ k (k + 1) else nI 0
def blQ (ρ : Row) (k : Nat) : Int32 := if k + 8 < 64 then pxD ρ k (k + 8) else nI 0
theorem mxI_0 {a : Int32} (h : ¬ a < nI 0) : mxI a (nI 0) = a := by
  unfold mxI
  split
  · rename_i q
    apply Int32.toInt_inj.mp
    rw [Int32.lt_iff_toInt_lt] at h q
    omega
  · rfl
theorem mxI_n {a b : Int32} (h : ¬ a < nI 0) : ¬ mxI a b < nI 0 := by
  unfold mxI
  split
  · rename_i q
    rw [Int32.lt_iff_toInt_lt] at h q ⊢
    omega
  · exact h
theorem ctN_n {D : Nat → Nat → Int32} : ∀ k, ¬ ctN D k < nI 0
  | 0 => (show ¬ nI 0 < nI 0 by decide)
  | k + 1 => by
    have h := ctN_n (D := D) k
    have h1 : ¬ (if k % 8 + 1 < 8 then mxI (ctN D k) (D k (k + 1)) else ctN D k) < nI 0 := by
      split
      · exact mxI_n h
      · exact h
    show ¬ (if k + 8 < 64 then mxI (if k % 8 + 1 < 8 then mxI (ctN D k) (D k (k + 1)) else ctN D k) (D k (k + 8)) else (if k % 8 + 1 < 8 then mxI (ctN D k) (D k (k + 1)) else ctN D k)) < nI 0
    split
    · exact mxI_n h1
    · exact h1
theorem ctN_r {ρ : Row} {k : Nat} : mxI (mxI (ctN (pxD ρ) k) (rtQ ρ k)) (blQ ρ k) = ctN (pxD ρ) (k + 1) := by
  have h := ctN_n (D := pxD ρ) k
  have h1 : mxI (ctN (pxD ρ) k) (rtQ ρ k) = if k % 8 + 1 < 8 then mxI (ctN (pxD ρ) k) (pxD ρ k (k + 1)) else ctN (pxD ρ) k := by
    unfold rtQ
    split
    · rfl
    · exact mxI_0 h
  show _ = if k + 8 < 64 then mxI (if k % 8 + 1 < 8 then mxI (ctN (pxD ρ) k) (pxD ρ k (k + 1)) else ctN (pxD ρ) k) (pxD ρ k (k + 8)) else (if k % 8 + 1 < 8 then mxI (ctN (pxD ρ) k) (pxD ρ k (k + 1)) else ctN (pxD ρ) k)
  rw [← h1]
  unfold blQ
  split
  · rfl
  · exact mxI_0 (mxI_n h)
theorem mxI_a {a b : Int32} (h : b ≤ a) : a = mxI a b := by
  unfold mxI
  rw [if_neg]
  rw [Int32.le_iff_toInt_le] at h
  rw [Int32.lt_iff_toInt_lt]
  omega
theorem mxI_b {a b : Int32} (h : ¬ b ≤ a) : b = mxI a b := by
  unfold mxI
  rw [if_pos]
  rw [Int32.le_iff_toInt_le] at h
  rw [Int32.lt_iff_toInt_lt]
  omega
theorem mvs_1 {ρ : Row} {p i : Nat} (h : rAt ρ p = some i) (e : rg ρ i 4 = 1) : mvs ρ p = true := by
  unfold mvs
  rw [h]
  simp [e]
theorem mvs_2 {ρ : Row} {p j : Nat} (h : gAt ρ p = some j) : mvs ρ p = true := by
  unfold mvs
  rw [h]
  simp
theorem mvs_3 {ρ : Row} {p : Nat} (h : rAt ρ p = none) (hg : gAt ρ p = none) : ¬ mvs ρ p = true := by
  unfold mvs
  rw [h, hg]
  simp
theorem mvs_4 {ρ : Row} {p i : Nat} (h : rAt ρ p = some i) (e : ¬ rg ρ i 4 = 1) (hg : gAt ρ p = none) : ¬ mvs ρ p = true := by
  unfold mvs
  rw [h, hg]
  simp [e]
theorem qPx {S : AS} {k : Nat} (hk : k < 64) (z : Nat) : qPixel S (nI (k / 8)) (nI (k % 8)) z = if z = 0 then nI (px S.r k) else shd S.r (px S.r k) 0 := by
  unfold qPixel
  rw [if_pos (by rw [tI (by omega), tI (by omega)]; omega), nn_I (by omega), nn_I (by omega), show 8 * (k / 8) + k % 8 = k by omega]
theorem qCo {S : AS} {k : Nat} (hk : k < 32) : qColour S (nI k) = S.r k := by
  unfold qColour
  rw [if_pos (by rw [tI (by omega)]; omega), nn_I (by omega)]
theorem qSh {S : AS} {k : Nat} (hk : k < 32) : qShown S (nI k) = shd S.r k 0 := by
  unfold qShown
  rw [if_pos (by rw [tI (by omega)]; omega), nn_I (by omega)]
theorem dL_isPicture_0 : decode cL_isPicture 0 = .ok (.iconst 0, 1) := by decide +kernel
theorem dL_isPicture_1 : decode cL_isPicture 1 = .ok (.istore 5, 2) := by decide +kernel
theorem dL_isPicture_3 : decode cL_isPicture 3 = .ok (.iconst 0, 1) := by decide +kernel
theorem dL_isPicture_4 : decode cL_isPicture 4 = .ok (.istore 6, 2) := by decide +kernel
theorem dL_isPicture_6 : decode cL_isPicture 6 = .ok (.iconst 0, 1) := by decide +kernel
theorem dL_isPicture_7 : decode cL_isPicture 7 = .ok (.istore 7, 2) := by decide +kernel
theorem dL_isPicture_9 : decode cL_isPicture 9 = .ok (.iconst 1, 1) := by decide +kernel
theorem dL_isPicture_10 : decode cL_isPicture 10 = .ok (.istore 8, 2) := by decide +kernel
theorem dL_isPicture_12 : decode cL_isPicture 12 = .ok (.iconst 0, 1) := by decide +kernel
theorem dL_isPicture_13 : decode cL_isPicture 13 = .ok (.istore 9, 2) := by decide +kernel
theorem dL_isPicture_15 : decode cL_isPicture 15 = .ok (.iload 9, 2) := by decide +kernel
theorem dL_isPicture_17 : decode cL_isPicture 17 = .ok (.bipush 32, 2) := by decide +kernel
theorem dL_isPicture_19 : decode cL_isPicture 19 = .ok (.if_icmp .ge 51, 3) := by decide +kernel
theorem dL_isPicture_22 : decode cL_isPicture 22 = .ok (.iload 8, 2) := by decide +kernel
theorem dL_isPicture_24 : decode cL_isPicture 24 = .ok (.ifCond .eq 46, 3) := by decide +kernel
theorem dL_isPicture_27 : decode cL_isPicture 27 = .ok (.aload_n 0, 1) := by decide +kernel
theorem dL_isPicture_28 : decode cL_isPicture 28 = .ok (.iload 9, 2) := by decide +kernel
theorem dL_isPicture_30 : decode cL_isPicture 30 = .ok (.invokevirtual 44, 3) := by decide +kernel
theorem dL_isPicture_33 : decode cL_isPicture 33 = .ok (.aload_n 1, 1) := by decide +kernel
theorem dL_isPicture_34 : decode cL_isPicture 34 = .ok (.iload 9, 2) := by decide +kernel
theorem dL_isPicture_36 : decode cL_isPicture 36 = .ok (.iaload, 1) := by decide +kernel
theorem dL_isPicture_37 : decode cL_isPicture 37 = .ok (.if_icmp .ne 24, 3) := by decide +kernel
theorem dL_isPicture_40 : decode cL_isPicture 40 = .ok (.aload_n 0, 1) := by decide +kernel
theorem dL_isPicture_41 : decode cL_isPicture 41 = .ok (.iload 9, 2) := by decide +kernel
theorem dL_isPicture_43 : decode cL_isPicture 43 = .ok (.invokevirtual 47, 3) := by decide +kernel
theorem dL_isPicture_46 : decode cL_isPicture 46 = .ok (.aload_n 1, 1) := by decide +kernel
theorem dL_isPicture_47 : decode cL_isPicture 47 = .ok (.aload_n 2, 1) := by decide +kernel
theorem dL_isPicture_48 : decode cL_isPicture 48 = .ok (.aload_n 3, 1) := by decide +kernel
theorem dL_isPicture_49 : decode cL_isPicture 49 = .ok (.iload 9, 2) := by decide +kernel
theorem dL_isPicture_51 : decode cL_isPicture 51 = .ok (.invokestatic 50, 3) := by decide +kernel
theorem dL_isPicture_54 : decode cL_isPicture 54 = .ok (.if_icmp .ne 7, 3) := by decide +kernel
theorem dL_isPicture_57 : decode cL_isPicture 57 = .ok (.iconst 1, 1) := by decide +kernel
theorem dL_isPicture_58 : decode cL_isPicture 58 = .ok (.goto 4, 3) := by decide +kernel
theorem dL_isPicture_61 : decode cL_isPicture 61 = .ok (.iconst 0, 1) := by decide +kernel
theorem dL_isPicture_62 : decode cL_isPicture 62 = .ok (.istore 8, 2) := by decide +kernel
theorem dL_isPicture_64 : decode cL_isPicture 64 = .ok (.iinc 9 1, 3) := by decide +kernel
theorem dL_isPicture_67 : decode cL_isPicture 67 = .ok (.goto (-52), 3) := by decide +kernel
theorem dL_isPicture_70 : decode cL_isPicture 70 = .ok (.iconst 0, 1) := by decide +kernel
theorem dL_isPicture_71 : decode cL_isPicture 71 = .ok (.istore 9, 2) := by decide +kernel
theorem dL_isPicture_73 : decode cL_isPicture 73 = .ok (.iload 9, 2) := by decide +kernel
theorem dL_isPicture_75 : decode cL_isPicture 75 = .ok (.bipush 64, 2) := by decide +kernel
theorem dL_isPicture_77 : decode cL_isPicture 77 = .ok (.if_icmp .ge 298, 3) := by decide +kernel
theorem dL_isPicture_80 : decode cL_isPicture 80 = .ok (.iload 8, 2) := by decide +kernel
theorem dL_isPicture_82 : decode cL_isPicture 82 = .ok (.ifCond .eq 293, 3) := by decide +kernel
theorem dL_isPicture_85 : decode cL_isPicture 85 = .ok (.aload_n 2, 1) := by decide +kernel
theorem dL_isPicture_86 : decode cL_isPicture 86 = .ok (.aload 4, 2) := by decide +kernel
theorem dL_isPicture_88 : decode cL_isPicture 88 = .ok (.iload 9, 2) := by decide +kernel
theorem dL_isPicture_90 : decode cL_isPicture 90 = .ok (.iaload, 1) := by decide +kernel
theorem dL_isPicture_91 : decode cL_isPicture 91 = .ok (.invokestatic 15, 3) := by decide +kernel
theorem dL_isPicture_94 : decode cL_isPicture 94 = .ok (.istore 10, 2) := by decide +kernel
theorem dL_isPicture_96 : decode cL_isPicture 96 = .ok (.aload_n 1, 1) := by decide +kernel
theorem dL_isPicture_97 : decode cL_isPicture 97 = .ok (.aload_n 2, 1) := by decide +kernel
theorem dL_isPicture_98 : decode cL_isPicture 98 = .ok (.aload_n 3, 1) := by decide +kernel
theorem dL_isPicture_99 : decode cL_isPicture 99 = .ok (.aload 4, 2) := by decide +kernel
theorem dL_isPicture_101 : decode cL_isPicture 101 = .ok (.iload 9, 2) := by decide +kernel
theorem dL_isPicture_103 : decode cL_isPicture 103 = .ok (.iaload, 1) := by decide +kernel
theorem dL_isPicture_104 : decode cL_isPicture 104 = .ok (.invokestatic 50, 3) := by decide +kernel
theorem dL_isPicture_107 : decode cL_isPicture 107 = .ok (.istore 11, 2) := by decide +kernel
theorem dL_isPicture_109 : decode cL_isPicture 109 = .ok (.iload 9, 2) := by decide +kernel
theorem dL_isPicture_111 : decode cL_isPicture 111 = .ok (.bipush 8, 2) := by decide +kernel
theorem dL_isPicture_113 : decode cL_isPicture 113 = .ok (.irem, 1) := by decide +kernel
theorem dL_isPicture_114 : decode cL_isPicture 114 = .ok (.bipush 7, 2) := by decide +kernel
theorem dL_isPicture_116 : decode cL_isPicture 116 = .ok (.if_icmp .ne 7, 3) := by decide +kernel
theorem dL_isPicture_119 : decode cL_isPicture 119 = .ok (.iconst 0, 1) := by decide +kernel
theorem dL_isPicture_120 : decode cL_isPicture 120 = .ok (.goto 21, 3) := by decide +kernel
theorem dL_isPicture_123 : decode cL_isPicture 123 = .ok (.iload 11, 2) := by decide +kernel
theorem dL_isPicture_125 : decode cL_isPicture 125 = .ok (.aload_n 1, 1) := by decide +kernel
theorem dL_isPicture_126 : decode cL_isPicture 126 = .ok (.aload_n 2, 1) := by decide +kernel
theorem dL_isPicture_127 : decode cL_isPicture 127 = .ok (.aload_n 3, 1) := by decide +kernel
theorem dL_isPicture_128 : decode cL_isPicture 128 = .ok (.aload 4, 2) := by decide +kernel
theorem dL_isPicture_130 : decode cL_isPicture 130 = .ok (.iload 9, 2) := by decide +kernel
theorem dL_isPicture_132 : decode cL_isPicture 132 = .ok (.iconst 1, 1) := by decide +kernel
theorem dL_isPicture_133 : decode cL_isPicture 133 = .ok (.iadd, 1) := by decide +kernel
theorem dL_isPicture_134 : decode cL_isPicture 134 = .ok (.iaload, 1) := by decide +kernel
theorem dL_isPicture_135 : decode cL_isPicture 135 = .ok (.invokestatic 50, 3) := by decide +kernel
theorem dL_isPicture_138 : decode cL_isPicture 138 = .ok (.invokestatic 53, 3) := by decide +kernel
theorem dL_isPicture_141 : decode cL_isPicture 141 = .ok (.istore 12, 2) := by decide +kernel
theorem dL_isPicture_143 : decode cL_isPicture 143 = .ok (.iload 9, 2) := by decide +kernel
theorem dL_isPicture_145 : decode cL_isPicture 145 = .ok (.bipush 55, 2) := by decide +kernel
theorem dL_isPicture_147 : decode cL_isPicture 147 = .ok (.if_icmp .le 7, 3) := by decide +kernel
theorem dL_isPicture_150 : decode cL_isPicture 150 = .ok (.iconst 0, 1) := by decide +kernel
theorem dL_isPicture_151 : decode cL_isPicture 151 = .ok (.goto 22, 3) := by decide +kernel
theorem dL_isPicture_154 : decode cL_isPicture 154 = .ok (.iload 11, 2) := by decide +kernel
theorem dL_isPicture_156 : decode cL_isPicture 156 = .ok (.aload_n 1, 1) := by decide +kernel
theorem dL_isPicture_157 : decode cL_isPicture 157 = .ok (.aload_n 2, 1) := by decide +kernel
theorem dL_isPicture_158 : decode cL_isPicture 158 = .ok (.aload_n 3, 1) := by decide +kernel
theorem dL_isPicture_159 : decode cL_isPicture 159 = .ok (.aload 4, 2) := by decide +kernel
theorem dL_isPicture_161 : decode cL_isPicture 161 = .ok (.iload 9, 2) := by decide +kernel
theorem dL_isPicture_163 : decode cL_isPicture 163 = .ok (.bipush 8, 2) := by decide +kernel
theorem dL_isPicture_165 : decode cL_isPicture 165 = .ok (.iadd, 1) := by decide +kernel
theorem dL_isPicture_166 : decode cL_isPicture 166 = .ok (.iaload, 1) := by decide +kernel
theorem dL_isPicture_167 : decode cL_isPicture 167 = .ok (.invokestatic 50, 3) := by decide +kernel
theorem dL_isPicture_170 : decode cL_isPicture 170 = .ok (.invokestatic 53, 3) := by decide +kernel
theorem dL_isPicture_173 : decode cL_isPicture 173 = .ok (.istore 13, 2) := by decide +kernel
theorem dL_isPicture_175 : decode cL_isPicture 175 = .ok (.iconst 1, 1) := by decide +kernel
theorem dL_isPicture_176 : decode cL_isPicture 176 = .ok (.istore 14, 2) := by decide +kernel
theorem dL_isPicture_178 : decode cL_isPicture 178 = .ok (.iconst 0, 1) := by decide +kernel
theorem dL_isPicture_179 : decode cL_isPicture 179 = .ok (.istore 15, 2) := by decide +kernel
theorem dL_isPicture_181 : decode cL_isPicture 181 = .ok (.iload 15, 2) := by decide +kernel
theorem dL_isPicture_183 : decode cL_isPicture 183 = .ok (.iload 9, 2) := by decide +kernel
theorem dL_isPicture_185 : decode cL_isPicture 185 = .ok (.if_icmp .ge 50, 3) := by decide +kernel
theorem dL_isPicture_188 : decode cL_isPicture 188 = .ok (.iload 14, 2) := by decide +kernel
theorem dL_isPicture_190 : decode cL_isPicture 190 = .ok (.ifCond .eq 45, 3) := by decide +kernel
theorem dL_isPicture_193 : decode cL_isPicture 193 = .ok (.aload 4, 2) := by decide +kernel
theorem dL_isPicture_195 : decode cL_isPicture 195 = .ok (.iload 15, 2) := by decide +kernel
theorem dL_isPicture_197 : decode cL_isPicture 197 = .ok (.iaload, 1) := by decide +kernel
theorem dL_isPicture_198 : decode cL_isPicture 198 = .ok (.aload 4, 2) := by decide +kernel
theorem dL_isPicture_200 : decode cL_isPicture 200 = .ok (.iload 9, 2) := by decide +kernel
theorem dL_isPicture_202 : decode cL_isPicture 202 = .ok (.iaload, 1) := by decide +kernel
theorem dL_isPicture_203 : decode cL_isPicture 203 = .ok (.if_icmp .eq 23, 3) := by decide +kernel
theorem dL_isPicture_206 : decode cL_isPicture 206 = .ok (.aload_n 1, 1) := by decide +kernel
theorem dL_isPicture_207 : decode cL_isPicture 207 = .ok (.aload_n 2, 1) := by decide +kernel
theorem dL_isPicture_208 : decode cL_isPicture 208 = .ok (.aload_n 3, 1) := by decide +kernel
theorem dL_isPicture_209 : decode cL_isPicture 209 = .ok (.aload 4, 2) := by decide +kernel
theorem dL_isPicture_211 : decode cL_isPicture 211 = .ok (.iload 15, 2) := by decide +kernel
theorem dL_isPicture_213 : decode cL_isPicture 213 = .ok (.iaload, 1) := by decide +kernel
theorem dL_isPicture_214 : decode cL_isPicture 214 = .ok (.invokestatic 50, 3) := by decide +kernel
theorem dL_isPicture_217 : decode cL_isPicture 217 = .ok (.iload 11, 2) := by decide +kernel
theorem dL_isPicture_219 : decode cL_isPicture 219 = .ok (.if_icmp .eq 7, 3) := by decide +kernel
theorem dL_isPicture_222 : decode cL_isPicture 222 = .ok (.iconst 1, 1) := by decide +kernel
theorem dL_isPicture_223 : decode cL_isPicture 223 = .ok (.goto 4, 3) := by decide +kernel
theorem dL_isPicture_226 : decode cL_isPicture 226 = .ok (.iconst 0, 1) := by decide +kernel
theorem dL_isPicture_227 : decode cL_isPicture 227 = .ok (.istore 14, 2) := by decide +kernel
theorem dL_isPicture_229 : decode cL_isPicture 229 = .ok (.iinc 15 1, 3) := by decide +kernel
theorem dL_isPicture_232 : decode cL_isPicture 232 = .ok (.goto (-51), 3) := by decide +kernel
theorem dL_isPicture_235 : decode cL_isPicture 235 = .ok (.iload 7, 2) := by decide +kernel
theorem dL_isPicture_237 : decode cL_isPicture 237 = .ok (.iload 14, 2) := by decide +kernel
theorem dL_isPicture_239 : decode cL_isPicture 239 = .ok (.ifCond .eq 7, 3) := by decide +kernel
theorem dL_isPicture_242 : decode cL_isPicture 242 = .ok (.iconst 1, 1) := by decide +kernel
theorem dL_isPicture_243 : decode cL_isPicture 243 = .ok (.goto 4, 3) := by decide +kernel
theorem dL_isPicture_246 : decode cL_isPicture 246 = .ok (.iconst 0, 1) := by decide +kernel
theorem dL_isPicture_247 : decode cL_isPicture 247 = .ok (.iadd, 1) := by decide +kernel
theorem dL_isPicture_248 : decode cL_isPicture 248 = .ok (.istore 7, 2) := by decide +kernel
theorem dL_isPicture_250 : decode cL_isPicture 250 = .ok (.iload 12, 2) := by decide +kernel
theorem dL_isPicture_252 : decode cL_isPicture 252 = .ok (.iload 6, 2) := by decide +kernel
theorem dL_isPicture_254 : decode cL_isPicture 254 = .ok (.if_icmp .le 8, 3) := by decide +kernel
theorem dL_isPicture_257 : decode cL_isPicture 257 = .ok (.iload 12, 2) := by decide +kernel
theorem dL_isPicture_259 : decode cL_isPicture 259 = .ok (.goto 5, 3) := by decide +kernel
theorem dL_isPicture_262 : decode cL_isPicture 262 = .ok (.iload 6, 2) := by decide +kernel
theorem dL_isPicture_264 : decode cL_isPicture 264 = .ok (.istore 6, 2) := by decide +kernel
theorem dL_isPicture_266 : decode cL_isPicture 266 = .ok (.iload 13, 2) := by decide +kernel
theorem dL_isPicture_268 : decode cL_isPicture 268 = .ok (.iload 6, 2) := by decide +kernel
theorem dL_isPicture_270 : decode cL_isPicture 270 = .ok (.if_icmp .le 8, 3) := by decide +kernel
theorem dL_isPicture_273 : decode cL_isPicture 273 = .ok (.iload 13, 2) := by decide +kernel
theorem dL_isPicture_275 : decode cL_isPicture 275 = .ok (.goto 5, 3) := by decide +kernel
theorem dL_isPicture_278 : decode cL_isPicture 278 = .ok (.iload 6, 2) := by decide +kernel
theorem dL_isPicture_280 : decode cL_isPicture 280 = .ok (.istore 6, 2) := by decide +kernel
theorem dL_isPicture_282 : decode cL_isPicture 282 = .ok (.iload 5, 2) := by decide +kernel
theorem dL_isPicture_284 : decode cL_isPicture 284 = .ok (.iload 10, 2) := by decide +kernel
theorem dL_isPicture_286 : decode cL_isPicture 286 = .ok (.ifCond .le 13, 3) := by decide +kernel
theorem dL_isPicture_289 : decode cL_isPicture 289 = .ok (.aload_n 2, 1) := by decide +kernel
theorem dL_isPicture_290 : decode cL_isPicture 290 = .ok (.iload 10, 2) := by decide +kernel
theorem dL_isPicture_292 : decode cL_isPicture 292 = .ok (.iconst 4, 1) := by decide +kernel
theorem dL_isPicture_293 : decode cL_isPicture 293 = .ok (.iadd, 1) := by decide +kernel
theorem dL_isPicture_294 : decode cL_isPicture 294 = .ok (.iaload, 1) := by decide +kernel
theorem dL_isPicture_295 : decode cL_isPicture 295 = .ok (.iconst 1, 1) := by decide +kernel
theorem dL_isPicture_296 : decode cL_isPicture 296 = .ok (.if_icmp .eq 15, 3) := by decide +kernel
theorem dL_isPicture_299 : decode cL_isPicture 299 = .ok (.aload_n 3, 1) := by decide +kernel
theorem dL_isPicture_300 : decode cL_isPicture 300 = .ok (.aload 4, 2) := by decide +kernel
theorem dL_isPicture_302 : decode cL_isPicture 302 = .ok (.iload 9, 2) := by decide +kernel
theorem dL_isPicture_304 : decode cL_isPicture 304 = .ok (.iaload, 1) := by decide +kernel
theorem dL_isPicture_305 : decode cL_isPicture 305 = .ok (.invokestatic 21, 3) := by decide +kernel
theorem dL_isPicture_308 : decode cL_isPicture 308 = .ok (.ifCond .le 7, 3) := by decide +kernel
theorem dL_isPicture_311 : decode cL_isPicture 311 = .ok (.iconst 1, 1) := by decide +kernel
theorem dL_isPicture_312 : decode cL_isPicture 312 = .ok (.goto 4, 3) := by decide +kernel
theorem dL_isPicture_315 : decode cL_isPicture 315 = .ok (.iconst 0, 1) := by decide +kernel
theorem dL_isPicture_316 : decode cL_isPicture 316 = .ok (.iadd, 1) := by decide +kernel
theorem dL_isPicture_317 : decode cL_isPicture 317 = .ok (.istore 5, 2) := by decide +kernel
theorem dL_isPicture_319 : decode cL_isPicture 319 = .ok (.aload_n 0, 1) := by decide +kernel
theorem dL_isPicture_320 : decode cL_isPicture 320 = .ok (.iload 9, 2) := by decide +kernel
theorem dL_isPicture_322 : decode cL_isPicture 322 = .ok (.bipush 8, 2) := by decide +kernel
theorem dL_isPicture_324 : decode cL_isPicture 324 = .ok (.idiv, 1) := by decide +kernel
theorem dL_isPicture_325 : decode cL_isPicture 325 = .ok (.iload 9, 2) := by decide +kernel
theorem dL_isPicture_327 : decode cL_isPicture 327 = .ok (.bipush 8, 2) := by decide +kernel
theorem dL_isPicture_329 : decode cL_isPicture 329 = .ok (.irem, 1) := by decide +kernel
theorem dL_isPicture_330 : decode cL_isPicture 330 = .ok (.iconst 0, 1) := by decide +kernel
theorem dL_isPicture_331 : decode cL_isPicture 331 = .ok (.invokevirtual 56, 3) := by decide +kernel
theorem dL_isPicture_334 : decode cL_isPicture 334 = .ok (.aload 4, 2) := by decide +kernel
theorem dL_isPicture_336 : decode cL_isPicture 336 = .ok (.iload 9, 2) := by decide +kernel
theorem dL_isPicture_338 : decode cL_isPicture 338 = .ok (.iaload, 1) := by decide +kernel
theorem dL_isPicture_339 : decode cL_isPicture 339 = .ok (.if_icmp .ne 27, 3) := by decide +kernel
theorem dL_isPicture_342 : decode cL_isPicture 342 = .ok (.aload_n 0, 1) := by decide +kernel
theorem dL_isPicture_343 : decode cL_isPicture 343 = .ok (.iload 9, 2) := by decide +kernel
theorem dL_isPicture_345 : decode cL_isPicture 345 = .ok (.bipush 8, 2) := by decide +kernel
theorem dL_isPicture_347 : decode cL_isPicture 347 = .ok (.idiv, 1) := by decide +kernel
theorem dL_isPicture_348 : decode cL_isPicture 348 = .ok (.iload 9, 2) := by decide +kernel
theorem dL_isPicture_350 : decode cL_isPicture 350 = .ok (.bipush 8, 2) := by decide +kernel
theorem dL_isPicture_352 : decode cL_isPicture 352 = .ok (.irem, 1) := by decide +kernel
theorem dL_isPicture_353 : decode cL_isPicture 353 = .ok (.iconst 1, 1) := by decide +kernel
theorem dL_isPicture_354 : decode cL_isPicture 354 = .ok (.invokevirtual 56, 3) := by decide +kernel
theorem dL_isPicture_357 : decode cL_isPicture 357 = .ok (.iload 11, 2) := by decide +kernel
theorem dL_isPicture_359 : decode cL_isPicture 359 = .ok (.if_icmp .ne 7, 3) := by decide +kernel
theorem dL_isPicture_362 : decode cL_isPicture 362 = .ok (.iconst 1, 1) := by decide +kernel
theorem dL_isPicture_363 : decode cL_isPicture 363 = .ok (.goto 4, 3) := by decide +kernel
theorem dL_isPicture_366 : decode cL_isPicture 366 = .ok (.iconst 0, 1) := by decide +kernel
theorem dL_isPicture_367 : decode cL_isPicture 367 = .ok (.istore 8, 2) := by decide +kernel
theorem dL_isPicture_369 : decode cL_isPicture 369 = .ok (.iinc 9 1, 3) := by decide +kernel
theorem dL_isPicture_372 : decode cL_isPicture 372 = .ok (.goto (-299), 3) := by decide +kernel
theorem dL_isPicture_375 : decode cL_isPicture 375 = .ok (.iload 8, 2) := by decide +kernel
theorem dL_isPicture_377 : decode cL_isPicture 377 = .ok (.ifCond .eq 38, 3) := by decide +kernel
theorem dL_isPicture_380 : decode cL_isPicture 380 = .ok (.aload_n 0, 1) := by decide +kernel
theorem dL_isPicture_381 : decode cL_isPicture 381 = .ok (.bipush 6, 2) := by decide +kernel
theorem dL_isPicture_383 : decode cL_isPicture 383 = .ok (.invokevirtual 40, 3) := by decide +kernel
theorem dL_isPicture_386 : decode cL_isPicture 386 = .ok (.iload 7, 2) := by decide +kernel
theorem dL_isPicture_388 : decode cL_isPicture 388 = .ok (.if_icmp .ne 27, 3) := by decide +kernel
theorem dL_isPicture_391 : decode cL_isPicture 391 = .ok (.aload_n 0, 1) := by decide +kernel
theorem dL_isPicture_392 : decode cL_isPicture 392 = .ok (.bipush 7, 2) := by decide +kernel
theorem dL_isPicture_394 : decode cL_isPicture 394 = .ok (.invokevirtual 40, 3) := by decide +kernel
theorem dL_isPicture_397 : decode cL_isPicture 397 = .ok (.iload 5, 2) := by decide +kernel
theorem dL_isPicture_399 : decode cL_isPicture 399 = .ok (.if_icmp .ne 16, 3) := by decide +kernel
theorem dL_isPicture_402 : decode cL_isPicture 402 = .ok (.aload_n 0, 1) := by decide +kernel
theorem dL_isPicture_403 : decode cL_isPicture 403 = .ok (.invokevirtual 60, 3) := by decide +kernel
theorem dL_isPicture_406 : decode cL_isPicture 406 = .ok (.iload 6, 2) := by decide +kernel
theorem dL_isPicture_408 : decode cL_isPicture 408 = .ok (.if_icmp .ne 7, 3) := by decide +kernel
theorem dL_isPicture_411 : decode cL_isPicture 411 = .ok (.iconst 1, 1) := by decide +kernel
theorem dL_isPicture_412 : decode cL_isPicture 412 = .ok (.goto 4, 3) := by decide +kernel
theorem dL_isPicture_415 : decode cL_isPicture 415 = .ok (.iconst 0, 1) := by decide +kernel
theorem dL_isPicture_416 : decode cL_isPicture 416 = .ok (.ireturn, 1) := by decide +kernel
set_option maxHeartbeats 4000000 in
set_option maxRecDepth 100000 in
theorem c_L_isPicture (l : Launch) (E : gE) (g : Mem) (Ec : gE) (S : AS) (c r h p : Nat → Int32) (hL : LWP Ec E g S c r h p) (B M : Nat) (hB : B ≤ 10000000) (hM : M ≤ 100000000) (ho : OK S B) (a K : Nat → Nat)(hq : RgL S.r r a K M) (hg : GlL S.r h) (hcl : CoL S.r c) (hvc : VC S.r) (hpi : PiL S.r p) : Mt l E yL_isPicture cL_isPicture 16 (some .boolean) 7 160 [rf E (0), rf E (100), rf E (101), rf E (102), rf E (103)] g (pI (fun z g' => z = nI 1 ∧ LWP Ec E g' S c r h p)) := by
  have hv := ho.v
  have hrc : rc S.r ≤ 6 := hv.1.2
  have hgc : gc S.r ≤ 4 := hv.2.1.2
  have hdc : dcK S.r ≤ 32 := cn_le _ _
  have hmv : mvC S.r ≤ 64 := cn_le _ _
  have hmn0 := cn_le 64 (fun i => fsB S.r i i)
  have hlv0 := cn_le 64 (fun i => mvs S.r (px S.r i))
  refine mt_go (own := RXL) (by decide) rfl (lo := [some (rf E (0)), some (rf E (100)), some (rf E (101)), some (rf E (102)), some (rf E (103)), none, none, none, none, none, none, none, none, none, none, none]) rfl (Nat.le_of_ble_eq_true rfl) (fun X hC => ?_)
  refine y_iconst (v := nI 0) hC dL_isPicture_0 (by decide) ?_
  refine y_istore hC dL_isPicture_1 (Nat.le_of_ble_eq_true rfl) rfl (lo' := [some (rf E (0)), some (rf E (100)), some (rf E (101)), some (rf E (102)), some (rf E (103)), some (.int (nI (0))), none, none, none, none, none, none, none, none, none, none]) rfl ?_
  refine y_iconst (v := nI 0) hC dL_isPicture_3 (by decide) ?_
  refine y_istore hC dL_isPicture_4 (Nat.le_of_ble_eq_true rfl) rfl (lo' := [some (rf E (0)), some (rf E (100)), some (rf E (101)), some (rf E (102)), some (rf E (103)), some (.int (nI (0))), some (.int (nI (0))), none, none, none, none, none, none, none, none, none]) rfl ?_
  refine y_iconst (v := nI 0) hC dL_isPicture_6 (by decide) ?_
  refine y_istore hC dL_isPicture_7 (Nat.le_of_ble_eq_true rfl) rfl (lo' := [some (rf E (0)), some (rf E (100)), some (rf E (101)), some (rf E (102)), some (rf E (103)), some (.int (nI (0))), some (.int (nI (0))), some (.int (nI (0))), none, none, none, none, none, none, none, none]) rfl ?_
  refine y_iconst (v := nI 1) hC dL_isPicture_9 (by decide) ?_
  refine y_istore hC dL_isPicture_10 (Nat.le_of_ble_eq_true rfl) rfl (lo' := [some (rf E (0)), some (rf E (100)), some (rf E (101)), some (rf E (102)), some (rf E (103)), some (.int (nI (0))), some (.int (nI (0))), some (.int (nI (0))), some (.int (nI (1))), none, none, none, none, none, none, none]) rfl ?_
  refine y_iconst (v := nI 0) hC dL_isPicture_12 (by decide) ?_
  refine y_istore hC dL_isPicture_13 (Nat.le_of_ble_eq_true rfl) rfl (lo' := [some (rf E (0)), some (rf E (100)), some (rf E (101)), some (rf E (102)), some (rf E (103)), some (.int (nI (0))), some (.int (nI (0))), some (.int (nI (0))), some (.int (nI (1))), some (.int (nI (0))), none, none, none, none, none, none]) rfl ?_
  refine y_lo (lo' := [some (rf E (0)), some (rf E (100)), some (rf E (101)), some (rf E (102)), some (rf E (103)), some (.int (nI (cn 0 (fun i => mvs S.r (px S.r i))))), some (.int (ctN (pxD S.r) 0)), some (.int (nI (cn 0 (fun i => fsB S.r i i)))), some (.int (nI (1))), some (.int (nI (0))), none, none, none, none, none, none]) rfl ?_
  have L_15 : ∀ (m : Nat) (k : Nat) (gg : Mem), (hm : 32 - k < m) → (hk : k ≤ 32) → (hL : LWP Ec E gg S c r h p) → Y l E X (pI (fun z g' => z = nI 1 ∧ LWP Ec E g' S c r h p)) 15 [some (rf E (0)), some (rf E (100)), some (rf E (101)), some (rf E (102)), some (rf E (103)), some (.int (nI (cn 0 (fun i => mvs S.r (px S.r i))))), some (.int (ctN (pxD S.r) 0)), some (.int (nI (cn 0 (fun i => fsB S.r i i)))), some (.int (nI (1))), some (.int (nI (k))), none, none, none, none, none, none] [] gg := by
    intro m
    induction m with
    | zero => intro k gg hm hk hL; exact absurd hm (Nat.not_lt_zero _)
    | succ m ih_15 =>
      intro k gg hm hk hL
      refine y_iload hC dL_isPicture_15 rfl ?_
      refine y_bipush (v := nI 32) hC dL_isPicture_17 (by decide) ?_
      refine y_icmp_ge_n (tgt := 70) hC dL_isPicture_19 (by decide) (by omega) (by omega) (fun c_19 => ?_) (fun c_19 => ?_)
      · refine y_iconst (v := nI 0) hC dL_isPicture_70 (by decide) ?_
        refine y_istore hC dL_isPicture_71 (Nat.le_of_ble_eq_true rfl) rfl (lo' := [some (rf E (0)), some (rf E (100)), some (rf E (101)), some (rf E (102)), some (rf E (103)), some (.int (nI (cn 0 (fun i => mvs S.r (px S.r i))))), some (.int (ctN (pxD S.r) 0)), some (.int (nI (cn 0 (fun i => fsB S.r i i)))), some (.int (nI (1))), some (.int (nI (0))), none, none, none, none, none, none]) rfl ?_
        have L_73 : ∀ (m : Nat) (k : Nat) (gg : Mem), (hm : 64 - k < m) → (hk : k ≤ 64) → (hL : LWP Ec E gg S c r h p) → Y l E X (pI (fun z g' => z = nI 1 ∧ LWP Ec E g' S c r h p)) 73 [some (rf E (0)), some (rf E (100)), some (rf E (101)), some (rf E (102)), some (rf E (103)), some (.int (nI (cn k (fun i => mvs S.r (px S.r i))))), some (.int (ctN (pxD S.r) k)), some (.int (nI (cn k (fun i => fsB S.r i i)))), some (.int (nI (1))), some (.int (nI (k))), none, none, none, none, none, none] [] gg := by
          intro m
          induction m with
          | zero => intro k gg hm hk hL; exact absurd hm (Nat.not_lt_zero _)
          | succ m ih_73 =>
            intro k gg hm hk hL
            refine y_iload hC dL_isPicture_73 rfl ?_
            refine y_bipush (v := nI 64) hC dL_isPicture_75 (by decide) ?_
            refine y_icmp_ge_n (tgt := 375) hC dL_isPicture_77 (by decide) (by omega) (by omega) (fun c_77 => ?_) (fun c_77 => ?_)
            · obtain rfl : k = 64 := by omega
              refine y_iload hC dL_isPicture_375 rfl ?_
              refine y_if_eq_n (tgt := 415) hC dL_isPicture_377 (by decide) (by omega) (fun c_377 => ?_) (fun c_377 => ?_)
              · exfalso
                omega
              · refine y_aload_n hC dL_isPicture_380 (i := 0) rfl rfl ?_
                refine y_bipush (v := nI 6) hC dL_isPicture_381 (by decide) ?_
                refine y_callVF hC hL.s mX5_total kXL_40 dL_isPicture_383 (b := 0) (As := [.int (nI (6))]) (rest := []) (CPm hL.cp (fun sh mk wa hcq => c_X5_total l Ec gg S B (by omega) ho sh mk wa hcq (nI (6)))) hL.k0 hL.a0 rfl rfl rfl (Nat.le_of_ble_eq_true rfl) ⟨Nat.le_of_ble_eq_true rfl, Nat.le_of_ble_eq_true rfl⟩ (pkf_i ?_)
                rintro r_383 g_383 ⟨hr_383, hc_383⟩
                rw [hr_383]
                clear hr_383 r_383
                have hL_383 := hL.call hc_383
                generalize mrg (eK Ec) g_383 gg = G_383 at hL_383  ⊢
                refine y_top (y := nI (dcK S.r)) (qTt (by decide)) ?_
                refine y_iload hC dL_isPicture_386 rfl ?_
                refine y_icmp_ne_n (tgt := 415) hC dL_isPicture_388 (by decide) (by omega) (by omega) (fun c_388 => ?_) (fun c_388 => ?_)
                · exact absurd (dc_eq hv hvc) c_388
                · refine y_aload_n hC dL_isPicture_391 (i := 0) rfl rfl ?_
                  refine y_bipush (v := nI 7) hC dL_isPicture_392 (by decide) ?_
                  refine y_callVF hC hL_383.s mX5_total kXL_40 dL_isPicture_394 (b := 0) (As := [.int (nI (7))]) (rest := []) (CPm hL_383.cp (fun sh mk wa hcq => c_X5_total l Ec G_383 S B (by omega) ho sh mk wa hcq (nI (7)))) hL_383.k0 hL_383.a0 rfl rfl rfl (Nat.le_of_ble_eq_true rfl) ⟨Nat.le_of_ble_eq_true rfl, Nat.le_of_ble_eq_true rfl⟩ (pkf_i ?_)
                  rintro r_394 g_394 ⟨hr_394, hc_394⟩
                  rw [hr_394]
                  clear hr_394 r_394
                  have hL_394 := hL_383.call hc_394
                  generalize mrg (eK Ec) g_394 G_383 = G_394 at hL_394  ⊢
                  refine y_top (y := nI (mvC S.r)) (qTt (by decide)) ?_
                  refine y_iload hC dL_isPicture_397 rfl ?_
                  refine y_icmp_ne_n (tgt := 415) hC dL_isPicture_399 (by decide) (by omega) (by omega) (fun c_399 => ?_) (fun c_399 => ?_)
                  · exact absurd rfl c_399
                  · refine y_aload_n hC dL_isPicture_402 (i := 0) rfl rfl ?_
                    refine y_callVF hC hL_394.s mX5_contrast kXL_60 dL_isPicture_403 (b := 0) (As := []) (rest := []) (CPm hL_394.cp (fun sh mk wa hcq => c_X5_contrast l Ec G_394 S B (by omega) ho sh mk wa hcq)) hL_394.k0 hL_394.a0 rfl rfl rfl (Nat.le_of_ble_eq_true rfl) ⟨Nat.le_of_ble_eq_true rfl, Nat.le_of_ble_eq_true rfl⟩ (pkf_i ?_)
                    rintro r_403 g_403 ⟨hr_403, hc_403⟩
                    rw [hr_403]
                    clear hr_403 r_403
                    have hL_403 := hL_394.call hc_403
                    generalize mrg (eK Ec) g_403 G_394 = G_403 at hL_403  ⊢
                    refine y_iload hC dL_isPicture_406 rfl ?_
                    refine y_icmp_ne (tgt := 415) hC dL_isPicture_408 (by decide) (fun c_408 => ?_) (fun c_408 => ?_)
                    · exact absurd rfl c_408
                    · refine y_iconst (v := nI 1) hC dL_isPicture_411 (by decide) ?_
                      refine y_goto (tgt := 416) hC dL_isPicture_412 (by decide) ?_
                      refine y_zret (hrt := rfl) (hn := rfl) (hC := hC) (hd := dL_isPicture_416) (hq := ?_)
                      exact ⟨rfl, hL_403⟩
            · have hkk : k < 64 := by omega
              have hpk := (hv.2.2.2.2.2.2.1 k hkk).2
              have hpk1 : k % 8 + 1 < 8 → px S.r (k + 1) < 32 := fun _ => (hv.2.2.2.2.2.2.1 (k + 1) (by omega)).2
              have hpk8 : k + 8 < 64 → px S.r (k + 8) < 32 := fun q => (hv.2.2.2.2.2.2.1 (k + 8) q).2
              have hsl := sN_l hv hvc hpk
              have hlv := cn_le k (fun i => mvs S.r (px S.r i))
              have hmn := cn_le k (fun i => fsB S.r i i)
              refine y_iload hC dL_isPicture_80 rfl ?_
              refine y_if_eq_n (tgt := 375) hC dL_isPicture_82 (by decide) (by omega) (fun c_82 => ?_) (fun c_82 => ?_)
              · exfalso
                omega
              · refine y_aload_n hC dL_isPicture_85 (i := 2) rfl rfl ?_
                refine y_aload hC dL_isPicture_86 rfl ?_
                refine y_iload hC dL_isPicture_88 rfl ?_
                refine y_iald hC dL_isPicture_90 (k := 103) (j := k) (by have := hL.k; omega) hL.a103 (rfl) (by omega) (by decide) ?_
                refine y_top (y := nI (px S.r k)) (hpi _ (by omega)) ?_
                refine y_callS hC mL_rangeOf kXL_15 dL_isPicture_91 (As := [rf E (101), .int (nI (px S.r k))]) (rest := []) (c_L_rangeOf l E gg 101 (by have := hL.k; omega) r hL.a101 S.r B M hv a K hq (px S.r k) (by omega)) rfl rfl rfl (Nat.le_of_ble_eq_true rfl) ⟨Nat.le_of_ble_eq_true rfl, Nat.le_of_ble_eq_true rfl⟩ (pk_i ?_)
                rintro r_91 g_91 ⟨hr_91, hq_91⟩
                obtain rfl := hq_91.symm
                rw [hr_91]
                clear hr_91 r_91
                refine y_istore hC dL_isPicture_94 (Nat.le_of_ble_eq_true rfl) rfl (lo' := [some (rf E (0)), some (rf E (100)), some (rf E (101)), some (rf E (102)), some (rf E (103)), some (.int (nI (cn k (fun i => mvs S.r (px S.r i))))), some (.int (ctN (pxD S.r) k)), some (.int (nI (cn k (fun i => fsB S.r i i)))), some (.int (nI (1))), some (.int (nI (k))), some (.int (nI (rzN S.r (px S.r k)))), none, none, none, none, none]) rfl ?_
                refine y_aload_n hC dL_isPicture_96 (i := 1) rfl rfl ?_
                refine y_aload_n hC dL_isPicture_97 (i := 2) rfl rfl ?_
                refine y_aload_n hC dL_isPicture_98 (i := 3) rfl rfl ?_
                refine y_aload hC dL_isPicture_99 rfl ?_
                refine y_iload hC dL_isPicture_101 rfl ?_
                refine y_iald hC dL_isPicture_103 (k := 103) (j := k) (by have := hL.k; omega) hL.a103 (rfl) (by omega) (by decide) ?_
                refine y_top (y := nI (px S.r k)) (hpi _ (by omega)) ?_
                refine y_callS hC mL_shown kXL_50 dL_isPicture_104 (As := [rf E (100), rf E (101), rf E (102), .int (nI (px S.r k))]) (rest := []) (c_L_shown l E gg 100 101 102 (by have := hL.k; omega) (by have := hL.k; omega) (by have := hL.k; omega) c r h hL.a100 hL.a101 hL.a102 S.r B M hv (by omega) (by omega) a K hq hg hcl hvc (px S.r k) (by omega)) rfl rfl rfl (Nat.le_of_ble_eq_true rfl) ⟨Nat.le_of_ble_eq_true rfl, Nat.le_of_ble_eq_true rfl⟩ (pk_i ?_)
                rintro r_104 g_104 ⟨hr_104, hq_104⟩
                obtain rfl := hq_104.symm
                rw [hr_104]
                clear hr_104 r_104
                refine y_top (y := nI (sN S.r (px S.r k))) (sN_e hv hvc (show px S.r k < 32 by omega)) ?_
                refine y_istore hC dL_isPicture_107 (Nat.le_of_ble_eq_true rfl) rfl (lo' := [some (rf E (0)), some (rf E (100)), some (rf E (101)), some (rf E (102)), some (rf E (103)), some (.int (nI (cn k (fun i => mvs S.r (px S.r i))))), some (.int (ctN (pxD S.r) k)), some (.int (nI (cn k (fun i => fsB S.r i i)))), some (.int (nI (1))), some (.int (nI (k))), some (.int (nI (rzN S.r (px S.r k)))), some (.int (nI (sN S.r (px S.r k)))), none, none, none, none]) rfl ?_
                have J_141 : Y l E X (pI (fun z g' => z = nI 1 ∧ LWP Ec E g' S c r h p)) 141 [some (rf E (0)), some (rf E (100)), some (rf E (101)), some (rf E (102)), some (rf E (103)), some (.int (nI (cn k (fun i => mvs S.r (px S.r i))))), some (.int (ctN (pxD S.r) k)), some (.int (nI (cn k (fun i => fsB S.r i i)))), some (.int (nI (1))), some (.int (nI (k))), some (.int (nI (rzN S.r (px S.r k)))), some (.int (nI (sN S.r (px S.r k)))), none, none, none, none] [.int (rtQ S.r k)] gg := by
                  refine y_istore hC dL_isPicture_141 (Nat.le_of_ble_eq_true rfl) rfl (lo' := [some (rf E (0)), some (rf E (100)), some (rf E (101)), some (rf E (102)), some (rf E (103)), some (.int (nI (cn k (fun i => mvs S.r (px S.r i))))), some (.int (ctN (pxD S.r) k)), some (.int (nI (cn k (fun i => fsB S.r i i)))), some (.int (nI (1))), some (.int (nI (k))), some (.int (nI (rzN S.r (px S.r k)))), some (.int (nI (sN S.r (px S.r k)))), some (.int (rtQ S.r k)), none, none, none]) rfl ?_
                  have J_173 : Y l E X (pI (fun z g' => z = nI 1 ∧ LWP Ec E g' S c r h p)) 173 [some (rf E (0)), some (rf E (100)), some (rf E (101)), some (rf E (102)), some (rf E (103)), some (.int (nI (cn k (fun i => mvs S.r (px S.r i))))), some (.int (ctN (pxD S.r) k)), some (.int (nI (cn k (fun i => fsB S.r i i)))), some (.int (nI (1))), some (.int (nI (k))), some (.int (nI (rzN S.r (px S.r k)))), some (.int (nI (sN S.r (px S.r k)))), some (.int (rtQ S.r k)), none, none, none] [.int (blQ S.r k)] gg := by
                    refine y_istore hC dL_isPicture_173 (Nat.le_of_ble_eq_true rfl) rfl (lo' := [some (rf E (0)), some (rf E (100)), some (rf E (101)), some (rf E (102)), some (rf E (103)), some (.int (nI (cn k (fun i => mvs S.r (px S.r i))))), some (.int (ctN (pxD S.r) k)), some (.int (nI (cn k (fun i => fsB S.r i i)))), some (.int (nI (1))), some (.int (nI (k))), some (.int (nI (rzN S.r (px S.r k)))), some (.int (nI (sN S.r (px S.r k)))), some (.int (rtQ S.r k)), some (.int (blQ S.r k)), none, none]) rfl ?_
                    refine y_iconst (v := nI 1) hC dL_isPicture_175 (by decide) ?_
                    refine y_top (y := bI (fsB S.r k 0 = true)) (nI_bt rfl) ?_
                    refine y_istore hC dL_isPicture_176 (Nat.le_of_ble_eq_true rfl) rfl (lo' := [some (rf E (0)), some (rf E (100)), some (rf E (101)), some (rf E (102)), some (rf E (103)), some (.int (nI (cn k (fun i => mvs S.r (px S.r i))))), some (.int (ctN (pxD S.r) k)), some (.int (nI (cn k (fun i => fsB S.r i i)))), some (.int (nI (1))), some (.int (nI (k))), some (.int (nI (rzN S.r (px S.r k)))), some (.int (nI (sN S.r (px S.r k)))), some (.int (rtQ S.r k)), some (.int (blQ S.r k)), some (.int (bI (fsB S.r k 0 = true))), none]) rfl ?_
                    have J_235 : Y l E X (pI (fun z g' => z = nI 1 ∧ LWP Ec E g' S c r h p)) 235 [some (rf E (0)), some (rf E (100)), some (rf E (101)), some (rf E (102)), some (rf E (103)), some (.int (nI (cn k (fun i => mvs S.r (px S.r i))))), some (.int (ctN (pxD S.r) k)), some (.int (nI (cn k (fun i => fsB S.r i i)))), some (.int (nI (1))), some (.int (nI (k))), some (.int (nI (rzN S.r (px S.r k)))), some (.int (nI (sN S.r (px S.r k)))), some (.int (rtQ S.r k)), some (.int (blQ S.r k)), some (.int (bI (fsB S.r k k = true))), none] [] gg := by
                      refine y_iload hC dL_isPicture_235 rfl ?_
                      have J_248 : Y l E X (pI (fun z g' => z = nI 1 ∧ LWP Ec E g' S c r h p)) 248 [some (rf E (0)), some (rf E (100)), some (rf E (101)), some (rf E (102)), some (rf E (103)), some (.int (nI (cn k (fun i => mvs S.r (px S.r i))))), some (.int (ctN (pxD S.r) k)), some (.int (nI (cn k (fun i => fsB S.r i i)))), some (.int (nI (1))), some (.int (nI (k))), some (.int (nI (rzN S.r (px S.r k)))), some (.int (nI (sN S.r (px S.r k)))), some (.int (rtQ S.r k)), some (.int (blQ S.r k)), some (.int (bI (fsB S.r k k = true))), none] [.int (nI (cn (k + 1) (fun i => fsB S.r i i)))] gg := by
                        refine y_istore hC dL_isPicture_248 (Nat.le_of_ble_eq_true rfl) rfl (lo' := [some (rf E (0)), some (rf E (100)), some (rf E (101)), some (rf E (102)), some (rf E (103)), some (.int (nI (cn k (fun i => mvs S.r (px S.r i))))), some (.int (ctN (pxD S.r) k)), some (.int (nI (cn (k + 1) (fun i => fsB S.r i i)))), some (.int (nI (1))), some (.int (nI (k))), some (.int (nI (rzN S.r (px S.r k)))), some (.int (nI (sN S.r (px S.r k)))), some (.int (rtQ S.r k)), some (.int (blQ S.r k)), some (.int (bI (fsB S.r k k = true))), none]) rfl ?_
                        have J_264 : Y l E X (pI (fun z g' => z = nI 1 ∧ LWP Ec E g' S c r h p)) 264 [some (rf E (0)), some (rf E (100)), some (rf E (101)), some (rf E (102)), some (rf E (103)), some (.int (nI (cn k (fun i => mvs S.r (px S.r i))))), some (.int (ctN (pxD S.r) k)), some (.int (nI (cn (k + 1) (fun i => fsB S.r i i)))), some (.int (nI (1))), some (.int (nI (k))), some (.int (nI (rzN S.r (px S.r k)))), some (.int (nI (sN S.r (px S.r k)))), some (.int (rtQ S.r k)), some (.int (blQ S.r k)), some (.int (bI (fsB S.r k k = true))), none] [.int (mxI (ctN (pxD S.r) k) (rtQ S.r k))] gg := by
                          refine y_istore hC dL_isPicture_264 (Nat.le_of_ble_eq_true rfl) rfl (lo' := [some (rf E (0)), some (rf E (100)), some (rf E (101)), some (rf E (102)), some (rf E (103)), some (.int (nI (cn k (fun i => mvs S.r (px S.r i))))), some (.int (mxI (ctN (pxD S.r) k) (rtQ S.r k))), some (.int (nI (cn (k + 1) (fun i => fsB S.r i i)))), some (.int (nI (1))), some (.int (nI (k))), some (.int (nI (rzN S.r (px S.r k)))), some (.int (nI (sN S.r (px S.r k)))), some (.int (rtQ S.r k)), some (.int (blQ S.r k)), some (.int (bI (fsB S.r k k = true))), none]) rfl ?_
                          have J_280 : Y l E X (pI (fun z g' => z = nI 1 ∧ LWP Ec E g' S c r h p)) 280 [some (rf E (0)), some (rf E (100)), some (rf E (101)), some (rf E (102)), some (rf E (103)), some (.int (nI (cn k (fun i => mvs S.r (px S.r i))))), some (.int (mxI (ctN (pxD S.r) k) (rtQ S.r k))), some (.int (nI (cn (k + 1) (fun i => fsB S.r i i)))), some (.int (nI (1))), some (.int (nI (k))), some (.int (nI (rzN S.r (px S.r k)))), some (.int (nI (sN S.r (px S.r k)))), some (.int (rtQ S.r k)), some (.int (blQ S.r k)), some (.int (bI (fsB S.r k k = true))), none] [.int (ctN (pxD S.r) (k + 1))] gg := by
                            refine y_istore hC dL_isPicture_280 (Nat.le_of_ble_eq_true rfl) rfl (lo' := [some (rf E (0)), some (rf E (100)), some (rf E (101)), some (rf E (102)), some (rf E (103)), some (.int (nI (cn k (fun i => mvs S.r (px S.r i))))), some (.int (ctN (pxD S.r) (k + 1))), some (.int (nI (cn (k + 1) (fun i => fsB S.r i i)))), some (.int (nI (1))), some (.int (nI (k))), some (.int (nI (rzN S.r (px S.r k)))), some (.int (nI (sN S.r (px S.r k)))), some (.int (rtQ S.r k)), some (.int (blQ S.r k)), some (.int (bI (fsB S.r k k = true))), none]) rfl ?_
                            have J_317 : Y l E X (pI (fun z g' => z = nI 1 ∧ LWP Ec E g' S c r h p)) 317 [some (rf E (0)), some (rf E (100)), some (rf E (101)), some (rf E (102)), some (rf E (103)), some (.int (nI (cn k (fun i => mvs S.r (px S.r i))))), some (.int (ctN (pxD S.r) (k + 1))), some (.int (nI (cn (k + 1) (fun i => fsB S.r i i)))), some (.int (nI (1))), some (.int (nI (k))), none, some (.int (nI (sN S.r (px S.r k)))), none, none, none, none] [.int (nI (cn (k + 1) (fun i => mvs S.r (px S.r i))))] gg := by
                              refine y_istore hC dL_isPicture_317 (Nat.le_of_ble_eq_true rfl) rfl (lo' := [some (rf E (0)), some (rf E (100)), some (rf E (101)), some (rf E (102)), some (rf E (103)), some (.int (nI (cn (k + 1) (fun i => mvs S.r (px S.r i))))), some (.int (ctN (pxD S.r) (k + 1))), some (.int (nI (cn (k + 1) (fun i => fsB S.r i i)))), some (.int (nI (1))), some (.int (nI (k))), none, some (.int (nI (sN S.r (px S.r k)))), none, none, none, none]) rfl ?_
                              refine y_aload_n hC dL_isPicture_319 (i := 0) rfl rfl ?_
                              refine y_iload hC dL_isPicture_320 rfl ?_
                              refine y_bipush (v := nI 8) hC dL_isPicture_322 (by decide) ?_
                              refine y_idiv_n hC dL_isPicture_324 (by omega) (by omega) (by omega) ?_
                              refine y_iload hC dL_isPicture_325 rfl ?_
                              refine y_bipush (v := nI 8) hC dL_isPicture_327 (by decide) ?_
                              refine y_irem_n hC dL_isPicture_329 (by omega) (by omega) (by omega) ?_
                              refine y_iconst (v := nI 0) hC dL_isPicture_330 (by decide) ?_
                              refine y_callVF hC hL.s mX5_pixel kXL_56 dL_isPicture_331 (b := 0) (As := [.int (nI ((k) / (8))), .int (nI ((k) % (8))), .int (nI (0))]) (rest := []) (CPm hL.cp (fun sh mk wa hcq => c_X5_pixel l Ec gg S B (by omega) ho sh mk wa hcq (nI ((k) / (8))) (nI ((k) % (8))) (0) (by decide))) hL.k0 hL.a0 rfl rfl rfl (Nat.le_of_ble_eq_true rfl) ⟨Nat.le_of_ble_eq_true rfl, Nat.le_of_ble_eq_true rfl⟩ (pkf_i ?_)
                              rintro r_331 g_331 ⟨hr_331, hc_331⟩
                              rw [hr_331]
                              clear hr_331 r_331
                              have hL_331 := hL.call hc_331
                              generalize mrg (eK Ec) g_331 gg = G_331 at hL_331  ⊢
                              refine y_top (y := nI (px S.r k)) ((qPx (by omega) 0).trans rfl) ?_
                              refine y_aload hC dL_isPicture_334 rfl ?_
                              refine y_iload hC dL_isPicture_336 rfl ?_
                              refine y_iald hC dL_isPicture_338 (k := 103) (j := k) (by have := hL_331.k; omega) hL_331.a103 (rfl) (by omega) (by decide) ?_
                              refine y_top (y := nI (px S.r k)) (hpi _ (by omega)) ?_
                              refine y_icmp_ne_n (tgt := 366) hC dL_isPicture_339 (by decide) (by omega) (by omega) (fun c_339 => ?_) (fun c_339 => ?_)
                              · exact absurd rfl c_339
                              · refine y_aload_n hC dL_isPicture_342 (i := 0) rfl rfl ?_
                                refine y_iload hC dL_isPicture_343 rfl ?_
                                refine y_bipush (v := nI 8) hC dL_isPicture_345 (by decide) ?_
                                refine y_idiv_n hC dL_isPicture_347 (by omega) (by omega) (by omega) ?_
                                refine y_iload hC dL_isPicture_348 rfl ?_
                                refine y_bipush (v := nI 8) hC dL_isPicture_350 (by decide) ?_
                                refine y_irem_n hC dL_isPicture_352 (by omega) (by omega) (by omega) ?_
                                refine y_iconst (v := nI 1) hC dL_isPicture_353 (by decide) ?_
                                refine y_callVF hC hL_331.s mX5_pixel kXL_56 dL_isPicture_354 (b := 0) (As := [.int (nI ((k) / (8))), .int (nI ((k) % (8))), .int (nI (1))]) (rest := []) (CPm hL_331.cp (fun sh mk wa hcq => c_X5_pixel l Ec G_331 S B (by omega) ho sh mk wa hcq (nI ((k) / (8))) (nI ((k) % (8))) (1) (by decide))) hL_331.k0 hL_331.a0 rfl rfl rfl (Nat.le_of_ble_eq_true rfl) ⟨Nat.le_of_ble_eq_true rfl, Nat.le_of_ble_eq_true rfl⟩ (pkf_i ?_)
                                rintro r_354 g_354 ⟨hr_354, hc_354⟩
                                rw [hr_354]
                                clear hr_354 r_354
                                have hL_354 := hL_331.call hc_354
                                generalize mrg (eK Ec) g_354 G_331 = G_354 at hL_354  ⊢
                                refine y_top (y := nI (sN S.r (px S.r k))) ((qPx (by omega) 1).trans (sN_e hv hvc hpk)) ?_
                                refine y_iload hC dL_isPicture_357 rfl ?_
                                refine y_icmp_ne_n (tgt := 366) hC dL_isPicture_359 (by decide) (by omega) (by omega) (fun c_359 => ?_) (fun c_359 => ?_)
                                · exact absurd rfl c_359
                                · refine y_iconst (v := nI 1) hC dL_isPicture_362 (by decide) ?_
                                  refine y_goto (tgt := 367) hC dL_isPicture_363 (by decide) ?_
                                  refine y_istore hC dL_isPicture_367 (Nat.le_of_ble_eq_true rfl) rfl (lo' := [some (rf E (0)), some (rf E (100)), some (rf E (101)), some (rf E (102)), some (rf E (103)), some (.int (nI (cn (k + 1) (fun i => mvs S.r (px S.r i))))), some (.int (ctN (pxD S.r) (k + 1))), some (.int (nI (cn (k + 1) (fun i => fsB S.r i i)))), some (.int (nI (1))), some (.int (nI (k))), none, some (.int (nI (sN S.r (px S.r k)))), none, none, none, none]) rfl ?_
                                  refine y_iinc_n hC dL_isPicture_369 (a := k) (k := 1) rfl (by decide) (Nat.le_of_ble_eq_true rfl) rfl (lo' := [some (rf E (0)), some (rf E (100)), some (rf E (101)), some (rf E (102)), some (rf E (103)), some (.int (nI (cn (k + 1) (fun i => mvs S.r (px S.r i))))), some (.int (ctN (pxD S.r) (k + 1))), some (.int (nI (cn (k + 1) (fun i => fsB S.r i i)))), some (.int (nI (1))), some (.int (nI (k + 1))), none, some (.int (nI (sN S.r (px S.r k)))), none, none, none, none]) rfl ?_
                                  refine y_goto (tgt := 73) hC dL_isPicture_372 (by decide) ?_
                                  refine y_fg 11 (lo' := [some (rf E (0)), some (rf E (100)), some (rf E (101)), some (rf E (102)), some (rf E (103)), some (.int (nI (cn (k + 1) (fun i => mvs S.r (px S.r i))))), some (.int (ctN (pxD S.r) (k + 1))), some (.int (nI (cn (k + 1) (fun i => fsB S.r i i)))), some (.int (nI (1))), some (.int (nI (k + 1))), none, none, none, none, none, none]) rfl ?_
                                  exact ih_73 (k + 1) G_354 (by omega) (by omega) hL_354
                            refine y_iload hC dL_isPicture_282 rfl ?_
                            refine y_iload hC dL_isPicture_284 rfl ?_
                            rcases hra : rAt S.r (px S.r k) with _ | i
                            · refine y_top (y := nI (0)) (congrArg nI (rz_n hra)) ?_
                              refine y_if_le_n (tgt := 299) hC dL_isPicture_286 (by decide) (by omega) (fun c_286 => ?_) (fun c_286 => ?_)
                              · refine y_aload_n hC dL_isPicture_299 (i := 3) rfl rfl ?_
                                refine y_aload hC dL_isPicture_300 rfl ?_
                                refine y_iload hC dL_isPicture_302 rfl ?_
                                refine y_iald hC dL_isPicture_304 (k := 103) (j := k) (by have := hL.k; omega) hL.a103 (rfl) (by omega) (by decide) ?_
                                refine y_top (y := nI (px S.r k)) (hpi _ (by omega)) ?_
                                refine y_callS hC mL_glowOf kXL_21 dL_isPicture_305 (As := [rf E (102), .int (nI (px S.r k))]) (rest := [.int (nI (cn k (fun i => mvs S.r (px S.r i))))]) (c_L_glowOf l E gg 102 (by have := hL.k; omega) h hL.a102 S.r B hv hg (px S.r k) (by omega)) rfl rfl rfl (Nat.le_of_ble_eq_true rfl) ⟨Nat.le_of_ble_eq_true rfl, Nat.le_of_ble_eq_true rfl⟩ (pk_i ?_)
                                rintro r_305 g_305 ⟨hr_305, hq_305⟩
                                obtain rfl := hq_305.symm
                                rw [hr_305]
                                clear hr_305 r_305
                                rcases hga : gAt S.r (px S.r k) with _ | j
                                · refine y_top (y := nI (0)) (congrArg nI (gz_n hga)) ?_
                                  refine y_if_le_n (tgt := 315) hC dL_isPicture_308 (by decide) (by omega) (fun c_308 => ?_) (fun c_308 => ?_)
                                  · refine y_iconst (v := nI 0) hC dL_isPicture_315 (by decide) ?_
                                    refine y_iadd_n hC dL_isPicture_316 ?_
                                    refine y_top (y := nI (cn (k + 1) (fun i => mvs S.r (px S.r i)))) (congrArg nI (by rw [cn_s]; first | rw [if_pos (mvs_1 hra c_296)] | rw [if_pos (mvs_2 hga)] | rw [if_neg (mvs_3 hra hga)] | rw [if_neg (mvs_4 hra c_296 hga)])) ?_
                                    refine y_fg 10 (lo' := [some (rf E (0)), some (rf E (100)), some (rf E (101)), some (rf E (102)), some (rf E (103)), some (.int (nI (cn k (fun i => mvs S.r (px S.r i))))), some (.int (ctN (pxD S.r) (k + 1))), some (.int (nI (cn (k + 1) (fun i => fsB S.r i i)))), some (.int (nI (1))), some (.int (nI (k))), none, some (.int (nI (sN S.r (px S.r k)))), some (.int (rtQ S.r k)), some (.int (blQ S.r k)), some (.int (bI (fsB S.r k k = true))), none]) rfl ?_
                                    refine y_fg 12 (lo' := [some (rf E (0)), some (rf E (100)), some (rf E (101)), some (rf E (102)), some (rf E (103)), some (.int (nI (cn k (fun i => mvs S.r (px S.r i))))), some (.int (ctN (pxD S.r) (k + 1))), some (.int (nI (cn (k + 1) (fun i => fsB S.r i i)))), some (.int (nI (1))), some (.int (nI (k))), none, some (.int (nI (sN S.r (px S.r k)))), none, some (.int (blQ S.r k)), some (.int (bI (fsB S.r k k = true))), none]) rfl ?_
                                    refine y_fg 13 (lo' := [some (rf E (0)), some (rf E (100)), some (rf E (101)), some (rf E (102)), some (rf E (103)), some (.int (nI (cn k (fun i => mvs S.r (px S.r i))))), some (.int (ctN (pxD S.r) (k + 1))), some (.int (nI (cn (k + 1) (fun i => fsB S.r i i)))), some (.int (nI (1))), some (.int (nI (k))), none, some (.int (nI (sN S.r (px S.r k)))), none, none, some (.int (bI (fsB S.r k k = true))), none]) rfl ?_
                                    refine y_fg 14 (lo' := [some (rf E (0)), some (rf E (100)), some (rf E (101)), some (rf E (102)), some (rf E (103)), some (.int (nI (cn k (fun i => mvs S.r (px S.r i))))), some (.int (ctN (pxD S.r) (k + 1))), some (.int (nI (cn (k + 1) (fun i => fsB S.r i i)))), some (.int (nI (1))), some (.int (nI (k))), none, some (.int (nI (sN S.r (px S.r k)))), none, none, none, none]) rfl ?_
                                    exact J_317
                                  · exfalso
                                    omega
                                · refine y_top (y := nI (4 + 4 * j)) (congrArg nI (gz_s hga)) ?_
                                  have hj4 := (gAt_in hga).1
                                  refine y_if_le_n (tgt := 315) hC dL_isPicture_308 (by decide) (by omega) (fun c_308 => ?_) (fun c_308 => ?_)
                                  · exfalso
                                    omega
                                  · refine y_iconst (v := nI 1) hC dL_isPicture_311 (by decide) ?_
                                    refine y_goto (tgt := 316) hC dL_isPicture_312 (by decide) ?_
                                    refine y_iadd_n hC dL_isPicture_316 ?_
                                    refine y_top (y := nI (cn (k + 1) (fun i => mvs S.r (px S.r i)))) (congrArg nI (by rw [cn_s]; first | rw [if_pos (mvs_1 hra c_296)] | rw [if_pos (mvs_2 hga)] | rw [if_neg (mvs_3 hra hga)] | rw [if_neg (mvs_4 hra c_296 hga)])) ?_
                                    refine y_fg 10 (lo' := [some (rf E (0)), some (rf E (100)), some (rf E (101)), some (rf E (102)), some (rf E (103)), some (.int (nI (cn k (fun i => mvs S.r (px S.r i))))), some (.int (ctN (pxD S.r) (k + 1))), some (.int (nI (cn (k + 1) (fun i => fsB S.r i i)))), some (.int (nI (1))), some (.int (nI (k))), none, some (.int (nI (sN S.r (px S.r k)))), some (.int (rtQ S.r k)), some (.int (blQ S.r k)), some (.int (bI (fsB S.r k k = true))), none]) rfl ?_
                                    refine y_fg 12 (lo' := [some (rf E (0)), some (rf E (100)), some (rf E (101)), some (rf E (102)), some (rf E (103)), some (.int (nI (cn k (fun i => mvs S.r (px S.r i))))), some (.int (ctN (pxD S.r) (k + 1))), some (.int (nI (cn (k + 1) (fun i => fsB S.r i i)))), some (.int (nI (1))), some (.int (nI (k))), none, some (.int (nI (sN S.r (px S.r k)))), none, some (.int (blQ S.r k)), some (.int (bI (fsB S.r k k = true))), none]) rfl ?_
                                    refine y_fg 13 (lo' := [some (rf E (0)), some (rf E (100)), some (rf E (101)), some (rf E (102)), some (rf E (103)), some (.int (nI (cn k (fun i => mvs S.r (px S.r i))))), some (.int (ctN (pxD S.r) (k + 1))), some (.int (nI (cn (k + 1) (fun i => fsB S.r i i)))), some (.int (nI (1))), some (.int (nI (k))), none, some (.int (nI (sN S.r (px S.r k)))), none, none, some (.int (bI (fsB S.r k k = true))), none]) rfl ?_
                                    refine y_fg 14 (lo' := [some (rf E (0)), some (rf E (100)), some (rf E (101)), some (rf E (102)), some (rf E (103)), some (.int (nI (cn k (fun i => mvs S.r (px S.r i))))), some (.int (ctN (pxD S.r) (k + 1))), some (.int (nI (cn (k + 1) (fun i => fsB S.r i i)))), some (.int (nI (1))), some (.int (nI (k))), none, some (.int (nI (sN S.r (px S.r k)))), none, none, none, none]) rfl ?_
                                    exact J_317
                              · exfalso
                                omega
                            · refine y_top (y := nI (8 + 8 * i)) (congrArg nI (rz_s hra)) ?_
                              refine y_lo (lo' := [some (rf E (0)), some (rf E (100)), some (rf E (101)), some (rf E (102)), some (rf E (103)), some (.int (nI (cn k (fun i => mvs S.r (px S.r i))))), some (.int (ctN (pxD S.r) (k + 1))), some (.int (nI (cn (k + 1) (fun i => fsB S.r i i)))), some (.int (nI (1))), some (.int (nI (k))), some (.int (nI (8 + 8 * i))), some (.int (nI (sN S.r (px S.r k)))), some (.int (rtQ S.r k)), some (.int (blQ S.r k)), some (.int (bI (fsB S.r k k = true))), none]) (by rw [rz_s hra]) ?_
                              obtain ⟨hi, hf1, hf2⟩ := rAt_in hra
                              obtain ⟨q1, q2, q3, q4, q5, q6, q7, q8, q9⟩ := hv.rg hi
                              refine y_if_le_n (tgt := 299) hC dL_isPicture_286 (by decide) (by omega) (fun c_286 => ?_) (fun c_286 => ?_)
                              · exfalso
                                omega
                              · refine y_aload_n hC dL_isPicture_289 (i := 2) rfl rfl ?_
                                refine y_iload hC dL_isPicture_290 rfl ?_
                                refine y_iconst (v := nI 4) hC dL_isPicture_292 (by decide) ?_
                                refine y_iadd_n hC dL_isPicture_293 ?_
                                refine y_iald hC dL_isPicture_294 (k := 101) (j := (8 + 8 * i) + 4) (by have := hL.k; omega) hL.a101 (rfl) (by omega) (by decide) ?_
                                refine y_top (y := nI (rg S.r i 4)) (hq.f4 hi) ?_
                                refine y_iconst (v := nI 1) hC dL_isPicture_295 (by decide) ?_
                                refine y_icmp_eq_n (tgt := 311) hC dL_isPicture_296 (by decide) (by omega) (by omega) (fun c_296 => ?_) (fun c_296 => ?_)
                                · refine y_iconst (v := nI 1) hC dL_isPicture_311 (by decide) ?_
                                  refine y_goto (tgt := 316) hC dL_isPicture_312 (by decide) ?_
                                  refine y_iadd_n hC dL_isPicture_316 ?_
                                  refine y_top (y := nI (cn (k + 1) (fun i => mvs S.r (px S.r i)))) (congrArg nI (by rw [cn_s]; first | rw [if_pos (mvs_1 hra c_296)] | rw [if_pos (mvs_2 hga)] | rw [if_neg (mvs_3 hra hga)] | rw [if_neg (mvs_4 hra c_296 hga)])) ?_
                                  refine y_fg 10 (lo' := [some (rf E (0)), some (rf E (100)), some (rf E (101)), some (rf E (102)), some (rf E (103)), some (.int (nI (cn k (fun i => mvs S.r (px S.r i))))), some (.int (ctN (pxD S.r) (k + 1))), some (.int (nI (cn (k + 1) (fun i => fsB S.r i i)))), some (.int (nI (1))), some (.int (nI (k))), none, some (.int (nI (sN S.r (px S.r k)))), some (.int (rtQ S.r k)), some (.int (blQ S.r k)), some (.int (bI (fsB S.r k k = true))), none]) rfl ?_
                                  refine y_fg 12 (lo' := [some (rf E (0)), some (rf E (100)), some (rf E (101)), some (rf E (102)), some (rf E (103)), some (.int (nI (cn k (fun i => mvs S.r (px S.r i))))), some (.int (ctN (pxD S.r) (k + 1))), some (.int (nI (cn (k + 1) (fun i => fsB S.r i i)))), some (.int (nI (1))), some (.int (nI (k))), none, some (.int (nI (sN S.r (px S.r k)))), none, some (.int (blQ S.r k)), some (.int (bI (fsB S.r k k = true))), none]) rfl ?_
                                  refine y_fg 13 (lo' := [some (rf E (0)), some (rf E (100)), some (rf E (101)), some (rf E (102)), some (rf E (103)), some (.int (nI (cn k (fun i => mvs S.r (px S.r i))))), some (.int (ctN (pxD S.r) (k + 1))), some (.int (nI (cn (k + 1) (fun i => fsB S.r i i)))), some (.int (nI (1))), some (.int (nI (k))), none, some (.int (nI (sN S.r (px S.r k)))), none, none, some (.int (bI (fsB S.r k k = true))), none]) rfl ?_
                                  refine y_fg 14 (lo' := [some (rf E (0)), some (rf E (100)), some (rf E (101)), some (rf E (102)), some (rf E (103)), some (.int (nI (cn k (fun i => mvs S.r (px S.r i))))), some (.int (ctN (pxD S.r) (k + 1))), some (.int (nI (cn (k + 1) (fun i => fsB S.r i i)))), some (.int (nI (1))), some (.int (nI (k))), none, some (.int (nI (sN S.r (px S.r k)))), none, none, none, none]) rfl ?_
                                  exact J_317
                                · refine y_aload_n hC dL_isPicture_299 (i := 3) rfl rfl ?_
                                  refine y_aload hC dL_isPicture_300 rfl ?_
                                  refine y_iload hC dL_isPicture_302 rfl ?_
                                  refine y_iald hC dL_isPicture_304 (k := 103) (j := k) (by have := hL.k; omega) hL.a103 (rfl) (by omega) (by decide) ?_
                                  refine y_top (y := nI (px S.r k)) (hpi _ (by omega)) ?_
                                  refine y_callS hC mL_glowOf kXL_21 dL_isPicture_305 (As := [rf E (102), .int (nI (px S.r k))]) (rest := [.int (nI (cn k (fun i => mvs S.r (px S.r i))))]) (c_L_glowOf l E gg 102 (by have := hL.k; omega) h hL.a102 S.r B hv hg (px S.r k) (by omega)) rfl rfl rfl (Nat.le_of_ble_eq_true rfl) ⟨Nat.le_of_ble_eq_true rfl, Nat.le_of_ble_eq_true rfl⟩ (pk_i ?_)
                                  rintro r_305 g_305 ⟨hr_305, hq_305⟩
                                  obtain rfl := hq_305.symm
                                  rw [hr_305]
                                  clear hr_305 r_305
                                  rcases hga : gAt S.r (px S.r k) with _ | j
                                  · refine y_top (y := nI (0)) (congrArg nI (gz_n hga)) ?_
                                    refine y_if_le_n (tgt := 315) hC dL_isPicture_308 (by decide) (by omega) (fun c_308 => ?_) (fun c_308 => ?_)
                                    · refine y_iconst (v := nI 0) hC dL_isPicture_315 (by decide) ?_
                                      refine y_iadd_n hC dL_isPicture_316 ?_
                                      refine y_top (y := nI (cn (k + 1) (fun i => mvs S.r (px S.r i)))) (congrArg nI (by rw [cn_s]; first | rw [if_pos (mvs_1 hra c_296)] | rw [if_pos (mvs_2 hga)] | rw [if_neg (mvs_3 hra hga)] | rw [if_neg (mvs_4 hra c_296 hga)])) ?_
                                      refine y_fg 10 (lo' := [some (rf E (0)), some (rf E (100)), some (rf E (101)), some (rf E (102)), some (rf E (103)), some (.int (nI (cn k (fun i => mvs S.r (px S.r i))))), some (.int (ctN (pxD S.r) (k + 1))), some (.int (nI (cn (k + 1) (fun i => fsB S.r i i)))), some (.int (nI (1))), some (.int (nI (k))), none, some (.int (nI (sN S.r (px S.r k)))), some (.int (rtQ S.r k)), some (.int (blQ S.r k)), some (.int (bI (fsB S.r k k = true))), none]) rfl ?_
                                      refine y_fg 12 (lo' := [some (rf E (0)), some (rf E (100)), some (rf E (101)), some (rf E (102)), some (rf E (103)), some (.int (nI (cn k (fun i => mvs S.r (px S.r i))))), some (.int (ctN (pxD S.r) (k + 1))), some (.int (nI (cn (k + 1) (fun i => fsB S.r i i)))), some (.int (nI (1))), some (.int (nI (k))), none, some (.int (nI (sN S.r (px S.r k)))), none, some (.int (blQ S.r k)), some (.int (bI (fsB S.r k k = true))), none]) rfl ?_
                                      refine y_fg 13 (lo' := [some (rf E (0)), some (rf E (100)), some (rf E (101)), some (rf E (102)), some (rf E (103)), some (.int (nI (cn k (fun i => mvs S.r (px S.r i))))), some (.int (ctN (pxD S.r) (k + 1))), some (.int (nI (cn (k + 1) (fun i => fsB S.r i i)))), some (.int (nI (1))), some (.int (nI (k))), none, some (.int (nI (sN S.r (px S.r k)))), none, none, some (.int (bI (fsB S.r k k = true))), none]) rfl ?_
                                      refine y_fg 14 (lo' := [some (rf E (0)), some (rf E (100)), some (rf E (101)), some (rf E (102)), some (rf E (103)), some (.int (nI (cn k (fun i => mvs S.r (px S.r i))))), some (.int (ctN (pxD S.r) (k + 1))), some (.int (nI (cn (k + 1) (fun i => fsB S.r i i)))), some (.int (nI (1))), some (.int (nI (k))), none, some (.int (nI (sN S.r (px S.r k)))), none, none, none, none]) rfl ?_
                                      exact J_317
                                    · exfalso
                                      omega
                                  · refine y_top (y := nI (4 + 4 * j)) (congrArg nI (gz_s hga)) ?_
                                    have hj4 := (gAt_in hga).1
                                    refine y_if_le_n (tgt := 315) hC dL_isPicture_308 (by decide) (by omega) (fun c_308 => ?_) (fun c_308 => ?_)
                                    · exfalso
                                      omega
                                    · refine y_iconst (v := nI 1) hC dL_isPicture_311 (by decide) ?_
                                      refine y_goto (tgt := 316) hC dL_isPicture_312 (by decide) ?_
                                      refine y_iadd_n hC dL_isPicture_316 ?_
                                      refine y_top (y := nI (cn (k + 1) (fun i => mvs S.r (px S.r i)))) (congrArg nI (by rw [cn_s]; first | rw [if_pos (mvs_1 hra c_296)] | rw [if_pos (mvs_2 hga)] | rw [if_neg (mvs_3 hra hga)] | rw [if_neg (mvs_4 hra c_296 hga)])) ?_
                                      refine y_fg 10 (lo' := [some (rf E (0)), some (rf E (100)), some (rf E (101)), some (rf E (102)), some (rf E (103)), some (.int (nI (cn k (fun i => mvs S.r (px S.r i))))), some (.int (ctN (pxD S.r) (k + 1))), some (.int (nI (cn (k + 1) (fun i => fsB S.r i i)))), some (.int (nI (1))), some (.int (nI (k))), none, some (.int (nI (sN S.r (px S.r k)))), some (.int (rtQ S.r k)), some (.int (blQ S.r k)), some (.int (bI (fsB S.r k k = true))), none]) rfl ?_
                                      refine y_fg 12 (lo' := [some (rf E (0)), some (rf E (100)), some (rf E (101)), some (rf E (102)), some (rf E (103)), some (.int (nI (cn k (fun i => mvs S.r (px S.r i))))), some (.int (ctN (pxD S.r) (k + 1))), some (.int (nI (cn (k + 1) (fun i => fsB S.r i i)))), some (.int (nI (1))), some (.int (nI (k))), none, some (.int (nI (sN S.r (px S.r k)))), none, some (.int (blQ S.r k)), some (.int (bI (fsB S.r k k = true))), none]) rfl ?_
                                      refine y_fg 13 (lo' := [some (rf E (0)), some (rf E (100)), some (rf E (101)), some (rf E (102)), some (rf E (103)), some (.int (nI (cn k (fun i => mvs S.r (px S.r i))))), some (.int (ctN (pxD S.r) (k + 1))), some (.int (nI (cn (k + 1) (fun i => fsB S.r i i)))), some (.int (nI (1))), some (.int (nI (k))), none, some (.int (nI (sN S.r (px S.r k)))), none, none, some (.int (bI (fsB S.r k k = true))), none]) rfl ?_
                                      refine y_fg 14 (lo' := [some (rf E (0)), some (rf E (100)), some (rf E (101)), some (rf E (102)), some (rf E (103)), some (.int (nI (cn k (fun i => mvs S.r (px S.r i))))), some (.int (ctN (pxD S.r) (k + 1))), some (.int (nI (cn (k + 1) (fun i => fsB S.r i i)))), some (.int (nI (1))), some (.int (nI (k))), none, some (.int (nI (sN S.r (px S.r k)))), none, none, none, none]) rfl ?_
                                      exact J_317
                          refine y_iload hC dL_isPicture_266 rfl ?_
                          refine y_iload hC dL_isPicture_268 rfl ?_
                          refine y_icmp_le (tgt := 278) hC dL_isPicture_270 (by decide) (fun c_270 => ?_) (fun c_270 => ?_)
                          · refine y_iload hC dL_isPicture_278 rfl ?_
                            refine y_top (y := (ctN (pxD S.r) (k + 1))) (by rw [← ctN_r]; first | exact mxI_a c_270 | exact mxI_b c_270) ?_
                            exact J_280
                          · refine y_iload hC dL_isPicture_273 rfl ?_
                            refine y_goto (tgt := 280) hC dL_isPicture_275 (by decide) ?_
                            refine y_top (y := (ctN (pxD S.r) (k + 1))) (by rw [← ctN_r]; first | exact mxI_a c_270 | exact mxI_b c_270) ?_
                            exact J_280
                        refine y_iload hC dL_isPicture_250 rfl ?_
                        refine y_iload hC dL_isPicture_252 rfl ?_
                        refine y_icmp_le (tgt := 262) hC dL_isPicture_254 (by decide) (fun c_254 => ?_) (fun c_254 => ?_)
                        · refine y_iload hC dL_isPicture_262 rfl ?_
                          refine y_top (y := (mxI (ctN (pxD S.r) k) (rtQ S.r k))) (by first | exact mxI_a c_254 | exact mxI_b c_254) ?_
                          exact J_264
                        · refine y_iload hC dL_isPicture_257 rfl ?_
                          refine y_goto (tgt := 264) hC dL_isPicture_259 (by decide) ?_
                          refine y_top (y := (mxI (ctN (pxD S.r) k) (rtQ S.r k))) (by first | exact mxI_a c_254 | exact mxI_b c_254) ?_
                          exact J_264
                      refine y_iload hC dL_isPicture_237 rfl ?_
                      refine y_if_eq_b (tgt := 246) hC dL_isPicture_239 (by decide) (fun c_239 => ?_) (fun c_239 => ?_)
                      · refine y_iconst (v := nI 0) hC dL_isPicture_246 (by decide) ?_
                        refine y_iadd_n hC dL_isPicture_247 ?_
                        refine y_top (y := nI (cn (k + 1) (fun i => fsB S.r i i))) (congrArg nI (by rw [cn_s]; first | rw [if_pos c_239] | rw [if_neg c_239])) ?_
                        exact J_248
                      · refine y_iconst (v := nI 1) hC dL_isPicture_242 (by decide) ?_
                        refine y_goto (tgt := 247) hC dL_isPicture_243 (by decide) ?_
                        refine y_iadd_n hC dL_isPicture_247 ?_
                        refine y_top (y := nI (cn (k + 1) (fun i => fsB S.r i i))) (congrArg nI (by rw [cn_s]; first | rw [if_pos c_239] | rw [if_neg c_239])) ?_
                        exact J_248
                    refine y_iconst (v := nI 0) hC dL_isPicture_178 (by decide) ?_
                    refine y_istore hC dL_isPicture_179 (Nat.le_of_ble_eq_true rfl) rfl (lo' := [some (rf E (0)), some (rf E (100)), some (rf E (101)), some (rf E (102)), some (rf E (103)), some (.int (nI (cn k (fun i => mvs S.r (px S.r i))))), some (.int (ctN (pxD S.r) k)), some (.int (nI (cn k (fun i => fsB S.r i i)))), some (.int (nI (1))), some (.int (nI (k))), some (.int (nI (rzN S.r (px S.r k)))), some (.int (nI (sN S.r (px S.r k)))), some (.int (rtQ S.r k)), some (.int (blQ S.r k)), some (.int (bI (fsB S.r k 0 = true))), some (.int (nI (0)))]) rfl ?_
                    have L_181 : ∀ (m : Nat) (j : Nat), (hmj : k - j < m) → (hj : j ≤ k) → Y l E X (pI (fun z g' => z = nI 1 ∧ LWP Ec E g' S c r h p)) 181 [some (rf E (0)), some (rf E (100)), some (rf E (101)), some (rf E (102)), some (rf E (103)), some (.int (nI (cn k (fun i => mvs S.r (px S.r i))))), some (.int (ctN (pxD S.r) k)), some (.int (nI (cn k (fun i => fsB S.r i i)))), some (.int (nI (1))), some (.int (nI (k))), some (.int (nI (rzN S.r (px S.r k)))), some (.int (nI (sN S.r (px S.r k)))), some (.int (rtQ S.r k)), some (.int (blQ S.r k)), some (.int (bI (fsB S.r k j = true))), some (.int (nI (j)))] [] gg := by
                      intro m
                      induction m with
                      | zero => intro j hmj hj; exact absurd hmj (Nat.not_lt_zero _)
                      | succ m ih_181 =>
                        intro j hmj hj
                        refine y_iload hC dL_isPicture_181 rfl ?_
                        refine y_iload hC dL_isPicture_183 rfl ?_
                        refine y_icmp_ge_n (tgt := 235) hC dL_isPicture_185 (by decide) (by omega) (by omega) (fun c_185 => ?_) (fun c_185 => ?_)
                        · refine y_lo (lo' := [some (rf E (0)), some (rf E (100)), some (rf E (101)), some (rf E (102)), some (rf E (103)), some (.int (nI (cn k (fun i => mvs S.r (px S.r i))))), some (.int (ctN (pxD S.r) k)), some (.int (nI (cn k (fun i => fsB S.r i i)))), some (.int (nI (1))), some (.int (nI (k))), some (.int (nI (rzN S.r (px S.r k)))), some (.int (nI (sN S.r (px S.r k)))), some (.int (rtQ S.r k)), some (.int (blQ S.r k)), some (.int (bI (fsB S.r k k = true))), some (.int (nI (j)))]) (by first | rw [show j = k by omega] | rw [fsB_m (by omega) c_190]) ?_
                          refine y_fg 15 (lo' := [some (rf E (0)), some (rf E (100)), some (rf E (101)), some (rf E (102)), some (rf E (103)), some (.int (nI (cn k (fun i => mvs S.r (px S.r i))))), some (.int (ctN (pxD S.r) k)), some (.int (nI (cn k (fun i => fsB S.r i i)))), some (.int (nI (1))), some (.int (nI (k))), some (.int (nI (rzN S.r (px S.r k)))), some (.int (nI (sN S.r (px S.r k)))), some (.int (rtQ S.r k)), some (.int (blQ S.r k)), some (.int (bI (fsB S.r k k = true))), none]) rfl ?_
                          exact J_235
                        · have hpj := (hv.2.2.2.2.2.2.1 j (by omega)).2
                          have hslj := sN_l hv hvc hpj
                          refine y_iload hC dL_isPicture_188 rfl ?_
                          refine y_if_eq_b (tgt := 235) hC dL_isPicture_190 (by decide) (fun c_190 => ?_) (fun c_190 => ?_)
                          · refine y_lo (lo' := [some (rf E (0)), some (rf E (100)), some (rf E (101)), some (rf E (102)), some (rf E (103)), some (.int (nI (cn k (fun i => mvs S.r (px S.r i))))), some (.int (ctN (pxD S.r) k)), some (.int (nI (cn k (fun i => fsB S.r i i)))), some (.int (nI (1))), some (.int (nI (k))), some (.int (nI (rzN S.r (px S.r k)))), some (.int (nI (sN S.r (px S.r k)))), some (.int (rtQ S.r k)), some (.int (blQ S.r k)), some (.int (bI (fsB S.r k k = true))), some (.int (nI (j)))]) (by first | rw [show j = k by omega] | rw [fsB_m (by omega) c_190]) ?_
                            refine y_fg 15 (lo' := [some (rf E (0)), some (rf E (100)), some (rf E (101)), some (rf E (102)), some (rf E (103)), some (.int (nI (cn k (fun i => mvs S.r (px S.r i))))), some (.int (ctN (pxD S.r) k)), some (.int (nI (cn k (fun i => fsB S.r i i)))), some (.int (nI (1))), some (.int (nI (k))), some (.int (nI (rzN S.r (px S.r k)))), some (.int (nI (sN S.r (px S.r k)))), some (.int (rtQ S.r k)), some (.int (blQ S.r k)), some (.int (bI (fsB S.r k k = true))), none]) rfl ?_
                            exact J_235
                          · refine y_aload hC dL_isPicture_193 rfl ?_
                            refine y_iload hC dL_isPicture_195 rfl ?_
                            refine y_iald hC dL_isPicture_197 (k := 103) (j := j) (by have := hL.k; omega) hL.a103 (rfl) (by omega) (by decide) ?_
                            refine y_top (y := nI (px S.r j)) (hpi _ (by omega)) ?_
                            refine y_aload hC dL_isPicture_198 rfl ?_
                            refine y_iload hC dL_isPicture_200 rfl ?_
                            refine y_iald hC dL_isPicture_202 (k := 103) (j := k) (by have := hL.k; omega) hL.a103 (rfl) (by omega) (by decide) ?_
                            refine y_top (y := nI (px S.r k)) (hpi _ (by omega)) ?_
                            refine y_icmp_eq_n (tgt := 226) hC dL_isPicture_203 (by decide) (by omega) (by omega) (fun c_203 => ?_) (fun c_203 => ?_)
                            · refine y_iconst (v := nI 0) hC dL_isPicture_226 (by decide) ?_
                              refine y_top (y := bI (fsB S.r k (j + 1) = true)) (by first | exact nI_bt (fsB_s.mpr ⟨c_190, c_219⟩) | exact nI_bf (fun q => (fsB_s.mp q).2 (by rw [c_203])) | exact nI_bf (fun q => (fsB_s.mp q).2 c_219)) ?_
                              refine y_istore hC dL_isPicture_227 (Nat.le_of_ble_eq_true rfl) rfl (lo' := [some (rf E (0)), some (rf E (100)), some (rf E (101)), some (rf E (102)), some (rf E (103)), some (.int (nI (cn k (fun i => mvs S.r (px S.r i))))), some (.int (ctN (pxD S.r) k)), some (.int (nI (cn k (fun i => fsB S.r i i)))), some (.int (nI (1))), some (.int (nI (k))), some (.int (nI (rzN S.r (px S.r k)))), some (.int (nI (sN S.r (px S.r k)))), some (.int (rtQ S.r k)), some (.int (blQ S.r k)), some (.int (bI (fsB S.r k (j + 1) = true))), some (.int (nI (j)))]) rfl ?_
                              refine y_iinc_n hC dL_isPicture_229 (a := j) (k := 1) rfl (by decide) (Nat.le_of_ble_eq_true rfl) rfl (lo' := [some (rf E (0)), some (rf E (100)), some (rf E (101)), some (rf E (102)), some (rf E (103)), some (.int (nI (cn k (fun i => mvs S.r (px S.r i))))), some (.int (ctN (pxD S.r) k)), some (.int (nI (cn k (fun i => fsB S.r i i)))), some (.int (nI (1))), some (.int (nI (k))), some (.int (nI (rzN S.r (px S.r k)))), some (.int (nI (sN S.r (px S.r k)))), some (.int (rtQ S.r k)), some (.int (blQ S.r k)), some (.int (bI (fsB S.r k (j + 1) = true))), some (.int (nI (j + 1)))]) rfl ?_
                              refine y_goto (tgt := 181) hC dL_isPicture_232 (by decide) ?_
                              exact ih_181 (j + 1) (by omega) (by omega)
                            · refine y_aload_n hC dL_isPicture_206 (i := 1) rfl rfl ?_
                              refine y_aload_n hC dL_isPicture_207 (i := 2) rfl rfl ?_
                              refine y_aload_n hC dL_isPicture_208 (i := 3) rfl rfl ?_
                              refine y_aload hC dL_isPicture_209 rfl ?_
                              refine y_iload hC dL_isPicture_211 rfl ?_
                              refine y_iald hC dL_isPicture_213 (k := 103) (j := j) (by have := hL.k; omega) hL.a103 (rfl) (by omega) (by decide) ?_
                              refine y_top (y := nI (px S.r j)) (hpi _ (by omega)) ?_
                              refine y_callS hC mL_shown kXL_50 dL_isPicture_214 (As := [rf E (100), rf E (101), rf E (102), .int (nI (px S.r j))]) (rest := []) (c_L_shown l E gg 100 101 102 (by have := hL.k; omega) (by have := hL.k; omega) (by have := hL.k; omega) c r h hL.a100 hL.a101 hL.a102 S.r B M hv (by omega) (by omega) a K hq hg hcl hvc (px S.r j) (by omega)) rfl rfl rfl (Nat.le_of_ble_eq_true rfl) ⟨Nat.le_of_ble_eq_true rfl, Nat.le_of_ble_eq_true rfl⟩ (pk_i ?_)
                              rintro r_214 g_214 ⟨hr_214, hq_214⟩
                              obtain rfl := hq_214.symm
                              rw [hr_214]
                              clear hr_214 r_214
                              refine y_top (y := nI (sN S.r (px S.r j))) (sN_e hv hvc (show px S.r j < 32 by omega)) ?_
                              refine y_iload hC dL_isPicture_217 rfl ?_
                              refine y_icmp_eq_n (tgt := 226) hC dL_isPicture_219 (by decide) (by omega) (by omega) (fun c_219 => ?_) (fun c_219 => ?_)
                              · refine y_iconst (v := nI 0) hC dL_isPicture_226 (by decide) ?_
                                refine y_top (y := bI (fsB S.r k (j + 1) = true)) (by first | exact nI_bt (fsB_s.mpr ⟨c_190, c_219⟩) | exact nI_bf (fun q => (fsB_s.mp q).2 (by rw [c_203])) | exact nI_bf (fun q => (fsB_s.mp q).2 c_219)) ?_
                                refine y_istore hC dL_isPicture_227 (Nat.le_of_ble_eq_true rfl) rfl (lo' := [some (rf E (0)), some (rf E (100)), some (rf E (101)), some (rf E (102)), some (rf E (103)), some (.int (nI (cn k (fun i => mvs S.r (px S.r i))))), some (.int (ctN (pxD S.r) k)), some (.int (nI (cn k (fun i => fsB S.r i i)))), some (.int (nI (1))), some (.int (nI (k))), some (.int (nI (rzN S.r (px S.r k)))), some (.int (nI (sN S.r (px S.r k)))), some (.int (rtQ S.r k)), some (.int (blQ S.r k)), some (.int (bI (fsB S.r k (j + 1) = true))), some (.int (nI (j)))]) rfl ?_
                                refine y_iinc_n hC dL_isPicture_229 (a := j) (k := 1) rfl (by decide) (Nat.le_of_ble_eq_true rfl) rfl (lo' := [some (rf E (0)), some (rf E (100)), some (rf E (101)), some (rf E (102)), some (rf E (103)), some (.int (nI (cn k (fun i => mvs S.r (px S.r i))))), some (.int (ctN (pxD S.r) k)), some (.int (nI (cn k (fun i => fsB S.r i i)))), some (.int (nI (1))), some (.int (nI (k))), some (.int (nI (rzN S.r (px S.r k)))), some (.int (nI (sN S.r (px S.r k)))), some (.int (rtQ S.r k)), some (.int (blQ S.r k)), some (.int (bI (fsB S.r k (j + 1) = true))), some (.int (nI (j + 1)))]) rfl ?_
                                refine y_goto (tgt := 181) hC dL_isPicture_232 (by decide) ?_
                                exact ih_181 (j + 1) (by omega) (by omega)
                              · refine y_iconst (v := nI 1) hC dL_isPicture_222 (by decide) ?_
                                refine y_goto (tgt := 227) hC dL_isPicture_223 (by decide) ?_
                                refine y_top (y := bI (fsB S.r k (j + 1) = true)) (by first | exact nI_bt (fsB_s.mpr ⟨c_190, c_219⟩) | exact nI_bf (fun q => (fsB_s.mp q).2 (by rw [c_203])) | exact nI_bf (fun q => (fsB_s.mp q).2 c_219)) ?_
                                refine y_istore hC dL_isPicture_227 (Nat.le_of_ble_eq_true rfl) rfl (lo' := [some (rf E (0)), some (rf E (100)), some (rf E (101)), some (rf E (102)), some (rf E (103)), some (.int (nI (cn k (fun i => mvs S.r (px S.r i))))), some (.int (ctN (pxD S.r) k)), some (.int (nI (cn k (fun i => fsB S.r i i)))), some (.int (nI (1))), some (.int (nI (k))), some (.int (nI (rzN S.r (px S.r k)))), some (.int (nI (sN S.r (px S.r k)))), some (.int (rtQ S.r k)), some (.int (blQ S.r k)), some (.int (bI (fsB S.r k (j + 1) = true))), some (.int (nI (j)))]) rfl ?_
                                refine y_iinc_n hC dL_isPicture_229 (a := j) (k := 1) rfl (by decide) (Nat.le_of_ble_eq_true rfl) rfl (lo' := [some (rf E (0)), some (rf E (100)), some (rf E (101)), some (rf E (102)), some (rf E (103)), some (.int (nI (cn k (fun i => mvs S.r (px S.r i))))), some (.int (ctN (pxD S.r) k)), some (.int (nI (cn k (fun i => fsB S.r i i)))), some (.int (nI (1))), some (.int (nI (k))), some (.int (nI (rzN S.r (px S.r k)))), some (.int (nI (sN S.r (px S.r k)))), some (.int (rtQ S.r k)), some (.int (blQ S.r k)), some (.int (bI (fsB S.r k (j + 1) = true))), some (.int (nI (j + 1)))]) rfl ?_
                                refine y_goto (tgt := 181) hC dL_isPicture_232 (by decide) ?_
                                exact ih_181 (j + 1) (by omega) (by omega)
                    exact L_181 (k + 1) 0 (by omega) (by omega)
                  refine y_iload hC dL_isPicture_143 rfl ?_
                  refine y_bipush (v := nI 55) hC dL_isPicture_145 (by decide) ?_
                  refine y_icmp_le_n (tgt := 154) hC dL_isPicture_147 (by decide) (by omega) (by omega) (fun c_147 => ?_) (fun c_147 => ?_)
                  · refine y_iload hC dL_isPicture_154 rfl ?_
                    refine y_aload_n hC dL_isPicture_156 (i := 1) rfl rfl ?_
                    refine y_aload_n hC dL_isPicture_157 (i := 2) rfl rfl ?_
                    refine y_aload_n hC dL_isPicture_158 (i := 3) rfl rfl ?_
                    refine y_aload hC dL_isPicture_159 rfl ?_
                    refine y_iload hC dL_isPicture_161 rfl ?_
                    refine y_bipush (v := nI 8) hC dL_isPicture_163 (by decide) ?_
                    refine y_iadd_n hC dL_isPicture_165 ?_
                    refine y_iald hC dL_isPicture_166 (k := 103) (j := k + 8) (by have := hL.k; omega) hL.a103 (rfl) (by omega) (by decide) ?_
                    refine y_top (y := nI (px S.r (k + 8))) (hpi _ (by omega)) ?_
                    refine y_callS hC mL_shown kXL_50 dL_isPicture_167 (As := [rf E (100), rf E (101), rf E (102), .int (nI (px S.r (k + 8)))]) (rest := [.int (nI (sN S.r (px S.r k)))]) (c_L_shown l E gg 100 101 102 (by have := hL.k; omega) (by have := hL.k; omega) (by have := hL.k; omega) c r h hL.a100 hL.a101 hL.a102 S.r B M hv (by omega) (by omega) a K hq hg hcl hvc (px S.r (k + 8)) (by omega)) rfl rfl rfl (Nat.le_of_ble_eq_true rfl) ⟨Nat.le_of_ble_eq_true rfl, Nat.le_of_ble_eq_true rfl⟩ (pk_i ?_)
                    rintro r_167 g_167 ⟨hr_167, hq_167⟩
                    obtain rfl := hq_167.symm
                    rw [hr_167]
                    clear hr_167 r_167
                    refine y_top (y := nI (sN S.r (px S.r (k + 8)))) (sN_e hv hvc (show px S.r (k + 8) < 32 by omega)) ?_
                    refine y_callS hC mL_apart kXL_53 dL_isPicture_170 (As := [.int (nI (sN S.r (px S.r k))), .int (nI (sN S.r (px S.r (k + 8))))]) (rest := []) (c_L_apart l E gg (sN S.r (px S.r k)) (sN S.r (px S.r (k + 8))) (sN_l hv hvc (by omega)) (sN_l hv hvc (by omega))) rfl rfl rfl (Nat.le_of_ble_eq_true rfl) ⟨Nat.le_of_ble_eq_true rfl, Nat.le_of_ble_eq_true rfl⟩ (pk_i ?_)
                    rintro r_170 g_170 ⟨hr_170, hq_170⟩
                    obtain rfl := hq_170.symm
                    rw [hr_170]
                    clear hr_170 r_170
                    refine y_top (y := (blQ S.r k)) (by rw [show blQ S.r k = pxD S.r k (k + 8) from if_pos (by omega)]; unfold pxD; rw [sN_e hv hvc hpk, sN_e hv hvc (show px S.r (k + 8) < 32 by omega)]) ?_
                    exact J_173
                  · refine y_iconst (v := nI 0) hC dL_isPicture_150 (by decide) ?_
                    refine y_goto (tgt := 173) hC dL_isPicture_151 (by decide) ?_
                    refine y_top (y := (blQ S.r k)) ((if_neg (show ¬ k + 8 < 64 by omega)).symm) ?_
                    exact J_173
                refine y_iload hC dL_isPicture_109 rfl ?_
                refine y_bipush (v := nI 8) hC dL_isPicture_111 (by decide) ?_
                refine y_irem_n hC dL_isPicture_113 (by omega) (by omega) (by omega) ?_
                refine y_bipush (v := nI 7) hC dL_isPicture_114 (by decide) ?_
                refine y_icmp_ne_n (tgt := 123) hC dL_isPicture_116 (by decide) (by omega) (by omega) (fun c_116 => ?_) (fun c_116 => ?_)
                · refine y_iload hC dL_isPicture_123 rfl ?_
                  refine y_aload_n hC dL_isPicture_125 (i := 1) rfl rfl ?_
                  refine y_aload_n hC dL_isPicture_126 (i := 2) rfl rfl ?_
                  refine y_aload_n hC dL_isPicture_127 (i := 3) rfl rfl ?_
                  refine y_aload hC dL_isPicture_128 rfl ?_
                  refine y_iload hC dL_isPicture_130 rfl ?_
                  refine y_iconst (v := nI 1) hC dL_isPicture_132 (by decide) ?_
                  refine y_iadd_n hC dL_isPicture_133 ?_
                  refine y_iald hC dL_isPicture_134 (k := 103) (j := k + 1) (by have := hL.k; omega) hL.a103 (rfl) (by omega) (by decide) ?_
                  refine y_top (y := nI (px S.r (k + 1))) (hpi _ (by omega)) ?_
                  refine y_callS hC mL_shown kXL_50 dL_isPicture_135 (As := [rf E (100), rf E (101), rf E (102), .int (nI (px S.r (k + 1)))]) (rest := [.int (nI (sN S.r (px S.r k)))]) (c_L_shown l E gg 100 101 102 (by have := hL.k; omega) (by have := hL.k; omega) (by have := hL.k; omega) c r h hL.a100 hL.a101 hL.a102 S.r B M hv (by omega) (by omega) a K hq hg hcl hvc (px S.r (k + 1)) (by omega)) rfl rfl rfl (Nat.le_of_ble_eq_true rfl) ⟨Nat.le_of_ble_eq_true rfl, Nat.le_of_ble_eq_true rfl⟩ (pk_i ?_)
                  rintro r_135 g_135 ⟨hr_135, hq_135⟩
                  obtain rfl := hq_135.symm
                  rw [hr_135]
                  clear hr_135 r_135
                  refine y_top (y := nI (sN S.r (px S.r (k + 1)))) (sN_e hv hvc (show px S.r (k + 1) < 32 by omega)) ?_
                  refine y_callS hC mL_apart kXL_53 dL_isPicture_138 (As := [.int (nI (sN S.r (px S.r k))), .int (nI (sN S.r (px S.r (k + 1))))]) (rest := []) (c_L_apart l E gg (sN S.r (px S.r k)) (sN S.r (px S.r (k + 1))) (sN_l hv hvc (by omega)) (sN_l hv hvc (by omega))) rfl rfl rfl (Nat.le_of_ble_eq_true rfl) ⟨Nat.le_of_ble_eq_true rfl, Nat.le_of_ble_eq_true rfl⟩ (pk_i ?_)
                  rintro r_138 g_138 ⟨hr_138, hq_138⟩
                  obtain rfl := hq_138.symm
                  rw [hr_138]
                  clear hr_138 r_138
                  refine y_top (y := (rtQ S.r k)) (by rw [show rtQ S.r k = pxD S.r k (k + 1) from if_pos (by omega)]; unfold pxD; rw [sN_e hv hvc hpk, sN_e hv hvc (show px S.r (k + 1) < 32 by omega)]) ?_
                  exact J_141
                · refine y_iconst (v := nI 0) hC dL_isPicture_119 (by decide) ?_
                  refine y_goto (tgt := 141) hC dL_isPicture_120 (by decide) ?_
                  refine y_top (y := (rtQ S.r k)) ((if_neg (show ¬ k % 8 + 1 < 8 by omega)).symm) ?_
                  exact J_141
        exact L_73 65 0 gg (by omega) (by omega) hL
      · have hslk := sN_l hv hvc (show k < 32 by omega)
        refine y_iload hC dL_isPicture_22 rfl ?_
        refine y_if_eq_n (tgt := 70) hC dL_isPicture_24 (by decide) (by omega) (fun c_24 => ?_) (fun c_24 => ?_)
        · exfalso
          omega
        · refine y_aload_n hC dL_isPicture_27 (i := 0) rfl rfl ?_
          refine y_iload hC dL_isPicture_28 rfl ?_
          refine y_callVF hC hL.s mX5_colour kXL_44 dL_isPicture_30 (b := 0) (As := [.int (nI (k))]) (rest := []) (CPm hL.cp (fun sh mk wa hcq => c_X5_colour l Ec gg S B (by omega) ho sh mk wa hcq (nI (k)))) hL.k0 hL.a0 rfl rfl rfl (Nat.le_of_ble_eq_true rfl) ⟨Nat.le_of_ble_eq_true rfl, Nat.le_of_ble_eq_true rfl⟩ (pkf_i ?_)
          rintro r_30 g_30 ⟨hr_30, hc_30⟩
          rw [hr_30]
          clear hr_30 r_30
          have hL_30 := hL.call hc_30
          generalize mrg (eK Ec) g_30 gg = G_30 at hL_30  ⊢
          refine y_top (y := (S.r (k))) (qCo (by omega)) ?_
          refine y_aload_n hC dL_isPicture_33 (i := 1) rfl rfl ?_
          refine y_iload hC dL_isPicture_34 rfl ?_
          refine y_iald hC dL_isPicture_36 (k := 100) (j := k) (by have := hL_30.k; omega) hL_30.a100 (rfl) (by omega) (by decide) ?_
          refine y_top (y := (S.r (k))) (hcl _ (by omega)) ?_
          refine y_icmp_ne (tgt := 61) hC dL_isPicture_37 (by decide) (fun c_37 => ?_) (fun c_37 => ?_)
          · exact absurd rfl c_37
          · refine y_aload_n hC dL_isPicture_40 (i := 0) rfl rfl ?_
            refine y_iload hC dL_isPicture_41 rfl ?_
            refine y_callVF hC hL_30.s mX5_shown kXL_47 dL_isPicture_43 (b := 0) (As := [.int (nI (k))]) (rest := []) (CPm hL_30.cp (fun sh mk wa hcq => c_X5_shown l Ec G_30 S B (by omega) ho sh mk wa hcq (nI (k)))) hL_30.k0 hL_30.a0 rfl rfl rfl (Nat.le_of_ble_eq_true rfl) ⟨Nat.le_of_ble_eq_true rfl, Nat.le_of_ble_eq_true rfl⟩ (pkf_i ?_)
            rintro r_43 g_43 ⟨hr_43, hc_43⟩
            rw [hr_43]
            clear hr_43 r_43
            have hL_43 := hL_30.call hc_43
            generalize mrg (eK Ec) g_43 G_30 = G_43 at hL_43  ⊢
            refine y_top (y := nI (sN S.r (k))) ((qSh (by omega)).trans (sN_e hv hvc (by omega))) ?_
            refine y_aload_n hC dL_isPicture_46 (i := 1) rfl rfl ?_
            refine y_aload_n hC dL_isPicture_47 (i := 2) rfl rfl ?_
            refine y_aload_n hC dL_isPicture_48 (i := 3) rfl rfl ?_
            refine y_iload hC dL_isPicture_49 rfl ?_
            refine y_callS hC mL_shown kXL_50 dL_isPicture_51 (As := [rf E (100), rf E (101), rf E (102), .int (nI (k))]) (rest := [.int (nI (sN S.r (k)))]) (c_L_shown l E G_43 100 101 102 (by have := hL_43.k; omega) (by have := hL_43.k; omega) (by have := hL_43.k; omega) c r h hL_43.a100 hL_43.a101 hL_43.a102 S.r B M hv (by omega) (by omega) a K hq hg hcl hvc (k) (by omega)) rfl rfl rfl (Nat.le_of_ble_eq_true rfl) ⟨Nat.le_of_ble_eq_true rfl, Nat.le_of_ble_eq_true rfl⟩ (pk_i ?_)
            rintro r_51 g_51 ⟨hr_51, hq_51⟩
            obtain rfl := hq_51.symm
            rw [hr_51]
            clear hr_51 r_51
            refine y_top (y := nI (sN S.r (k))) (sN_e hv hvc (show k < 32 by omega)) ?_
            refine y_icmp_ne_n (tgt := 61) hC dL_isPicture_54 (by decide) (by omega) (by omega) (fun c_54 => ?_) (fun c_54 => ?_)
            · exact absurd rfl c_54
            · refine y_iconst (v := nI 1) hC dL_isPicture_57 (by decide) ?_
              refine y_goto (tgt := 62) hC dL_isPicture_58 (by decide) ?_
              refine y_istore hC dL_isPicture_62 (Nat.le_of_ble_eq_true rfl) rfl (lo' := [some (rf E (0)), some (rf E (100)), some (rf E (101)), some (rf E (102)), some (rf E (103)), some (.int (nI (cn 0 (fun i => mvs S.r (px S.r i))))), some (.int (ctN (pxD S.r) 0)), some (.int (nI (cn 0 (fun i => fsB S.r i i)))), some (.int (nI (1))), some (.int (nI (k))), none, none, none, none, none, none]) rfl ?_
              refine y_iinc_n hC dL_isPicture_64 (a := k) (k := 1) rfl (by decide) (Nat.le_of_ble_eq_true rfl) rfl (lo' := [some (rf E (0)), some (rf E (100)), some (rf E (101)), some (rf E (102)), some (rf E (103)), some (.int (nI (cn 0 (fun i => mvs S.r (px S.r i))))), some (.int (ctN (pxD S.r) 0)), some (.int (nI (cn 0 (fun i => fsB S.r i i)))), some (.int (nI (1))), some (.int (nI (k + 1))), none, none, none, none, none, none]) rfl ?_
              refine y_goto (tgt := 15) hC dL_isPicture_67 (by decide) ?_
              exact ih_15 (k + 1) G_43 (by omega) (by omega) hL_43
  exact L_15 33 0 g (by omega) (by omega) hL

