/-! ===== the law: copies, full turns ===== -/
theorem nI_bt {P : Prop} [Decidable P] (h : P) : nI 1 = bI P := (bI_t h).symm
theorem nI_bf {P : Prop} [Decidable P] (h : ¬ P) : nI 0 = bI P := (bI_f h).symm
def cpF (f h : Nat → Int32) (n : Nat) : Nat → Int32 := fun j => if j < n then f j else h j
theorem cpF_0 {f h : Nat → Int32} : cpF f h 0 = h := funext fun j => if_neg (Nat.not_lt_zero j)
theorem cpF_s {f h : Nat → Int32} {n : Nat} : upd (cpF f h n) n (f n) = cpF f h (n + 1) := by
  funext j
  by_cases e : j = n
  · rw [e, pk_us]; exact (if_pos (by omega)).symm
  · rw [pk_un e]
    unfold cpF
    by_cases c : j < n
    · rw [if_pos c, if_pos (by omega)]
    · rw [if_neg c, if_neg (by omega)]
theorem dL_copy_0 : decode cL_copy 0 = .ok (.iconst 0, 1) := by decide +kernel
theorem dL_copy_1 : decode cL_copy 1 = .ok (.istore_n 3, 1) := by decide +kernel
theorem dL_copy_2 : decode cL_copy 2 = .ok (.iload_n 3, 1) := by decide +kernel
theorem dL_copy_3 : decode cL_copy 3 = .ok (.iload_n 2, 1) := by decide +kernel
theorem dL_copy_4 : decode cL_copy 4 = .ok (.if_icmp .ge 15, 3) := by decide +kernel
theorem dL_copy_7 : decode cL_copy 7 = .ok (.aload_n 1, 1) := by decide +kernel
theorem dL_copy_8 : decode cL_copy 8 = .ok (.iload_n 3, 1) := by decide +kernel
theorem dL_copy_9 : decode cL_copy 9 = .ok (.aload_n 0, 1) := by decide +kernel
theorem dL_copy_10 : decode cL_copy 10 = .ok (.iload_n 3, 1) := by decide +kernel
theorem dL_copy_11 : decode cL_copy 11 = .ok (.iaload, 1) := by decide +kernel
theorem dL_copy_12 : decode cL_copy 12 = .ok (.iastore, 1) := by decide +kernel
theorem dL_copy_13 : decode cL_copy 13 = .ok (.iinc 3 1, 3) := by decide +kernel
theorem dL_copy_16 : decode cL_copy 16 = .ok (.goto (-14), 3) := by decide +kernel
theorem dL_copy_19 : decode cL_copy 19 = .ok (.return_, 1) := by decide +kernel
set_option maxHeartbeats 4000000 in
set_option maxRecDepth 100000 in
theorem c_L_copy (l : Launch) (E : gE) (g : Mem) (P Q sz n : Nat) (hP : P < eK E) (hQ : Q < eK E) (hne : P ≠ Q) (f h : Nat → Int32) (hp : g P = aI E 0 sz f) (hq : g Q = aI E 0 sz h) (hn : n ≤ sz) (hm0 : sz ≤ 1000) : Mt l E yL_copy cL_copy 4 none 0 0 [rf E (P), rf E (Q), .int (nI (n))] g (pV (fun g' => g' Q = aI E 0 sz (cpF f h n) ∧ ∀ j, j ≠ Q → g' j = g j)) := by
  refine mt_go (own := RXL) (by decide) rfl (lo := [some (rf E (P)), some (rf E (Q)), some (.int (nI (n))), none]) rfl (Nat.le_of_ble_eq_true rfl) (fun X hC => ?_)
  refine y_iconst (v := nI 0) hC dL_copy_0 (by decide) ?_
  refine y_istore_n hC dL_copy_1 (i := 3) rfl (Nat.le_of_ble_eq_true rfl) rfl (lo' := [some (rf E (P)), some (rf E (Q)), some (.int (nI (n))), some (.int (nI (0)))]) rfl ?_
  have L_2 : ∀ (m : Nat) (k : Nat) (gg : Mem), (hm : n - k < m) → (hk : k ≤ n) → (h1 : gg P = aI E 0 sz f) → (h2 : gg Q = aI E 0 sz (cpF f h k)) → (hf : ∀ j, j ≠ Q → gg j = g j) → Y l E X (pV (fun g' => g' Q = aI E 0 sz (cpF f h n) ∧ ∀ j, j ≠ Q → g' j = g j)) 2 [some (rf E (P)), some (rf E (Q)), some (.int (nI (n))), some (.int (nI (k)))] [] gg := by
    intro m
    induction m with
    | zero => intro k gg hm hk h1 h2 hf; exact absurd hm (Nat.not_lt_zero _)
    | succ m ih_2 =>
      intro k gg hm hk h1 h2 hf
      refine y_iload_n hC dL_copy_2 (i := 3) rfl rfl ?_
      refine y_iload_n hC dL_copy_3 (i := 2) rfl rfl ?_
      refine y_icmp_ge_n (tgt := 19) hC dL_copy_4 (by decide) (by omega) (by omega) (fun c_4 => ?_) (fun c_4 => ?_)
      · refine y_vret (hC := hC) (hd := dL_copy_19) (hq := ?_)
        exact ⟨by rw [show n = k by omega]; exact h2, hf⟩
      · refine y_aload_n hC dL_copy_7 (i := 1) rfl rfl ?_
        refine y_iload_n hC dL_copy_8 (i := 3) rfl rfl ?_
        refine y_aload_n hC dL_copy_9 (i := 0) rfl rfl ?_
        refine y_iload_n hC dL_copy_10 (i := 3) rfl rfl ?_
        refine y_iald hC dL_copy_11 (k := P) (j := k) hP h1 (rfl) (by omega) (by omega) ?_
        refine y_iast hC dL_copy_12 (k := Q) (j := k) hQ h2 (rfl) (by omega) (by omega) ?_
        have hw_12 : (va_up gg (Q) (aI E 0 sz (upd (cpF f h k) (k) ((f (k)))))) (Q) = aI E 0 sz (upd (cpF f h k) (k) ((f (k)))) := va_up_self _ _ _
        have ho_12 : ∀ j, j ≠ Q → (va_up gg (Q) (aI E 0 sz (upd (cpF f h k) (k) ((f (k)))))) j = gg j := fun j hj => va_up_ne _ _ hj
        have hx_12_0 := (ho_12 (P) (hne)).trans (h1)
        generalize (va_up gg (Q) (aI E 0 sz (upd (cpF f h k) (k) ((f (k)))))) = g_12 at hw_12 ho_12 hx_12_0 ⊢
        rw [cpF_s] at hw_12
        refine y_iinc_n hC dL_copy_13 (a := k) (k := 1) rfl (by decide) (Nat.le_of_ble_eq_true rfl) rfl (lo' := [some (rf E (P)), some (rf E (Q)), some (.int (nI (n))), some (.int (nI (k + 1)))]) rfl ?_
        refine y_goto (tgt := 2) hC dL_copy_16 (by decide) ?_
        exact ih_2 (k + 1) g_12 (by omega) (by omega) (hx_12_0) (hw_12) (fun j q => (ho_12 j q).trans (hf j q))
  exact L_2 (n + 1) 0 g (by omega) (by omega) hp (by rw [cpF_0]; exact hq) (fun _ _ => rfl)

/-- what a range needs by itself -/
def oN (ρ : Row) (k : Nat) : Nat := rg ρ k 2 * fsN (nP ρ k) (rg ρ k 3)
theorem oN_b {ρ : Row} {B k : Nat} (hv : Vr ρ B) (hk : k < rc ρ) : 0 < oN ρ k ∧ oN ρ k ≤ 1860 := by
  obtain ⟨q1, q2, q3, q4, q5, q6, q7, q8, q9⟩ := hv.rg hk
  have h1 := nP_b hv hk
  have h2 := fsN_le (n := nP ρ k) (w := rg ρ k 3) h1.1
  have h3 : rg ρ k 2 * fsN (nP ρ k) (rg ρ k 3) ≤ 30 * 62 := Nat.mul_le_mul q5 (by omega)
  have h4 : 0 < rg ρ k 2 * fsN (nP ρ k) (rg ρ k 3) := Nat.mul_pos q4 h2.1
  unfold oN
  omega
theorem lR_s {ρ : Row} {k x : Nat} : lcR ρ (k + 1) ∣ x ↔ lcR ρ k ∣ x ∧ (rg ρ k 4 = 1 → oN ρ k ∣ x) := by
  show Nat.lcm (lcR ρ k) (tN ρ k) ∣ x ↔ _
  have e : Nat.lcm (lcR ρ k) (tN ρ k) ∣ x ↔ lcR ρ k ∣ x ∧ tN ρ k ∣ x := ⟨fun h => ⟨Nat.dvd_trans (Nat.dvd_lcm_left _ _) h, Nat.dvd_trans (Nat.dvd_lcm_right _ _) h⟩, fun h => Nat.lcm_dvd h.1 h.2⟩
  rw [e]
  unfold tN oN
  by_cases c : rg ρ k 4 = 1
  · rw [if_pos c]; simp [c]
  · rw [if_neg c]; simp [c]
theorem lG_s {ρ : Row} {k x : Nat} : lcG ρ (k + 1) ∣ x ↔ lcG ρ k ∣ x ∧ 2 * gl ρ k 2 ∣ x := by
  show Nat.lcm (lcG ρ k) (2 * gl ρ k 2) ∣ x ↔ _
  exact ⟨fun h => ⟨Nat.dvd_trans (Nat.dvd_lcm_left _ _) h, Nat.dvd_trans (Nat.dvd_lcm_right _ _) h⟩, fun h => Nat.lcm_dvd h.1 h.2⟩
theorem zdvd {a b : Nat} : a ∣ b ↔ b % a = 0 := Nat.dvd_iff_mod_eq_zero
theorem lR_d {ρ : Row} {x : Nat} : ∀ {n k : Nat}, k < n → lcR ρ n ∣ x → rg ρ k 4 = 1 → oN ρ k ∣ x
  | 0, k, hk, _, _ => absurd hk (Nat.not_lt_zero k)
  | n + 1, k, hk, hd, hr => by
    rw [lR_s] at hd
    by_cases e : k = n
    · rw [e] at hr ⊢; exact hd.2 hr
    · exact lR_d (by omega) hd.1 hr
theorem lG_R {ρ : Row} {x : Nat} : ∀ {n : Nat}, lcG ρ n ∣ x → lcR ρ (rc ρ) ∣ x
  | 0, h => h
  | n + 1, h => lG_R (lG_s.mp h).1
theorem lG_d {ρ : Row} {x : Nat} : ∀ {n k : Nat}, k < n → lcG ρ n ∣ x → 2 * gl ρ k 2 ∣ x
  | 0, k, hk, _ => absurd hk (Nat.not_lt_zero k)
  | n + 1, k, hk, hd => by
    rw [lG_s] at hd
    by_cases e : k = n
    · rw [e]; exact hd.2
    · exact lG_d (by omega) hd.1
theorem cz {a : Nat} (h : a < 2 ^ 63) : lg_cmp (lN a) (lN 0) = 0 ↔ a = 0 := zcmp0.trans (pk_lEQ h (by decide))
theorem dL_turns_0 : decode cL_turns 0 = .ok (.iconst 1, 1) := by decide +kernel
theorem dL_turns_1 : decode cL_turns 1 = .ok (.istore 4, 2) := by decide +kernel
theorem dL_turns_3 : decode cL_turns 3 = .ok (.bipush 8, 2) := by decide +kernel
theorem dL_turns_5 : decode cL_turns 5 = .ok (.istore 5, 2) := by decide +kernel
theorem dL_turns_7 : decode cL_turns 7 = .ok (.iload 5, 2) := by decide +kernel
theorem dL_turns_9 : decode cL_turns 9 = .ok (.bipush 8, 2) := by decide +kernel
theorem dL_turns_11 : decode cL_turns 11 = .ok (.bipush 8, 2) := by decide +kernel
theorem dL_turns_13 : decode cL_turns 13 = .ok (.aload_n 0, 1) := by decide +kernel
theorem dL_turns_14 : decode cL_turns 14 = .ok (.iconst 0, 1) := by decide +kernel
theorem dL_turns_15 : decode cL_turns 15 = .ok (.iaload, 1) := by decide +kernel
theorem dL_turns_16 : decode cL_turns 16 = .ok (.imul, 1) := by decide +kernel
theorem dL_turns_17 : decode cL_turns 17 = .ok (.iadd, 1) := by decide +kernel
theorem dL_turns_18 : decode cL_turns 18 = .ok (.if_icmp .ge 81, 3) := by decide +kernel
theorem dL_turns_21 : decode cL_turns 21 = .ok (.lconst 1, 1) := by decide +kernel
theorem dL_turns_22 : decode cL_turns 22 = .ok (.aload_n 0, 1) := by decide +kernel
theorem dL_turns_23 : decode cL_turns 23 = .ok (.iload 5, 2) := by decide +kernel
theorem dL_turns_25 : decode cL_turns 25 = .ok (.iconst 2, 1) := by decide +kernel
theorem dL_turns_26 : decode cL_turns 26 = .ok (.iadd, 1) := by decide +kernel
theorem dL_turns_27 : decode cL_turns 27 = .ok (.iaload, 1) := by decide +kernel
theorem dL_turns_28 : decode cL_turns 28 = .ok (.i2l, 1) := by decide +kernel
theorem dL_turns_29 : decode cL_turns 29 = .ok (.lmul, 1) := by decide +kernel
theorem dL_turns_30 : decode cL_turns 30 = .ok (.aload_n 0, 1) := by decide +kernel
theorem dL_turns_31 : decode cL_turns 31 = .ok (.iload 5, 2) := by decide +kernel
theorem dL_turns_33 : decode cL_turns 33 = .ok (.iconst 3, 1) := by decide +kernel
theorem dL_turns_34 : decode cL_turns 34 = .ok (.iadd, 1) := by decide +kernel
theorem dL_turns_35 : decode cL_turns 35 = .ok (.iaload, 1) := by decide +kernel
theorem dL_turns_36 : decode cL_turns 36 = .ok (.iconst 2, 1) := by decide +kernel
theorem dL_turns_37 : decode cL_turns 37 = .ok (.if_icmp .ne 16, 3) := by decide +kernel
theorem dL_turns_40 : decode cL_turns 40 = .ok (.iconst 2, 1) := by decide +kernel
theorem dL_turns_41 : decode cL_turns 41 = .ok (.aload_n 0, 1) := by decide +kernel
theorem dL_turns_42 : decode cL_turns 42 = .ok (.iload 5, 2) := by decide +kernel
theorem dL_turns_44 : decode cL_turns 44 = .ok (.iconst 1, 1) := by decide +kernel
theorem dL_turns_45 : decode cL_turns 45 = .ok (.iadd, 1) := by decide +kernel
theorem dL_turns_46 : decode cL_turns 46 = .ok (.iaload, 1) := by decide +kernel
theorem dL_turns_47 : decode cL_turns 47 = .ok (.imul, 1) := by decide +kernel
theorem dL_turns_48 : decode cL_turns 48 = .ok (.iconst 2, 1) := by decide +kernel
theorem dL_turns_49 : decode cL_turns 49 = .ok (.isub, 1) := by decide +kernel
theorem dL_turns_50 : decode cL_turns 50 = .ok (.goto 9, 3) := by decide +kernel
theorem dL_turns_53 : decode cL_turns 53 = .ok (.aload_n 0, 1) := by decide +kernel
theorem dL_turns_54 : decode cL_turns 54 = .ok (.iload 5, 2) := by decide +kernel
theorem dL_turns_56 : decode cL_turns 56 = .ok (.iconst 1, 1) := by decide +kernel
theorem dL_turns_57 : decode cL_turns 57 = .ok (.iadd, 1) := by decide +kernel
theorem dL_turns_58 : decode cL_turns 58 = .ok (.iaload, 1) := by decide +kernel
theorem dL_turns_59 : decode cL_turns 59 = .ok (.i2l, 1) := by decide +kernel
theorem dL_turns_60 : decode cL_turns 60 = .ok (.lmul, 1) := by decide +kernel
theorem dL_turns_61 : decode cL_turns 61 = .ok (.lstore 6, 2) := by decide +kernel
theorem dL_turns_63 : decode cL_turns 63 = .ok (.iload 4, 2) := by decide +kernel
theorem dL_turns_65 : decode cL_turns 65 = .ok (.ifCond .eq 25, 3) := by decide +kernel
theorem dL_turns_68 : decode cL_turns 68 = .ok (.aload_n 0, 1) := by decide +kernel
theorem dL_turns_69 : decode cL_turns 69 = .ok (.iload 5, 2) := by decide +kernel
theorem dL_turns_71 : decode cL_turns 71 = .ok (.iconst 4, 1) := by decide +kernel
theorem dL_turns_72 : decode cL_turns 72 = .ok (.iadd, 1) := by decide +kernel
theorem dL_turns_73 : decode cL_turns 73 = .ok (.iaload, 1) := by decide +kernel
theorem dL_turns_74 : decode cL_turns 74 = .ok (.ifCond .eq 12, 3) := by decide +kernel
theorem dL_turns_77 : decode cL_turns 77 = .ok (.lload_n 2, 1) := by decide +kernel
theorem dL_turns_78 : decode cL_turns 78 = .ok (.lload 6, 2) := by decide +kernel
theorem dL_turns_80 : decode cL_turns 80 = .ok (.lrem, 1) := by decide +kernel
theorem dL_turns_81 : decode cL_turns 81 = .ok (.lconst 0, 1) := by decide +kernel
theorem dL_turns_82 : decode cL_turns 82 = .ok (.lcmp, 1) := by decide +kernel
theorem dL_turns_83 : decode cL_turns 83 = .ok (.ifCond .ne 7, 3) := by decide +kernel
theorem dL_turns_86 : decode cL_turns 86 = .ok (.iconst 1, 1) := by decide +kernel
theorem dL_turns_87 : decode cL_turns 87 = .ok (.goto 4, 3) := by decide +kernel
theorem dL_turns_90 : decode cL_turns 90 = .ok (.iconst 0, 1) := by decide +kernel
theorem dL_turns_91 : decode cL_turns 91 = .ok (.istore 4, 2) := by decide +kernel
theorem dL_turns_93 : decode cL_turns 93 = .ok (.iinc 5 8, 3) := by decide +kernel
theorem dL_turns_96 : decode cL_turns 96 = .ok (.goto (-89), 3) := by decide +kernel
theorem dL_turns_99 : decode cL_turns 99 = .ok (.iconst 4, 1) := by decide +kernel
theorem dL_turns_100 : decode cL_turns 100 = .ok (.istore 5, 2) := by decide +kernel
theorem dL_turns_102 : decode cL_turns 102 = .ok (.iload 5, 2) := by decide +kernel
theorem dL_turns_104 : decode cL_turns 104 = .ok (.iconst 4, 1) := by decide +kernel
theorem dL_turns_105 : decode cL_turns 105 = .ok (.iconst 4, 1) := by decide +kernel
theorem dL_turns_106 : decode cL_turns 106 = .ok (.aload_n 1, 1) := by decide +kernel
theorem dL_turns_107 : decode cL_turns 107 = .ok (.iconst 0, 1) := by decide +kernel
theorem dL_turns_108 : decode cL_turns 108 = .ok (.iaload, 1) := by decide +kernel
theorem dL_turns_109 : decode cL_turns 109 = .ok (.imul, 1) := by decide +kernel
theorem dL_turns_110 : decode cL_turns 110 = .ok (.iadd, 1) := by decide +kernel
theorem dL_turns_111 : decode cL_turns 111 = .ok (.if_icmp .ge 39, 3) := by decide +kernel
theorem dL_turns_114 : decode cL_turns 114 = .ok (.iload 4, 2) := by decide +kernel
theorem dL_turns_116 : decode cL_turns 116 = .ok (.ifCond .eq 25, 3) := by decide +kernel
theorem dL_turns_119 : decode cL_turns 119 = .ok (.lload_n 2, 1) := by decide +kernel
theorem dL_turns_120 : decode cL_turns 120 = .ok (.ldc2_w 89, 3) := by decide +kernel
theorem dL_turns_123 : decode cL_turns 123 = .ok (.aload_n 1, 1) := by decide +kernel
theorem dL_turns_124 : decode cL_turns 124 = .ok (.iload 5, 2) := by decide +kernel
theorem dL_turns_126 : decode cL_turns 126 = .ok (.iconst 2, 1) := by decide +kernel
theorem dL_turns_127 : decode cL_turns 127 = .ok (.iadd, 1) := by decide +kernel
theorem dL_turns_128 : decode cL_turns 128 = .ok (.iaload, 1) := by decide +kernel
theorem dL_turns_129 : decode cL_turns 129 = .ok (.i2l, 1) := by decide +kernel
theorem dL_turns_130 : decode cL_turns 130 = .ok (.lmul, 1) := by decide +kernel
theorem dL_turns_131 : decode cL_turns 131 = .ok (.lrem, 1) := by decide +kernel
theorem dL_turns_132 : decode cL_turns 132 = .ok (.lconst 0, 1) := by decide +kernel
theorem dL_turns_133 : decode cL_turns 133 = .ok (.lcmp, 1) := by decide +kernel
theorem dL_turns_134 : decode cL_turns 134 = .ok (.ifCond .ne 7, 3) := by decide +kernel
theorem dL_turns_137 : decode cL_turns 137 = .ok (.iconst 1, 1) := by decide +kernel
theorem dL_turns_138 : decode cL_turns 138 = .ok (.goto 4, 3) := by decide +kernel
theorem dL_turns_141 : decode cL_turns 141 = .ok (.iconst 0, 1) := by decide +kernel
theorem dL_turns_142 : decode cL_turns 142 = .ok (.istore 4, 2) := by decide +kernel
theorem dL_turns_144 : decode cL_turns 144 = .ok (.iinc 5 4, 3) := by decide +kernel
theorem dL_turns_147 : decode cL_turns 147 = .ok (.goto (-45), 3) := by decide +kernel
theorem dL_turns_150 : decode cL_turns 150 = .ok (.iload 4, 2) := by decide +kernel
theorem dL_turns_152 : decode cL_turns 152 = .ok (.ireturn, 1) := by decide +kernel
set_option maxHeartbeats 4000000 in
set_option maxRecDepth 100000 in
theorem c_L_turns (l : Launch) (E : gE) (g : Mem) (R Z : Nat) (hR : R < eK E) (hZ : Z < eK E) (r h : Nat → Int32) (hr : g R = aI E 0 56 r) (hh : g Z = aI E 0 20 h)(ρ : Row) (B M : Nat) (hv : Vr ρ B) (a K : Nat → Nat) (hq : RgL ρ r a K M) (hg : GlL ρ h)(x : Nat) (hx : x < 2 ^ 63) : Mt l E yL_turns cL_turns 8 (some .boolean) 0 0 [rf E (R), rf E (Z), .long (lN (x))] g (pI (fun z g' => z = bI (ftN ρ ∣ x) ∧ g' = g)) := by
  have hrc := hv.1.2
  have hgc := hv.2.1.2
  refine mt_go (own := RXL) (by decide) rfl (lo := [some (rf E (R)), some (rf E (Z)), some (.long (lN (x))), none, none, none, none, none]) rfl (Nat.le_of_ble_eq_true rfl) (fun X hC => ?_)
  refine y_iconst (v := nI 1) hC dL_turns_0 (by decide) ?_
  refine y_top (y := bI (lcR ρ 0 ∣ x)) (nI_bt (Nat.one_dvd x)) ?_
  refine y_istore hC dL_turns_1 (Nat.le_of_ble_eq_true rfl) rfl (lo' := [some (rf E (R)), some (rf E (Z)), some (.long (lN (x))), none, some (.int (bI (lcR ρ 0 ∣ x))), none, none, none]) rfl ?_
  refine y_bipush (v := nI 8) hC dL_turns_3 (by decide) ?_
  refine y_istore hC dL_turns_5 (Nat.le_of_ble_eq_true rfl) rfl (lo' := [some (rf E (R)), some (rf E (Z)), some (.long (lN (x))), none, some (.int (bI (lcR ρ 0 ∣ x))), some (.int (nI (8))), none, none]) rfl ?_
  have L_7 : ∀ (m : Nat) (k : Nat), (hm : rc ρ - k < m) → (hk : k ≤ rc ρ) → Y l E X (pI (fun z g' => z = bI (ftN ρ ∣ x) ∧ g' = g)) 7 [some (rf E (R)), some (rf E (Z)), some (.long (lN (x))), none, some (.int (bI (lcR ρ k ∣ x))), some (.int (nI (8 + 8 * k))), none, none] [] g := by
    intro m
    induction m with
    | zero => intro k hm hk; exact absurd hm (Nat.not_lt_zero _)
    | succ m ih_7 =>
      intro k hm hk
      refine y_iload hC dL_turns_7 rfl ?_
      refine y_bipush (v := nI 8) hC dL_turns_9 (by decide) ?_
      refine y_bipush (v := nI 8) hC dL_turns_11 (by decide) ?_
      refine y_aload_n hC dL_turns_13 (i := 0) rfl rfl ?_
      refine y_iconst (v := nI 0) hC dL_turns_14 (by decide) ?_
      refine y_iald hC dL_turns_15 (k := R) (j := 0) hR hr (rfl) (by omega) (by decide) ?_
      refine y_top (y := nI (rc ρ)) (hq.n) ?_
      refine y_imul_n hC dL_turns_16 ?_
      refine y_iadd_n hC dL_turns_17 ?_
      refine y_icmp_ge_n (tgt := 99) hC dL_turns_18 (by decide) (by omega) (by omega) (fun c_18 => ?_) (fun c_18 => ?_)
      · obtain rfl : k = rc ρ := by omega
        refine y_lo (lo' := [some (rf E (R)), some (rf E (Z)), some (.long (lN (x))), none, some (.int (bI (lcG ρ 0 ∣ x))), some (.int (nI (8 + 8 * rc ρ))), none, none]) rfl ?_
        refine y_iconst (v := nI 4) hC dL_turns_99 (by decide) ?_
        refine y_istore hC dL_turns_100 (Nat.le_of_ble_eq_true rfl) rfl (lo' := [some (rf E (R)), some (rf E (Z)), some (.long (lN (x))), none, some (.int (bI (lcG ρ 0 ∣ x))), some (.int (nI (4))), none, none]) rfl ?_
        have L_102 : ∀ (m : Nat) (k : Nat), (hm : gc ρ - k < m) → (hk : k ≤ gc ρ) → Y l E X (pI (fun z g' => z = bI (ftN ρ ∣ x) ∧ g' = g)) 102 [some (rf E (R)), some (rf E (Z)), some (.long (lN (x))), none, some (.int (bI (lcG ρ k ∣ x))), some (.int (nI (4 + 4 * k))), none, none] [] g := by
          intro m
          induction m with
          | zero => intro k hm hk; exact absurd hm (Nat.not_lt_zero _)
          | succ m ih_102 =>
            intro k hm hk
            refine y_iload hC dL_turns_102 rfl ?_
            refine y_iconst (v := nI 4) hC dL_turns_104 (by decide) ?_
            refine y_iconst (v := nI 4) hC dL_turns_105 (by decide) ?_
            refine y_aload_n hC dL_turns_106 (i := 1) rfl rfl ?_
            refine y_iconst (v := nI 0) hC dL_turns_107 (by decide) ?_
            refine y_iald hC dL_turns_108 (k := Z) (j := 0) hZ hh (rfl) (by omega) (by decide) ?_
            refine y_top (y := nI (gc ρ)) (hg.n) ?_
            refine y_imul_n hC dL_turns_109 ?_
            refine y_iadd_n hC dL_turns_110 ?_
            refine y_icmp_ge_n (tgt := 150) hC dL_turns_111 (by decide) (by omega) (by omega) (fun c_111 => ?_) (fun c_111 => ?_)
            · obtain rfl : k = gc ρ := by omega
              refine y_lo (lo' := [some (rf E (R)), some (rf E (Z)), some (.long (lN (x))), none, some (.int (bI (ftN ρ ∣ x))), some (.int (nI (4 + 4 * gc ρ))), none, none]) rfl ?_
              refine y_iload hC dL_turns_150 rfl ?_
              refine y_zretb (hC := hC) (hd := dL_turns_152) (hq := ?_)
              exact ⟨rfl, rfl⟩
            · have hkk : k < gc ρ := by omega
              obtain ⟨w1, w2, w3, w4, w5⟩ := hv.gl hkk
              have hne : ¬ lN (2 * gl ρ k 2) = 0 := fun q => by
                have := (pk_lEQ (a := 2 * gl ρ k 2) (b := 0) (by omega) (by decide)).mp q
                omega
              have hml := Nat.mod_lt x (show 0 < 2 * gl ρ k 2 by omega)
              refine y_iload hC dL_turns_114 rfl ?_
              refine y_if_eq_b (tgt := 141) hC dL_turns_116 (by decide) (fun c_116 => ?_) (fun c_116 => ?_)
              · refine y_iconst (v := nI 0) hC dL_turns_141 (by decide) ?_
                refine y_top (y := bI (lcG ρ (k + 1) ∣ x)) (by (first | exact nI_bt (lG_s.mpr ⟨c_116, zdvd.mpr ((cz (by omega)).mp c_134)⟩) | exact nI_bf (fun q => c_116 (lG_s.mp q).1) | exact nI_bf (fun q => c_134 ((cz (by omega)).mpr (zdvd.mp (lG_s.mp q).2))))) ?_
                refine y_istore hC dL_turns_142 (Nat.le_of_ble_eq_true rfl) rfl (lo' := [some (rf E (R)), some (rf E (Z)), some (.long (lN (x))), none, some (.int (bI (lcG ρ (k + 1) ∣ x))), some (.int (nI (4 + 4 * k))), none, none]) rfl ?_
                refine y_iinc_n hC dL_turns_144 (a := 4 + 4 * k) (k := 4) rfl (by decide) (Nat.le_of_ble_eq_true rfl) rfl (lo' := [some (rf E (R)), some (rf E (Z)), some (.long (lN (x))), none, some (.int (bI (lcG ρ (k + 1) ∣ x))), some (.int (nI (4 + 4 * k + 4))), none, none]) rfl ?_
                refine y_goto (tgt := 102) hC dL_turns_147 (by decide) ?_
                rw [show 4 + 4 * k + 4 = 4 + 4 * (k + 1) from by omega]
                exact ih_102 (k + 1) (by omega) (by omega)
              · refine y_lload_n hC dL_turns_119 (i := 2) rfl rfl ?_
                refine y_ldc2w hC clXL_89 dL_turns_120 ?_
                refine y_aload_n hC dL_turns_123 (i := 1) rfl rfl ?_
                refine y_iload hC dL_turns_124 rfl ?_
                refine y_iconst (v := nI 2) hC dL_turns_126 (by decide) ?_
                refine y_iadd_n hC dL_turns_127 ?_
                refine y_iald hC dL_turns_128 (k := Z) (j := (4 + 4 * k) + 2) hZ hh (rfl) (by omega) (by decide) ?_
                refine y_top (y := nI (gl ρ k 2)) (hg.f2 hkk) ?_
                refine y_i2l hC dL_turns_129 ?_
                refine y_topl (y := lN (gl ρ k 2)) (nI_l (by omega)) ?_
                refine y_lmul hC dL_turns_130 ?_
                refine y_topl (y := lN (2 * gl ρ k 2)) (lN_mul _ _) ?_
                refine y_lrem hC dL_turns_131 (hne) ?_
                refine y_topl (y := lN (x % (2 * gl ρ k 2))) (pk_lRem hx (by omega) (by omega)) ?_
                refine y_lconst (v := lN 0) hC dL_turns_132 (by decide) ?_
                refine y_lcmp hC dL_turns_133 ?_
                refine y_if_ne (tgt := 141) hC dL_turns_134 (by decide) (fun c_134 => ?_) (fun c_134 => ?_)
                · refine y_iconst (v := nI 0) hC dL_turns_141 (by decide) ?_
                  refine y_top (y := bI (lcG ρ (k + 1) ∣ x)) (by (first | exact nI_bt (lG_s.mpr ⟨c_116, zdvd.mpr ((cz (by omega)).mp c_134)⟩) | exact nI_bf (fun q => c_116 (lG_s.mp q).1) | exact nI_bf (fun q => c_134 ((cz (by omega)).mpr (zdvd.mp (lG_s.mp q).2))))) ?_
                  refine y_istore hC dL_turns_142 (Nat.le_of_ble_eq_true rfl) rfl (lo' := [some (rf E (R)), some (rf E (Z)), some (.long (lN (x))), none, some (.int (bI (lcG ρ (k + 1) ∣ x))), some (.int (nI (4 + 4 * k))), none, none]) rfl ?_
                  refine y_iinc_n hC dL_turns_144 (a := 4 + 4 * k) (k := 4) rfl (by decide) (Nat.le_of_ble_eq_true rfl) rfl (lo' := [some (rf E (R)), some (rf E (Z)), some (.long (lN (x))), none, some (.int (bI (lcG ρ (k + 1) ∣ x))), some (.int (nI (4 + 4 * k + 4))), none, none]) rfl ?_
                  refine y_goto (tgt := 102) hC dL_turns_147 (by decide) ?_
                  rw [show 4 + 4 * k + 4 = 4 + 4 * (k + 1) from by omega]
                  exact ih_102 (k + 1) (by omega) (by omega)
                · refine y_iconst (v := nI 1) hC dL_turns_137 (by decide) ?_
                  refine y_goto (tgt := 142) hC dL_turns_138 (by decide) ?_
                  refine y_top (y := bI (lcG ρ (k + 1) ∣ x)) (by (first | exact nI_bt (lG_s.mpr ⟨c_116, zdvd.mpr ((cz (by omega)).mp c_134)⟩) | exact nI_bf (fun q => c_116 (lG_s.mp q).1) | exact nI_bf (fun q => c_134 ((cz (by omega)).mpr (zdvd.mp (lG_s.mp q).2))))) ?_
                  refine y_istore hC dL_turns_142 (Nat.le_of_ble_eq_true rfl) rfl (lo' := [some (rf E (R)), some (rf E (Z)), some (.long (lN (x))), none, some (.int (bI (lcG ρ (k + 1) ∣ x))), some (.int (nI (4 + 4 * k))), none, none]) rfl ?_
                  refine y_iinc_n hC dL_turns_144 (a := 4 + 4 * k) (k := 4) rfl (by decide) (Nat.le_of_ble_eq_true rfl) rfl (lo' := [some (rf E (R)), some (rf E (Z)), some (.long (lN (x))), none, some (.int (bI (lcG ρ (k + 1) ∣ x))), some (.int (nI (4 + 4 * k + 4))), none, none]) rfl ?_
                  refine y_goto (tgt := 102) hC dL_turns_147 (by decide) ?_
                  rw [show 4 + 4 * k + 4 = 4 + 4 * (k + 1) from by omega]
                  exact ih_102 (k + 1) (by omega) (by omega)
        exact L_102 (gc ρ + 1) 0 (by omega) (by omega)
      · have hkk : k < rc ρ := by omega
        obtain ⟨q1, q2, q3, q4, q5, q6, q7, q8, q9⟩ := hv.rg hkk
        have hn2 := nP_b hv hkk
        have hon := oN_b hv hkk
        have hne : ¬ lN (oN ρ k) = 0 := fun q => by
          have := (pk_lEQ (a := oN ρ k) (b := 0) (by omega) (by decide)).mp q
          omega
        have hml := Nat.mod_lt x hon.1
        refine y_lconst (v := lN 1) hC dL_turns_21 (by decide) ?_
        refine y_aload_n hC dL_turns_22 (i := 0) rfl rfl ?_
        refine y_iload hC dL_turns_23 rfl ?_
        refine y_iconst (v := nI 2) hC dL_turns_25 (by decide) ?_
        refine y_iadd_n hC dL_turns_26 ?_
        refine y_iald hC dL_turns_27 (k := R) (j := (8 + 8 * k) + 2) hR hr (rfl) (by omega) (by decide) ?_
        refine y_top (y := nI (rg ρ k 2)) (hq.f2 hkk) ?_
        refine y_i2l hC dL_turns_28 ?_
        refine y_topl (y := lN (rg ρ k 2)) (nI_l (by omega)) ?_
        refine y_lmul hC dL_turns_29 ?_
        refine y_topl (y := lN (rg ρ k 2)) (by rw [lN_mul, Nat.one_mul]) ?_
        refine y_aload_n hC dL_turns_30 (i := 0) rfl rfl ?_
        refine y_iload hC dL_turns_31 rfl ?_
        refine y_iconst (v := nI 3) hC dL_turns_33 (by decide) ?_
        refine y_iadd_n hC dL_turns_34 ?_
        refine y_iald hC dL_turns_35 (k := R) (j := (8 + 8 * k) + 3) hR hr (rfl) (by omega) (by decide) ?_
        refine y_top (y := nI (rg ρ k 3)) (hq.f3 hkk) ?_
        refine y_iconst (v := nI 2) hC dL_turns_36 (by decide) ?_
        refine y_icmp_ne_n (tgt := 53) hC dL_turns_37 (by decide) (by omega) (by omega) (fun c_37 => ?_) (fun c_37 => ?_)
        · refine y_aload_n hC dL_turns_53 (i := 0) rfl rfl ?_
          refine y_iload hC dL_turns_54 rfl ?_
          refine y_iconst (v := nI 1) hC dL_turns_56 (by decide) ?_
          refine y_iadd_n hC dL_turns_57 ?_
          refine y_iald hC dL_turns_58 (k := R) (j := (8 + 8 * k) + 1) hR hr (rfl) (by omega) (by decide) ?_
          refine y_top (y := nI (nP ρ k)) (hq.f1 hkk) ?_
          refine y_i2l hC dL_turns_59 ?_
          refine y_topl (y := lN (nP ρ k)) (nI_l (by omega)) ?_
          refine y_lmul hC dL_turns_60 ?_
          refine y_topl (y := lN (oN ρ k)) (by rw [lN_mul]; refine congrArg lN ?_; unfold oN fsN; first | rw [if_pos (by omega)] | rw [if_neg (by omega)]) ?_
          refine y_lstore hC dL_turns_61 (Nat.le_of_ble_eq_true rfl) rfl (lo' := [some (rf E (R)), some (rf E (Z)), some (.long (lN (x))), none, some (.int (bI (lcR ρ k ∣ x))), some (.int (nI (8 + 8 * k))), some (.long (lN (oN ρ k))), none]) rfl ?_
          refine y_iload hC dL_turns_63 rfl ?_
          refine y_if_eq_b (tgt := 90) hC dL_turns_65 (by decide) (fun c_65 => ?_) (fun c_65 => ?_)
          · refine y_iconst (v := nI 0) hC dL_turns_90 (by decide) ?_
            refine y_top (y := bI (lcR ρ (k + 1) ∣ x)) (by (first | exact nI_bt (lR_s.mpr ⟨c_65, fun e => absurd e (by omega)⟩) | exact nI_bt (lR_s.mpr ⟨c_65, fun _ => zdvd.mpr ((cz (by omega)).mp c_83)⟩) | exact nI_bf (fun q => c_65 (lR_s.mp q).1) | exact nI_bf (fun q => c_83 ((cz (by omega)).mpr (zdvd.mp ((lR_s.mp q).2 (by omega))))))) ?_
            refine y_istore hC dL_turns_91 (Nat.le_of_ble_eq_true rfl) rfl (lo' := [some (rf E (R)), some (rf E (Z)), some (.long (lN (x))), none, some (.int (bI (lcR ρ (k + 1) ∣ x))), some (.int (nI (8 + 8 * k))), some (.long (lN (oN ρ k))), none]) rfl ?_
            refine y_iinc_n hC dL_turns_93 (a := 8 + 8 * k) (k := 8) rfl (by decide) (Nat.le_of_ble_eq_true rfl) rfl (lo' := [some (rf E (R)), some (rf E (Z)), some (.long (lN (x))), none, some (.int (bI (lcR ρ (k + 1) ∣ x))), some (.int (nI (8 + 8 * k + 8))), some (.long (lN (oN ρ k))), none]) rfl ?_
            refine y_goto (tgt := 7) hC dL_turns_96 (by decide) ?_
            refine y_fg 6 (lo' := [some (rf E (R)), some (rf E (Z)), some (.long (lN (x))), none, some (.int (bI (lcR ρ (k + 1) ∣ x))), some (.int (nI (8 + 8 * k + 8))), none, none]) rfl ?_
            rw [show 8 + 8 * k + 8 = 8 + 8 * (k + 1) from by omega]
            exact ih_7 (k + 1) (by omega) (by omega)
          · refine y_aload_n hC dL_turns_68 (i := 0) rfl rfl ?_
            refine y_iload hC dL_turns_69 rfl ?_
            refine y_iconst (v := nI 4) hC dL_turns_71 (by decide) ?_
            refine y_iadd_n hC dL_turns_72 ?_
            refine y_iald hC dL_turns_73 (k := R) (j := (8 + 8 * k) + 4) hR hr (rfl) (by omega) (by decide) ?_
            refine y_top (y := nI (rg ρ k 4)) (hq.f4 hkk) ?_
            refine y_if_eq_n (tgt := 86) hC dL_turns_74 (by decide) (by omega) (fun c_74 => ?_) (fun c_74 => ?_)
            · refine y_iconst (v := nI 1) hC dL_turns_86 (by decide) ?_
              refine y_goto (tgt := 91) hC dL_turns_87 (by decide) ?_
              refine y_top (y := bI (lcR ρ (k + 1) ∣ x)) (by (first | exact nI_bt (lR_s.mpr ⟨c_65, fun e => absurd e (by omega)⟩) | exact nI_bt (lR_s.mpr ⟨c_65, fun _ => zdvd.mpr ((cz (by omega)).mp c_83)⟩) | exact nI_bf (fun q => c_65 (lR_s.mp q).1) | exact nI_bf (fun q => c_83 ((cz (by omega)).mpr (zdvd.mp ((lR_s.mp q).2 (by omega))))))) ?_
              refine y_istore hC dL_turns_91 (Nat.le_of_ble_eq_true rfl) rfl (lo' := [some (rf E (R)), some (rf E (Z)), some (.long (lN (x))), none, some (.int (bI (lcR ρ (k + 1) ∣ x))), some (.int (nI (8 + 8 * k))), some (.long (lN (oN ρ k))), none]) rfl ?_
              refine y_iinc_n hC dL_turns_93 (a := 8 + 8 * k) (k := 8) rfl (by decide) (Nat.le_of_ble_eq_true rfl) rfl (lo' := [some (rf E (R)), some (rf E (Z)), some (.long (lN (x))), none, some (.int (bI (lcR ρ (k + 1) ∣ x))), some (.int (nI (8 + 8 * k + 8))), some (.long (lN (oN ρ k))), none]) rfl ?_
              refine y_goto (tgt := 7) hC dL_turns_96 (by decide) ?_
              refine y_fg 6 (lo' := [some (rf E (R)), some (rf E (Z)), some (.long (lN (x))), none, some (.int (bI (lcR ρ (k + 1) ∣ x))), some (.int (nI (8 + 8 * k + 8))), none, none]) rfl ?_
              rw [show 8 + 8 * k + 8 = 8 + 8 * (k + 1) from by omega]
              exact ih_7 (k + 1) (by omega) (by omega)
            · refine y_lload_n hC dL_turns_77 (i := 2) rfl rfl ?_
              refine y_lload hC dL_turns_78 rfl ?_
              refine y_lrem hC dL_turns_80 (hne) ?_
              refine y_topl (y := lN (x % oN ρ k)) (pk_lRem hx hon.1 (by omega)) ?_
              refine y_lconst (v := lN 0) hC dL_turns_81 (by decide) ?_
              refine y_lcmp hC dL_turns_82 ?_
              refine y_if_ne (tgt := 90) hC dL_turns_83 (by decide) (fun c_83 => ?_) (fun c_83 => ?_)
              · refine y_iconst (v := nI 0) hC dL_turns_90 (by decide) ?_
                refine y_top (y := bI (lcR ρ (k + 1) ∣ x)) (by (first | exact nI_bt (lR_s.mpr ⟨c_65, fun e => absurd e (by omega)⟩) | exact nI_bt (lR_s.mpr ⟨c_65, fun _ => zdvd.mpr ((cz (by omega)).mp c_83)⟩) | exact nI_bf (fun q => c_65 (lR_s.mp q).1) | exact nI_bf (fun q => c_83 ((cz (by omega)).mpr (zdvd.mp ((lR_s.mp q).2 (by omega))))))) ?_
                refine y_istore hC dL_turns_91 (Nat.le_of_ble_eq_true rfl) rfl (lo' := [some (rf E (R)), some (rf E (Z)), some (.long (lN (x))), none, some (.int (bI (lcR ρ (k + 1) ∣ x))), some (.int (nI (8 + 8 * k))), some (.long (lN (oN ρ k))), none]) rfl ?_
                refine y_iinc_n hC dL_turns_93 (a := 8 + 8 * k) (k := 8) rfl (by decide) (Nat.le_of_ble_eq_true rfl) rfl (lo' := [some (rf E (R)), some (rf E (Z)), some (.long (lN (x))), none, some (.int (bI (lcR ρ (k + 1) ∣ x))), some (.int (nI (8 + 8 * k + 8))), some (.long (lN (oN ρ k))), none]) rfl ?_
                refine y_goto (tgt := 7) hC dL_turns_96 (by decide) ?_
                refine y_fg 6 (lo' := [some (rf E (R)), some (rf E (Z)), some (.long (lN (x))), none, some (.int (bI (lcR ρ (k + 1) ∣ x))), some (.int (nI (8 + 8 * k + 8))), none, none]) rfl ?_
                rw [show 8 + 8 * k + 8 = 8 + 8 * (k + 1) from by omega]
                exact ih_7 (k + 1) (by omega) (by omega)
              · refine y_iconst (v := nI 1) hC dL_turns_86 (by decide) ?_
                refine y_goto (tgt := 91) hC dL_turns_87 (by decide) ?_
                refine y_top (y := bI (lcR ρ (k + 1) ∣ x)) (by (first | exact nI_bt (lR_s.mpr ⟨c_65, fun e => absurd e (by omega)⟩) | exact nI_bt (lR_s.mpr ⟨c_65, fun _ => zdvd.mpr ((cz (by omega)).mp c_83)⟩) | exact nI_bf (fun q => c_65 (lR_s.mp q).1) | exact nI_bf (fun q => c_83 ((cz (by omega)).mpr (zdvd.mp ((lR_s.mp q).2 (by omega))))))) ?_
                refine y_istore hC dL_turns_91 (Nat.le_of_ble_eq_true rfl) rfl (lo' := [some (rf E (R)), some (rf E (Z)), some (.long (lN (x))), none, some (.int (bI (lcR ρ (k + 1) ∣ x))), some (.int (nI (8 + 8 * k))), some (.long (lN (oN ρ k))), none]) rfl ?_
                refine y_iinc_n hC dL_turns_93 (a := 8 + 8 * k) (k := 8) rfl (by decide) (Nat.le_of_ble_eq_true rfl) rfl (lo' := [some (rf E (R)), some (rf E (Z)), some (.long (lN (x))), none, some (.int (bI (lcR ρ (k + 1) ∣ x))), some (.int (nI (8 + 8 * k + 8))), some (.long (lN (oN ρ k))), none]) rfl ?_
                refine y_goto (tgt := 7) hC dL_turns_96 (by decide) ?_
                refine y_fg 6 (lo' := [some (rf E (R)), some (rf E (Z)), some (.long (lN (x))), none, some (.int (bI (lcR ρ (k + 1) ∣ x))), some (.int (nI (8 + 8 * k + 8))), none, none]) rfl ?_
                rw [show 8 + 8 * k + 8 = 8 + 8 * (k + 1) from by omega]
                exact ih_7 (k + 1) (by omega) (by omega)
        · refine y_iconst (v := nI 2) hC dL_turns_40 (by decide) ?_
          refine y_aload_n hC dL_turns_41 (i := 0) rfl rfl ?_
          refine y_iload hC dL_turns_42 rfl ?_
          refine y_iconst (v := nI 1) hC dL_turns_44 (by decide) ?_
          refine y_iadd_n hC dL_turns_45 ?_
          refine y_iald hC dL_turns_46 (k := R) (j := (8 + 8 * k) + 1) hR hr (rfl) (by omega) (by decide) ?_
          refine y_top (y := nI (nP ρ k)) (hq.f1 hkk) ?_
          refine y_imul_n hC dL_turns_47 ?_
          refine y_iconst (v := nI 2) hC dL_turns_48 (by decide) ?_
          refine y_isub_n hC dL_turns_49 (by omega) ?_
          refine y_goto (tgt := 59) hC dL_turns_50 (by decide) ?_
          refine y_i2l hC dL_turns_59 ?_
          refine y_topl (y := lN ((2 * (nP ρ k)) - (2))) (nI_l (by omega)) ?_
          refine y_lmul hC dL_turns_60 ?_
          refine y_topl (y := lN (oN ρ k)) (by rw [lN_mul]; refine congrArg lN ?_; unfold oN fsN; first | rw [if_pos (by omega)] | rw [if_neg (by omega)]) ?_
          refine y_lstore hC dL_turns_61 (Nat.le_of_ble_eq_true rfl) rfl (lo' := [some (rf E (R)), some (rf E (Z)), some (.long (lN (x))), none, some (.int (bI (lcR ρ k ∣ x))), some (.int (nI (8 + 8 * k))), some (.long (lN (oN ρ k))), none]) rfl ?_
          refine y_iload hC dL_turns_63 rfl ?_
          refine y_if_eq_b (tgt := 90) hC dL_turns_65 (by decide) (fun c_65 => ?_) (fun c_65 => ?_)
          · refine y_iconst (v := nI 0) hC dL_turns_90 (by decide) ?_
            refine y_top (y := bI (lcR ρ (k + 1) ∣ x)) (by (first | exact nI_bt (lR_s.mpr ⟨c_65, fun e => absurd e (by omega)⟩) | exact nI_bt (lR_s.mpr ⟨c_65, fun _ => zdvd.mpr ((cz (by omega)).mp c_83)⟩) | exact nI_bf (fun q => c_65 (lR_s.mp q).1) | exact nI_bf (fun q => c_83 ((cz (by omega)).mpr (zdvd.mp ((lR_s.mp q).2 (by omega))))))) ?_
            refine y_istore hC dL_turns_91 (Nat.le_of_ble_eq_true rfl) rfl (lo' := [some (rf E (R)), some (rf E (Z)), some (.long (lN (x))), none, some (.int (bI (lcR ρ (k + 1) ∣ x))), some (.int (nI (8 + 8 * k))), some (.long (lN (oN ρ k))), none]) rfl ?_
            refine y_iinc_n hC dL_turns_93 (a := 8 + 8 * k) (k := 8) rfl (by decide) (Nat.le_of_ble_eq_true rfl) rfl (lo' := [some (rf E (R)), some (rf E (Z)), some (.long (lN (x))), none, some (.int (bI (lcR ρ (k + 1) ∣ x))), some (.int (nI (8 + 8 * k + 8))), some (.long (lN (oN ρ k))), none]) rfl ?_
            refine y_goto (tgt := 7) hC dL_turns_96 (by decide) ?_
            refine y_fg 6 (lo' := [some (rf E (R)), some (rf E (Z)), some (.long (lN (x))), none, some (.int (bI (lcR ρ (k + 1) ∣ x))), some (.int (nI (8 + 8 * k + 8))), none, none]) rfl ?_
            rw [show 8 + 8 * k + 8 = 8 + 8 * (k + 1) from by omega]
            exact ih_7 (k + 1) (by omega) (by omega)
          · refine y_aload_n hC dL_turns_68 (i := 0) rfl rfl ?_
            refine y_iload hC dL_turns_69 rfl ?_
            refine y_iconst (v := nI 4) hC dL_turns_71 (by decide) ?_
            refine y_iadd_n hC dL_turns_72 ?_
            refine y_iald hC dL_turns_73 (k := R) (j := (8 + 8 * k) + 4) hR hr (rfl) (by omega) (by decide) ?_
            refine y_top (y := nI (rg ρ k 4)) (hq.f4 hkk) ?_
            refine y_if_eq_n (tgt := 86) hC dL_turns_74 (by decide) (by omega) (fun c_74 => ?_) (fun c_74 => ?_)
            · refine y_iconst (v := nI 1) hC dL_turns_86 (by decide) ?_
              refine y_goto (tgt := 91) hC dL_turns_87 (by decide) ?_
              refine y_top (y := bI (lcR ρ (k + 1) ∣ x)) (by (first | exact nI_bt (lR_s.mpr ⟨c_65, fun e => absurd e (by omega)⟩) | exact nI_bt (lR_s.mpr ⟨c_65, fun _ => zdvd.mpr ((cz (by omega)).mp c_83)⟩) | exact nI_bf (fun q => c_65 (lR_s.mp q).1) | exact nI_bf (fun q => c_83 ((cz (by omega)).mpr (zdvd.mp ((lR_s.mp q).2 (by omega))))))) ?_
              refine y_istore hC dL_turns_91 (Nat.le_of_ble_eq_true rfl) rfl (lo' := [some (rf E (R)), some (rf E (Z)), some (.long (lN (x))), none, some (.int (bI (lcR ρ (k + 1) ∣ x))), some (.int (nI (8 + 8 * k))), some (.long (lN (oN ρ k))), none]) rfl ?_
              refine y_iinc_n hC dL_turns_93 (a := 8 + 8 * k) (k := 8) rfl (by decide) (Nat.le_of_ble_eq_true rfl) rfl (lo' := [some (rf E (R)), some (rf E (Z)), some (.long (lN (x))), none, some (.int (bI (lcR ρ (k + 1) ∣ x))), some (.int (nI (8 + 8 * k + 8))), some (.long (lN (oN ρ k))), none]) rfl ?_
              refine y_goto (tgt := 7) hC dL_turns_96 (by decide) ?_
              refine y_fg 6 (lo' := [some (rf E (R)), some (rf E (Z)), some (.long (lN (x))), none, some (.int (bI (lcR ρ (k + 1) ∣ x))), some (.int (nI (8 + 8 * k + 8))), none, none]) rfl ?_
              rw [show 8 + 8 * k + 8 = 8 + 8 * (k + 1) from by omega]
              exact ih_7 (k + 1) (by omega) (by omega)
            · refine y_lload_n hC dL_turns_77 (i := 2) rfl rfl ?_
              refine y_lload hC dL_turns_78 rfl ?_
              refine y_lrem hC dL_turns_80 (hne) ?_
              refine y_topl (y := lN (x % oN ρ k)) (pk_lRem hx hon.1 (by omega)) ?_
              refine y_lconst (v := lN 0) hC dL_turns_81 (by decide) ?_
              refine y_lcmp hC dL_turns_82 ?_
              refine y_if_ne (tgt := 90) hC dL_turns_83 (by decide) (fun c_83 => ?_) (fun c_83 => ?_)
              · refine y_iconst (v := nI 0) hC dL_turns_90 (by decide) ?_
                refine y_top (y := bI (lcR ρ (k + 1) ∣ x)) (by (first | exact nI_bt (lR_s.mpr ⟨c_65, fun e => absurd e (by omega)⟩) | exact nI_bt (lR_s.mpr ⟨c_65, fun _ => zdvd.mpr ((cz (by omega)).mp c_83)⟩) | exact nI_bf (fun q => c_65 (lR_s.mp q).1) | exact nI_bf (fun q => c_83 ((cz (by omega)).mpr (zdvd.mp ((lR_s.mp q).2 (by omega))))))) ?_
                refine y_istore hC dL_turns_91 (Nat.le_of_ble_eq_true rfl) rfl (lo' := [some (rf E (R)), some (rf E (Z)), some (.long (lN (x))), none, some (.int (bI (lcR ρ (k + 1) ∣ x))), some (.int (nI (8 + 8 * k))), some (.long (lN (oN ρ k))), none]) rfl ?_
                refine y_iinc_n hC dL_turns_93 (a := 8 + 8 * k) (k := 8) rfl (by decide) (Nat.le_of_ble_eq_true rfl) rfl (lo' := [some (rf E (R)), some (rf E (Z)), some (.long (lN (x))), none, some (.int (bI (lcR ρ (k + 1) ∣ x))), some (.int (nI (8 + 8 * k + 8))), some (.long (lN (oN ρ k))), none]) rfl ?_
                refine y_goto (tgt := 7) hC dL_turns_96 (by decide) ?_
                refine y_fg 6 (lo' := [some (rf E (R)), some (rf E (Z)), some (.long (lN (x))), none, some (.int (bI (lcR ρ (k + 1) ∣ x))), some (.int (nI (8 + 8 * k + 8))), none, none]) rfl ?_
                rw [show 8 + 8 * k + 8 = 8 + 8 * (k + 1) from by omega]
                exact ih_7 (k + 1) (by omega) (by omega)
              · refine y_iconst (v := nI 1) hC dL_turns_86 (by decide) ?_
                refine y_goto (tgt := 91) hC dL_turns_87 (by decide) ?_
                refine y_top (y := bI (lcR ρ (k + 1) ∣ x)) (by (first | exact nI_bt (lR_s.mpr ⟨c_65, fun e => absurd e (by omega)⟩) | exact nI_bt (lR_s.mpr ⟨c_65, fun _ => zdvd.mpr ((cz (by omega)).mp c_83)⟩) | exact nI_bf (fun q => c_65 (lR_s.mp q).1) | exact nI_bf (fun q => c_83 ((cz (by omega)).mpr (zdvd.mp ((lR_s.mp q).2 (by omega))))))) ?_
                refine y_istore hC dL_turns_91 (Nat.le_of_ble_eq_true rfl) rfl (lo' := [some (rf E (R)), some (rf E (Z)), some (.long (lN (x))), none, some (.int (bI (lcR ρ (k + 1) ∣ x))), some (.int (nI (8 + 8 * k))), some (.long (lN (oN ρ k))), none]) rfl ?_
                refine y_iinc_n hC dL_turns_93 (a := 8 + 8 * k) (k := 8) rfl (by decide) (Nat.le_of_ble_eq_true rfl) rfl (lo' := [some (rf E (R)), some (rf E (Z)), some (.long (lN (x))), none, some (.int (bI (lcR ρ (k + 1) ∣ x))), some (.int (nI (8 + 8 * k + 8))), some (.long (lN (oN ρ k))), none]) rfl ?_
                refine y_goto (tgt := 7) hC dL_turns_96 (by decide) ?_
                refine y_fg 6 (lo' := [some (rf E (R)), some (rf E (Z)), some (.long (lN (x))), none, some (.int (bI (lcR ρ (k + 1) ∣ x))), some (.int (nI (8 + 8 * k + 8))), none, none]) rfl ?_
                rw [show 8 + 8 * k + 8 = 8 + 8 * (k + 1) from by omega]
                exact ih_7 (k + 1) (by omega) (by omega)
  exact L_7 (rc ρ + 1) 0 (by omega) (by omega)

theorem ft_min {n b : Nat} (h0 : 0 < n) (hb : 2 ≤ b) (hz : n % b = 0) : ¬ n ∣ n / b := fun h => by
  have hp : 0 < n / b := Nat.div_pos (Nat.le_of_dvd h0 (zdvd.mpr hz)) (by omega)
  have h1 := Nat.le_of_dvd hp h
  have h2 := Nat.div_lt_self h0 (show 1 < b by omega)
  omega
theorem dL_isTurn_0 : decode cL_isTurn 0 = .ok (.aload_n 0, 1) := by decide +kernel
theorem dL_isTurn_1 : decode cL_isTurn 1 = .ok (.invokevirtual 85, 3) := by decide +kernel
theorem dL_isTurn_4 : decode cL_isTurn 4 = .ok (.lstore_n 3, 1) := by decide +kernel
theorem dL_isTurn_5 : decode cL_isTurn 5 = .ok (.lload_n 3, 1) := by decide +kernel
theorem dL_isTurn_6 : decode cL_isTurn 6 = .ok (.lconst 0, 1) := by decide +kernel
theorem dL_isTurn_7 : decode cL_isTurn 7 = .ok (.lcmp, 1) := by decide +kernel
theorem dL_isTurn_8 : decode cL_isTurn 8 = .ok (.ifCond .le 7, 3) := by decide +kernel
theorem dL_isTurn_11 : decode cL_isTurn 11 = .ok (.iconst 1, 1) := by decide +kernel
theorem dL_isTurn_12 : decode cL_isTurn 12 = .ok (.goto 4, 3) := by decide +kernel
theorem dL_isTurn_15 : decode cL_isTurn 15 = .ok (.iconst 0, 1) := by decide +kernel
theorem dL_isTurn_16 : decode cL_isTurn 16 = .ok (.istore 5, 2) := by decide +kernel
theorem dL_isTurn_18 : decode cL_isTurn 18 = .ok (.bipush 8, 2) := by decide +kernel
theorem dL_isTurn_20 : decode cL_isTurn 20 = .ok (.istore 6, 2) := by decide +kernel
theorem dL_isTurn_22 : decode cL_isTurn 22 = .ok (.iload 6, 2) := by decide +kernel
theorem dL_isTurn_24 : decode cL_isTurn 24 = .ok (.bipush 8, 2) := by decide +kernel
theorem dL_isTurn_26 : decode cL_isTurn 26 = .ok (.bipush 8, 2) := by decide +kernel
theorem dL_isTurn_28 : decode cL_isTurn 28 = .ok (.aload_n 1, 1) := by decide +kernel
theorem dL_isTurn_29 : decode cL_isTurn 29 = .ok (.iconst 0, 1) := by decide +kernel
theorem dL_isTurn_30 : decode cL_isTurn 30 = .ok (.iaload, 1) := by decide +kernel
theorem dL_isTurn_31 : decode cL_isTurn 31 = .ok (.imul, 1) := by decide +kernel
theorem dL_isTurn_32 : decode cL_isTurn 32 = .ok (.iadd, 1) := by decide +kernel
theorem dL_isTurn_33 : decode cL_isTurn 33 = .ok (.if_icmp .ge 81, 3) := by decide +kernel
theorem dL_isTurn_36 : decode cL_isTurn 36 = .ok (.lconst 1, 1) := by decide +kernel
theorem dL_isTurn_37 : decode cL_isTurn 37 = .ok (.aload_n 1, 1) := by decide +kernel
theorem dL_isTurn_38 : decode cL_isTurn 38 = .ok (.iload 6, 2) := by decide +kernel
theorem dL_isTurn_40 : decode cL_isTurn 40 = .ok (.iconst 2, 1) := by decide +kernel
theorem dL_isTurn_41 : decode cL_isTurn 41 = .ok (.iadd, 1) := by decide +kernel
theorem dL_isTurn_42 : decode cL_isTurn 42 = .ok (.iaload, 1) := by decide +kernel
theorem dL_isTurn_43 : decode cL_isTurn 43 = .ok (.i2l, 1) := by decide +kernel
theorem dL_isTurn_44 : decode cL_isTurn 44 = .ok (.lmul, 1) := by decide +kernel
theorem dL_isTurn_45 : decode cL_isTurn 45 = .ok (.aload_n 1, 1) := by decide +kernel
theorem dL_isTurn_46 : decode cL_isTurn 46 = .ok (.iload 6, 2) := by decide +kernel
theorem dL_isTurn_48 : decode cL_isTurn 48 = .ok (.iconst 3, 1) := by decide +kernel
theorem dL_isTurn_49 : decode cL_isTurn 49 = .ok (.iadd, 1) := by decide +kernel
theorem dL_isTurn_50 : decode cL_isTurn 50 = .ok (.iaload, 1) := by decide +kernel
theorem dL_isTurn_51 : decode cL_isTurn 51 = .ok (.iconst 2, 1) := by decide +kernel
theorem dL_isTurn_52 : decode cL_isTurn 52 = .ok (.if_icmp .ne 16, 3) := by decide +kernel
theorem dL_isTurn_55 : decode cL_isTurn 55 = .ok (.iconst 2, 1) := by decide +kernel
theorem dL_isTurn_56 : decode cL_isTurn 56 = .ok (.aload_n 1, 1) := by decide +kernel
theorem dL_isTurn_57 : decode cL_isTurn 57 = .ok (.iload 6, 2) := by decide +kernel
theorem dL_isTurn_59 : decode cL_isTurn 59 = .ok (.iconst 1, 1) := by decide +kernel
theorem dL_isTurn_60 : decode cL_isTurn 60 = .ok (.iadd, 1) := by decide +kernel
theorem dL_isTurn_61 : decode cL_isTurn 61 = .ok (.iaload, 1) := by decide +kernel
theorem dL_isTurn_62 : decode cL_isTurn 62 = .ok (.imul, 1) := by decide +kernel
theorem dL_isTurn_63 : decode cL_isTurn 63 = .ok (.iconst 2, 1) := by decide +kernel
theorem dL_isTurn_64 : decode cL_isTurn 64 = .ok (.isub, 1) := by decide +kernel
theorem dL_isTurn_65 : decode cL_isTurn 65 = .ok (.goto 9, 3) := by decide +kernel
theorem dL_isTurn_68 : decode cL_isTurn 68 = .ok (.aload_n 1, 1) := by decide +kernel
theorem dL_isTurn_69 : decode cL_isTurn 69 = .ok (.iload 6, 2) := by decide +kernel
theorem dL_isTurn_71 : decode cL_isTurn 71 = .ok (.iconst 1, 1) := by decide +kernel
theorem dL_isTurn_72 : decode cL_isTurn 72 = .ok (.iadd, 1) := by decide +kernel
theorem dL_isTurn_73 : decode cL_isTurn 73 = .ok (.iaload, 1) := by decide +kernel
theorem dL_isTurn_74 : decode cL_isTurn 74 = .ok (.i2l, 1) := by decide +kernel
theorem dL_isTurn_75 : decode cL_isTurn 75 = .ok (.lmul, 1) := by decide +kernel
theorem dL_isTurn_76 : decode cL_isTurn 76 = .ok (.lstore 7, 2) := by decide +kernel
theorem dL_isTurn_78 : decode cL_isTurn 78 = .ok (.iload 5, 2) := by decide +kernel
theorem dL_isTurn_80 : decode cL_isTurn 80 = .ok (.ifCond .eq 25, 3) := by decide +kernel
theorem dL_isTurn_83 : decode cL_isTurn 83 = .ok (.aload_n 1, 1) := by decide +kernel
theorem dL_isTurn_84 : decode cL_isTurn 84 = .ok (.iload 6, 2) := by decide +kernel
theorem dL_isTurn_86 : decode cL_isTurn 86 = .ok (.iconst 4, 1) := by decide +kernel
theorem dL_isTurn_87 : decode cL_isTurn 87 = .ok (.iadd, 1) := by decide +kernel
theorem dL_isTurn_88 : decode cL_isTurn 88 = .ok (.iaload, 1) := by decide +kernel
theorem dL_isTurn_89 : decode cL_isTurn 89 = .ok (.ifCond .eq 12, 3) := by decide +kernel
theorem dL_isTurn_92 : decode cL_isTurn 92 = .ok (.lload_n 3, 1) := by decide +kernel
theorem dL_isTurn_93 : decode cL_isTurn 93 = .ok (.lload 7, 2) := by decide +kernel
theorem dL_isTurn_95 : decode cL_isTurn 95 = .ok (.lrem, 1) := by decide +kernel
theorem dL_isTurn_96 : decode cL_isTurn 96 = .ok (.lconst 0, 1) := by decide +kernel
theorem dL_isTurn_97 : decode cL_isTurn 97 = .ok (.lcmp, 1) := by decide +kernel
theorem dL_isTurn_98 : decode cL_isTurn 98 = .ok (.ifCond .ne 7, 3) := by decide +kernel
theorem dL_isTurn_101 : decode cL_isTurn 101 = .ok (.iconst 1, 1) := by decide +kernel
theorem dL_isTurn_102 : decode cL_isTurn 102 = .ok (.goto 4, 3) := by decide +kernel
theorem dL_isTurn_105 : decode cL_isTurn 105 = .ok (.iconst 0, 1) := by decide +kernel
theorem dL_isTurn_106 : decode cL_isTurn 106 = .ok (.istore 5, 2) := by decide +kernel
theorem dL_isTurn_108 : decode cL_isTurn 108 = .ok (.iinc 6 8, 3) := by decide +kernel
theorem dL_isTurn_111 : decode cL_isTurn 111 = .ok (.goto (-89), 3) := by decide +kernel
theorem dL_isTurn_114 : decode cL_isTurn 114 = .ok (.iconst 4, 1) := by decide +kernel
theorem dL_isTurn_115 : decode cL_isTurn 115 = .ok (.istore 6, 2) := by decide +kernel
theorem dL_isTurn_117 : decode cL_isTurn 117 = .ok (.iload 6, 2) := by decide +kernel
theorem dL_isTurn_119 : decode cL_isTurn 119 = .ok (.iconst 4, 1) := by decide +kernel
theorem dL_isTurn_120 : decode cL_isTurn 120 = .ok (.iconst 4, 1) := by decide +kernel
theorem dL_isTurn_121 : decode cL_isTurn 121 = .ok (.aload_n 2, 1) := by decide +kernel
theorem dL_isTurn_122 : decode cL_isTurn 122 = .ok (.iconst 0, 1) := by decide +kernel
theorem dL_isTurn_123 : decode cL_isTurn 123 = .ok (.iaload, 1) := by decide +kernel
theorem dL_isTurn_124 : decode cL_isTurn 124 = .ok (.imul, 1) := by decide +kernel
theorem dL_isTurn_125 : decode cL_isTurn 125 = .ok (.iadd, 1) := by decide +kernel
theorem dL_isTurn_126 : decode cL_isTurn 126 = .ok (.if_icmp .ge 39, 3) := by decide +kernel
theorem dL_isTurn_129 : decode cL_isTurn 129 = .ok (.iload 5, 2) := by decide +kernel
theorem dL_isTurn_131 : decode cL_isTurn 131 = .ok (.ifCond .eq 25, 3) := by decide +kernel
theorem dL_isTurn_134 : decode cL_isTurn 134 = .ok (.lload_n 3, 1) := by decide +kernel
theorem dL_isTurn_135 : decode cL_isTurn 135 = .ok (.ldc2_w 89, 3) := by decide +kernel
theorem dL_isTurn_138 : decode cL_isTurn 138 = .ok (.aload_n 2, 1) := by decide +kernel
theorem dL_isTurn_139 : decode cL_isTurn 139 = .ok (.iload 6, 2) := by decide +kernel
theorem dL_isTurn_141 : decode cL_isTurn 141 = .ok (.iconst 2, 1) := by decide +kernel
theorem dL_isTurn_142 : decode cL_isTurn 142 = .ok (.iadd, 1) := by decide +kernel
theorem dL_isTurn_143 : decode cL_isTurn 143 = .ok (.iaload, 1) := by decide +kernel
theorem dL_isTurn_144 : decode cL_isTurn 144 = .ok (.i2l, 1) := by decide +kernel
theorem dL_isTurn_145 : decode cL_isTurn 145 = .ok (.lmul, 1) := by decide +kernel
theorem dL_isTurn_146 : decode cL_isTurn 146 = .ok (.lrem, 1) := by decide +kernel
theorem dL_isTurn_147 : decode cL_isTurn 147 = .ok (.lconst 0, 1) := by decide +kernel
theorem dL_isTurn_148 : decode cL_isTurn 148 = .ok (.lcmp, 1) := by decide +kernel
theorem dL_isTurn_149 : decode cL_isTurn 149 = .ok (.ifCond .ne 7, 3) := by decide +kernel
theorem dL_isTurn_152 : decode cL_isTurn 152 = .ok (.iconst 1, 1) := by decide +kernel
theorem dL_isTurn_153 : decode cL_isTurn 153 = .ok (.goto 4, 3) := by decide +kernel
theorem dL_isTurn_156 : decode cL_isTurn 156 = .ok (.iconst 0, 1) := by decide +kernel
theorem dL_isTurn_157 : decode cL_isTurn 157 = .ok (.istore 5, 2) := by decide +kernel
theorem dL_isTurn_159 : decode cL_isTurn 159 = .ok (.iinc 6 4, 3) := by decide +kernel
theorem dL_isTurn_162 : decode cL_isTurn 162 = .ok (.goto (-45), 3) := by decide +kernel
theorem dL_isTurn_165 : decode cL_isTurn 165 = .ok (.iconst 2, 1) := by decide +kernel
theorem dL_isTurn_166 : decode cL_isTurn 166 = .ok (.istore 6, 2) := by decide +kernel
theorem dL_isTurn_168 : decode cL_isTurn 168 = .ok (.iload 6, 2) := by decide +kernel
theorem dL_isTurn_170 : decode cL_isTurn 170 = .ok (.bipush 62, 2) := by decide +kernel
theorem dL_isTurn_172 : decode cL_isTurn 172 = .ok (.if_icmp .ge 44, 3) := by decide +kernel
theorem dL_isTurn_175 : decode cL_isTurn 175 = .ok (.iload 5, 2) := by decide +kernel
theorem dL_isTurn_177 : decode cL_isTurn 177 = .ok (.ifCond .eq 39, 3) := by decide +kernel
theorem dL_isTurn_180 : decode cL_isTurn 180 = .ok (.lload_n 3, 1) := by decide +kernel
theorem dL_isTurn_181 : decode cL_isTurn 181 = .ok (.iload 6, 2) := by decide +kernel
theorem dL_isTurn_183 : decode cL_isTurn 183 = .ok (.i2l, 1) := by decide +kernel
theorem dL_isTurn_184 : decode cL_isTurn 184 = .ok (.lrem, 1) := by decide +kernel
theorem dL_isTurn_185 : decode cL_isTurn 185 = .ok (.lconst 0, 1) := by decide +kernel
theorem dL_isTurn_186 : decode cL_isTurn 186 = .ok (.lcmp, 1) := by decide +kernel
theorem dL_isTurn_187 : decode cL_isTurn 187 = .ok (.ifCond .ne 16, 3) := by decide +kernel
theorem dL_isTurn_190 : decode cL_isTurn 190 = .ok (.aload_n 1, 1) := by decide +kernel
theorem dL_isTurn_191 : decode cL_isTurn 191 = .ok (.aload_n 2, 1) := by decide +kernel
theorem dL_isTurn_192 : decode cL_isTurn 192 = .ok (.lload_n 3, 1) := by decide +kernel
theorem dL_isTurn_193 : decode cL_isTurn 193 = .ok (.iload 6, 2) := by decide +kernel
theorem dL_isTurn_195 : decode cL_isTurn 195 = .ok (.i2l, 1) := by decide +kernel
theorem dL_isTurn_196 : decode cL_isTurn 196 = .ok (.ldiv, 1) := by decide +kernel
theorem dL_isTurn_197 : decode cL_isTurn 197 = .ok (.invokestatic 91, 3) := by decide +kernel
theorem dL_isTurn_200 : decode cL_isTurn 200 = .ok (.ifCond .ne 7, 3) := by decide +kernel
theorem dL_isTurn_203 : decode cL_isTurn 203 = .ok (.iconst 1, 1) := by decide +kernel
theorem dL_isTurn_204 : decode cL_isTurn 204 = .ok (.goto 4, 3) := by decide +kernel
theorem dL_isTurn_207 : decode cL_isTurn 207 = .ok (.iconst 0, 1) := by decide +kernel
theorem dL_isTurn_208 : decode cL_isTurn 208 = .ok (.istore 5, 2) := by decide +kernel
theorem dL_isTurn_210 : decode cL_isTurn 210 = .ok (.iinc 6 1, 3) := by decide +kernel
theorem dL_isTurn_213 : decode cL_isTurn 213 = .ok (.goto (-45), 3) := by decide +kernel
theorem dL_isTurn_216 : decode cL_isTurn 216 = .ok (.iload 5, 2) := by decide +kernel
theorem dL_isTurn_218 : decode cL_isTurn 218 = .ok (.ireturn, 1) := by decide +kernel
set_option maxHeartbeats 4000000 in
set_option maxRecDepth 100000 in
theorem c_L_isTurn (l : Launch) (E : gE) (g : Mem) (Ec : gE) (S : AS) (c r h p : Nat → Int32) (hL : LWP Ec E g S c r h p) (B M : Nat) (hB : B ≤ 10000000) (hM : M ≤ 100000000) (ho : OK S B) (a K : Nat → Nat)(hq : RgL S.r r a K M) (hg : GlL S.r h) : Mt l E yL_isTurn cL_isTurn 9 (some .boolean) 3 78 [rf E (0), rf E (101), rf E (102)] g (pI (fun z g' => z = nI 1 ∧ LWP Ec E g' S c r h p)) := by
  have hv := ho.v
  have hrc : rc S.r ≤ 6 := hv.1.2
  have hgc : gc S.r ≤ 4 := hv.2.1.2
  have hfp : 0 < ftN S.r := lcG_pos hv _ (Nat.le_refl _)
  have hfb : ftN S.r ≤ 2000000000000000000 := lcG_b hv (Nat.le_refl _)
  refine mt_go (own := RXL) (by decide) rfl (lo := [some (rf E (0)), some (rf E (101)), some (rf E (102)), none, none, none, none, none, none]) rfl (Nat.le_of_ble_eq_true rfl) (fun X hC => ?_)
  refine y_aload_n hC dL_isTurn_0 (i := 0) rfl rfl ?_
  refine y_callVF hC hL.s mX5_fullTurn kXL_85 dL_isTurn_1 (b := 0) (As := []) (rest := []) (CPm hL.cp (fun sh mk wa hcq => c_X5_fullTurn l Ec g S B (by omega) ho sh mk wa hcq)) hL.k0 hL.a0 rfl rfl rfl (Nat.le_of_ble_eq_true rfl) ⟨Nat.le_of_ble_eq_true rfl, Nat.le_of_ble_eq_true rfl⟩ (pkf_l ?_)
  rintro r_1 g_1 ⟨hr_1, hc_1⟩
  rw [hr_1]
  clear hr_1 r_1
  have hL_1 := hL.call hc_1
  generalize mrg (eK Ec) g_1 g = G_1 at hL_1  ⊢
  refine y_lstore_n hC dL_isTurn_4 (i := 3) rfl (Nat.le_of_ble_eq_true rfl) rfl (lo' := [some (rf E (0)), some (rf E (101)), some (rf E (102)), some (.long (lN (ftN S.r))), none, none, none, none, none]) rfl ?_
  refine y_lload_n hC dL_isTurn_5 (i := 3) rfl rfl ?_
  refine y_lconst (v := lN 0) hC dL_isTurn_6 (by decide) ?_
  refine y_lcmp hC dL_isTurn_7 ?_
  refine y_if_le (tgt := 15) hC dL_isTurn_8 (by decide) (fun c_8 => ?_) (fun c_8 => ?_)
  · exact absurd ((pk_lLE (by omega) (by decide)).mp ((lg_cmp_le _ _).mp c_8)) (by omega)
  · refine y_iconst (v := nI 1) hC dL_isTurn_11 (by decide) ?_
    refine y_goto (tgt := 16) hC dL_isTurn_12 (by decide) ?_
    refine y_istore hC dL_isTurn_16 (Nat.le_of_ble_eq_true rfl) rfl (lo' := [some (rf E (0)), some (rf E (101)), some (rf E (102)), some (.long (lN (ftN S.r))), none, some (.int (nI (1))), none, none, none]) rfl ?_
    refine y_bipush (v := nI 8) hC dL_isTurn_18 (by decide) ?_
    refine y_istore hC dL_isTurn_20 (Nat.le_of_ble_eq_true rfl) rfl (lo' := [some (rf E (0)), some (rf E (101)), some (rf E (102)), some (.long (lN (ftN S.r))), none, some (.int (nI (1))), some (.int (nI (8))), none, none]) rfl ?_
    have L_22 : ∀ (m : Nat) (k : Nat), (hm : rc S.r - k < m) → (hk : k ≤ rc S.r) → Y l E X (pI (fun z g' => z = nI 1 ∧ LWP Ec E g' S c r h p)) 22 [some (rf E (0)), some (rf E (101)), some (rf E (102)), some (.long (lN (ftN S.r))), none, some (.int (nI (1))), some (.int (nI (8 + 8 * k))), none, none] [] G_1 := by
      intro m
      induction m with
      | zero => intro k hm hk; exact absurd hm (Nat.not_lt_zero _)
      | succ m ih_22 =>
        intro k hm hk
        refine y_iload hC dL_isTurn_22 rfl ?_
        refine y_bipush (v := nI 8) hC dL_isTurn_24 (by decide) ?_
        refine y_bipush (v := nI 8) hC dL_isTurn_26 (by decide) ?_
        refine y_aload_n hC dL_isTurn_28 (i := 1) rfl rfl ?_
        refine y_iconst (v := nI 0) hC dL_isTurn_29 (by decide) ?_
        refine y_iald hC dL_isTurn_30 (k := 101) (j := 0) (by have := hL_1.k; omega) hL_1.a101 (rfl) (by omega) (by decide) ?_
        refine y_top (y := nI (rc S.r)) (hq.n) ?_
        refine y_imul_n hC dL_isTurn_31 ?_
        refine y_iadd_n hC dL_isTurn_32 ?_
        refine y_icmp_ge_n (tgt := 114) hC dL_isTurn_33 (by decide) (by omega) (by omega) (fun c_33 => ?_) (fun c_33 => ?_)
        · refine y_iconst (v := nI 4) hC dL_isTurn_114 (by decide) ?_
          refine y_istore hC dL_isTurn_115 (Nat.le_of_ble_eq_true rfl) rfl (lo' := [some (rf E (0)), some (rf E (101)), some (rf E (102)), some (.long (lN (ftN S.r))), none, some (.int (nI (1))), some (.int (nI (4))), none, none]) rfl ?_
          have L_117 : ∀ (m : Nat) (k : Nat), (hm : gc S.r - k < m) → (hk : k ≤ gc S.r) → Y l E X (pI (fun z g' => z = nI 1 ∧ LWP Ec E g' S c r h p)) 117 [some (rf E (0)), some (rf E (101)), some (rf E (102)), some (.long (lN (ftN S.r))), none, some (.int (nI (1))), some (.int (nI (4 + 4 * k))), none, none] [] G_1 := by
            intro m
            induction m with
            | zero => intro k hm hk; exact absurd hm (Nat.not_lt_zero _)
            | succ m ih_117 =>
              intro k hm hk
              refine y_iload hC dL_isTurn_117 rfl ?_
              refine y_iconst (v := nI 4) hC dL_isTurn_119 (by decide) ?_
              refine y_iconst (v := nI 4) hC dL_isTurn_120 (by decide) ?_
              refine y_aload_n hC dL_isTurn_121 (i := 2) rfl rfl ?_
              refine y_iconst (v := nI 0) hC dL_isTurn_122 (by decide) ?_
              refine y_iald hC dL_isTurn_123 (k := 102) (j := 0) (by have := hL_1.k; omega) hL_1.a102 (rfl) (by omega) (by decide) ?_
              refine y_top (y := nI (gc S.r)) (hg.n) ?_
              refine y_imul_n hC dL_isTurn_124 ?_
              refine y_iadd_n hC dL_isTurn_125 ?_
              refine y_icmp_ge_n (tgt := 165) hC dL_isTurn_126 (by decide) (by omega) (by omega) (fun c_126 => ?_) (fun c_126 => ?_)
              · refine y_iconst (v := nI 2) hC dL_isTurn_165 (by decide) ?_
                refine y_istore hC dL_isTurn_166 (Nat.le_of_ble_eq_true rfl) rfl (lo' := [some (rf E (0)), some (rf E (101)), some (rf E (102)), some (.long (lN (ftN S.r))), none, some (.int (nI (1))), some (.int (nI (2))), none, none]) rfl ?_
                have L_168 : ∀ (m : Nat) (b : Nat), (hm : 62 - b < m) → (hb1 : 2 ≤ b) → (hb2 : b ≤ 62) → Y l E X (pI (fun z g' => z = nI 1 ∧ LWP Ec E g' S c r h p)) 168 [some (rf E (0)), some (rf E (101)), some (rf E (102)), some (.long (lN (ftN S.r))), none, some (.int (nI (1))), some (.int (nI (b))), none, none] [] G_1 := by
                  intro m
                  induction m with
                  | zero => intro b hm hb1 hb2; exact absurd hm (Nat.not_lt_zero _)
                  | succ m ih_168 =>
                    intro b hm hb1 hb2
                    refine y_iload hC dL_isTurn_168 rfl ?_
                    refine y_bipush (v := nI 62) hC dL_isTurn_170 (by decide) ?_
                    refine y_icmp_ge_n (tgt := 216) hC dL_isTurn_172 (by decide) (by omega) (by omega) (fun c_172 => ?_) (fun c_172 => ?_)
                    · refine y_iload hC dL_isTurn_216 rfl ?_
                      refine y_zret (hrt := rfl) (hn := rfl) (hC := hC) (hd := dL_isTurn_218) (hq := ?_)
                      exact ⟨rfl, hL_1⟩
                    · refine y_iload hC dL_isTurn_175 rfl ?_
                      refine y_if_eq_n (tgt := 216) hC dL_isTurn_177 (by decide) (by omega) (fun c_177 => ?_) (fun c_177 => ?_)
                      · exfalso
                        omega
                      · have hne : ¬ lN b = 0 := fun q => by
                          have := (pk_lEQ (a := b) (b := 0) (by omega) (by decide)).mp q
                          omega
                        have hml := Nat.mod_lt (ftN S.r) (show 0 < b by omega)
                        have hdb : ftN S.r / b < 2 ^ 63 := by
                          have := Nat.div_le_self (ftN S.r) b
                          omega
                        refine y_lload_n hC dL_isTurn_180 (i := 3) rfl rfl ?_
                        refine y_iload hC dL_isTurn_181 rfl ?_
                        refine y_i2l hC dL_isTurn_183 ?_
                        refine y_topl (y := lN (b)) (nI_l (by omega)) ?_
                        refine y_lrem hC dL_isTurn_184 (hne) ?_
                        refine y_topl (y := lN (ftN S.r % b)) (pk_lRem (by omega) (by omega) (by omega)) ?_
                        refine y_lconst (v := lN 0) hC dL_isTurn_185 (by decide) ?_
                        refine y_lcmp hC dL_isTurn_186 ?_
                        refine y_if_ne (tgt := 203) hC dL_isTurn_187 (by decide) (fun c_187 => ?_) (fun c_187 => ?_)
                        · refine y_iconst (v := nI 1) hC dL_isTurn_203 (by decide) ?_
                          refine y_goto (tgt := 208) hC dL_isTurn_204 (by decide) ?_
                          refine y_istore hC dL_isTurn_208 (Nat.le_of_ble_eq_true rfl) rfl (lo' := [some (rf E (0)), some (rf E (101)), some (rf E (102)), some (.long (lN (ftN S.r))), none, some (.int (nI (1))), some (.int (nI (b))), none, none]) rfl ?_
                          refine y_iinc_n hC dL_isTurn_210 (a := b) (k := 1) rfl (by decide) (Nat.le_of_ble_eq_true rfl) rfl (lo' := [some (rf E (0)), some (rf E (101)), some (rf E (102)), some (.long (lN (ftN S.r))), none, some (.int (nI (1))), some (.int (nI (b + 1))), none, none]) rfl ?_
                          refine y_goto (tgt := 168) hC dL_isTurn_213 (by decide) ?_
                          exact ih_168 (b + 1) (by omega) (by omega) (by omega)
                        · refine y_aload_n hC dL_isTurn_190 (i := 1) rfl rfl ?_
                          refine y_aload_n hC dL_isTurn_191 (i := 2) rfl rfl ?_
                          refine y_lload_n hC dL_isTurn_192 (i := 3) rfl rfl ?_
                          refine y_iload hC dL_isTurn_193 rfl ?_
                          refine y_i2l hC dL_isTurn_195 ?_
                          refine y_topl (y := lN (b)) (nI_l (by omega)) ?_
                          refine y_ldiv hC dL_isTurn_196 (hne) ?_
                          refine y_topl (y := lN (ftN S.r / b)) (pk_lDiv (by omega) (by omega) (by omega)) ?_
                          refine y_callS hC mL_turns kXL_91 dL_isTurn_197 (As := [rf E (101), rf E (102), .long (lN (ftN S.r / b))]) (rest := []) (c_L_turns l E G_1 101 102 (by have := hL_1.k; omega) (by have := hL_1.k; omega) r h hL_1.a101 hL_1.a102 S.r B M hv a K hq hg (ftN S.r / b) hdb) rfl rfl rfl (Nat.le_of_ble_eq_true rfl) ⟨Nat.le_of_ble_eq_true rfl, Nat.le_of_ble_eq_true rfl⟩ (pk_i ?_)
                          rintro r_197 g_197 ⟨hr_197, hq_197⟩
                          obtain rfl := hq_197.symm
                          rw [hr_197]
                          clear hr_197 r_197
                          refine y_if_ne_b (tgt := 207) hC dL_isTurn_200 (by decide) (fun c_200 => ?_) (fun c_200 => ?_)
                          · exact absurd c_200 (ft_min hfp (by omega) ((cz (by omega)).mp c_187))
                          · refine y_iconst (v := nI 1) hC dL_isTurn_203 (by decide) ?_
                            refine y_goto (tgt := 208) hC dL_isTurn_204 (by decide) ?_
                            refine y_istore hC dL_isTurn_208 (Nat.le_of_ble_eq_true rfl) rfl (lo' := [some (rf E (0)), some (rf E (101)), some (rf E (102)), some (.long (lN (ftN S.r))), none, some (.int (nI (1))), some (.int (nI (b))), none, none]) rfl ?_
                            refine y_iinc_n hC dL_isTurn_210 (a := b) (k := 1) rfl (by decide) (Nat.le_of_ble_eq_true rfl) rfl (lo' := [some (rf E (0)), some (rf E (101)), some (rf E (102)), some (.long (lN (ftN S.r))), none, some (.int (nI (1))), some (.int (nI (b + 1))), none, none]) rfl ?_
                            refine y_goto (tgt := 168) hC dL_isTurn_213 (by decide) ?_
                            exact ih_168 (b + 1) (by omega) (by omega) (by omega)
                exact L_168 63 2 (by omega) (by omega) (by omega)
              · have hkk : k < gc S.r := by omega
                obtain ⟨w1, w2, w3, w4, w5⟩ := hv.gl hkk
                have hne : ¬ lN (2 * gl S.r k 2) = 0 := fun q => by
                  have := (pk_lEQ (a := 2 * gl S.r k 2) (b := 0) (by omega) (by decide)).mp q
                  omega
                have hz : (ftN S.r) % (2 * gl S.r k 2) = 0 := zdvd.mp (lG_d hkk (Nat.dvd_refl (ftN S.r)))
                refine y_iload hC dL_isTurn_129 rfl ?_
                refine y_if_eq_n (tgt := 156) hC dL_isTurn_131 (by decide) (by omega) (fun c_131 => ?_) (fun c_131 => ?_)
                · exfalso
                  omega
                · refine y_lload_n hC dL_isTurn_134 (i := 3) rfl rfl ?_
                  refine y_ldc2w hC clXL_89 dL_isTurn_135 ?_
                  refine y_aload_n hC dL_isTurn_138 (i := 2) rfl rfl ?_
                  refine y_iload hC dL_isTurn_139 rfl ?_
                  refine y_iconst (v := nI 2) hC dL_isTurn_141 (by decide) ?_
                  refine y_iadd_n hC dL_isTurn_142 ?_
                  refine y_iald hC dL_isTurn_143 (k := 102) (j := (4 + 4 * k) + 2) (by have := hL_1.k; omega) hL_1.a102 (rfl) (by omega) (by decide) ?_
                  refine y_top (y := nI (gl S.r k 2)) (hg.f2 hkk) ?_
                  refine y_i2l hC dL_isTurn_144 ?_
                  refine y_topl (y := lN (gl S.r k 2)) (nI_l (by omega)) ?_
                  refine y_lmul hC dL_isTurn_145 ?_
                  refine y_topl (y := lN (2 * gl S.r k 2)) (lN_mul _ _) ?_
                  refine y_lrem hC dL_isTurn_146 (hne) ?_
                  refine y_topl (y := lN (ftN S.r % (2 * gl S.r k 2))) (pk_lRem (by omega) (by omega) (by omega)) ?_
                  refine y_lconst (v := lN 0) hC dL_isTurn_147 (by decide) ?_
                  refine y_lcmp hC dL_isTurn_148 ?_
                  refine y_if_ne (tgt := 156) hC dL_isTurn_149 (by decide) (fun c_149 => ?_) (fun c_149 => ?_)
                  · exact absurd ((cz (by omega)).mpr (by omega)) c_149
                  · refine y_iconst (v := nI 1) hC dL_isTurn_152 (by decide) ?_
                    refine y_goto (tgt := 157) hC dL_isTurn_153 (by decide) ?_
                    refine y_istore hC dL_isTurn_157 (Nat.le_of_ble_eq_true rfl) rfl (lo' := [some (rf E (0)), some (rf E (101)), some (rf E (102)), some (.long (lN (ftN S.r))), none, some (.int (nI (1))), some (.int (nI (4 + 4 * k))), none, none]) rfl ?_
                    refine y_iinc_n hC dL_isTurn_159 (a := 4 + 4 * k) (k := 4) rfl (by decide) (Nat.le_of_ble_eq_true rfl) rfl (lo' := [some (rf E (0)), some (rf E (101)), some (rf E (102)), some (.long (lN (ftN S.r))), none, some (.int (nI (1))), some (.int (nI (4 + 4 * k + 4))), none, none]) rfl ?_
                    refine y_goto (tgt := 117) hC dL_isTurn_162 (by decide) ?_
                    rw [show 4 + 4 * k + 4 = 4 + 4 * (k + 1) from by omega]
                    exact ih_117 (k + 1) (by omega) (by omega)
          exact L_117 (gc S.r + 1) 0 (by omega) (by omega)
        · have hkk : k < rc S.r := by omega
          obtain ⟨q1, q2, q3, q4, q5, q6, q7, q8, q9⟩ := hv.rg hkk
          have hn2 := nP_b hv hkk
          have hon := oN_b hv hkk
          have hne : ¬ lN (oN S.r k) = 0 := fun q => by
            have := (pk_lEQ (a := oN S.r k) (b := 0) (by omega) (by decide)).mp q
            omega
          have hz : (ftN S.r) % oN S.r k = 0 ∨ ¬ rg S.r k 4 = 1 := by
            by_cases e : rg S.r k 4 = 1
            · exact Or.inl (zdvd.mp (lR_d hkk (lG_R (Nat.dvd_refl (ftN S.r))) e))
            · exact Or.inr e
          refine y_lconst (v := lN 1) hC dL_isTurn_36 (by decide) ?_
          refine y_aload_n hC dL_isTurn_37 (i := 1) rfl rfl ?_
          refine y_iload hC dL_isTurn_38 rfl ?_
          refine y_iconst (v := nI 2) hC dL_isTurn_40 (by decide) ?_
          refine y_iadd_n hC dL_isTurn_41 ?_
          refine y_iald hC dL_isTurn_42 (k := 101) (j := (8 + 8 * k) + 2) (by have := hL_1.k; omega) hL_1.a101 (rfl) (by omega) (by decide) ?_
          refine y_top (y := nI (rg S.r k 2)) (hq.f2 hkk) ?_
          refine y_i2l hC dL_isTurn_43 ?_
          refine y_topl (y := lN (rg S.r k 2)) (nI_l (by omega)) ?_
          refine y_lmul hC dL_isTurn_44 ?_
          refine y_topl (y := lN (rg S.r k 2)) (by rw [lN_mul, Nat.one_mul]) ?_
          refine y_aload_n hC dL_isTurn_45 (i := 1) rfl rfl ?_
          refine y_iload hC dL_isTurn_46 rfl ?_
          refine y_iconst (v := nI 3) hC dL_isTurn_48 (by decide) ?_
          refine y_iadd_n hC dL_isTurn_49 ?_
          refine y_iald hC dL_isTurn_50 (k := 101) (j := (8 + 8 * k) + 3) (by have := hL_1.k; omega) hL_1.a101 (rfl) (by omega) (by decide) ?_
          refine y_top (y := nI (rg S.r k 3)) (hq.f3 hkk) ?_
          refine y_iconst (v := nI 2) hC dL_isTurn_51 (by decide) ?_
          refine y_icmp_ne_n (tgt := 68) hC dL_isTurn_52 (by decide) (by omega) (by omega) (fun c_52 => ?_) (fun c_52 => ?_)
          · refine y_aload_n hC dL_isTurn_68 (i := 1) rfl rfl ?_
            refine y_iload hC dL_isTurn_69 rfl ?_
            refine y_iconst (v := nI 1) hC dL_isTurn_71 (by decide) ?_
            refine y_iadd_n hC dL_isTurn_72 ?_
            refine y_iald hC dL_isTurn_73 (k := 101) (j := (8 + 8 * k) + 1) (by have := hL_1.k; omega) hL_1.a101 (rfl) (by omega) (by decide) ?_
            refine y_top (y := nI (nP S.r k)) (hq.f1 hkk) ?_
            refine y_i2l hC dL_isTurn_74 ?_
            refine y_topl (y := lN (nP S.r k)) (nI_l (by omega)) ?_
            refine y_lmul hC dL_isTurn_75 ?_
            refine y_topl (y := lN (oN S.r k)) (by rw [lN_mul]; refine congrArg lN ?_; unfold oN fsN; first | rw [if_pos (by omega)] | rw [if_neg (by omega)]) ?_
            refine y_lstore hC dL_isTurn_76 (Nat.le_of_ble_eq_true rfl) rfl (lo' := [some (rf E (0)), some (rf E (101)), some (rf E (102)), some (.long (lN (ftN S.r))), none, some (.int (nI (1))), some (.int (nI (8 + 8 * k))), some (.long (lN (oN S.r k))), none]) rfl ?_
            refine y_iload hC dL_isTurn_78 rfl ?_
            refine y_if_eq_n (tgt := 105) hC dL_isTurn_80 (by decide) (by omega) (fun c_80 => ?_) (fun c_80 => ?_)
            · exfalso
              omega
            · refine y_aload_n hC dL_isTurn_83 (i := 1) rfl rfl ?_
              refine y_iload hC dL_isTurn_84 rfl ?_
              refine y_iconst (v := nI 4) hC dL_isTurn_86 (by decide) ?_
              refine y_iadd_n hC dL_isTurn_87 ?_
              refine y_iald hC dL_isTurn_88 (k := 101) (j := (8 + 8 * k) + 4) (by have := hL_1.k; omega) hL_1.a101 (rfl) (by omega) (by decide) ?_
              refine y_top (y := nI (rg S.r k 4)) (hq.f4 hkk) ?_
              refine y_if_eq_n (tgt := 101) hC dL_isTurn_89 (by decide) (by omega) (fun c_89 => ?_) (fun c_89 => ?_)
              · refine y_iconst (v := nI 1) hC dL_isTurn_101 (by decide) ?_
                refine y_goto (tgt := 106) hC dL_isTurn_102 (by decide) ?_
                refine y_istore hC dL_isTurn_106 (Nat.le_of_ble_eq_true rfl) rfl (lo' := [some (rf E (0)), some (rf E (101)), some (rf E (102)), some (.long (lN (ftN S.r))), none, some (.int (nI (1))), some (.int (nI (8 + 8 * k))), some (.long (lN (oN S.r k))), none]) rfl ?_
                refine y_iinc_n hC dL_isTurn_108 (a := 8 + 8 * k) (k := 8) rfl (by decide) (Nat.le_of_ble_eq_true rfl) rfl (lo' := [some (rf E (0)), some (rf E (101)), some (rf E (102)), some (.long (lN (ftN S.r))), none, some (.int (nI (1))), some (.int (nI (8 + 8 * k + 8))), some (.long (lN (oN S.r k))), none]) rfl ?_
                refine y_goto (tgt := 22) hC dL_isTurn_111 (by decide) ?_
                refine y_fg 7 (lo' := [some (rf E (0)), some (rf E (101)), some (rf E (102)), some (.long (lN (ftN S.r))), none, some (.int (nI (1))), some (.int (nI (8 + 8 * k + 8))), none, none]) rfl ?_
                rw [show 8 + 8 * k + 8 = 8 + 8 * (k + 1) from by omega]
                exact ih_22 (k + 1) (by omega) (by omega)
              · refine y_lload_n hC dL_isTurn_92 (i := 3) rfl rfl ?_
                refine y_lload hC dL_isTurn_93 rfl ?_
                refine y_lrem hC dL_isTurn_95 (hne) ?_
                refine y_topl (y := lN (ftN S.r % oN S.r k)) (pk_lRem (by omega) hon.1 (by omega)) ?_
                refine y_lconst (v := lN 0) hC dL_isTurn_96 (by decide) ?_
                refine y_lcmp hC dL_isTurn_97 ?_
                refine y_if_ne (tgt := 105) hC dL_isTurn_98 (by decide) (fun c_98 => ?_) (fun c_98 => ?_)
                · exact absurd ((cz (by omega)).mpr (by omega)) c_98
                · refine y_iconst (v := nI 1) hC dL_isTurn_101 (by decide) ?_
                  refine y_goto (tgt := 106) hC dL_isTurn_102 (by decide) ?_
                  refine y_istore hC dL_isTurn_106 (Nat.le_of_ble_eq_true rfl) rfl (lo' := [some (rf E (0)), some (rf E (101)), some (rf E (102)), some (.long (lN (ftN S.r))), none, some (.int (nI (1))), some (.int (nI (8 + 8 * k))), some (.long (lN (oN S.r k))), none]) rfl ?_
                  refine y_iinc_n hC dL_isTurn_108 (a := 8 + 8 * k) (k := 8) rfl (by decide) (Nat.le_of_ble_eq_true rfl) rfl (lo' := [some (rf E (0)), some (rf E (101)), some (rf E (102)), some (.long (lN (ftN S.r))), none, some (.int (nI (1))), some (.int (nI (8 + 8 * k + 8))), some (.long (lN (oN S.r k))), none]) rfl ?_
                  refine y_goto (tgt := 22) hC dL_isTurn_111 (by decide) ?_
                  refine y_fg 7 (lo' := [some (rf E (0)), some (rf E (101)), some (rf E (102)), some (.long (lN (ftN S.r))), none, some (.int (nI (1))), some (.int (nI (8 + 8 * k + 8))), none, none]) rfl ?_
                  rw [show 8 + 8 * k + 8 = 8 + 8 * (k + 1) from by omega]
                  exact ih_22 (k + 1) (by omega) (by omega)
          · refine y_iconst (v := nI 2) hC dL_isTurn_55 (by decide) ?_
            refine y_aload_n hC dL_isTurn_56 (i := 1) rfl rfl ?_
            refine y_iload hC dL_isTurn_57 rfl ?_
            refine y_iconst (v := nI 1) hC dL_isTurn_59 (by decide) ?_
            refine y_iadd_n hC dL_isTurn_60 ?_
            refine y_iald hC dL_isTurn_61 (k := 101) (j := (8 + 8 * k) + 1) (by have := hL_1.k; omega) hL_1.a101 (rfl) (by omega) (by decide) ?_
            refine y_top (y := nI (nP S.r k)) (hq.f1 hkk) ?_
            refine y_imul_n hC dL_isTurn_62 ?_
            refine y_iconst (v := nI 2) hC dL_isTurn_63 (by decide) ?_
            refine y_isub_n hC dL_isTurn_64 (by omega) ?_
            refine y_goto (tgt := 74) hC dL_isTurn_65 (by decide) ?_
            refine y_i2l hC dL_isTurn_74 ?_
            refine y_topl (y := lN ((2 * (nP S.r k)) - (2))) (nI_l (by omega)) ?_
            refine y_lmul hC dL_isTurn_75 ?_
            refine y_topl (y := lN (oN S.r k)) (by rw [lN_mul]; refine congrArg lN ?_; unfold oN fsN; first | rw [if_pos (by omega)] | rw [if_neg (by omega)]) ?_
            refine y_lstore hC dL_isTurn_76 (Nat.le_of_ble_eq_true rfl) rfl (lo' := [some (rf E (0)), some (rf E (101)), some (rf E (102)), some (.long (lN (ftN S.r))), none, some (.int (nI (1))), some (.int (nI (8 + 8 * k))), some (.long (lN (oN S.r k))), none]) rfl ?_
            refine y_iload hC dL_isTurn_78 rfl ?_
            refine y_if_eq_n (tgt := 105) hC dL_isTurn_80 (by decide) (by omega) (fun c_80 => ?_) (fun c_80 => ?_)
            · exfalso
              omega
            · refine y_aload_n hC dL_isTurn_83 (i := 1) rfl rfl ?_
              refine y_iload hC dL_isTurn_84 rfl ?_
              refine y_iconst (v := nI 4) hC dL_isTurn_86 (by decide) ?_
              refine y_iadd_n hC dL_isTurn_87 ?_
              refine y_iald hC dL_isTurn_88 (k := 101) (j := (8 + 8 * k) + 4) (by have := hL_1.k; omega) hL_1.a101 (rfl) (by omega) (by decide) ?_
              refine y_top (y := nI (rg S.r k 4)) (hq.f4 hkk) ?_
              refine y_if_eq_n (tgt := 101) hC dL_isTurn_89 (by decide) (by omega) (fun c_89 => ?_) (fun c_89 => ?_)
              · refine y_iconst (v := nI 1) hC dL_isTurn_101 (by decide) ?_
                refine y_goto (tgt := 106) hC dL_isTurn_102 (by decide) ?_
                refine y_istore hC dL_isTurn_106 (Nat.le_of_ble_eq_true rfl) rfl (lo' := [some (rf E (0)), some (rf E (101)), some (rf E (102)), some (.long (lN (ftN S.r))), none, some (.int (nI (1))), some (.int (nI (8 + 8 * k))), some (.long (lN (oN S.r k))), none]) rfl ?_
                refine y_iinc_n hC dL_isTurn_108 (a := 8 + 8 * k) (k := 8) rfl (by decide) (Nat.le_of_ble_eq_true rfl) rfl (lo' := [some (rf E (0)), some (rf E (101)), some (rf E (102)), some (.long (lN (ftN S.r))), none, some (.int (nI (1))), some (.int (nI (8 + 8 * k + 8))), some (.long (lN (oN S.r k))), none]) rfl ?_
                refine y_goto (tgt := 22) hC dL_isTurn_111 (by decide) ?_
                refine y_fg 7 (lo' := [some (rf E (0)), some (rf E (101)), some (rf E (102)), some (.long (lN (ftN S.r))), none, some (.int (nI (1))), some (.int (nI (8 + 8 * k + 8))), none, none]) rfl ?_
                rw [show 8 + 8 * k + 8 = 8 + 8 * (k + 1) from by omega]
                exact ih_22 (k + 1) (by omega) (by omega)
              · refine y_lload_n hC dL_isTurn_92 (i := 3) rfl rfl ?_
                refine y_lload hC dL_isTurn_93 rfl ?_
                refine y_lrem hC dL_isTurn_95 (hne) ?_
                refine y_topl (y := lN (ftN S.r % oN S.r k)) (pk_lRem (by omega) hon.1 (by omega)) ?_
                refine y_lconst (v := lN 0) hC dL_isTurn_96 (by decide) ?_
                refine y_lcmp hC dL_isTurn_97 ?_
                refine y_if_ne (tgt := 105) hC dL_isTurn_98 (by decide) (fun c_98 => ?_) (fun c_98 => ?_)
                · exact absurd ((cz (by omega)).mpr (by omega)) c_98
                · refine y_iconst (v := nI 1) hC dL_isTurn_101 (by decide) ?_
                  refine y_goto (tgt := 106) hC dL_isTurn_102 (by decide) ?_
                  refine y_istore hC dL_isTurn_106 (Nat.le_of_ble_eq_true rfl) rfl (lo' := [some (rf E (0)), some (rf E (101)), some (rf E (102)), some (.long (lN (ftN S.r))), none, some (.int (nI (1))), some (.int (nI (8 + 8 * k))), some (.long (lN (oN S.r k))), none]) rfl ?_
                  refine y_iinc_n hC dL_isTurn_108 (a := 8 + 8 * k) (k := 8) rfl (by decide) (Nat.le_of_ble_eq_true rfl) rfl (lo' := [some (rf E (0)), some (rf E (101)), some (rf E (102)), some (.long (lN (ftN S.r))), none, some (.int (nI (1))), some (.int (nI (8 + 8 * k + 8))), some (.long (lN (oN S.r k))), none]) rfl ?_
                  refine y_goto (tgt := 22) hC dL_isTurn_111 (by decide) ?_
                  refine y_fg 7 (lo' := [some (rf E (0)), some (rf E (101)), some (rf E (102)), some (.long (lN (ftN S.r))), none, some (.int (nI (1))), some (.int (nI (8 + 8 * k + 8))), none, none]) rfl ?_
                  rw [show 8 + 8 * k + 8 = 8 + 8 * (k + 1) from by omega]
                  exact ih_22 (k + 1) (by omega) (by omega)
    exact L_22 (rc S.r + 1) 0 (by omega) (by omega)

