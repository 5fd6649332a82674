/-! ===== the law: ranges are added, removed, set anew, paused ===== -/
/-- what a run of the law stands at -/
def IV (S : AS) (c r h p : Nat → Int32) (B M : Nat) : Prop := OK S B ∧ (∃ a K, RgL S.r r a K M) ∧ GlL S.r h ∧ CoL S.r c ∧ VC S.r ∧ PiL S.r p
theorem RgL.lm {ρ : Row} {r : Nat → Int32} {a K : Nat → Nat} {M M2 : Nat} (q : RgL ρ r a K M) (h : M ≤ M2) : RgL ρ r a K M2 :=
  ⟨q.n, fun k hk => ⟨q.f0 hk, q.f1 hk, q.f2 hk, q.f3 hk, q.f4 hk, q.f5 hk, q.f6 hk, q.md hk, q.dv hk, Nat.le_trans (q.le hk) h⟩⟩
theorem IV.le {S : AS} {c r h p : Nat → Int32} {B M B2 M2 : Nat} (q : IV S c r h p B M) (hB : B ≤ B2) (hM : M ≤ M2) : IV S c r h p B2 M2 := by
  obtain ⟨h1, ⟨a, K, h2⟩, h3⟩ := q
  exact ⟨h1.le hB, ⟨a, K, h2.lm hM⟩, h3⟩
section CGs
variable {ρ ρ2 : Row} {c r h p : Nat → Int32} {a K : Nat → Nat} {B M : Nat}
theorem co_cg (q : CoL ρ c) (e : ∀ k, k < 32 → ρ2 k = ρ k) : CoL ρ2 c := fun k hk => (q k hk).trans (e k hk).symm
theorem vc_cg (hv : Vr ρ B) (q : VC ρ) (e : ∀ k, k < 32 ∨ (75 ≤ k ∧ k < 92) → ρ2 k = ρ k) : VC ρ2 := by
  have h4 := hv.2.1.2
  refine ⟨fun k hk => by rw [e k (Or.inl hk)]; exact q.1 k hk, fun i hi => ?_⟩
  rw [gc_of (e 75 (by omega))] at hi
  rw [e _ (by omega)]
  exact q.2 i hi
theorem pi_cg (q : PiL ρ p) (e : ∀ k, 92 ≤ k → k < 156 → ρ2 k = ρ k) : PiL ρ2 p := fun k hk => by
  rw [px_of (e _ (by omega) (by omega))]
  exact q k hk
theorem gl_cg (hv : Vr ρ B) (q : GlL ρ h) (e : ∀ k, 75 ≤ k → (k < 92 ∨ 156 ≤ k) → ρ2 k = ρ k) : GlL ρ2 h := by
  have h4 := hv.2.1.2
  have eg := gc_of (e 75 (by omega) (by omega))
  refine ⟨by rw [eg]; exact q.n, by rw [e 156 (by omega) (by omega)]; exact q.t, by rw [e 157 (by omega) (by omega)]; exact q.s, fun k hk => ?_⟩
  rw [eg] at hk
  rw [gl_of (e _ (by omega) (by omega)), gl_of (e _ (by omega) (by omega)), gl_of (e _ (by omega) (by omega)), e _ (by omega) (by omega)]
  exact ⟨q.f0 hk, q.f1 hk, q.f2 hk, q.f3 hk⟩
/-- the ranges' words alone are others -/
theorem IV.rg {S S2 : AS} {r2 : Nat → Int32} {a2 K2 : Nat → Nat} {B2 M2 : Nat} (q : IV S c r h p B M) (ho : OK S2 B2) (hq : RgL S2.r r2 a2 K2 M2) (e : ∀ k, k < 32 ∨ 75 ≤ k → S2.r k = S.r k) : IV S2 c r2 h p B2 M2 := by
  obtain ⟨h1, h2, h3, h4, h5, h6⟩ := q
  exact ⟨ho, ⟨_, _, hq⟩, gl_cg h1.v h3 (fun k h _ => e k (Or.inr h)), co_cg h4 (fun k hk => e k (Or.inl hk)), vc_cg h1.v h5 (fun k hk => e k (by omega)), pi_cg h6 (fun k h _ => e k (by omega))⟩
end CGs
def frB (ρ : Row) (f : Nat) : Nat → Bool
  | 0 => true
  | d + 1 => frB ρ f d && (rAt ρ (f + d)).isNone
theorem frB_s {ρ : Row} {f d : Nat} : frB ρ f (d + 1) = true ↔ frB ρ f d = true ∧ rAt ρ (f + d) = none := by
  show (frB ρ f d && (rAt ρ (f + d)).isNone) = true ↔ _
  rw [Bool.and_eq_true, Option.isNone_iff_eq_none]
theorem frB_iff {ρ : Row} {f : Nat} : ∀ {d : Nat}, frB ρ f d = true ↔ ∀ p, f ≤ p → p < f + d → rAt ρ p = none
  | 0 => ⟨fun _ p h1 h2 => by omega, fun _ => rfl⟩
  | d + 1 => by
    rw [frB_s, frB_iff]
    constructor
    · rintro ⟨h1, h2⟩ p a1 a2
      by_cases e : p = f + d
      · rw [e]; exact h2
      · exact h1 p a1 (by omega)
    · exact fun h => ⟨fun p a1 a2 => h p a1 (by omega), h (f + d) (by omega) (by omega)⟩
theorem rz_0 {ρ : Row} {p : Nat} : rzN ρ p = 0 ↔ rAt ρ p = none := by
  cases e : rAt ρ p with
  | none => rw [rz_n e]; simp
  | some i => rw [rz_s e]; simp
theorem ovl_iff {ρ : Row} {f la : Nat} : ovl ρ f la = true ↔ ∃ i, i < rc ρ ∧ rg ρ i 0 ≤ la ∧ f ≤ rg ρ i 1 := by
  unfold ovl
  cases e : fst (rc ρ) (fun i => decide (rg ρ i 0 ≤ la ∧ f ≤ rg ρ i 1)) with
  | none =>
    refine ⟨fun h => by simp at h, fun ⟨i, h1, h2⟩ => ?_⟩
    have := fst_invn e i h1
    simp [h2] at this
  | some i =>
    obtain ⟨h1, h2, -⟩ := fst_inv e
    exact ⟨fun _ => ⟨i, h1, by simpa using h2⟩, fun _ => rfl⟩
theorem fr_ovl {ρ : Row} {B f la d : Nat} (hv : Vr ρ B) (hf : f ≤ la) (hd : f + d = la + 1) : frB ρ f d = true ↔ ¬ ovl ρ f la = true := by
  rw [frB_iff, ovl_iff]
  constructor
  · rintro h ⟨i, h1, h2, h3⟩
    obtain ⟨q1, q2, q3, -⟩ := hv.rg h1
    by_cases c : f ≤ rg ρ i 0
    · have := h (rg ρ i 0) c (by omega)
      rw [rAt_one hv h1 ⟨Nat.le_refl _, by omega⟩] at this
      cases this
    · have := h f (Nat.le_refl _) (by omega)
      rw [rAt_one hv h1 ⟨by omega, h3⟩] at this
      cases this
  · intro h p h1 h2
    cases e : rAt ρ p with
    | none => rfl
    | some i =>
      obtain ⟨k1, k2, k3⟩ := rAt_in e
      exact absurd ⟨i, k1, by omega, by omega⟩ h
section ADD
variable {S : AS} {f la s w : Nat}
theorem qa_1 (hf : ¬ f ≤ 31) (hf2 : f < 1000) (x y z : Int32) : qAddRange S (nI f) x y z = (-1, S) := by
  unfold qAddRange
  rw [if_neg (by rw [tI (by omega)]; omega)]
theorem qa_c (hf : f ≤ 31) (hfl : f ≤ la) (hl : la < 1000) (hs1 : 1 ≤ s) (hs : s < 1000) (hw : w ≤ 2) : (((0 ≤ (nI la).toInt ∧ (nI la).toInt ≤ 31) ∧ nn (nI f) < nn (nI la)) ∧ (1 ≤ (nI s).toInt ∧ (nI s).toInt ≤ 30) ∧ 0 ≤ (nI w).toInt ∧ (nI w).toInt ≤ 2) ↔ la ≤ 31 ∧ f < la ∧ s ≤ 30 := by
  rw [tI (by omega), tI (by omega), tI (by omega), nn_I (by omega), nn_I (by omega)]
  omega
theorem qa_2 (hf : f ≤ 31) (hfl : f ≤ la) (hl : la < 1000) (hs1 : 1 ≤ s) (hs : s < 1000) (hw : w ≤ 2) (hc : ¬ (la ≤ 31 ∧ f < la ∧ s ≤ 30)) : qAddRange S (nI f) (nI la) (nI s) (nI w) = (-2, S) := by
  unfold qAddRange
  rw [if_pos (by rw [tI (by omega)]; omega), if_neg (fun q => hc ((qa_c hf hfl hl hs1 hs hw).mp q))]
theorem qa_4 (hf : f ≤ 31) (hfl : f < la) (hl : la ≤ 31) (hs1 : 1 ≤ s) (hs : s ≤ 30) (hw : w ≤ 2) (hc : ovl S.r f la = true) : qAddRange S (nI f) (nI la) (nI s) (nI w) = (-4, S) := by
  unfold qAddRange
  rw [if_pos (by rw [tI (by omega)]; omega), if_pos ((qa_c hf (by omega) (by omega) hs1 (by omega) hw).mpr ⟨hl, hfl, hs⟩), nn_I (by omega), nn_I (by omega), if_pos hc]
theorem qa_3 (hf : f ≤ 31) (hfl : f < la) (hl : la ≤ 31) (hs1 : 1 ≤ s) (hs : s ≤ 30) (hw : w ≤ 2) (hc : ¬ ovl S.r f la = true) (h6 : ¬ rc S.r < 6) : qAddRange S (nI f) (nI la) (nI s) (nI w) = (-3, S) := by
  unfold qAddRange
  rw [if_pos (by rw [tI (by omega)]; omega), if_pos ((qa_c hf (by omega) (by omega) hs1 (by omega) hw).mpr ⟨hl, hfl, hs⟩), nn_I (by omega), nn_I (by omega), if_neg hc, if_neg h6]
theorem qa_0 (hf : f ≤ 31) (hfl : f < la) (hl : la ≤ 31) (hs1 : 1 ≤ s) (hs : s ≤ 30) (hw : w ≤ 2) (hc : ¬ ovl S.r f la = true) (h6 : rc S.r < 6) : qAddRange S (nI f) (nI la) (nI s) (nI w) = (nI (rc S.r), S.rec.row (addR S.r (nI f) (nI la) (nI s) (nI w))) := by
  unfold qAddRange
  rw [if_pos (by rw [tI (by omega)]; omega), if_pos ((qa_c hf (by omega) (by omega) hs1 (by omega) hw).mpr ⟨hl, hfl, hs⟩), nn_I (by omega), nn_I (by omega), if_neg hc, if_pos h6]
end ADD
theorem rg_add {ρ : Row} {B M f la s w : Nat} {r r2 : Nat → Int32} {a K : Nat → Nat} (hv : Vr ρ B) (hq : RgL ρ r a K M) (h6 : rc ρ < 6) (hf : f < la) (hl : la < 32) (hs1 : 1 ≤ s) (hs : s ≤ 30) (hw : w ≤ 2)
    (e0 : r2 0 = nI (rc ρ + 1)) (eo : ∀ j, 8 ≤ j → j < 8 + 8 * rc ρ → r2 j = r j) (n0 : r2 (8 + 8 * rc ρ) = nI f) (n1 : r2 (8 + 8 * rc ρ + 1) = nI (la - f + 1)) (n2 : r2 (8 + 8 * rc ρ + 2) = nI s) (n3 : r2 (8 + 8 * rc ρ + 3) = nI w) (n4 : r2 (8 + 8 * rc ρ + 4) = nI 1) (n5 : r2 (8 + 8 * rc ρ + 5) = nI 0) (n6 : r2 (8 + 8 * rc ρ + 6) = nI 0) :
    RgL (addR ρ (nI f) (nI la) (nI s) (nI w)) r2 (fun k => if k = rc ρ then 0 else a k) (fun k => if k = rc ρ then 0 else K k) M := by
  have e32 : rc (addR ρ (nI f) (nI la) (nI s) (nI w)) = rc ρ + 1 := by
    show nn (addR ρ (nI f) (nI la) (nI s) (nI w) 32) = _
    rw [show addR ρ (nI f) (nI la) (nI s) (nI w) 32 = nI (rc ρ + 1) from if_pos rfl]
    exact nn_I (by omega)
  have eO : ∀ i j, i < rc ρ → j < 7 → rg (addR ρ (nI f) (nI la) (nI s) (nI w)) i j = rg ρ i j := fun i j hi hj => rg_of ((if_neg (by omega)).trans (if_neg (by omega)))
  have eN : ∀ j, j < 7 → addR ρ (nI f) (nI la) (nI s) (nI w) (33 + 7 * rc ρ + j) = v7 (nI f) (nI la) (nI s) (nI w) (nI 1) (nI 0) (nI 0) j := fun j hj => by
    unfold addR
    rw [if_neg (by omega), if_pos (by omega), show 33 + 7 * rc ρ + j - (33 + 7 * rc ρ) = j by omega]
  obtain ⟨⟨w0, w1, w2, w3, w4, w5, w6⟩, -⟩ := rgW eN (by omega)
  refine ⟨by rw [e32]; exact e0, fun k hk => ?_⟩
  rw [e32] at hk
  by_cases e : k = rc ρ
  · subst e
    have hn : nP (addR ρ (nI f) (nI la) (nI s) (nI w)) (rc ρ) = la - f + 1 := by unfold nP; rw [w0, w1]
    rw [w0, hn, w2, w3, w4, w5, w6]
    refine ⟨n0, n1, n2, n3, n4, ?_, ?_, ?_, ?_, ?_⟩
    · dsimp only; rw [if_pos rfl]; exact n5
    · dsimp only; rw [if_pos rfl]; exact n6
    · dsimp only; rw [if_pos rfl]; exact Nat.zero_mod _
    · dsimp only; rw [if_pos rfl, if_pos rfl, Nat.zero_div]
    · dsimp only; rw [if_pos rfl]; exact Nat.zero_le _
  · have hk2 : k < rc ρ := by omega
    have hn : nP (addR ρ (nI f) (nI la) (nI s) (nI w)) k = nP ρ k := by unfold nP; rw [eO k 0 hk2 (by decide), eO k 1 hk2 (by decide)]
    dsimp only
    rw [eO k 0 hk2 (by decide), hn, eO k 2 hk2 (by decide), eO k 3 hk2 (by decide), eO k 4 hk2 (by decide), eO k 5 hk2 (by decide), eO k 6 hk2 (by decide), if_neg e, if_neg e, eo _ (by omega) (by omega), eo _ (by omega) (by omega), eo _ (by omega) (by omega), eo _ (by omega) (by omega), eo _ (by omega) (by omega), eo _ (by omega) (by omega), eo _ (by omega) (by omega)]
    exact ⟨hq.f0 hk2, hq.f1 hk2, hq.f2 hk2, hq.f3 hk2, hq.f4 hk2, hq.f5 hk2, hq.f6 hk2, hq.md hk2, hq.dv hk2, hq.le hk2⟩
theorem dL_adds_0 : decode cL_adds 0 = .ok (.iload_n 2, 1) := by decide +kernel
theorem dL_adds_1 : decode cL_adds 1 = .ok (.bipush 33, 2) := by decide +kernel
theorem dL_adds_3 : decode cL_adds 3 = .ok (.invokestatic 64, 3) := by decide +kernel
theorem dL_adds_6 : decode cL_adds 6 = .ok (.istore 4, 2) := by decide +kernel
theorem dL_adds_8 : decode cL_adds 8 = .ok (.iload 4, 2) := by decide +kernel
theorem dL_adds_10 : decode cL_adds 10 = .ok (.iload_n 2, 1) := by decide +kernel
theorem dL_adds_11 : decode cL_adds 11 = .ok (.bipush 6, 2) := by decide +kernel
theorem dL_adds_13 : decode cL_adds 13 = .ok (.ishr, 1) := by decide +kernel
theorem dL_adds_14 : decode cL_adds 14 = .ok (.bipush 8, 2) := by decide +kernel
theorem dL_adds_16 : decode cL_adds 16 = .ok (.invokestatic 64, 3) := by decide +kernel
theorem dL_adds_19 : decode cL_adds 19 = .ok (.iadd, 1) := by decide +kernel
theorem dL_adds_20 : decode cL_adds 20 = .ok (.iload_n 3, 1) := by decide +kernel
theorem dL_adds_21 : decode cL_adds 21 = .ok (.bipush 9, 2) := by decide +kernel
theorem dL_adds_23 : decode cL_adds 23 = .ok (.invokestatic 64, 3) := by decide +kernel
theorem dL_adds_26 : decode cL_adds 26 = .ok (.ifCond .ne 7, 3) := by decide +kernel
theorem dL_adds_29 : decode cL_adds 29 = .ok (.iconst 0, 1) := by decide +kernel
theorem dL_adds_30 : decode cL_adds 30 = .ok (.goto 4, 3) := by decide +kernel
theorem dL_adds_33 : decode cL_adds 33 = .ok (.iconst 1, 1) := by decide +kernel
theorem dL_adds_34 : decode cL_adds 34 = .ok (.iadd, 1) := by decide +kernel
theorem dL_adds_35 : decode cL_adds 35 = .ok (.istore 5, 2) := by decide +kernel
theorem dL_adds_37 : decode cL_adds 37 = .ok (.iconst 1, 1) := by decide +kernel
theorem dL_adds_38 : decode cL_adds 38 = .ok (.iload_n 2, 1) := by decide +kernel
theorem dL_adds_39 : decode cL_adds 39 = .ok (.bipush 9, 2) := by decide +kernel
theorem dL_adds_41 : decode cL_adds 41 = .ok (.ishr, 1) := by decide +kernel
theorem dL_adds_42 : decode cL_adds 42 = .ok (.iload_n 3, 1) := by decide +kernel
theorem dL_adds_43 : decode cL_adds 43 = .ok (.iconst 3, 1) := by decide +kernel
theorem dL_adds_44 : decode cL_adds 44 = .ok (.ishr, 1) := by decide +kernel
theorem dL_adds_45 : decode cL_adds 45 = .ok (.iconst 3, 1) := by decide +kernel
theorem dL_adds_46 : decode cL_adds 46 = .ok (.invokestatic 64, 3) := by decide +kernel
theorem dL_adds_49 : decode cL_adds 49 = .ok (.ifCond .ne 8, 3) := by decide +kernel
theorem dL_adds_52 : decode cL_adds 52 = .ok (.bipush 31, 2) := by decide +kernel
theorem dL_adds_54 : decode cL_adds 54 = .ok (.goto 5, 3) := by decide +kernel
theorem dL_adds_57 : decode cL_adds 57 = .ok (.bipush 6, 2) := by decide +kernel
theorem dL_adds_59 : decode cL_adds 59 = .ok (.invokestatic 64, 3) := by decide +kernel
theorem dL_adds_62 : decode cL_adds 62 = .ok (.iadd, 1) := by decide +kernel
theorem dL_adds_63 : decode cL_adds 63 = .ok (.istore 6, 2) := by decide +kernel
theorem dL_adds_65 : decode cL_adds 65 = .ok (.iload_n 2, 1) := by decide +kernel
theorem dL_adds_66 : decode cL_adds 66 = .ok (.bipush 14, 2) := by decide +kernel
theorem dL_adds_68 : decode cL_adds 68 = .ok (.ishr, 1) := by decide +kernel
theorem dL_adds_69 : decode cL_adds 69 = .ok (.iconst 3, 1) := by decide +kernel
theorem dL_adds_70 : decode cL_adds 70 = .ok (.invokestatic 64, 3) := by decide +kernel
theorem dL_adds_73 : decode cL_adds 73 = .ok (.istore 7, 2) := by decide +kernel
theorem dL_adds_75 : decode cL_adds 75 = .ok (.iconst 1, 1) := by decide +kernel
theorem dL_adds_76 : decode cL_adds 76 = .ok (.istore 8, 2) := by decide +kernel
theorem dL_adds_78 : decode cL_adds 78 = .ok (.iload 4, 2) := by decide +kernel
theorem dL_adds_80 : decode cL_adds 80 = .ok (.istore 9, 2) := by decide +kernel
theorem dL_adds_82 : decode cL_adds 82 = .ok (.iload 9, 2) := by decide +kernel
theorem dL_adds_84 : decode cL_adds 84 = .ok (.iload 5, 2) := by decide +kernel
theorem dL_adds_86 : decode cL_adds 86 = .ok (.if_icmp .gt 37, 3) := by decide +kernel
theorem dL_adds_89 : decode cL_adds 89 = .ok (.iload 9, 2) := by decide +kernel
theorem dL_adds_91 : decode cL_adds 91 = .ok (.bipush 32, 2) := by decide +kernel
theorem dL_adds_93 : decode cL_adds 93 = .ok (.if_icmp .ge 30, 3) := by decide +kernel
theorem dL_adds_96 : decode cL_adds 96 = .ok (.iload 8, 2) := by decide +kernel
theorem dL_adds_98 : decode cL_adds 98 = .ok (.ifCond .eq 16, 3) := by decide +kernel
theorem dL_adds_101 : decode cL_adds 101 = .ok (.aload_n 1, 1) := by decide +kernel
theorem dL_adds_102 : decode cL_adds 102 = .ok (.iload 9, 2) := by decide +kernel
theorem dL_adds_104 : decode cL_adds 104 = .ok (.invokestatic 15, 3) := by decide +kernel
theorem dL_adds_107 : decode cL_adds 107 = .ok (.ifCond .ne 7, 3) := by decide +kernel
theorem dL_adds_110 : decode cL_adds 110 = .ok (.iconst 1, 1) := by decide +kernel
theorem dL_adds_111 : decode cL_adds 111 = .ok (.goto 4, 3) := by decide +kernel
theorem dL_adds_114 : decode cL_adds 114 = .ok (.iconst 0, 1) := by decide +kernel
theorem dL_adds_115 : decode cL_adds 115 = .ok (.istore 8, 2) := by decide +kernel
theorem dL_adds_117 : decode cL_adds 117 = .ok (.iinc 9 1, 3) := by decide +kernel
theorem dL_adds_120 : decode cL_adds 120 = .ok (.goto (-38), 3) := by decide +kernel
theorem dL_adds_123 : decode cL_adds 123 = .ok (.iload 4, 2) := by decide +kernel
theorem dL_adds_125 : decode cL_adds 125 = .ok (.bipush 31, 2) := by decide +kernel
theorem dL_adds_127 : decode cL_adds 127 = .ok (.if_icmp .le 7, 3) := by decide +kernel
theorem dL_adds_130 : decode cL_adds 130 = .ok (.iconst (-1), 1) := by decide +kernel
theorem dL_adds_131 : decode cL_adds 131 = .ok (.goto 55, 3) := by decide +kernel
theorem dL_adds_134 : decode cL_adds 134 = .ok (.iload 5, 2) := by decide +kernel
theorem dL_adds_136 : decode cL_adds 136 = .ok (.bipush 31, 2) := by decide +kernel
theorem dL_adds_138 : decode cL_adds 138 = .ok (.if_icmp .gt 17, 3) := by decide +kernel
theorem dL_adds_141 : decode cL_adds 141 = .ok (.iload 5, 2) := by decide +kernel
theorem dL_adds_143 : decode cL_adds 143 = .ok (.iload 4, 2) := by decide +kernel
theorem dL_adds_145 : decode cL_adds 145 = .ok (.if_icmp .eq 10, 3) := by decide +kernel
theorem dL_adds_148 : decode cL_adds 148 = .ok (.iload 6, 2) := by decide +kernel
theorem dL_adds_150 : decode cL_adds 150 = .ok (.bipush 30, 2) := by decide +kernel
theorem dL_adds_152 : decode cL_adds 152 = .ok (.if_icmp .le 8, 3) := by decide +kernel
theorem dL_adds_155 : decode cL_adds 155 = .ok (.bipush (-2), 2) := by decide +kernel
theorem dL_adds_157 : decode cL_adds 157 = .ok (.goto 29, 3) := by decide +kernel
theorem dL_adds_160 : decode cL_adds 160 = .ok (.iload 8, 2) := by decide +kernel
theorem dL_adds_162 : decode cL_adds 162 = .ok (.ifCond .ne 8, 3) := by decide +kernel
theorem dL_adds_165 : decode cL_adds 165 = .ok (.bipush (-4), 2) := by decide +kernel
theorem dL_adds_167 : decode cL_adds 167 = .ok (.goto 19, 3) := by decide +kernel
theorem dL_adds_170 : decode cL_adds 170 = .ok (.aload_n 1, 1) := by decide +kernel
theorem dL_adds_171 : decode cL_adds 171 = .ok (.iconst 0, 1) := by decide +kernel
theorem dL_adds_172 : decode cL_adds 172 = .ok (.iaload, 1) := by decide +kernel
theorem dL_adds_173 : decode cL_adds 173 = .ok (.bipush 6, 2) := by decide +kernel
theorem dL_adds_175 : decode cL_adds 175 = .ok (.if_icmp .ne 8, 3) := by decide +kernel
theorem dL_adds_178 : decode cL_adds 178 = .ok (.bipush (-3), 2) := by decide +kernel
theorem dL_adds_180 : decode cL_adds 180 = .ok (.goto 6, 3) := by decide +kernel
theorem dL_adds_183 : decode cL_adds 183 = .ok (.aload_n 1, 1) := by decide +kernel
theorem dL_adds_184 : decode cL_adds 184 = .ok (.iconst 0, 1) := by decide +kernel
theorem dL_adds_185 : decode cL_adds 185 = .ok (.iaload, 1) := by decide +kernel
theorem dL_adds_186 : decode cL_adds 186 = .ok (.istore 9, 2) := by decide +kernel
theorem dL_adds_188 : decode cL_adds 188 = .ok (.iload 9, 2) := by decide +kernel
theorem dL_adds_190 : decode cL_adds 190 = .ok (.ifCond .lt 78, 3) := by decide +kernel
theorem dL_adds_193 : decode cL_adds 193 = .ok (.bipush 8, 2) := by decide +kernel
theorem dL_adds_195 : decode cL_adds 195 = .ok (.bipush 8, 2) := by decide +kernel
theorem dL_adds_197 : decode cL_adds 197 = .ok (.aload_n 1, 1) := by decide +kernel
theorem dL_adds_198 : decode cL_adds 198 = .ok (.iconst 0, 1) := by decide +kernel
theorem dL_adds_199 : decode cL_adds 199 = .ok (.iaload, 1) := by decide +kernel
theorem dL_adds_200 : decode cL_adds 200 = .ok (.imul, 1) := by decide +kernel
theorem dL_adds_201 : decode cL_adds 201 = .ok (.iadd, 1) := by decide +kernel
theorem dL_adds_202 : decode cL_adds 202 = .ok (.istore 10, 2) := by decide +kernel
theorem dL_adds_204 : decode cL_adds 204 = .ok (.aload_n 1, 1) := by decide +kernel
theorem dL_adds_205 : decode cL_adds 205 = .ok (.iload 10, 2) := by decide +kernel
theorem dL_adds_207 : decode cL_adds 207 = .ok (.iload 4, 2) := by decide +kernel
theorem dL_adds_209 : decode cL_adds 209 = .ok (.iastore, 1) := by decide +kernel
theorem dL_adds_210 : decode cL_adds 210 = .ok (.aload_n 1, 1) := by decide +kernel
theorem dL_adds_211 : decode cL_adds 211 = .ok (.iload 10, 2) := by decide +kernel
theorem dL_adds_213 : decode cL_adds 213 = .ok (.iconst 1, 1) := by decide +kernel
theorem dL_adds_214 : decode cL_adds 214 = .ok (.iadd, 1) := by decide +kernel
theorem dL_adds_215 : decode cL_adds 215 = .ok (.iload 5, 2) := by decide +kernel
theorem dL_adds_217 : decode cL_adds 217 = .ok (.iload 4, 2) := by decide +kernel
theorem dL_adds_219 : decode cL_adds 219 = .ok (.isub, 1) := by decide +kernel
theorem dL_adds_220 : decode cL_adds 220 = .ok (.iconst 1, 1) := by decide +kernel
theorem dL_adds_221 : decode cL_adds 221 = .ok (.iadd, 1) := by decide +kernel
theorem dL_adds_222 : decode cL_adds 222 = .ok (.iastore, 1) := by decide +kernel
theorem dL_adds_223 : decode cL_adds 223 = .ok (.aload_n 1, 1) := by decide +kernel
theorem dL_adds_224 : decode cL_adds 224 = .ok (.iload 10, 2) := by decide +kernel
theorem dL_adds_226 : decode cL_adds 226 = .ok (.iconst 2, 1) := by decide +kernel
theorem dL_adds_227 : decode cL_adds 227 = .ok (.iadd, 1) := by decide +kernel
theorem dL_adds_228 : decode cL_adds 228 = .ok (.iload 6, 2) := by decide +kernel
theorem dL_adds_230 : decode cL_adds 230 = .ok (.iastore, 1) := by decide +kernel
theorem dL_adds_231 : decode cL_adds 231 = .ok (.aload_n 1, 1) := by decide +kernel
theorem dL_adds_232 : decode cL_adds 232 = .ok (.iload 10, 2) := by decide +kernel
theorem dL_adds_234 : decode cL_adds 234 = .ok (.iconst 3, 1) := by decide +kernel
theorem dL_adds_235 : decode cL_adds 235 = .ok (.iadd, 1) := by decide +kernel
theorem dL_adds_236 : decode cL_adds 236 = .ok (.iload 7, 2) := by decide +kernel
theorem dL_adds_238 : decode cL_adds 238 = .ok (.iastore, 1) := by decide +kernel
theorem dL_adds_239 : decode cL_adds 239 = .ok (.aload_n 1, 1) := by decide +kernel
theorem dL_adds_240 : decode cL_adds 240 = .ok (.iload 10, 2) := by decide +kernel
theorem dL_adds_242 : decode cL_adds 242 = .ok (.iconst 4, 1) := by decide +kernel
theorem dL_adds_243 : decode cL_adds 243 = .ok (.iadd, 1) := by decide +kernel
theorem dL_adds_244 : decode cL_adds 244 = .ok (.iconst 1, 1) := by decide +kernel
theorem dL_adds_245 : decode cL_adds 245 = .ok (.iastore, 1) := by decide +kernel
theorem dL_adds_246 : decode cL_adds 246 = .ok (.aload_n 1, 1) := by decide +kernel
theorem dL_adds_247 : decode cL_adds 247 = .ok (.iload 10, 2) := by decide +kernel
theorem dL_adds_249 : decode cL_adds 249 = .ok (.iconst 5, 1) := by decide +kernel
theorem dL_adds_250 : decode cL_adds 250 = .ok (.iadd, 1) := by decide +kernel
theorem dL_adds_251 : decode cL_adds 251 = .ok (.iconst 0, 1) := by decide +kernel
theorem dL_adds_252 : decode cL_adds 252 = .ok (.iastore, 1) := by decide +kernel
theorem dL_adds_253 : decode cL_adds 253 = .ok (.aload_n 1, 1) := by decide +kernel
theorem dL_adds_254 : decode cL_adds 254 = .ok (.iload 10, 2) := by decide +kernel
theorem dL_adds_256 : decode cL_adds 256 = .ok (.bipush 6, 2) := by decide +kernel
theorem dL_adds_258 : decode cL_adds 258 = .ok (.iadd, 1) := by decide +kernel
theorem dL_adds_259 : decode cL_adds 259 = .ok (.iconst 0, 1) := by decide +kernel
theorem dL_adds_260 : decode cL_adds 260 = .ok (.iastore, 1) := by decide +kernel
theorem dL_adds_261 : decode cL_adds 261 = .ok (.aload_n 1, 1) := by decide +kernel
theorem dL_adds_262 : decode cL_adds 262 = .ok (.iconst 0, 1) := by decide +kernel
theorem dL_adds_263 : decode cL_adds 263 = .ok (.dup2, 1) := by decide +kernel
theorem dL_adds_264 : decode cL_adds 264 = .ok (.iaload, 1) := by decide +kernel
theorem dL_adds_265 : decode cL_adds 265 = .ok (.iconst 1, 1) := by decide +kernel
theorem dL_adds_266 : decode cL_adds 266 = .ok (.iadd, 1) := by decide +kernel
theorem dL_adds_267 : decode cL_adds 267 = .ok (.iastore, 1) := by decide +kernel
theorem dL_adds_268 : decode cL_adds 268 = .ok (.aload_n 0, 1) := by decide +kernel
theorem dL_adds_269 : decode cL_adds 269 = .ok (.iload 4, 2) := by decide +kernel
theorem dL_adds_271 : decode cL_adds 271 = .ok (.iload 5, 2) := by decide +kernel
theorem dL_adds_273 : decode cL_adds 273 = .ok (.iload 6, 2) := by decide +kernel
theorem dL_adds_275 : decode cL_adds 275 = .ok (.iload 7, 2) := by decide +kernel
theorem dL_adds_277 : decode cL_adds 277 = .ok (.invokevirtual 95, 3) := by decide +kernel
theorem dL_adds_280 : decode cL_adds 280 = .ok (.iload 9, 2) := by decide +kernel
theorem dL_adds_282 : decode cL_adds 282 = .ok (.if_icmp .ne 7, 3) := by decide +kernel
theorem dL_adds_285 : decode cL_adds 285 = .ok (.iconst 1, 1) := by decide +kernel
theorem dL_adds_286 : decode cL_adds 286 = .ok (.goto 4, 3) := by decide +kernel
theorem dL_adds_289 : decode cL_adds 289 = .ok (.iconst 0, 1) := by decide +kernel
theorem dL_adds_290 : decode cL_adds 290 = .ok (.ireturn, 1) := by decide +kernel
set_option maxHeartbeats 4000000 in
set_option maxRecDepth 100000 in
theorem w_adds2 (l : Launch) (E : gE) (X : gX) (g : Mem) (Ec : gE) (S : AS) (c r h p : Nat → Int32) (hL : LWP Ec E g S c r h p) (B M : Nat) (hB : B ≤ 9000000) (hM : M ≤ 90000000) (hI : IV S c r h p B M) (x y : Int32) (f la s w : Nat) (hf : f ≤ 32) (hfl : f ≤ la) (hla : la ≤ f + 8) (hs1 : 1 ≤ s) (hs : s ≤ 31) (hw : w ≤ 2) (hC : yC l E X RXL cL_adds 11 (some .boolean) 5 114) : Y l E X (pI (fun z g' => z = nI 1 ∧ ∃ (S' : AS) (c' r' h' p' : Nat → Int32), LWP Ec E g' S' c' r' h' p' ∧ IV S' c' r' h' p' (B + 100000) (M + 1000))) 75 [some (rf E (0)), some (rf E (101)), some (.int (x)), some (.int (y)), some (.int (nI (f))), some (.int (nI (la))), some (.int (nI (s))), some (.int (nI (w))), none, none, none] [] g := by
  obtain ⟨ho, ⟨a, K, hq⟩, hg, hcl, hvc, hpi⟩ := id hI
  have hv := ho.v
  have hrc : rc S.r ≤ 6 := hv.1.2
  have hgc : gc S.r ≤ 4 := hv.2.1.2
  refine y_iconst (v := nI 1) hC dL_adds_75 (by decide) ?_
  refine y_top (y := bI (frB S.r f 0 = true)) (nI_bt rfl) ?_
  refine y_istore hC dL_adds_76 (Nat.le_of_ble_eq_true rfl) rfl (lo' := [some (rf E (0)), some (rf E (101)), some (.int (x)), some (.int (y)), some (.int (nI (f))), some (.int (nI (la))), some (.int (nI (s))), some (.int (nI (w))), some (.int (bI (frB S.r f 0 = true))), none, none]) rfl ?_
  refine y_iload hC dL_adds_78 rfl ?_
  refine y_istore hC dL_adds_80 (Nat.le_of_ble_eq_true rfl) rfl (lo' := [some (rf E (0)), some (rf E (101)), some (.int (x)), some (.int (y)), some (.int (nI (f))), some (.int (nI (la))), some (.int (nI (s))), some (.int (nI (w))), some (.int (bI (frB S.r f 0 = true))), some (.int (nI (f))), none]) rfl ?_
  refine y_lo (lo' := [some (rf E (0)), some (rf E (101)), some (.int (x)), some (.int (y)), some (.int (nI (f))), some (.int (nI (la))), some (.int (nI (s))), some (.int (nI (w))), some (.int (bI (frB S.r f 0 = true))), some (.int (nI (f + 0))), none]) rfl ?_
  have L_82 : ∀ (m : Nat) (d : Nat), (hm : 32 - (f + d) < m) → (hd : f + d ≤ la + 1) → Y l E X (pI (fun z g' => z = nI 1 ∧ ∃ (S' : AS) (c' r' h' p' : Nat → Int32), LWP Ec E g' S' c' r' h' p' ∧ IV S' c' r' h' p' (B + 100000) (M + 1000))) 82 [some (rf E (0)), some (rf E (101)), some (.int (x)), some (.int (y)), some (.int (nI (f))), some (.int (nI (la))), some (.int (nI (s))), some (.int (nI (w))), some (.int (bI (frB S.r f d = true))), some (.int (nI (f + d))), none] [] g := by
    intro m
    induction m with
    | zero => intro d hm hd; exact absurd hm (Nat.not_lt_zero _)
    | succ m ih_82 =>
      intro d hm hd
      refine y_iload hC dL_adds_82 rfl ?_
      refine y_iload hC dL_adds_84 rfl ?_
      refine y_icmp_gt_n (tgt := 123) hC dL_adds_86 (by decide) (by omega) (by omega) (fun c_86 => ?_) (fun c_86 => ?_)
      · refine y_iload hC dL_adds_123 rfl ?_
        refine y_bipush (v := nI 31) hC dL_adds_125 (by decide) ?_
        refine y_icmp_le_n (tgt := 134) hC dL_adds_127 (by decide) (by omega) (by omega) (fun c_127 => ?_) (fun c_127 => ?_)
        · refine y_iload hC dL_adds_134 rfl ?_
          refine y_bipush (v := nI 31) hC dL_adds_136 (by decide) ?_
          refine y_icmp_gt_n (tgt := 155) hC dL_adds_138 (by decide) (by omega) (by omega) (fun c_138 => ?_) (fun c_138 => ?_)
          · refine y_bipush (v := (-2)) hC dL_adds_155 (by decide) ?_
            refine y_goto (tgt := 186) hC dL_adds_157 (by decide) ?_
            refine y_istore hC dL_adds_186 (Nat.le_of_ble_eq_true rfl) rfl (lo' := [some (rf E (0)), some (rf E (101)), some (.int (x)), some (.int (y)), some (.int (nI (f))), some (.int (nI (la))), some (.int (nI (s))), some (.int (nI (w))), some (.int (bI (frB S.r f d = true))), some (.int ((-2))), none]) rfl ?_
            refine y_iload hC dL_adds_188 rfl ?_
            refine y_if_lt (tgt := 268) hC dL_adds_190 (by decide) (fun c_190 => ?_) (fun c_190 => ?_)
            · refine y_aload_n hC dL_adds_268 (i := 0) rfl rfl ?_
              refine y_iload hC dL_adds_269 rfl ?_
              refine y_iload hC dL_adds_271 rfl ?_
              refine y_iload hC dL_adds_273 rfl ?_
              refine y_iload hC dL_adds_275 rfl ?_
              refine y_callVF hC hL.s mX5_addRange kXL_95 dL_adds_277 (b := 0) (As := [.int (nI (f)), .int (nI (la)), .int (nI (s)), .int (nI (w))]) (rest := []) (CPm hL.cp (fun sh mk wa hcq => c_X5_addRange l Ec g S B (by omega) ho sh mk wa hcq (nI (f)) (nI (la)) (nI (s)) (nI (w)))) hL.k0 hL.a0 rfl rfl rfl (Nat.le_of_ble_eq_true rfl) ⟨Nat.le_of_ble_eq_true rfl, Nat.le_of_ble_eq_true rfl⟩ (pkf_i ?_)
              rintro r_277 g_277 ⟨hr_277, hc_277⟩
              have he_277 := qa_2 (S := S) (f := f) (la := la) (s := s) (w := w) (by omega) (by omega) (by omega) hs1 (by omega) hw (by omega)
              rw [he_277] at hr_277 hc_277
              replace hr_277 : r_277 = ((-2)) := hr_277
              replace hc_277 : CP Ec g_277 (S) := hc_277
              rw [hr_277]
              clear hr_277 r_277
              have hL_277 := hL.call hc_277
              generalize mrg (eK Ec) g_277 g = G_277 at hL_277  ⊢
              refine y_iload hC dL_adds_280 rfl ?_
              refine y_icmp_ne (tgt := 289) hC dL_adds_282 (by decide) (fun c_282 => ?_) (fun c_282 => ?_)
              · exact absurd rfl c_282
              · refine y_iconst (v := nI 1) hC dL_adds_285 (by decide) ?_
                refine y_goto (tgt := 290) hC dL_adds_286 (by decide) ?_
                refine y_zret (hrt := rfl) (hn := rfl) (hC := hC) (hd := dL_adds_290) (hq := ?_)
                exact ⟨rfl, S, c, r, h, p, hL_277, hI.le (by omega) (by omega)⟩
            · exact absurd (by decide) c_190
          · refine y_iload hC dL_adds_141 rfl ?_
            refine y_iload hC dL_adds_143 rfl ?_
            refine y_icmp_eq_n (tgt := 155) hC dL_adds_145 (by decide) (by omega) (by omega) (fun c_145 => ?_) (fun c_145 => ?_)
            · refine y_bipush (v := (-2)) hC dL_adds_155 (by decide) ?_
              refine y_goto (tgt := 186) hC dL_adds_157 (by decide) ?_
              refine y_istore hC dL_adds_186 (Nat.le_of_ble_eq_true rfl) rfl (lo' := [some (rf E (0)), some (rf E (101)), some (.int (x)), some (.int (y)), some (.int (nI (f))), some (.int (nI (la))), some (.int (nI (s))), some (.int (nI (w))), some (.int (bI (frB S.r f d = true))), some (.int ((-2))), none]) rfl ?_
              refine y_iload hC dL_adds_188 rfl ?_
              refine y_if_lt (tgt := 268) hC dL_adds_190 (by decide) (fun c_190 => ?_) (fun c_190 => ?_)
              · refine y_aload_n hC dL_adds_268 (i := 0) rfl rfl ?_
                refine y_iload hC dL_adds_269 rfl ?_
                refine y_iload hC dL_adds_271 rfl ?_
                refine y_iload hC dL_adds_273 rfl ?_
                refine y_iload hC dL_adds_275 rfl ?_
                refine y_callVF hC hL.s mX5_addRange kXL_95 dL_adds_277 (b := 0) (As := [.int (nI (f)), .int (nI (la)), .int (nI (s)), .int (nI (w))]) (rest := []) (CPm hL.cp (fun sh mk wa hcq => c_X5_addRange l Ec g S B (by omega) ho sh mk wa hcq (nI (f)) (nI (la)) (nI (s)) (nI (w)))) hL.k0 hL.a0 rfl rfl rfl (Nat.le_of_ble_eq_true rfl) ⟨Nat.le_of_ble_eq_true rfl, Nat.le_of_ble_eq_true rfl⟩ (pkf_i ?_)
                rintro r_277 g_277 ⟨hr_277, hc_277⟩
                have he_277 := qa_2 (S := S) (f := f) (la := la) (s := s) (w := w) (by omega) (by omega) (by omega) hs1 (by omega) hw (by omega)
                rw [he_277] at hr_277 hc_277
                replace hr_277 : r_277 = ((-2)) := hr_277
                replace hc_277 : CP Ec g_277 (S) := hc_277
                rw [hr_277]
                clear hr_277 r_277
                have hL_277 := hL.call hc_277
                generalize mrg (eK Ec) g_277 g = G_277 at hL_277  ⊢
                refine y_iload hC dL_adds_280 rfl ?_
                refine y_icmp_ne (tgt := 289) hC dL_adds_282 (by decide) (fun c_282 => ?_) (fun c_282 => ?_)
                · exact absurd rfl c_282
                · refine y_iconst (v := nI 1) hC dL_adds_285 (by decide) ?_
                  refine y_goto (tgt := 290) hC dL_adds_286 (by decide) ?_
                  refine y_zret (hrt := rfl) (hn := rfl) (hC := hC) (hd := dL_adds_290) (hq := ?_)
                  exact ⟨rfl, S, c, r, h, p, hL_277, hI.le (by omega) (by omega)⟩
              · exact absurd (by decide) c_190
            · refine y_iload hC dL_adds_148 rfl ?_
              refine y_bipush (v := nI 30) hC dL_adds_150 (by decide) ?_
              refine y_icmp_le_n (tgt := 160) hC dL_adds_152 (by decide) (by omega) (by omega) (fun c_152 => ?_) (fun c_152 => ?_)
              · refine y_iload hC dL_adds_160 rfl ?_
                refine y_if_ne_b (tgt := 170) hC dL_adds_162 (by decide) (fun c_162 => ?_) (fun c_162 => ?_)
                · refine y_aload_n hC dL_adds_170 (i := 1) rfl rfl ?_
                  refine y_iconst (v := nI 0) hC dL_adds_171 (by decide) ?_
                  refine y_iald hC dL_adds_172 (k := 101) (j := 0) (by have := hL.k; omega) hL.a101 (rfl) (by omega) (by decide) ?_
                  refine y_top (y := nI (rc S.r)) (hq.n) ?_
                  refine y_bipush (v := nI 6) hC dL_adds_173 (by decide) ?_
                  refine y_icmp_ne_n (tgt := 183) hC dL_adds_175 (by decide) (by omega) (by omega) (fun c_175 => ?_) (fun c_175 => ?_)
                  · refine y_aload_n hC dL_adds_183 (i := 1) rfl rfl ?_
                    refine y_iconst (v := nI 0) hC dL_adds_184 (by decide) ?_
                    refine y_iald hC dL_adds_185 (k := 101) (j := 0) (by have := hL.k; omega) hL.a101 (rfl) (by omega) (by decide) ?_
                    refine y_top (y := nI (rc S.r)) (hq.n) ?_
                    refine y_istore hC dL_adds_186 (Nat.le_of_ble_eq_true rfl) rfl (lo' := [some (rf E (0)), some (rf E (101)), some (.int (x)), some (.int (y)), some (.int (nI (f))), some (.int (nI (la))), some (.int (nI (s))), some (.int (nI (w))), some (.int (bI (frB S.r f d = true))), some (.int (nI (rc S.r))), none]) rfl ?_
                    refine y_iload hC dL_adds_188 rfl ?_
                    refine y_if_lt_n (tgt := 268) hC dL_adds_190 (by decide) (by omega) (fun c_190 => ?_) (fun c_190 => ?_)
                    · exfalso
                      omega
                    · have hov := (fr_ovl (d := d) hv (show f ≤ la by omega) (by omega)).mp c_162
                      refine y_bipush (v := nI 8) hC dL_adds_193 (by decide) ?_
                      refine y_bipush (v := nI 8) hC dL_adds_195 (by decide) ?_
                      refine y_aload_n hC dL_adds_197 (i := 1) rfl rfl ?_
                      refine y_iconst (v := nI 0) hC dL_adds_198 (by decide) ?_
                      refine y_iald hC dL_adds_199 (k := 101) (j := 0) (by have := hL.k; omega) hL.a101 (rfl) (by omega) (by decide) ?_
                      refine y_top (y := nI (rc S.r)) (hq.n) ?_
                      refine y_imul_n hC dL_adds_200 ?_
                      refine y_iadd_n hC dL_adds_201 ?_
                      refine y_istore hC dL_adds_202 (Nat.le_of_ble_eq_true rfl) rfl (lo' := [some (rf E (0)), some (rf E (101)), some (.int (x)), some (.int (y)), some (.int (nI (f))), some (.int (nI (la))), some (.int (nI (s))), some (.int (nI (w))), some (.int (bI (frB S.r f d = true))), some (.int (nI (rc S.r))), some (.int (nI (8 + (8 * (rc S.r)))))]) rfl ?_
                      refine y_aload_n hC dL_adds_204 (i := 1) rfl rfl ?_
                      refine y_iload hC dL_adds_205 rfl ?_
                      refine y_iload hC dL_adds_207 rfl ?_
                      refine y_iast hC dL_adds_209 (k := 101) (j := 8 + (8 * (rc S.r))) (by have := hL.k; omega) hL.a101 (rfl) (by omega) (by decide) ?_
                      have hL_209 := hL.ur (upd r (8 + (8 * (rc S.r))) (nI (f)))
                      generalize (va_up g (101) (aI E 0 56 (upd r (8 + (8 * (rc S.r))) (nI (f))))) = G_209 at hL_209  ⊢
                      refine y_aload_n hC dL_adds_210 (i := 1) rfl rfl ?_
                      refine y_iload hC dL_adds_211 rfl ?_
                      refine y_iconst (v := nI 1) hC dL_adds_213 (by decide) ?_
                      refine y_iadd_n hC dL_adds_214 ?_
                      refine y_iload hC dL_adds_215 rfl ?_
                      refine y_iload hC dL_adds_217 rfl ?_
                      refine y_isub_n hC dL_adds_219 (by omega) ?_
                      refine y_iconst (v := nI 1) hC dL_adds_220 (by decide) ?_
                      refine y_iadd_n hC dL_adds_221 ?_
                      refine y_iast hC dL_adds_222 (k := 101) (j := (8 + (8 * (rc S.r))) + 1) (by have := hL_209.k; omega) hL_209.a101 (rfl) (by omega) (by decide) ?_
                      have hL_222 := hL_209.ur (upd (upd r (8 + (8 * (rc S.r))) (nI (f))) ((8 + (8 * (rc S.r))) + 1) (nI ((la - (f)) + 1)))
                      generalize (va_up G_209 (101) (aI E 0 56 (upd (upd r (8 + (8 * (rc S.r))) (nI (f))) ((8 + (8 * (rc S.r))) + 1) (nI ((la - (f)) + 1))))) = G_222 at hL_222  ⊢
                      refine y_aload_n hC dL_adds_223 (i := 1) rfl rfl ?_
                      refine y_iload hC dL_adds_224 rfl ?_
                      refine y_iconst (v := nI 2) hC dL_adds_226 (by decide) ?_
                      refine y_iadd_n hC dL_adds_227 ?_
                      refine y_iload hC dL_adds_228 rfl ?_
                      refine y_iast hC dL_adds_230 (k := 101) (j := (8 + (8 * (rc S.r))) + 2) (by have := hL_222.k; omega) hL_222.a101 (rfl) (by omega) (by decide) ?_
                      have hL_230 := hL_222.ur (upd (upd (upd r (8 + (8 * (rc S.r))) (nI (f))) ((8 + (8 * (rc S.r))) + 1) (nI ((la - (f)) + 1))) ((8 + (8 * (rc S.r))) + 2) (nI (s)))
                      generalize (va_up G_222 (101) (aI E 0 56 (upd (upd (upd r (8 + (8 * (rc S.r))) (nI (f))) ((8 + (8 * (rc S.r))) + 1) (nI ((la - (f)) + 1))) ((8 + (8 * (rc S.r))) + 2) (nI (s))))) = G_230 at hL_230  ⊢
                      refine y_aload_n hC dL_adds_231 (i := 1) rfl rfl ?_
                      refine y_iload hC dL_adds_232 rfl ?_
                      refine y_iconst (v := nI 3) hC dL_adds_234 (by decide) ?_
                      refine y_iadd_n hC dL_adds_235 ?_
                      refine y_iload hC dL_adds_236 rfl ?_
                      refine y_iast hC dL_adds_238 (k := 101) (j := (8 + (8 * (rc S.r))) + 3) (by have := hL_230.k; omega) hL_230.a101 (rfl) (by omega) (by decide) ?_
                      have hL_238 := hL_230.ur (upd (upd (upd (upd r (8 + (8 * (rc S.r))) (nI (f))) ((8 + (8 * (rc S.r))) + 1) (nI ((la - (f)) + 1))) ((8 + (8 * (rc S.r))) + 2) (nI (s))) ((8 + (8 * (rc S.r))) + 3) (nI (w)))
                      generalize (va_up G_230 (101) (aI E 0 56 (upd (upd (upd (upd r (8 + (8 * (rc S.r))) (nI (f))) ((8 + (8 * (rc S.r))) + 1) (nI ((la - (f)) + 1))) ((8 + (8 * (rc S.r))) + 2) (nI (s))) ((8 + (8 * (rc S.r))) + 3) (nI (w))))) = G_238 at hL_238  ⊢
                      refine y_aload_n hC dL_adds_239 (i := 1) rfl rfl ?_
                      refine y_iload hC dL_adds_240 rfl ?_
                      refine y_iconst (v := nI 4) hC dL_adds_242 (by decide) ?_
                      refine y_iadd_n hC dL_adds_243 ?_
                      refine y_iconst (v := nI 1) hC dL_adds_244 (by decide) ?_
                      refine y_iast hC dL_adds_245 (k := 101) (j := (8 + (8 * (rc S.r))) + 4) (by have := hL_238.k; omega) hL_238.a101 (rfl) (by omega) (by decide) ?_
                      have hL_245 := hL_238.ur (upd (upd (upd (upd (upd r (8 + (8 * (rc S.r))) (nI (f))) ((8 + (8 * (rc S.r))) + 1) (nI ((la - (f)) + 1))) ((8 + (8 * (rc S.r))) + 2) (nI (s))) ((8 + (8 * (rc S.r))) + 3) (nI (w))) ((8 + (8 * (rc S.r))) + 4) (nI (1)))
                      generalize (va_up G_238 (101) (aI E 0 56 (upd (upd (upd (upd (upd r (8 + (8 * (rc S.r))) (nI (f))) ((8 + (8 * (rc S.r))) + 1) (nI ((la - (f)) + 1))) ((8 + (8 * (rc S.r))) + 2) (nI (s))) ((8 + (8 * (rc S.r))) + 3) (nI (w))) ((8 + (8 * (rc S.r))) + 4) (nI (1))))) = G_245 at hL_245  ⊢
                      refine y_aload_n hC dL_adds_246 (i := 1) rfl rfl ?_
                      refine y_iload hC dL_adds_247 rfl ?_
                      refine y_iconst (v := nI 5) hC dL_adds_249 (by decide) ?_
                      refine y_iadd_n hC dL_adds_250 ?_
                      refine y_iconst (v := nI 0) hC dL_adds_251 (by decide) ?_
                      refine y_iast hC dL_adds_252 (k := 101) (j := (8 + (8 * (rc S.r))) + 5) (by have := hL_245.k; omega) hL_245.a101 (rfl) (by omega) (by decide) ?_
                      have hL_252 := hL_245.ur (upd (upd (upd (upd (upd (upd r (8 + (8 * (rc S.r))) (nI (f))) ((8 + (8 * (rc S.r))) + 1) (nI ((la - (f)) + 1))) ((8 + (8 * (rc S.r))) + 2) (nI (s))) ((8 + (8 * (rc S.r))) + 3) (nI (w))) ((8 + (8 * (rc S.r))) + 4) (nI (1))) ((8 + (8 * (rc S.r))) + 5) (nI (0)))
                      generalize (va_up G_245 (101) (aI E 0 56 (upd (upd (upd (upd (upd (upd r (8 + (8 * (rc S.r))) (nI (f))) ((8 + (8 * (rc S.r))) + 1) (nI ((la - (f)) + 1))) ((8 + (8 * (rc S.r))) + 2) (nI (s))) ((8 + (8 * (rc S.r))) + 3) (nI (w))) ((8 + (8 * (rc S.r))) + 4) (nI (1))) ((8 + (8 * (rc S.r))) + 5) (nI (0))))) = G_252 at hL_252  ⊢
                      refine y_aload_n hC dL_adds_253 (i := 1) rfl rfl ?_
                      refine y_iload hC dL_adds_254 rfl ?_
                      refine y_bipush (v := nI 6) hC dL_adds_256 (by decide) ?_
                      refine y_iadd_n hC dL_adds_258 ?_
                      refine y_iconst (v := nI 0) hC dL_adds_259 (by decide) ?_
                      refine y_iast hC dL_adds_260 (k := 101) (j := (8 + (8 * (rc S.r))) + 6) (by have := hL_252.k; omega) hL_252.a101 (rfl) (by omega) (by decide) ?_
                      have hL_260 := hL_252.ur (upd (upd (upd (upd (upd (upd (upd r (8 + (8 * (rc S.r))) (nI (f))) ((8 + (8 * (rc S.r))) + 1) (nI ((la - (f)) + 1))) ((8 + (8 * (rc S.r))) + 2) (nI (s))) ((8 + (8 * (rc S.r))) + 3) (nI (w))) ((8 + (8 * (rc S.r))) + 4) (nI (1))) ((8 + (8 * (rc S.r))) + 5) (nI (0))) ((8 + (8 * (rc S.r))) + 6) (nI (0)))
                      generalize (va_up G_252 (101) (aI E 0 56 (upd (upd (upd (upd (upd (upd (upd r (8 + (8 * (rc S.r))) (nI (f))) ((8 + (8 * (rc S.r))) + 1) (nI ((la - (f)) + 1))) ((8 + (8 * (rc S.r))) + 2) (nI (s))) ((8 + (8 * (rc S.r))) + 3) (nI (w))) ((8 + (8 * (rc S.r))) + 4) (nI (1))) ((8 + (8 * (rc S.r))) + 5) (nI (0))) ((8 + (8 * (rc S.r))) + 6) (nI (0))))) = G_260 at hL_260  ⊢
                      refine y_aload_n hC dL_adds_261 (i := 1) rfl rfl ?_
                      refine y_iconst (v := nI 0) hC dL_adds_262 (by decide) ?_
                      refine y_dup2 hC dL_adds_263 rfl rfl ?_
                      refine y_iald hC dL_adds_264 (k := 101) (j := 0) (by have := hL_260.k; omega) hL_260.a101 (rfl) (by omega) (by decide) ?_
                      refine y_top (y := nI (rc S.r)) ((pk_un (by omega)).trans ((pk_un (by omega)).trans ((pk_un (by omega)).trans ((pk_un (by omega)).trans ((pk_un (by omega)).trans ((pk_un (by omega)).trans ((pk_un (by omega)).trans (hq.n)))))))) ?_
                      refine y_iconst (v := nI 1) hC dL_adds_265 (by decide) ?_
                      refine y_iadd_n hC dL_adds_266 ?_
                      refine y_iast hC dL_adds_267 (k := 101) (j := 0) (by have := hL_260.k; omega) hL_260.a101 (rfl) (by omega) (by decide) ?_
                      have hL_267 := hL_260.ur (upd (upd (upd (upd (upd (upd (upd (upd r (8 + (8 * (rc S.r))) (nI (f))) ((8 + (8 * (rc S.r))) + 1) (nI ((la - (f)) + 1))) ((8 + (8 * (rc S.r))) + 2) (nI (s))) ((8 + (8 * (rc S.r))) + 3) (nI (w))) ((8 + (8 * (rc S.r))) + 4) (nI (1))) ((8 + (8 * (rc S.r))) + 5) (nI (0))) ((8 + (8 * (rc S.r))) + 6) (nI (0))) (0) (nI ((rc S.r) + 1)))
                      generalize (va_up G_260 (101) (aI E 0 56 (upd (upd (upd (upd (upd (upd (upd (upd r (8 + (8 * (rc S.r))) (nI (f))) ((8 + (8 * (rc S.r))) + 1) (nI ((la - (f)) + 1))) ((8 + (8 * (rc S.r))) + 2) (nI (s))) ((8 + (8 * (rc S.r))) + 3) (nI (w))) ((8 + (8 * (rc S.r))) + 4) (nI (1))) ((8 + (8 * (rc S.r))) + 5) (nI (0))) ((8 + (8 * (rc S.r))) + 6) (nI (0))) (0) (nI ((rc S.r) + 1))))) = G_267 at hL_267  ⊢
                      refine y_aload_n hC dL_adds_268 (i := 0) rfl rfl ?_
                      refine y_iload hC dL_adds_269 rfl ?_
                      refine y_iload hC dL_adds_271 rfl ?_
                      refine y_iload hC dL_adds_273 rfl ?_
                      refine y_iload hC dL_adds_275 rfl ?_
                      refine y_callVF hC hL_267.s mX5_addRange kXL_95 dL_adds_277 (b := 0) (As := [.int (nI (f)), .int (nI (la)), .int (nI (s)), .int (nI (w))]) (rest := []) (CPm hL_267.cp (fun sh mk wa hcq => c_X5_addRange l Ec G_267 S B (by omega) ho sh mk wa hcq (nI (f)) (nI (la)) (nI (s)) (nI (w)))) hL_267.k0 hL_267.a0 rfl rfl rfl (Nat.le_of_ble_eq_true rfl) ⟨Nat.le_of_ble_eq_true rfl, Nat.le_of_ble_eq_true rfl⟩ (pkf_i ?_)
                      rintro r_277 g_277 ⟨hr_277, hc_277⟩
                      have he_277 := qa_0 (S := S) (f := f) (la := la) (s := s) (w := w) (by omega) (by omega) (by omega) hs1 (by omega) hw hov (by omega)
                      rw [he_277] at hr_277 hc_277
                      replace hr_277 : r_277 = nI (rc S.r) := hr_277
                      replace hc_277 : CP Ec g_277 (S.rec.row (addR S.r (nI f) (nI la) (nI s) (nI w))) := hc_277
                      rw [hr_277]
                      clear hr_277 r_277
                      have hL_277 := hL_267.call hc_277
                      generalize mrg (eK Ec) g_277 G_267 = G_277 at hL_277  ⊢
                      refine y_iload hC dL_adds_280 rfl ?_
                      refine y_icmp_ne_n (tgt := 289) hC dL_adds_282 (by decide) (by omega) (by omega) (fun c_282 => ?_) (fun c_282 => ?_)
                      · exact absurd rfl c_282
                      · refine y_iconst (v := nI 1) hC dL_adds_285 (by decide) ?_
                        refine y_goto (tgt := 290) hC dL_adds_286 (by decide) ?_
                        refine y_zret (hrt := rfl) (hn := rfl) (hC := hC) (hd := dL_adds_290) (hq := ?_)
                        have hvr : OK (S.rec.row (addR S.r (nI f) (nI la) (nI s) (nI w))) (B + 10000) := by
                          have := ok_addRange ho (nI f) (nI la) (nI s) (nI w)
                          rw [he_277] at this
                          exact this
                        refine ⟨rfl, _, _, _, _, _, hL_277, (hI.rg hvr (rg_add hv hq (by omega) (by omega) (by omega) hs1 (by omega) hw pk_us (fun j h1 h2 => (pk_un (by omega)).trans ((pk_un (by omega)).trans ((pk_un (by omega)).trans ((pk_un (by omega)).trans ((pk_un (by omega)).trans ((pk_un (by omega)).trans ((pk_un (by omega)).trans ((pk_un (by omega)).trans (rfl))))))))) ((pk_un (by omega)).trans ((pk_un (by omega)).trans ((pk_un (by omega)).trans ((pk_un (by omega)).trans ((pk_un (by omega)).trans ((pk_un (by omega)).trans ((pk_un (by omega)).trans (pk_us)))))))) ((pk_un (by omega)).trans ((pk_un (by omega)).trans ((pk_un (by omega)).trans ((pk_un (by omega)).trans ((pk_un (by omega)).trans ((pk_un (by omega)).trans (pk_us))))))) ((pk_un (by omega)).trans ((pk_un (by omega)).trans ((pk_un (by omega)).trans ((pk_un (by omega)).trans ((pk_un (by omega)).trans (pk_us)))))) ((pk_un (by omega)).trans ((pk_un (by omega)).trans ((pk_un (by omega)).trans ((pk_un (by omega)).trans (pk_us))))) ((pk_un (by omega)).trans ((pk_un (by omega)).trans ((pk_un (by omega)).trans (pk_us)))) ((pk_un (by omega)).trans ((pk_un (by omega)).trans (pk_us))) ((pk_un (by omega)).trans (pk_us))) (fun k hk => (if_neg (by omega)).trans (if_neg (by omega)))).le (by omega) (by omega)⟩
                  · refine y_bipush (v := (-3)) hC dL_adds_178 (by decide) ?_
                    refine y_goto (tgt := 186) hC dL_adds_180 (by decide) ?_
                    refine y_istore hC dL_adds_186 (Nat.le_of_ble_eq_true rfl) rfl (lo' := [some (rf E (0)), some (rf E (101)), some (.int (x)), some (.int (y)), some (.int (nI (f))), some (.int (nI (la))), some (.int (nI (s))), some (.int (nI (w))), some (.int (bI (frB S.r f d = true))), some (.int ((-3))), none]) rfl ?_
                    refine y_iload hC dL_adds_188 rfl ?_
                    refine y_if_lt (tgt := 268) hC dL_adds_190 (by decide) (fun c_190 => ?_) (fun c_190 => ?_)
                    · refine y_aload_n hC dL_adds_268 (i := 0) rfl rfl ?_
                      refine y_iload hC dL_adds_269 rfl ?_
                      refine y_iload hC dL_adds_271 rfl ?_
                      refine y_iload hC dL_adds_273 rfl ?_
                      refine y_iload hC dL_adds_275 rfl ?_
                      refine y_callVF hC hL.s mX5_addRange kXL_95 dL_adds_277 (b := 0) (As := [.int (nI (f)), .int (nI (la)), .int (nI (s)), .int (nI (w))]) (rest := []) (CPm hL.cp (fun sh mk wa hcq => c_X5_addRange l Ec g S B (by omega) ho sh mk wa hcq (nI (f)) (nI (la)) (nI (s)) (nI (w)))) hL.k0 hL.a0 rfl rfl rfl (Nat.le_of_ble_eq_true rfl) ⟨Nat.le_of_ble_eq_true rfl, Nat.le_of_ble_eq_true rfl⟩ (pkf_i ?_)
                      rintro r_277 g_277 ⟨hr_277, hc_277⟩
                      have he_277 := qa_3 (S := S) (f := f) (la := la) (s := s) (w := w) (by omega) (by omega) (by omega) hs1 (by omega) hw ((fr_ovl (d := d) hv (by omega) (by omega)).mp c_162) (by omega)
                      rw [he_277] at hr_277 hc_277
                      replace hr_277 : r_277 = ((-3)) := hr_277
                      replace hc_277 : CP Ec g_277 (S) := hc_277
                      rw [hr_277]
                      clear hr_277 r_277
                      have hL_277 := hL.call hc_277
                      generalize mrg (eK Ec) g_277 g = G_277 at hL_277  ⊢
                      refine y_iload hC dL_adds_280 rfl ?_
                      refine y_icmp_ne (tgt := 289) hC dL_adds_282 (by decide) (fun c_282 => ?_) (fun c_282 => ?_)
                      · exact absurd rfl c_282
                      · refine y_iconst (v := nI 1) hC dL_adds_285 (by decide) ?_
                        refine y_goto (tgt := 290) hC dL_adds_286 (by decide) ?_
                        refine y_zret (hrt := rfl) (hn := rfl) (hC := hC) (hd := dL_adds_290) (hq := ?_)
                        exact ⟨rfl, S, c, r, h, p, hL_277, hI.le (by omega) (by omega)⟩
                    · exact absurd (by decide) c_190
                · refine y_bipush (v := (-4)) hC dL_adds_165 (by decide) ?_
                  refine y_goto (tgt := 186) hC dL_adds_167 (by decide) ?_
                  refine y_istore hC dL_adds_186 (Nat.le_of_ble_eq_true rfl) rfl (lo' := [some (rf E (0)), some (rf E (101)), some (.int (x)), some (.int (y)), some (.int (nI (f))), some (.int (nI (la))), some (.int (nI (s))), some (.int (nI (w))), some (.int (bI (frB S.r f d = true))), some (.int ((-4))), none]) rfl ?_
                  refine y_iload hC dL_adds_188 rfl ?_
                  refine y_if_lt (tgt := 268) hC dL_adds_190 (by decide) (fun c_190 => ?_) (fun c_190 => ?_)
                  · refine y_aload_n hC dL_adds_268 (i := 0) rfl rfl ?_
                    refine y_iload hC dL_adds_269 rfl ?_
                    refine y_iload hC dL_adds_271 rfl ?_
                    refine y_iload hC dL_adds_273 rfl ?_
                    refine y_iload hC dL_adds_275 rfl ?_
                    refine y_callVF hC hL.s mX5_addRange kXL_95 dL_adds_277 (b := 0) (As := [.int (nI (f)), .int (nI (la)), .int (nI (s)), .int (nI (w))]) (rest := []) (CPm hL.cp (fun sh mk wa hcq => c_X5_addRange l Ec g S B (by omega) ho sh mk wa hcq (nI (f)) (nI (la)) (nI (s)) (nI (w)))) hL.k0 hL.a0 rfl rfl rfl (Nat.le_of_ble_eq_true rfl) ⟨Nat.le_of_ble_eq_true rfl, Nat.le_of_ble_eq_true rfl⟩ (pkf_i ?_)
                    rintro r_277 g_277 ⟨hr_277, hc_277⟩
                    have he_277 := qa_4 (S := S) (f := f) (la := la) (s := s) (w := w) (by omega) (by omega) (by omega) hs1 (by omega) hw (by
                      apply Decidable.byContradiction
                      exact fun q => c_162 ((fr_ovl (d := d) hv (by omega) (by omega)).mpr q))
                    rw [he_277] at hr_277 hc_277
                    replace hr_277 : r_277 = ((-4)) := hr_277
                    replace hc_277 : CP Ec g_277 (S) := hc_277
                    rw [hr_277]
                    clear hr_277 r_277
                    have hL_277 := hL.call hc_277
                    generalize mrg (eK Ec) g_277 g = G_277 at hL_277  ⊢
                    refine y_iload hC dL_adds_280 rfl ?_
                    refine y_icmp_ne (tgt := 289) hC dL_adds_282 (by decide) (fun c_282 => ?_) (fun c_282 => ?_)
                    · exact absurd rfl c_282
                    · refine y_iconst (v := nI 1) hC dL_adds_285 (by decide) ?_
                      refine y_goto (tgt := 290) hC dL_adds_286 (by decide) ?_
                      refine y_zret (hrt := rfl) (hn := rfl) (hC := hC) (hd := dL_adds_290) (hq := ?_)
                      exact ⟨rfl, S, c, r, h, p, hL_277, hI.le (by omega) (by omega)⟩
                  · exact absurd (by decide) c_190
              · refine y_bipush (v := (-2)) hC dL_adds_155 (by decide) ?_
                refine y_goto (tgt := 186) hC dL_adds_157 (by decide) ?_
                refine y_istore hC dL_adds_186 (Nat.le_of_ble_eq_true rfl) rfl (lo' := [some (rf E (0)), some (rf E (101)), some (.int (x)), some (.int (y)), some (.int (nI (f))), some (.int (nI (la))), some (.int (nI (s))), some (.int (nI (w))), some (.int (bI (frB S.r f d = true))), some (.int ((-2))), none]) rfl ?_
                refine y_iload hC dL_adds_188 rfl ?_
                refine y_if_lt (tgt := 268) hC dL_adds_190 (by decide) (fun c_190 => ?_) (fun c_190 => ?_)
                · refine y_aload_n hC dL_adds_268 (i := 0) rfl rfl ?_
                  refine y_iload hC dL_adds_269 rfl ?_
                  refine y_iload hC dL_adds_271 rfl ?_
                  refine y_iload hC dL_adds_273 rfl ?_
                  refine y_iload hC dL_adds_275 rfl ?_
                  refine y_callVF hC hL.s mX5_addRange kXL_95 dL_adds_277 (b := 0) (As := [.int (nI (f)), .int (nI (la)), .int (nI (s)), .int (nI (w))]) (rest := []) (CPm hL.cp (fun sh mk wa hcq => c_X5_addRange l Ec g S B (by omega) ho sh mk wa hcq (nI (f)) (nI (la)) (nI (s)) (nI (w)))) hL.k0 hL.a0 rfl rfl rfl (Nat.le_of_ble_eq_true rfl) ⟨Nat.le_of_ble_eq_true rfl, Nat.le_of_ble_eq_true rfl⟩ (pkf_i ?_)
                  rintro r_277 g_277 ⟨hr_277, hc_277⟩
                  have he_277 := qa_2 (S := S) (f := f) (la := la) (s := s) (w := w) (by omega) (by omega) (by omega) hs1 (by omega) hw (by omega)
                  rw [he_277] at hr_277 hc_277
                  replace hr_277 : r_277 = ((-2)) := hr_277
                  replace hc_277 : CP Ec g_277 (S) := hc_277
                  rw [hr_277]
                  clear hr_277 r_277
                  have hL_277 := hL.call hc_277
                  generalize mrg (eK Ec) g_277 g = G_277 at hL_277  ⊢
                  refine y_iload hC dL_adds_280 rfl ?_
                  refine y_icmp_ne (tgt := 289) hC dL_adds_282 (by decide) (fun c_282 => ?_) (fun c_282 => ?_)
                  · exact absurd rfl c_282
                  · refine y_iconst (v := nI 1) hC dL_adds_285 (by decide) ?_
                    refine y_goto (tgt := 290) hC dL_adds_286 (by decide) ?_
                    refine y_zret (hrt := rfl) (hn := rfl) (hC := hC) (hd := dL_adds_290) (hq := ?_)
                    exact ⟨rfl, S, c, r, h, p, hL_277, hI.le (by omega) (by omega)⟩
                · exact absurd (by decide) c_190
        · refine y_iconst (v := (-1)) hC dL_adds_130 (by decide) ?_
          refine y_goto (tgt := 186) hC dL_adds_131 (by decide) ?_
          refine y_istore hC dL_adds_186 (Nat.le_of_ble_eq_true rfl) rfl (lo' := [some (rf E (0)), some (rf E (101)), some (.int (x)), some (.int (y)), some (.int (nI (f))), some (.int (nI (la))), some (.int (nI (s))), some (.int (nI (w))), some (.int (bI (frB S.r f d = true))), some (.int ((-1))), none]) rfl ?_
          refine y_iload hC dL_adds_188 rfl ?_
          refine y_if_lt (tgt := 268) hC dL_adds_190 (by decide) (fun c_190 => ?_) (fun c_190 => ?_)
          · refine y_aload_n hC dL_adds_268 (i := 0) rfl rfl ?_
            refine y_iload hC dL_adds_269 rfl ?_
            refine y_iload hC dL_adds_271 rfl ?_
            refine y_iload hC dL_adds_273 rfl ?_
            refine y_iload hC dL_adds_275 rfl ?_
            refine y_callVF hC hL.s mX5_addRange kXL_95 dL_adds_277 (b := 0) (As := [.int (nI (f)), .int (nI (la)), .int (nI (s)), .int (nI (w))]) (rest := []) (CPm hL.cp (fun sh mk wa hcq => c_X5_addRange l Ec g S B (by omega) ho sh mk wa hcq (nI (f)) (nI (la)) (nI (s)) (nI (w)))) hL.k0 hL.a0 rfl rfl rfl (Nat.le_of_ble_eq_true rfl) ⟨Nat.le_of_ble_eq_true rfl, Nat.le_of_ble_eq_true rfl⟩ (pkf_i ?_)
            rintro r_277 g_277 ⟨hr_277, hc_277⟩
            have he_277 := qa_1 (S := S) (f := f) (by omega) (by omega) (nI (la)) (nI (s)) (nI (w))
            rw [he_277] at hr_277 hc_277
            replace hr_277 : r_277 = ((-1)) := hr_277
            replace hc_277 : CP Ec g_277 (S) := hc_277
            rw [hr_277]
            clear hr_277 r_277
            have hL_277 := hL.call hc_277
            generalize mrg (eK Ec) g_277 g = G_277 at hL_277  ⊢
            refine y_iload hC dL_adds_280 rfl ?_
            refine y_icmp_ne (tgt := 289) hC dL_adds_282 (by decide) (fun c_282 => ?_) (fun c_282 => ?_)
            · exact absurd rfl c_282
            · refine y_iconst (v := nI 1) hC dL_adds_285 (by decide) ?_
              refine y_goto (tgt := 290) hC dL_adds_286 (by decide) ?_
              refine y_zret (hrt := rfl) (hn := rfl) (hC := hC) (hd := dL_adds_290) (hq := ?_)
              exact ⟨rfl, S, c, r, h, p, hL_277, hI.le (by omega) (by omega)⟩
          · exact absurd (by decide) c_190
      · refine y_iload hC dL_adds_89 rfl ?_
        refine y_bipush (v := nI 32) hC dL_adds_91 (by decide) ?_
        refine y_icmp_ge_n (tgt := 123) hC dL_adds_93 (by decide) (by omega) (by omega) (fun c_93 => ?_) (fun c_93 => ?_)
        · refine y_iload hC dL_adds_123 rfl ?_
          refine y_bipush (v := nI 31) hC dL_adds_125 (by decide) ?_
          refine y_icmp_le_n (tgt := 134) hC dL_adds_127 (by decide) (by omega) (by omega) (fun c_127 => ?_) (fun c_127 => ?_)
          · refine y_iload hC dL_adds_134 rfl ?_
            refine y_bipush (v := nI 31) hC dL_adds_136 (by decide) ?_
            refine y_icmp_gt_n (tgt := 155) hC dL_adds_138 (by decide) (by omega) (by omega) (fun c_138 => ?_) (fun c_138 => ?_)
            · refine y_bipush (v := (-2)) hC dL_adds_155 (by decide) ?_
              refine y_goto (tgt := 186) hC dL_adds_157 (by decide) ?_
              refine y_istore hC dL_adds_186 (Nat.le_of_ble_eq_true rfl) rfl (lo' := [some (rf E (0)), some (rf E (101)), some (.int (x)), some (.int (y)), some (.int (nI (f))), some (.int (nI (la))), some (.int (nI (s))), some (.int (nI (w))), some (.int (bI (frB S.r f d = true))), some (.int ((-2))), none]) rfl ?_
              refine y_iload hC dL_adds_188 rfl ?_
              refine y_if_lt (tgt := 268) hC dL_adds_190 (by decide) (fun c_190 => ?_) (fun c_190 => ?_)
              · refine y_aload_n hC dL_adds_268 (i := 0) rfl rfl ?_
                refine y_iload hC dL_adds_269 rfl ?_
                refine y_iload hC dL_adds_271 rfl ?_
                refine y_iload hC dL_adds_273 rfl ?_
                refine y_iload hC dL_adds_275 rfl ?_
                refine y_callVF hC hL.s mX5_addRange kXL_95 dL_adds_277 (b := 0) (As := [.int (nI (f)), .int (nI (la)), .int (nI (s)), .int (nI (w))]) (rest := []) (CPm hL.cp (fun sh mk wa hcq => c_X5_addRange l Ec g S B (by omega) ho sh mk wa hcq (nI (f)) (nI (la)) (nI (s)) (nI (w)))) hL.k0 hL.a0 rfl rfl rfl (Nat.le_of_ble_eq_true rfl) ⟨Nat.le_of_ble_eq_true rfl, Nat.le_of_ble_eq_true rfl⟩ (pkf_i ?_)
                rintro r_277 g_277 ⟨hr_277, hc_277⟩
                have he_277 := qa_2 (S := S) (f := f) (la := la) (s := s) (w := w) (by omega) (by omega) (by omega) hs1 (by omega) hw (by omega)
                rw [he_277] at hr_277 hc_277
                replace hr_277 : r_277 = ((-2)) := hr_277
                replace hc_277 : CP Ec g_277 (S) := hc_277
                rw [hr_277]
                clear hr_277 r_277
                have hL_277 := hL.call hc_277
                generalize mrg (eK Ec) g_277 g = G_277 at hL_277  ⊢
                refine y_iload hC dL_adds_280 rfl ?_
                refine y_icmp_ne (tgt := 289) hC dL_adds_282 (by decide) (fun c_282 => ?_) (fun c_282 => ?_)
                · exact absurd rfl c_282
                · refine y_iconst (v := nI 1) hC dL_adds_285 (by decide) ?_
                  refine y_goto (tgt := 290) hC dL_adds_286 (by decide) ?_
                  refine y_zret (hrt := rfl) (hn := rfl) (hC := hC) (hd := dL_adds_290) (hq := ?_)
                  exact ⟨rfl, S, c, r, h, p, hL_277, hI.le (by omega) (by omega)⟩
              · exact absurd (by decide) c_190
            · refine y_iload hC dL_adds_141 rfl ?_
              refine y_iload hC dL_adds_143 rfl ?_
              refine y_icmp_eq_n (tgt := 155) hC dL_adds_145 (by decide) (by omega) (by omega) (fun c_145 => ?_) (fun c_145 => ?_)
              · refine y_bipush (v := (-2)) hC dL_adds_155 (by decide) ?_
                refine y_goto (tgt := 186) hC dL_adds_157 (by decide) ?_
                refine y_istore hC dL_adds_186 (Nat.le_of_ble_eq_true rfl) rfl (lo' := [some (rf E (0)), some (rf E (101)), some (.int (x)), some (.int (y)), some (.int (nI (f))), some (.int (nI (la))), some (.int (nI (s))), some (.int (nI (w))), some (.int (bI (frB S.r f d = true))), some (.int ((-2))), none]) rfl ?_
                refine y_iload hC dL_adds_188 rfl ?_
                refine y_if_lt (tgt := 268) hC dL_adds_190 (by decide) (fun c_190 => ?_) (fun c_190 => ?_)
                · refine y_aload_n hC dL_adds_268 (i := 0) rfl rfl ?_
                  refine y_iload hC dL_adds_269 rfl ?_
                  refine y_iload hC dL_adds_271 rfl ?_
                  refine y_iload hC dL_adds_273 rfl ?_
                  refine y_iload hC dL_adds_275 rfl ?_
                  refine y_callVF hC hL.s mX5_addRange kXL_95 dL_adds_277 (b := 0) (As := [.int (nI (f)), .int (nI (la)), .int (nI (s)), .int (nI (w))]) (rest := []) (CPm hL.cp (fun sh mk wa hcq => c_X5_addRange l Ec g S B (by omega) ho sh mk wa hcq (nI (f)) (nI (la)) (nI (s)) (nI (w)))) hL.k0 hL.a0 rfl rfl rfl (Nat.le_of_ble_eq_true rfl) ⟨Nat.le_of_ble_eq_true rfl, Nat.le_of_ble_eq_true rfl⟩ (pkf_i ?_)
                  rintro r_277 g_277 ⟨hr_277, hc_277⟩
                  have he_277 := qa_2 (S := S) (f := f) (la := la) (s := s) (w := w) (by omega) (by omega) (by omega) hs1 (by omega) hw (by omega)
                  rw [he_277] at hr_277 hc_277
                  replace hr_277 : r_277 = ((-2)) := hr_277
                  replace hc_277 : CP Ec g_277 (S) := hc_277
                  rw [hr_277]
                  clear hr_277 r_277
                  have hL_277 := hL.call hc_277
                  generalize mrg (eK Ec) g_277 g = G_277 at hL_277  ⊢
                  refine y_iload hC dL_adds_280 rfl ?_
                  refine y_icmp_ne (tgt := 289) hC dL_adds_282 (by decide) (fun c_282 => ?_) (fun c_282 => ?_)
                  · exact absurd rfl c_282
                  · refine y_iconst (v := nI 1) hC dL_adds_285 (by decide) ?_
                    refine y_goto (tgt := 290) hC dL_adds_286 (by decide) ?_
                    refine y_zret (hrt := rfl) (hn := rfl) (hC := hC) (hd := dL_adds_290) (hq := ?_)
                    exact ⟨rfl, S, c, r, h, p, hL_277, hI.le (by omega) (by omega)⟩
                · exact absurd (by decide) c_190
              · refine y_iload hC dL_adds_148 rfl ?_
                refine y_bipush (v := nI 30) hC dL_adds_150 (by decide) ?_
                refine y_icmp_le_n (tgt := 160) hC dL_adds_152 (by decide) (by omega) (by omega) (fun c_152 => ?_) (fun c_152 => ?_)
                · refine y_iload hC dL_adds_160 rfl ?_
                  refine y_if_ne_b (tgt := 170) hC dL_adds_162 (by decide) (fun c_162 => ?_) (fun c_162 => ?_)
                  · refine y_aload_n hC dL_adds_170 (i := 1) rfl rfl ?_
                    refine y_iconst (v := nI 0) hC dL_adds_171 (by decide) ?_
                    refine y_iald hC dL_adds_172 (k := 101) (j := 0) (by have := hL.k; omega) hL.a101 (rfl) (by omega) (by decide) ?_
                    refine y_top (y := nI (rc S.r)) (hq.n) ?_
                    refine y_bipush (v := nI 6) hC dL_adds_173 (by decide) ?_
                    refine y_icmp_ne_n (tgt := 183) hC dL_adds_175 (by decide) (by omega) (by omega) (fun c_175 => ?_) (fun c_175 => ?_)
                    · refine y_aload_n hC dL_adds_183 (i := 1) rfl rfl ?_
                      refine y_iconst (v := nI 0) hC dL_adds_184 (by decide) ?_
                      refine y_iald hC dL_adds_185 (k := 101) (j := 0) (by have := hL.k; omega) hL.a101 (rfl) (by omega) (by decide) ?_
                      refine y_top (y := nI (rc S.r)) (hq.n) ?_
                      refine y_istore hC dL_adds_186 (Nat.le_of_ble_eq_true rfl) rfl (lo' := [some (rf E (0)), some (rf E (101)), some (.int (x)), some (.int (y)), some (.int (nI (f))), some (.int (nI (la))), some (.int (nI (s))), some (.int (nI (w))), some (.int (bI (frB S.r f d = true))), some (.int (nI (rc S.r))), none]) rfl ?_
                      refine y_iload hC dL_adds_188 rfl ?_
                      refine y_if_lt_n (tgt := 268) hC dL_adds_190 (by decide) (by omega) (fun c_190 => ?_) (fun c_190 => ?_)
                      · exfalso
                        omega
                      · have hov := (fr_ovl (d := d) hv (show f ≤ la by omega) (by omega)).mp c_162
                        refine y_bipush (v := nI 8) hC dL_adds_193 (by decide) ?_
                        refine y_bipush (v := nI 8) hC dL_adds_195 (by decide) ?_
                        refine y_aload_n hC dL_adds_197 (i := 1) rfl rfl ?_
                        refine y_iconst (v := nI 0) hC dL_adds_198 (by decide) ?_
                        refine y_iald hC dL_adds_199 (k := 101) (j := 0) (by have := hL.k; omega) hL.a101 (rfl) (by omega) (by decide) ?_
                        refine y_top (y := nI (rc S.r)) (hq.n) ?_
                        refine y_imul_n hC dL_adds_200 ?_
                        refine y_iadd_n hC dL_adds_201 ?_
                        refine y_istore hC dL_adds_202 (Nat.le_of_ble_eq_true rfl) rfl (lo' := [some (rf E (0)), some (rf E (101)), some (.int (x)), some (.int (y)), some (.int (nI (f))), some (.int (nI (la))), some (.int (nI (s))), some (.int (nI (w))), some (.int (bI (frB S.r f d = true))), some (.int (nI (rc S.r))), some (.int (nI (8 + (8 * (rc S.r)))))]) rfl ?_
                        refine y_aload_n hC dL_adds_204 (i := 1) rfl rfl ?_
                        refine y_iload hC dL_adds_205 rfl ?_
                        refine y_iload hC dL_adds_207 rfl ?_
                        refine y_iast hC dL_adds_209 (k := 101) (j := 8 + (8 * (rc S.r))) (by have := hL.k; omega) hL.a101 (rfl) (by omega) (by decide) ?_
                        have hL_209 := hL.ur (upd r (8 + (8 * (rc S.r))) (nI (f)))
                        generalize (va_up g (101) (aI E 0 56 (upd r (8 + (8 * (rc S.r))) (nI (f))))) = G_209 at hL_209  ⊢
                        refine y_aload_n hC dL_adds_210 (i := 1) rfl rfl ?_
                        refine y_iload hC dL_adds_211 rfl ?_
                        refine y_iconst (v := nI 1) hC dL_adds_213 (by decide) ?_
                        refine y_iadd_n hC dL_adds_214 ?_
                        refine y_iload hC dL_adds_215 rfl ?_
                        refine y_iload hC dL_adds_217 rfl ?_
                        refine y_isub_n hC dL_adds_219 (by omega) ?_
                        refine y_iconst (v := nI 1) hC dL_adds_220 (by decide) ?_
                        refine y_iadd_n hC dL_adds_221 ?_
                        refine y_iast hC dL_adds_222 (k := 101) (j := (8 + (8 * (rc S.r))) + 1) (by have := hL_209.k; omega) hL_209.a101 (rfl) (by omega) (by decide) ?_
                        have hL_222 := hL_209.ur (upd (upd r (8 + (8 * (rc S.r))) (nI (f))) ((8 + (8 * (rc S.r))) + 1) (nI ((la - (f)) + 1)))
                        generalize (va_up G_209 (101) (aI E 0 56 (upd (upd r (8 + (8 * (rc S.r))) (nI (f))) ((8 + (8 * (rc S.r))) + 1) (nI ((la - (f)) + 1))))) = G_222 at hL_222  ⊢
                        refine y_aload_n hC dL_adds_223 (i := 1) rfl rfl ?_
                        refine y_iload hC dL_adds_224 rfl ?_
                        refine y_iconst (v := nI 2) hC dL_adds_226 (by decide) ?_
                        refine y_iadd_n hC dL_adds_227 ?_
                        refine y_iload hC dL_adds_228 rfl ?_
                        refine y_iast hC dL_adds_230 (k := 101) (j := (8 + (8 * (rc S.r))) + 2) (by have := hL_222.k; omega) hL_222.a101 (rfl) (by omega) (by decide) ?_
                        have hL_230 := hL_222.ur (upd (upd (upd r (8 + (8 * (rc S.r))) (nI (f))) ((8 + (8 * (rc S.r))) + 1) (nI ((la - (f)) + 1))) ((8 + (8 * (rc S.r))) + 2) (nI (s)))
                        generalize (va_up G_222 (101) (aI E 0 56 (upd (upd (upd r (8 + (8 * (rc S.r))) (nI (f))) ((8 + (8 * (rc S.r))) + 1) (nI ((la - (f)) + 1))) ((8 + (8 * (rc S.r))) + 2) (nI (s))))) = G_230 at hL_230  ⊢
                        refine y_aload_n hC dL_adds_231 (i := 1) rfl rfl ?_
                        refine y_iload hC dL_adds_232 rfl ?_
                        refine y_iconst (v := nI 3) hC dL_adds_234 (by decide) ?_
                        refine y_iadd_n hC dL_adds_235 ?_
                        refine y_iload hC dL_adds_236 rfl ?_
                        refine y_iast hC dL_adds_238 (k := 101) (j := (8 + (8 * (rc S.r))) + 3) (by have := hL_230.k; omega) hL_230.a101 (rfl) (by omega) (by decide) ?_
                        have hL_238 := hL_230.ur (upd (upd (upd (upd r (8 + (8 * (rc S.r))) (nI (f))) ((8 + (8 * (rc S.r))) + 1) (nI ((la - (f)) + 1))) ((8 + (8 * (rc S.r))) + 2) (nI (s))) ((8 + (8 * (rc S.r))) + 3) (nI (w)))
                        generalize (va_up G_230 (101) (aI E 0 56 (upd (upd (upd (upd r (8 + (8 * (rc S.r))) (nI (f))) ((8 + (8 * (rc S.r))) + 1) (nI ((la - (f)) + 1))) ((8 + (8 * (rc S.r))) + 2) (nI (s))) ((8 + (8 * (rc S.r))) + 3) (nI (w))))) = G_238 at hL_238  ⊢
                        refine y_aload_n hC dL_adds_239 (i := 1) rfl rfl ?_
                        refine y_iload hC dL_adds_240 rfl ?_
                        refine y_iconst (v := nI 4) hC dL_adds_242 (by decide) ?_
                        refine y_iadd_n hC dL_adds_243 ?_
                        refine y_iconst (v := nI 1) hC dL_adds_244 (by decide) ?_
                        refine y_iast hC dL_adds_245 (k := 101) (j := (8 + (8 * (rc S.r))) + 4) (by have := hL_238.k; omega) hL_238.a101 (rfl) (by omega) (by decide) ?_
                        have hL_245 := hL_238.ur (upd (upd (upd (upd (upd r (8 + (8 * (rc S.r))) (nI (f))) ((8 + (8 * (rc S.r))) + 1) (nI ((la - (f)) + 1))) ((8 + (8 * (rc S.r))) + 2) (nI (s))) ((8 + (8 * (rc S.r))) + 3) (nI (w))) ((8 + (8 * (rc S.r))) + 4) (nI (1)))
                        generalize (va_up G_238 (101) (aI E 0 56 (upd (upd (upd (upd (upd r (8 + (8 * (rc S.r))) (nI (f))) ((8 + (8 * (rc S.r))) + 1) (nI ((la - (f)) + 1))) ((8 + (8 * (rc S.r))) + 2) (nI (s))) ((8 + (8 * (rc S.r))) + 3) (nI (w))) ((8 + (8 * (rc S.r))) + 4) (nI (1))))) = G_245 at hL_245  ⊢
                        refine y_aload_n hC dL_adds_246 (i := 1) rfl rfl ?_
                        refine y_iload hC dL_adds_247 rfl ?_
                        refine y_iconst (v := nI 5) hC dL_adds_249 (by decide) ?_
                        refine y_iadd_n hC dL_adds_250 ?_
                        refine y_iconst (v := nI 0) hC dL_adds_251 (by decide) ?_
                        refine y_iast hC dL_adds_252 (k := 101) (j := (8 + (8 * (rc S.r))) + 5) (by have := hL_245.k; omega) hL_245.a101 (rfl) (by omega) (by decide) ?_
                        have hL_252 := hL_245.ur (upd (upd (upd (upd (upd (upd r (8 + (8 * (rc S.r))) (nI (f))) ((8 + (8 * (rc S.r))) + 1) (nI ((la - (f)) + 1))) ((8 + (8 * (rc S.r))) + 2) (nI (s))) ((8 + (8 * (rc S.r))) + 3) (nI (w))) ((8 + (8 * (rc S.r))) + 4) (nI (1))) ((8 + (8 * (rc S.r))) + 5) (nI (0)))
                        generalize (va_up G_245 (101) (aI E 0 56 (upd (upd (upd (upd (upd (upd r (8 + (8 * (rc S.r))) (nI (f))) ((8 + (8 * (rc S.r))) + 1) (nI ((la - (f)) + 1))) ((8 + (8 * (rc S.r))) + 2) (nI (s))) ((8 + (8 * (rc S.r))) + 3) (nI (w))) ((8 + (8 * (rc S.r))) + 4) (nI (1))) ((8 + (8 * (rc S.r))) + 5) (nI (0))))) = G_252 at hL_252  ⊢
                        refine y_aload_n hC dL_adds_253 (i := 1) rfl rfl ?_
                        refine y_iload hC dL_adds_254 rfl ?_
                        refine y_bipush (v := nI 6) hC dL_adds_256 (by decide) ?_
                        refine y_iadd_n hC dL_adds_258 ?_
                        refine y_iconst (v := nI 0) hC dL_adds_259 (by decide) ?_
                        refine y_iast hC dL_adds_260 (k := 101) (j := (8 + (8 * (rc S.r))) + 6) (by have := hL_252.k; omega) hL_252.a101 (rfl) (by omega) (by decide) ?_
                        have hL_260 := hL_252.ur (upd (upd (upd (upd (upd (upd (upd r (8 + (8 * (rc S.r))) (nI (f))) ((8 + (8 * (rc S.r))) + 1) (nI ((la - (f)) + 1))) ((8 + (8 * (rc S.r))) + 2) (nI (s))) ((8 + (8 * (rc S.r))) + 3) (nI (w))) ((8 + (8 * (rc S.r))) + 4) (nI (1))) ((8 + (8 * (rc S.r))) + 5) (nI (0))) ((8 + (8 * (rc S.r))) + 6) (nI (0)))
                        generalize (va_up G_252 (101) (aI E 0 56 (upd (upd (upd (upd (upd (upd (upd r (8 + (8 * (rc S.r))) (nI (f))) ((8 + (8 * (rc S.r))) + 1) (nI ((la - (f)) + 1))) ((8 + (8 * (rc S.r))) + 2) (nI (s))) ((8 + (8 * (rc S.r))) + 3) (nI (w))) ((8 + (8 * (rc S.r))) + 4) (nI (1))) ((8 + (8 * (rc S.r))) + 5) (nI (0))) ((8 + (8 * (rc S.r))) + 6) (nI (0))))) = G_260 at hL_260  ⊢
                        refine y_aload_n hC dL_adds_261 (i := 1) rfl rfl ?_
                        refine y_iconst (v := nI 0) hC dL_adds_262 (by decide) ?_
                        refine y_dup2 hC dL_adds_263 rfl rfl ?_
                        refine y_iald hC dL_adds_264 (k := 101) (j := 0) (by have := hL_260.k; omega) hL_260.a101 (rfl) (by omega) (by decide) ?_
                        refine y_top (y := nI (rc S.r)) ((pk_un (by omega)).trans ((pk_un (by omega)).trans ((pk_un (by omega)).trans ((pk_un (by omega)).trans ((pk_un (by omega)).trans ((pk_un (by omega)).trans ((pk_un (by omega)).trans (hq.n)))))))) ?_
                        refine y_iconst (v := nI 1) hC dL_adds_265 (by decide) ?_
                        refine y_iadd_n hC dL_adds_266 ?_
                        refine y_iast hC dL_adds_267 (k := 101) (j := 0) (by have := hL_260.k; omega) hL_260.a101 (rfl) (by omega) (by decide) ?_
                        have hL_267 := hL_260.ur (upd (upd (upd (upd (upd (upd (upd (upd r (8 + (8 * (rc S.r))) (nI (f))) ((8 + (8 * (rc S.r))) + 1) (nI ((la - (f)) + 1))) ((8 + (8 * (rc S.r))) + 2) (nI (s))) ((8 + (8 * (rc S.r))) + 3) (nI (w))) ((8 + (8 * (rc S.r))) + 4) (nI (1))) ((8 + (8 * (rc S.r))) + 5) (nI (0))) ((8 + (8 * (rc S.r))) + 6) (nI (0))) (0) (nI ((rc S.r) + 1)))
                        generalize (va_up G_260 (101) (aI E 0 56 (upd (upd (upd (upd (upd (upd (upd (upd r (8 + (8 * (rc S.r))) (nI (f))) ((8 + (8 * (rc S.r))) + 1) (nI ((la - (f)) + 1))) ((8 + (8 * (rc S.r))) + 2) (nI (s))) ((8 + (8 * (rc S.r))) + 3) (nI (w))) ((8 + (8 * (rc S.r))) + 4) (nI (1))) ((8 + (8 * (rc S.r))) + 5) (nI (0))) ((8 + (8 * (rc S.r))) + 6) (nI (0))) (0) (nI ((rc S.r) + 1))))) = G_267 at hL_267  ⊢
                        refine y_aload_n hC dL_adds_268 (i := 0) rfl rfl ?_
                        refine y_iload hC dL_adds_269 rfl ?_
                        refine y_iload hC dL_adds_271 rfl ?_
                        refine y_iload hC dL_adds_273 rfl ?_
                        refine y_iload hC dL_adds_275 rfl ?_
                        refine y_callVF hC hL_267.s mX5_addRange kXL_95 dL_adds_277 (b := 0) (As := [.int (nI (f)), .int (nI (la)), .int (nI (s)), .int (nI (w))]) (rest := []) (CPm hL_267.cp (fun sh mk wa hcq => c_X5_addRange l Ec G_267 S B (by omega) ho sh mk wa hcq (nI (f)) (nI (la)) (nI (s)) (nI (w)))) hL_267.k0 hL_267.a0 rfl rfl rfl (Nat.le_of_ble_eq_true rfl) ⟨Nat.le_of_ble_eq_true rfl, Nat.le_of_ble_eq_true rfl⟩ (pkf_i ?_)
                        rintro r_277 g_277 ⟨hr_277, hc_277⟩
                        have he_277 := qa_0 (S := S) (f := f) (la := la) (s := s) (w := w) (by omega) (by omega) (by omega) hs1 (by omega) hw hov (by omega)
                        rw [he_277] at hr_277 hc_277
                        replace hr_277 : r_277 = nI (rc S.r) := hr_277
                        replace hc_277 : CP Ec g_277 (S.rec.row (addR S.r (nI f) (nI la) (nI s) (nI w))) := hc_277
                        rw [hr_277]
                        clear hr_277 r_277
                        have hL_277 := hL_267.call hc_277
                        generalize mrg (eK Ec) g_277 G_267 = G_277 at hL_277  ⊢
                        refine y_iload hC dL_adds_280 rfl ?_
                        refine y_icmp_ne_n (tgt := 289) hC dL_adds_282 (by decide) (by omega) (by omega) (fun c_282 => ?_) (fun c_282 => ?_)
                        · exact absurd rfl c_282
                        · refine y_iconst (v := nI 1) hC dL_adds_285 (by decide) ?_
                          refine y_goto (tgt := 290) hC dL_adds_286 (by decide) ?_
                          refine y_zret (hrt := rfl) (hn := rfl) (hC := hC) (hd := dL_adds_290) (hq := ?_)
                          have hvr : OK (S.rec.row (addR S.r (nI f) (nI la) (nI s) (nI w))) (B + 10000) := by
                            have := ok_addRange ho (nI f) (nI la) (nI s) (nI w)
                            rw [he_277] at this
                            exact this
                          refine ⟨rfl, _, _, _, _, _, hL_277, (hI.rg hvr (rg_add hv hq (by omega) (by omega) (by omega) hs1 (by omega) hw pk_us (fun j h1 h2 => (pk_un (by omega)).trans ((pk_un (by omega)).trans ((pk_un (by omega)).trans ((pk_un (by omega)).trans ((pk_un (by omega)).trans ((pk_un (by omega)).trans ((pk_un (by omega)).trans ((pk_un (by omega)).trans (rfl))))))))) ((pk_un (by omega)).trans ((pk_un (by omega)).trans ((pk_un (by omega)).trans ((pk_un (by omega)).trans ((pk_un (by omega)).trans ((pk_un (by omega)).trans ((pk_un (by omega)).trans (pk_us)))))))) ((pk_un (by omega)).trans ((pk_un (by omega)).trans ((pk_un (by omega)).trans ((pk_un (by omega)).trans ((pk_un (by omega)).trans ((pk_un (by omega)).trans (pk_us))))))) ((pk_un (by omega)).trans ((pk_un (by omega)).trans ((pk_un (by omega)).trans ((pk_un (by omega)).trans ((pk_un (by omega)).trans (pk_us)))))) ((pk_un (by omega)).trans ((pk_un (by omega)).trans ((pk_un (by omega)).trans ((pk_un (by omega)).trans (pk_us))))) ((pk_un (by omega)).trans ((pk_un (by omega)).trans ((pk_un (by omega)).trans (pk_us)))) ((pk_un (by omega)).trans ((pk_un (by omega)).trans (pk_us))) ((pk_un (by omega)).trans (pk_us))) (fun k hk => (if_neg (by omega)).trans (if_neg (by omega)))).le (by omega) (by omega)⟩
                    · refine y_bipush (v := (-3)) hC dL_adds_178 (by decide) ?_
                      refine y_goto (tgt := 186) hC dL_adds_180 (by decide) ?_
                      refine y_istore hC dL_adds_186 (Nat.le_of_ble_eq_true rfl) rfl (lo' := [some (rf E (0)), some (rf E (101)), some (.int (x)), some (.int (y)), some (.int (nI (f))), some (.int (nI (la))), some (.int (nI (s))), some (.int (nI (w))), some (.int (bI (frB S.r f d = true))), some (.int ((-3))), none]) rfl ?_
                      refine y_iload hC dL_adds_188 rfl ?_
                      refine y_if_lt (tgt := 268) hC dL_adds_190 (by decide) (fun c_190 => ?_) (fun c_190 => ?_)
                      · refine y_aload_n hC dL_adds_268 (i := 0) rfl rfl ?_
                        refine y_iload hC dL_adds_269 rfl ?_
                        refine y_iload hC dL_adds_271 rfl ?_
                        refine y_iload hC dL_adds_273 rfl ?_
                        refine y_iload hC dL_adds_275 rfl ?_
                        refine y_callVF hC hL.s mX5_addRange kXL_95 dL_adds_277 (b := 0) (As := [.int (nI (f)), .int (nI (la)), .int (nI (s)), .int (nI (w))]) (rest := []) (CPm hL.cp (fun sh mk wa hcq => c_X5_addRange l Ec g S B (by omega) ho sh mk wa hcq (nI (f)) (nI (la)) (nI (s)) (nI (w)))) hL.k0 hL.a0 rfl rfl rfl (Nat.le_of_ble_eq_true rfl) ⟨Nat.le_of_ble_eq_true rfl, Nat.le_of_ble_eq_true rfl⟩ (pkf_i ?_)
                        rintro r_277 g_277 ⟨hr_277, hc_277⟩
                        have he_277 := qa_3 (S := S) (f := f) (la := la) (s := s) (w := w) (by omega) (by omega) (by omega) hs1 (by omega) hw ((fr_ovl (d := d) hv (by omega) (by omega)).mp c_162) (by omega)
                        rw [he_277] at hr_277 hc_277
                        replace hr_277 : r_277 = ((-3)) := hr_277
                        replace hc_277 : CP Ec g_277 (S) := hc_277
                        rw [hr_277]
                        clear hr_277 r_277
                        have hL_277 := hL.call hc_277
                        generalize mrg (eK Ec) g_277 g = G_277 at hL_277  ⊢
                        refine y_iload hC dL_adds_280 rfl ?_
                        refine y_icmp_ne (tgt := 289) hC dL_adds_282 (by decide) (fun c_282 => ?_) (fun c_282 => ?_)
                        · exact absurd rfl c_282
                        · refine y_iconst (v := nI 1) hC dL_adds_285 (by decide) ?_
                          refine y_goto (tgt := 290) hC dL_adds_286 (by decide) ?_
                          refine y_zret (hrt := rfl) (hn := rfl) (hC := hC) (hd := dL_adds_290) (hq := ?_)
                          exact ⟨rfl, S, c, r, h, p, hL_277, hI.le (by omega) (by omega)⟩
                      · exact absurd (by decide) c_190
                  · refine y_bipush (v := (-4)) hC dL_adds_165 (by decide) ?_
                    refine y_goto (tgt := 186) hC dL_adds_167 (by decide) ?_
                    refine y_istore hC dL_adds_186 (Nat.le_of_ble_eq_true rfl) rfl (lo' := [some (rf E (0)), some (rf E (101)), some (.int (x)), some (.int (y)), some (.int (nI (f))), some (.int (nI (la))), some (.int (nI (s))), some (.int (nI (w))), some (.int (bI (frB S.r f d = true))), some (.int ((-4))), none]) rfl ?_
                    refine y_iload hC dL_adds_188 rfl ?_
                    refine y_if_lt (tgt := 268) hC dL_adds_190 (by decide) (fun c_190 => ?_) (fun c_190 => ?_)
                    · refine y_aload_n hC dL_adds_268 (i := 0) rfl rfl ?_
                      refine y_iload hC dL_adds_269 rfl ?_
                      refine y_iload hC dL_adds_271 rfl ?_
                      refine y_iload hC dL_adds_273 rfl ?_
                      refine y_iload hC dL_adds_275 rfl ?_
                      refine y_callVF hC hL.s mX5_addRange kXL_95 dL_adds_277 (b := 0) (As := [.int (nI (f)), .int (nI (la)), .int (nI (s)), .int (nI (w))]) (rest := []) (CPm hL.cp (fun sh mk wa hcq => c_X5_addRange l Ec g S B (by omega) ho sh mk wa hcq (nI (f)) (nI (la)) (nI (s)) (nI (w)))) hL.k0 hL.a0 rfl rfl rfl (Nat.le_of_ble_eq_true rfl) ⟨Nat.le_of_ble_eq_true rfl, Nat.le_of_ble_eq_true rfl⟩ (pkf_i ?_)
                      rintro r_277 g_277 ⟨hr_277, hc_277⟩
                      have he_277 := qa_4 (S := S) (f := f) (la := la) (s := s) (w := w) (by omega) (by omega) (by omega) hs1 (by omega) hw (by
                        apply Decidable.byContradiction
                        exact fun q => c_162 ((fr_ovl (d := d) hv (by omega) (by omega)).mpr q))
                      rw [he_277] at hr_277 hc_277
                      replace hr_277 : r_277 = ((-4)) := hr_277
                      replace hc_277 : CP Ec g_277 (S) := hc_277
                      rw [hr_277]
                      clear hr_277 r_277
                      have hL_277 := hL.call hc_277
                      generalize mrg (eK Ec) g_277 g = G_277 at hL_277  ⊢
                      refine y_iload hC dL_adds_280 rfl ?_
                      refine y_icmp_ne (tgt := 289) hC dL_adds_282 (by decide) (fun c_282 => ?_) (fun c_282 => ?_)
                      · exact absurd rfl c_282
                      · refine y_iconst (v := nI 1) hC dL_adds_285 (by decide) ?_
                        refine y_goto (tgt := 290) hC dL_adds_286 (by decide) ?_
                        refine y_zret (hrt := rfl) (hn := rfl) (hC := hC) (hd := dL_adds_290) (hq := ?_)
                        exact ⟨rfl, S, c, r, h, p, hL_277, hI.le (by omega) (by omega)⟩
                    · exact absurd (by decide) c_190
                · refine y_bipush (v := (-2)) hC dL_adds_155 (by decide) ?_
                  refine y_goto (tgt := 186) hC dL_adds_157 (by decide) ?_
                  refine y_istore hC dL_adds_186 (Nat.le_of_ble_eq_true rfl) rfl (lo' := [some (rf E (0)), some (rf E (101)), some (.int (x)), some (.int (y)), some (.int (nI (f))), some (.int (nI (la))), some (.int (nI (s))), some (.int (nI (w))), some (.int (bI (frB S.r f d = true))), some (.int ((-2))), none]) rfl ?_
                  refine y_iload hC dL_adds_188 rfl ?_
                  refine y_if_lt (tgt := 268) hC dL_adds_190 (by decide) (fun c_190 => ?_) (fun c_190 => ?_)
                  · refine y_aload_n hC dL_adds_268 (i := 0) rfl rfl ?_
                    refine y_iload hC dL_adds_269 rfl ?_
                    refine y_iload hC dL_adds_271 rfl ?_
                    refine y_iload hC dL_adds_273 rfl ?_
                    refine y_iload hC dL_adds_275 rfl ?_
                    refine y_callVF hC hL.s mX5_addRange kXL_95 dL_adds_277 (b := 0) (As := [.int (nI (f)), .int (nI (la)), .int (nI (s)), .int (nI (w))]) (rest := []) (CPm hL.cp (fun sh mk wa hcq => c_X5_addRange l Ec g S B (by omega) ho sh mk wa hcq (nI (f)) (nI (la)) (nI (s)) (nI (w)))) hL.k0 hL.a0 rfl rfl rfl (Nat.le_of_ble_eq_true rfl) ⟨Nat.le_of_ble_eq_true rfl, Nat.le_of_ble_eq_true rfl⟩ (pkf_i ?_)
                    rintro r_277 g_277 ⟨hr_277, hc_277⟩
                    have he_277 := qa_2 (S := S) (f := f) (la := la) (s := s) (w := w) (by omega) (by omega) (by omega) hs1 (by omega) hw (by omega)
                    rw [he_277] at hr_277 hc_277
                    replace hr_277 : r_277 = ((-2)) := hr_277
                    replace hc_277 : CP Ec g_277 (S) := hc_277
                    rw [hr_277]
                    clear hr_277 r_277
                    have hL_277 := hL.call hc_277
                    generalize mrg (eK Ec) g_277 g = G_277 at hL_277  ⊢
                    refine y_iload hC dL_adds_280 rfl ?_
                    refine y_icmp_ne (tgt := 289) hC dL_adds_282 (by decide) (fun c_282 => ?_) (fun c_282 => ?_)
                    · exact absurd rfl c_282
                    · refine y_iconst (v := nI 1) hC dL_adds_285 (by decide) ?_
                      refine y_goto (tgt := 290) hC dL_adds_286 (by decide) ?_
                      refine y_zret (hrt := rfl) (hn := rfl) (hC := hC) (hd := dL_adds_290) (hq := ?_)
                      exact ⟨rfl, S, c, r, h, p, hL_277, hI.le (by omega) (by omega)⟩
                  · exact absurd (by decide) c_190
          · refine y_iconst (v := (-1)) hC dL_adds_130 (by decide) ?_
            refine y_goto (tgt := 186) hC dL_adds_131 (by decide) ?_
            refine y_istore hC dL_adds_186 (Nat.le_of_ble_eq_true rfl) rfl (lo' := [some (rf E (0)), some (rf E (101)), some (.int (x)), some (.int (y)), some (.int (nI (f))), some (.int (nI (la))), some (.int (nI (s))), some (.int (nI (w))), some (.int (bI (frB S.r f d = true))), some (.int ((-1))), none]) rfl ?_
            refine y_iload hC dL_adds_188 rfl ?_
            refine y_if_lt (tgt := 268) hC dL_adds_190 (by decide) (fun c_190 => ?_) (fun c_190 => ?_)
            · refine y_aload_n hC dL_adds_268 (i := 0) rfl rfl ?_
              refine y_iload hC dL_adds_269 rfl ?_
              refine y_iload hC dL_adds_271 rfl ?_
              refine y_iload hC dL_adds_273 rfl ?_
              refine y_iload hC dL_adds_275 rfl ?_
              refine y_callVF hC hL.s mX5_addRange kXL_95 dL_adds_277 (b := 0) (As := [.int (nI (f)), .int (nI (la)), .int (nI (s)), .int (nI (w))]) (rest := []) (CPm hL.cp (fun sh mk wa hcq => c_X5_addRange l Ec g S B (by omega) ho sh mk wa hcq (nI (f)) (nI (la)) (nI (s)) (nI (w)))) hL.k0 hL.a0 rfl rfl rfl (Nat.le_of_ble_eq_true rfl) ⟨Nat.le_of_ble_eq_true rfl, Nat.le_of_ble_eq_true rfl⟩ (pkf_i ?_)
              rintro r_277 g_277 ⟨hr_277, hc_277⟩
              have he_277 := qa_1 (S := S) (f := f) (by omega) (by omega) (nI (la)) (nI (s)) (nI (w))
              rw [he_277] at hr_277 hc_277
              replace hr_277 : r_277 = ((-1)) := hr_277
              replace hc_277 : CP Ec g_277 (S) := hc_277
              rw [hr_277]
              clear hr_277 r_277
              have hL_277 := hL.call hc_277
              generalize mrg (eK Ec) g_277 g = G_277 at hL_277  ⊢
              refine y_iload hC dL_adds_280 rfl ?_
              refine y_icmp_ne (tgt := 289) hC dL_adds_282 (by decide) (fun c_282 => ?_) (fun c_282 => ?_)
              · exact absurd rfl c_282
              · refine y_iconst (v := nI 1) hC dL_adds_285 (by decide) ?_
                refine y_goto (tgt := 290) hC dL_adds_286 (by decide) ?_
                refine y_zret (hrt := rfl) (hn := rfl) (hC := hC) (hd := dL_adds_290) (hq := ?_)
                exact ⟨rfl, S, c, r, h, p, hL_277, hI.le (by omega) (by omega)⟩
            · exact absurd (by decide) c_190
        · refine y_iload hC dL_adds_96 rfl ?_
          refine y_if_eq_b (tgt := 114) hC dL_adds_98 (by decide) (fun c_98 => ?_) (fun c_98 => ?_)
          · refine y_iconst (v := nI 0) hC dL_adds_114 (by decide) ?_
            refine y_top (y := bI (frB S.r f (d + 1) = true)) (by first | exact nI_bt (frB_s.mpr ⟨c_98, rz_0.mp c_107⟩) | exact nI_bf (fun q => c_98 (frB_s.mp q).1) | exact nI_bf (fun q => c_107 (rz_0.mpr (frB_s.mp q).2))) ?_
            refine y_istore hC dL_adds_115 (Nat.le_of_ble_eq_true rfl) rfl (lo' := [some (rf E (0)), some (rf E (101)), some (.int (x)), some (.int (y)), some (.int (nI (f))), some (.int (nI (la))), some (.int (nI (s))), some (.int (nI (w))), some (.int (bI (frB S.r f (d + 1) = true))), some (.int (nI (f + d))), none]) rfl ?_
            refine y_iinc_n hC dL_adds_117 (a := f + d) (k := 1) rfl (by decide) (Nat.le_of_ble_eq_true rfl) rfl (lo' := [some (rf E (0)), some (rf E (101)), some (.int (x)), some (.int (y)), some (.int (nI (f))), some (.int (nI (la))), some (.int (nI (s))), some (.int (nI (w))), some (.int (bI (frB S.r f (d + 1) = true))), some (.int (nI (f + d + 1))), none]) rfl ?_
            refine y_goto (tgt := 82) hC dL_adds_120 (by decide) ?_
            rw [show f + d + 1 = f + (d + 1) from by omega]
            exact ih_82 (d + 1) (by omega) (by omega)
          · refine y_aload_n hC dL_adds_101 (i := 1) rfl rfl ?_
            refine y_iload hC dL_adds_102 rfl ?_
            refine y_callS hC mL_rangeOf kXL_15 dL_adds_104 (As := [rf E (101), .int (nI (f + d))]) (rest := []) (c_L_rangeOf l E g 101 (by have := hL.k; omega) r hL.a101 S.r B M hv a K hq (f + d) (by omega)) rfl rfl rfl (Nat.le_of_ble_eq_true rfl) ⟨Nat.le_of_ble_eq_true rfl, Nat.le_of_ble_eq_true rfl⟩ (pk_i ?_)
            rintro r_104 g_104 ⟨hr_104, hq_104⟩
            obtain rfl := hq_104.symm
            rw [hr_104]
            clear hr_104 r_104
            have hrzb : rzN S.r (f + d) < 2147483648 := by
              cases e : rAt S.r (f + d) with
              | none => rw [rz_n e]; decide
              | some i =>
                have := (rAt_in e).1
                rw [rz_s e]; omega
            refine y_if_ne_n (tgt := 114) hC dL_adds_107 (by decide) (by omega) (fun c_107 => ?_) (fun c_107 => ?_)
            · refine y_iconst (v := nI 0) hC dL_adds_114 (by decide) ?_
              refine y_top (y := bI (frB S.r f (d + 1) = true)) (by first | exact nI_bt (frB_s.mpr ⟨c_98, rz_0.mp c_107⟩) | exact nI_bf (fun q => c_98 (frB_s.mp q).1) | exact nI_bf (fun q => c_107 (rz_0.mpr (frB_s.mp q).2))) ?_
              refine y_istore hC dL_adds_115 (Nat.le_of_ble_eq_true rfl) rfl (lo' := [some (rf E (0)), some (rf E (101)), some (.int (x)), some (.int (y)), some (.int (nI (f))), some (.int (nI (la))), some (.int (nI (s))), some (.int (nI (w))), some (.int (bI (frB S.r f (d + 1) = true))), some (.int (nI (f + d))), none]) rfl ?_
              refine y_iinc_n hC dL_adds_117 (a := f + d) (k := 1) rfl (by decide) (Nat.le_of_ble_eq_true rfl) rfl (lo' := [some (rf E (0)), some (rf E (101)), some (.int (x)), some (.int (y)), some (.int (nI (f))), some (.int (nI (la))), some (.int (nI (s))), some (.int (nI (w))), some (.int (bI (frB S.r f (d + 1) = true))), some (.int (nI (f + d + 1))), none]) rfl ?_
              refine y_goto (tgt := 82) hC dL_adds_120 (by decide) ?_
              rw [show f + d + 1 = f + (d + 1) from by omega]
              exact ih_82 (d + 1) (by omega) (by omega)
            · refine y_iconst (v := nI 1) hC dL_adds_110 (by decide) ?_
              refine y_goto (tgt := 115) hC dL_adds_111 (by decide) ?_
              refine y_top (y := bI (frB S.r f (d + 1) = true)) (by first | exact nI_bt (frB_s.mpr ⟨c_98, rz_0.mp c_107⟩) | exact nI_bf (fun q => c_98 (frB_s.mp q).1) | exact nI_bf (fun q => c_107 (rz_0.mpr (frB_s.mp q).2))) ?_
              refine y_istore hC dL_adds_115 (Nat.le_of_ble_eq_true rfl) rfl (lo' := [some (rf E (0)), some (rf E (101)), some (.int (x)), some (.int (y)), some (.int (nI (f))), some (.int (nI (la))), some (.int (nI (s))), some (.int (nI (w))), some (.int (bI (frB S.r f (d + 1) = true))), some (.int (nI (f + d))), none]) rfl ?_
              refine y_iinc_n hC dL_adds_117 (a := f + d) (k := 1) rfl (by decide) (Nat.le_of_ble_eq_true rfl) rfl (lo' := [some (rf E (0)), some (rf E (101)), some (.int (x)), some (.int (y)), some (.int (nI (f))), some (.int (nI (la))), some (.int (nI (s))), some (.int (nI (w))), some (.int (bI (frB S.r f (d + 1) = true))), some (.int (nI (f + d + 1))), none]) rfl ?_
              refine y_goto (tgt := 82) hC dL_adds_120 (by decide) ?_
              rw [show f + d + 1 = f + (d + 1) from by omega]
              exact ih_82 (d + 1) (by omega) (by omega)
  exact L_82 33 0 (by omega) (by omega)

set_option maxHeartbeats 4000000 in
set_option maxRecDepth 100000 in
theorem c_L_adds (l : Launch) (E : gE) (g : Mem) (Ec : gE) (S : AS) (c r h p : Nat → Int32) (hL : LWP Ec E g S c r h p) (B M : Nat) (hB : B ≤ 9000000) (hM : M ≤ 90000000) (hI : IV S c r h p B M) (x y : Int32) : Mt l E yL_adds cL_adds 11 (some .boolean) 5 114 [rf E (0), rf E (101), .int (x), .int (y)] g (pI (fun z g' => z = nI 1 ∧ ∃ (S' : AS) (c' r' h' p' : Nat → Int32), LWP Ec E g' S' c' r' h' p' ∧ IV S' c' r' h' p' (B + 100000) (M + 1000))) := by
  have l1 := lw_lt (x := x) (n := 33) (by decide)
  have l2 := lw_lt (x := (x) >>> (nI (6) &&& 31)) (n := 8) (by decide)
  have l3 := lw_lt (x := (x) >>> (nI (9) &&& 31)) (n := 31) (by decide)
  have l4 := lw_lt (x := (x) >>> (nI (9) &&& 31)) (n := 6) (by decide)
  have l5 := lw_lt (x := (x) >>> (nI (14) &&& 31)) (n := 3) (by decide)
  have l6 := lw_lt (x := y) (n := 9) (by decide)
  have l7 := lw_lt (x := (y) >>> (nI (3) &&& 31)) (n := 3) (by decide)
  refine mt_go (own := RXL) (by decide) rfl (lo := [some (rf E (0)), some (rf E (101)), some (.int (x)), some (.int (y)), none, none, none, none, none, none, none]) rfl (Nat.le_of_ble_eq_true rfl) (fun X hC => ?_)
  refine y_iload_n hC dL_adds_0 (i := 2) rfl rfl ?_
  refine y_bipush (v := nI 33) hC dL_adds_1 (by decide) ?_
  refine y_callS hC mL_low kXL_64 dL_adds_3 (As := [.int (x), .int (nI (33))]) (rest := []) (c_L_low l E g ((x)) (33) (by omega) (by omega)) rfl rfl rfl (Nat.le_of_ble_eq_true rfl) ⟨Nat.le_of_ble_eq_true rfl, Nat.le_of_ble_eq_true rfl⟩ (pk_i ?_)
  rintro r_3 g_3 ⟨hr_3, hq_3⟩
  obtain rfl := hq_3.symm
  rw [hr_3]
  clear hr_3 r_3
  refine y_istore hC dL_adds_6 (Nat.le_of_ble_eq_true rfl) rfl (lo' := [some (rf E (0)), some (rf E (101)), some (.int (x)), some (.int (y)), some (.int (nI (lw ((x)) (33)))), none, none, none, none, none, none]) rfl ?_
  refine y_iload hC dL_adds_8 rfl ?_
  refine y_iload_n hC dL_adds_10 (i := 2) rfl rfl ?_
  refine y_bipush (v := nI 6) hC dL_adds_11 (by decide) ?_
  refine y_ishr hC dL_adds_13 ?_
  refine y_bipush (v := nI 8) hC dL_adds_14 (by decide) ?_
  refine y_callS hC mL_low kXL_64 dL_adds_16 (As := [.int ((x) >>> (nI (6) &&& 31)), .int (nI (8))]) (rest := [.int (nI (lw ((x)) (33)))]) (c_L_low l E g (((x) >>> (nI (6) &&& 31))) (8) (by omega) (by omega)) rfl rfl rfl (Nat.le_of_ble_eq_true rfl) ⟨Nat.le_of_ble_eq_true rfl, Nat.le_of_ble_eq_true rfl⟩ (pk_i ?_)
  rintro r_16 g_16 ⟨hr_16, hq_16⟩
  obtain rfl := hq_16.symm
  rw [hr_16]
  clear hr_16 r_16
  refine y_iadd_n hC dL_adds_19 ?_
  refine y_iload_n hC dL_adds_20 (i := 3) rfl rfl ?_
  refine y_bipush (v := nI 9) hC dL_adds_21 (by decide) ?_
  refine y_callS hC mL_low kXL_64 dL_adds_23 (As := [.int (y), .int (nI (9))]) (rest := [.int (nI ((lw ((x)) (33)) + (lw (((x) >>> (nI (6) &&& 31))) (8))))]) (c_L_low l E g ((y)) (9) (by omega) (by omega)) rfl rfl rfl (Nat.le_of_ble_eq_true rfl) ⟨Nat.le_of_ble_eq_true rfl, Nat.le_of_ble_eq_true rfl⟩ (pk_i ?_)
  rintro r_23 g_23 ⟨hr_23, hq_23⟩
  obtain rfl := hq_23.symm
  rw [hr_23]
  clear hr_23 r_23
  refine y_if_ne_n (tgt := 33) hC dL_adds_26 (by decide) (by omega) (fun c_26 => ?_) (fun c_26 => ?_)
  · refine y_iconst (v := nI 1) hC dL_adds_33 (by decide) ?_
    refine y_iadd_n hC dL_adds_34 ?_
    refine y_istore hC dL_adds_35 (Nat.le_of_ble_eq_true rfl) rfl (lo' := [some (rf E (0)), some (rf E (101)), some (.int (x)), some (.int (y)), some (.int (nI (lw ((x)) (33)))), some (.int (nI (((lw ((x)) (33)) + (lw (((x) >>> (nI (6) &&& 31))) (8))) + 1))), none, none, none, none, none]) rfl ?_
    refine y_iconst (v := nI 1) hC dL_adds_37 (by decide) ?_
    refine y_iload_n hC dL_adds_38 (i := 2) rfl rfl ?_
    refine y_bipush (v := nI 9) hC dL_adds_39 (by decide) ?_
    refine y_ishr hC dL_adds_41 ?_
    refine y_iload_n hC dL_adds_42 (i := 3) rfl rfl ?_
    refine y_iconst (v := nI 3) hC dL_adds_43 (by decide) ?_
    refine y_ishr hC dL_adds_44 ?_
    refine y_iconst (v := nI 3) hC dL_adds_45 (by decide) ?_
    refine y_callS hC mL_low kXL_64 dL_adds_46 (As := [.int ((y) >>> (nI (3) &&& 31)), .int (nI (3))]) (rest := [.int ((x) >>> (nI (9) &&& 31)), .int (nI (1))]) (c_L_low l E g (((y) >>> (nI (3) &&& 31))) (3) (by omega) (by omega)) rfl rfl rfl (Nat.le_of_ble_eq_true rfl) ⟨Nat.le_of_ble_eq_true rfl, Nat.le_of_ble_eq_true rfl⟩ (pk_i ?_)
    rintro r_46 g_46 ⟨hr_46, hq_46⟩
    obtain rfl := hq_46.symm
    rw [hr_46]
    clear hr_46 r_46
    refine y_if_ne_n (tgt := 57) hC dL_adds_49 (by decide) (by omega) (fun c_49 => ?_) (fun c_49 => ?_)
    · refine y_bipush (v := nI 6) hC dL_adds_57 (by decide) ?_
      refine y_callS hC mL_low kXL_64 dL_adds_59 (As := [.int ((x) >>> (nI (9) &&& 31)), .int (nI (6))]) (rest := [.int (nI (1))]) (c_L_low l E g (((x) >>> (nI (9) &&& 31))) (6) (by omega) (by omega)) rfl rfl rfl (Nat.le_of_ble_eq_true rfl) ⟨Nat.le_of_ble_eq_true rfl, Nat.le_of_ble_eq_true rfl⟩ (pk_i ?_)
      rintro r_59 g_59 ⟨hr_59, hq_59⟩
      obtain rfl := hq_59.symm
      rw [hr_59]
      clear hr_59 r_59
      refine y_iadd_n hC dL_adds_62 ?_
      refine y_istore hC dL_adds_63 (Nat.le_of_ble_eq_true rfl) rfl (lo' := [some (rf E (0)), some (rf E (101)), some (.int (x)), some (.int (y)), some (.int (nI (lw ((x)) (33)))), some (.int (nI (((lw ((x)) (33)) + (lw (((x) >>> (nI (6) &&& 31))) (8))) + 1))), some (.int (nI (1 + (lw (((x) >>> (nI (9) &&& 31))) (6))))), none, none, none, none]) rfl ?_
      refine y_iload_n hC dL_adds_65 (i := 2) rfl rfl ?_
      refine y_bipush (v := nI 14) hC dL_adds_66 (by decide) ?_
      refine y_ishr hC dL_adds_68 ?_
      refine y_iconst (v := nI 3) hC dL_adds_69 (by decide) ?_
      refine y_callS hC mL_low kXL_64 dL_adds_70 (As := [.int ((x) >>> (nI (14) &&& 31)), .int (nI (3))]) (rest := []) (c_L_low l E g (((x) >>> (nI (14) &&& 31))) (3) (by omega) (by omega)) rfl rfl rfl (Nat.le_of_ble_eq_true rfl) ⟨Nat.le_of_ble_eq_true rfl, Nat.le_of_ble_eq_true rfl⟩ (pk_i ?_)
      rintro r_70 g_70 ⟨hr_70, hq_70⟩
      obtain rfl := hq_70.symm
      rw [hr_70]
      clear hr_70 r_70
      refine y_istore hC dL_adds_73 (Nat.le_of_ble_eq_true rfl) rfl (lo' := [some (rf E (0)), some (rf E (101)), some (.int (x)), some (.int (y)), some (.int (nI (lw ((x)) (33)))), some (.int (nI (((lw ((x)) (33)) + (lw (((x) >>> (nI (6) &&& 31))) (8))) + 1))), some (.int (nI (1 + (lw (((x) >>> (nI (9) &&& 31))) (6))))), some (.int (nI (lw (((x) >>> (nI (14) &&& 31))) (3)))), none, none, none]) rfl ?_
      exact w_adds2 l E X g Ec S c r h p hL B M hB hM hI x y (lw ((x)) (33)) (((lw ((x)) (33)) + (lw (((x) >>> (nI (6) &&& 31))) (8))) + 1) (1 + (lw (((x) >>> (nI (9) &&& 31))) (6))) (lw (((x) >>> (nI (14) &&& 31))) (3)) (by omega) (by omega) (by omega) (by omega) (by omega) (by omega) hC
    · refine y_bipush (v := nI 31) hC dL_adds_52 (by decide) ?_
      refine y_goto (tgt := 59) hC dL_adds_54 (by decide) ?_
      refine y_callS hC mL_low kXL_64 dL_adds_59 (As := [.int ((x) >>> (nI (9) &&& 31)), .int (nI (31))]) (rest := [.int (nI (1))]) (c_L_low l E g (((x) >>> (nI (9) &&& 31))) (31) (by omega) (by omega)) rfl rfl rfl (Nat.le_of_ble_eq_true rfl) ⟨Nat.le_of_ble_eq_true rfl, Nat.le_of_ble_eq_true rfl⟩ (pk_i ?_)
      rintro r_59 g_59 ⟨hr_59, hq_59⟩
      obtain rfl := hq_59.symm
      rw [hr_59]
      clear hr_59 r_59
      refine y_iadd_n hC dL_adds_62 ?_
      refine y_istore hC dL_adds_63 (Nat.le_of_ble_eq_true rfl) rfl (lo' := [some (rf E (0)), some (rf E (101)), some (.int (x)), some (.int (y)), some (.int (nI (lw ((x)) (33)))), some (.int (nI (((lw ((x)) (33)) + (lw (((x) >>> (nI (6) &&& 31))) (8))) + 1))), some (.int (nI (1 + (lw (((x) >>> (nI (9) &&& 31))) (31))))), none, none, none, none]) rfl ?_
      refine y_iload_n hC dL_adds_65 (i := 2) rfl rfl ?_
      refine y_bipush (v := nI 14) hC dL_adds_66 (by decide) ?_
      refine y_ishr hC dL_adds_68 ?_
      refine y_iconst (v := nI 3) hC dL_adds_69 (by decide) ?_
      refine y_callS hC mL_low kXL_64 dL_adds_70 (As := [.int ((x) >>> (nI (14) &&& 31)), .int (nI (3))]) (rest := []) (c_L_low l E g (((x) >>> (nI (14) &&& 31))) (3) (by omega) (by omega)) rfl rfl rfl (Nat.le_of_ble_eq_true rfl) ⟨Nat.le_of_ble_eq_true rfl, Nat.le_of_ble_eq_true rfl⟩ (pk_i ?_)
      rintro r_70 g_70 ⟨hr_70, hq_70⟩
      obtain rfl := hq_70.symm
      rw [hr_70]
      clear hr_70 r_70
      refine y_istore hC dL_adds_73 (Nat.le_of_ble_eq_true rfl) rfl (lo' := [some (rf E (0)), some (rf E (101)), some (.int (x)), some (.int (y)), some (.int (nI (lw ((x)) (33)))), some (.int (nI (((lw ((x)) (33)) + (lw (((x) >>> (nI (6) &&& 31))) (8))) + 1))), some (.int (nI (1 + (lw (((x) >>> (nI (9) &&& 31))) (31))))), some (.int (nI (lw (((x) >>> (nI (14) &&& 31))) (3)))), none, none, none]) rfl ?_
      exact w_adds2 l E X g Ec S c r h p hL B M hB hM hI x y (lw ((x)) (33)) (((lw ((x)) (33)) + (lw (((x) >>> (nI (6) &&& 31))) (8))) + 1) (1 + (lw (((x) >>> (nI (9) &&& 31))) (31))) (lw (((x) >>> (nI (14) &&& 31))) (3)) (by omega) (by omega) (by omega) (by omega) (by omega) (by omega) hC
  · refine y_iconst (v := nI 0) hC dL_adds_29 (by decide) ?_
    refine y_goto (tgt := 34) hC dL_adds_30 (by decide) ?_
    refine y_iadd_n hC dL_adds_34 ?_
    refine y_istore hC dL_adds_35 (Nat.le_of_ble_eq_true rfl) rfl (lo' := [some (rf E (0)), some (rf E (101)), some (.int (x)), some (.int (y)), some (.int (nI (lw ((x)) (33)))), some (.int (nI (((lw ((x)) (33)) + (lw (((x) >>> (nI (6) &&& 31))) (8))) + 0))), none, none, none, none, none]) rfl ?_
    refine y_iconst (v := nI 1) hC dL_adds_37 (by decide) ?_
    refine y_iload_n hC dL_adds_38 (i := 2) rfl rfl ?_
    refine y_bipush (v := nI 9) hC dL_adds_39 (by decide) ?_
    refine y_ishr hC dL_adds_41 ?_
    refine y_iload_n hC dL_adds_42 (i := 3) rfl rfl ?_
    refine y_iconst (v := nI 3) hC dL_adds_43 (by decide) ?_
    refine y_ishr hC dL_adds_44 ?_
    refine y_iconst (v := nI 3) hC dL_adds_45 (by decide) ?_
    refine y_callS hC mL_low kXL_64 dL_adds_46 (As := [.int ((y) >>> (nI (3) &&& 31)), .int (nI (3))]) (rest := [.int ((x) >>> (nI (9) &&& 31)), .int (nI (1))]) (c_L_low l E g (((y) >>> (nI (3) &&& 31))) (3) (by omega) (by omega)) rfl rfl rfl (Nat.le_of_ble_eq_true rfl) ⟨Nat.le_of_ble_eq_true rfl, Nat.le_of_ble_eq_true rfl⟩ (pk_i ?_)
    rintro r_46 g_46 ⟨hr_46, hq_46⟩
    obtain rfl := hq_46.symm
    rw [hr_46]
    clear hr_46 r_46
    refine y_if_ne_n (tgt := 57) hC dL_adds_49 (by decide) (by omega) (fun c_49 => ?_) (fun c_49 => ?_)
    · refine y_bipush (v := nI 6) hC dL_adds_57 (by decide) ?_
      refine y_callS hC mL_low kXL_64 dL_adds_59 (As := [.int ((x) >>> (nI (9) &&& 31)), .int (nI (6))]) (rest := [.int (nI (1))]) (c_L_low l E g (((x) >>> (nI (9) &&& 31))) (6) (by omega) (by omega)) rfl rfl rfl (Nat.le_of_ble_eq_true rfl) ⟨Nat.le_of_ble_eq_true rfl, Nat.le_of_ble_eq_true rfl⟩ (pk_i ?_)
      rintro r_59 g_59 ⟨hr_59, hq_59⟩
      obtain rfl := hq_59.symm
      rw [hr_59]
      clear hr_59 r_59
      refine y_iadd_n hC dL_adds_62 ?_
      refine y_istore hC dL_adds_63 (Nat.le_of_ble_eq_true rfl) rfl (lo' := [some (rf E (0)), some (rf E (101)), some (.int (x)), some (.int (y)), some (.int (nI (lw ((x)) (33)))), some (.int (nI (((lw ((x)) (33)) + (lw (((x) >>> (nI (6) &&& 31))) (8))) + 0))), some (.int (nI (1 + (lw (((x) >>> (nI (9) &&& 31))) (6))))), none, none, none, none]) rfl ?_
      refine y_iload_n hC dL_adds_65 (i := 2) rfl rfl ?_
      refine y_bipush (v := nI 14) hC dL_adds_66 (by decide) ?_
      refine y_ishr hC dL_adds_68 ?_
      refine y_iconst (v := nI 3) hC dL_adds_69 (by decide) ?_
      refine y_callS hC mL_low kXL_64 dL_adds_70 (As := [.int ((x) >>> (nI (14) &&& 31)), .int (nI (3))]) (rest := []) (c_L_low l E g (((x) >>> (nI (14) &&& 31))) (3) (by omega) (by omega)) rfl rfl rfl (Nat.le_of_ble_eq_true rfl) ⟨Nat.le_of_ble_eq_true rfl, Nat.le_of_ble_eq_true rfl⟩ (pk_i ?_)
      rintro r_70 g_70 ⟨hr_70, hq_70⟩
      obtain rfl := hq_70.symm
      rw [hr_70]
      clear hr_70 r_70
      refine y_istore hC dL_adds_73 (Nat.le_of_ble_eq_true rfl) rfl (lo' := [some (rf E (0)), some (rf E (101)), some (.int (x)), some (.int (y)), some (.int (nI (lw ((x)) (33)))), some (.int (nI (((lw ((x)) (33)) + (lw (((x) >>> (nI (6) &&& 31))) (8))) + 0))), some (.int (nI (1 + (lw (((x) >>> (nI (9) &&& 31))) (6))))), some (.int (nI (lw (((x) >>> (nI (14) &&& 31))) (3)))), none, none, none]) rfl ?_
      exact w_adds2 l E X g Ec S c r h p hL B M hB hM hI x y (lw ((x)) (33)) (((lw ((x)) (33)) + (lw (((x) >>> (nI (6) &&& 31))) (8))) + 0) (1 + (lw (((x) >>> (nI (9) &&& 31))) (6))) (lw (((x) >>> (nI (14) &&& 31))) (3)) (by omega) (by omega) (by omega) (by omega) (by omega) (by omega) hC
    · refine y_bipush (v := nI 31) hC dL_adds_52 (by decide) ?_
      refine y_goto (tgt := 59) hC dL_adds_54 (by decide) ?_
      refine y_callS hC mL_low kXL_64 dL_adds_59 (As := [.int ((x) >>> (nI (9) &&& 31)), .int (nI (31))]) (rest := [.int (nI (1))]) (c_L_low l E g (((x) >>> (nI (9) &&& 31))) (31) (by omega) (by omega)) rfl rfl rfl (Nat.le_of_ble_eq_true rfl) ⟨Nat.le_of_ble_eq_true rfl, Nat.le_of_ble_eq_true rfl⟩ (pk_i ?_)
      rintro r_59 g_59 ⟨hr_59, hq_59⟩
      obtain rfl := hq_59.symm
      rw [hr_59]
      clear hr_59 r_59
      refine y_iadd_n hC dL_adds_62 ?_
      refine y_istore hC dL_adds_63 (Nat.le_of_ble_eq_true rfl) rfl (lo' := [some (rf E (0)), some (rf E (101)), some (.int (x)), some (.int (y)), some (.int (nI (lw ((x)) (33)))), some (.int (nI (((lw ((x)) (33)) + (lw (((x) >>> (nI (6) &&& 31))) (8))) + 0))), some (.int (nI (1 + (lw (((x) >>> (nI (9) &&& 31))) (31))))), none, none, none, none]) rfl ?_
      refine y_iload_n hC dL_adds_65 (i := 2) rfl rfl ?_
      refine y_bipush (v := nI 14) hC dL_adds_66 (by decide) ?_
      refine y_ishr hC dL_adds_68 ?_
      refine y_iconst (v := nI 3) hC dL_adds_69 (by decide) ?_
      refine y_callS hC mL_low kXL_64 dL_adds_70 (As := [.int ((x) >>> (nI (14) &&& 31)), .int (nI (3))]) (rest := []) (c_L_low l E g (((x) >>> (nI (14) &&& 31))) (3) (by omega) (by omega)) rfl rfl rfl (Nat.le_of_ble_eq_true rfl) ⟨Nat.le_of_ble_eq_true rfl, Nat.le_of_ble_eq_true rfl⟩ (pk_i ?_)
      rintro r_70 g_70 ⟨hr_70, hq_70⟩
      obtain rfl := hq_70.symm
      rw [hr_70]
      clear hr_70 r_70
      refine y_istore hC dL_adds_73 (Nat.le_of_ble_eq_true rfl) rfl (lo' := [some (rf E (0)), some (rf E (101)), some (.int (x)), some (.int (y)), some (.int (nI (lw ((x)) (33)))), some (.int (nI (((lw ((x)) (33)) + (lw (((x) >>> (nI (6) &&& 31))) (8))) + 0))), some (.int (nI (1 + (lw (((x) >>> (nI (9) &&& 31))) (31))))), some (.int (nI (lw (((x) >>> (nI (14) &&& 31))) (3)))), none, none, none]) rfl ?_
      exact w_adds2 l E X g Ec S c r h p hL B M hB hM hI x y (lw ((x)) (33)) (((lw ((x)) (33)) + (lw (((x) >>> (nI (6) &&& 31))) (8))) + 0) (1 + (lw (((x) >>> (nI (9) &&& 31))) (31))) (lw (((x) >>> (nI (14) &&& 31))) (3)) (by omega) (by omega) (by omega) (by omega) (by omega) (by omega) hC

