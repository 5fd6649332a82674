/-! ===== the law: glows, blends, pixels ===== -/
theorem rg_cg {ρ ρ2 : Row} {B M : Nat} {r : Nat → Int32} {a K : Nat → Nat} (hv : Vr ρ B) (hq : RgL ρ r a K M) (e : ∀ k, 32 ≤ k → k < 75 → ρ2 k = ρ k) : RgL ρ2 r a K M := by
  have h6 := hv.1.2
  have er : rc ρ2 = rc ρ := rc_of (e 32 (by decide) (by decide))
  refine ⟨by rw [er]; exact hq.n, fun k hk => ?_⟩
  rw [er] at hk
  have eo : ∀ j, j < 7 → rg ρ2 k j = rg ρ k j := fun j hj => rg_of (e _ (by omega) (by omega))
  have hn : nP ρ2 k = nP ρ k := by unfold nP; rw [eo 0 (by decide), eo 1 (by decide)]
  rw [eo 0 (by decide), hn, eo 2 (by decide), eo 3 (by decide), eo 4 (by decide), eo 5 (by decide), eo 6 (by decide)]
  exact hq.2 k hk
/-- the glows' words alone are others -/
theorem IV.gl {S S2 : AS} {c r h p h2 : Nat → Int32} {B M B2 : Nat} (q : IV S c r h p B M) (ho : OK S2 B2) (hg : GlL S2.r h2) (hc : ∀ i, i < gc S2.r → isC (S2.r (76 + 4 * i + 1))) (e : ∀ k, k < 75 ∨ 92 ≤ k → S2.r k = S.r k) : IV S2 c r h2 p B2 M := by
  obtain ⟨h1, ⟨a, K, h3⟩, h4, h5, h6, h7⟩ := q
  exact ⟨ho, ⟨a, K, rg_cg h1.v h3 (fun k a1 a2 => e k (by omega))⟩, hg, co_cg h5 (fun k hk => e k (by omega)), ⟨fun k hk => by rw [e k (by omega)]; exact h6.1 k hk, hc⟩, pi_cg h7 (fun k a1 a2 => e k (by omega))⟩
/-- the set colours alone are others -/
theorem IV.co {S S2 : AS} {c r h p c2 : Nat → Int32} {B M B2 : Nat} (q : IV S c r h p B M) (ho : OK S2 B2) (hc : CoL S2.r c2) (hv : ∀ k, k < 32 → isC (S2.r k)) (e : ∀ k, 32 ≤ k → S2.r k = S.r k) : IV S2 c2 r h p B2 M := by
  obtain ⟨h1, ⟨a, K, h3⟩, h4, h5, h6, h7⟩ := q
  have h4b := h1.v.2.1.2
  refine ⟨ho, ⟨a, K, rg_cg h1.v h3 (fun k a1 a2 => e k a1)⟩, gl_cg h1.v h4 (fun k a1 a2 => e k (by omega)), hc, ⟨hv, fun i hi => ?_⟩, pi_cg h7 (fun k a1 a2 => e k (by omega))⟩
  rw [gc_of (e 75 (by decide))] at hi
  rw [e _ (by omega)]
  exact h6.2 i hi
/-- the pixels alone are others -/
theorem IV.pi {S S2 : AS} {c r h p p2 : Nat → Int32} {B M B2 : Nat} (q : IV S c r h p B M) (ho : OK S2 B2) (hp : PiL S2.r p2) (e : ∀ k, k < 92 ∨ 156 ≤ k → S2.r k = S.r k) : IV S2 c r h p2 B2 M := by
  obtain ⟨h1, ⟨a, K, h3⟩, h4, h5, h6, h7⟩ := q
  exact ⟨ho, ⟨a, K, rg_cg h1.v h3 (fun k a1 a2 => e k (by omega))⟩, gl_cg h1.v h4 (fun k a1 a2 => e k (by omega)), co_cg h5 (fun k hk => e k (by omega)), vc_cg h1.v h6 (fun k hk => e k (by omega)), hp⟩
theorem gl_add {ρ : Row} {B pl ln cl : Nat} {h h2 : Nat → Int32} (hv : Vr ρ B) (hg : GlL ρ h) (h4 : gc ρ < 4) (hp : pl < 32) (hl : ln ≤ 30)
    (e0 : h2 0 = nI (gc ρ + 1)) (e1 : h2 1 = h 1) (e2 : h2 2 = h 2) (eo : ∀ j, 4 ≤ j → j < 4 + 4 * gc ρ → h2 j = h j) (n0 : h2 (4 + 4 * gc ρ) = nI pl) (n1 : h2 (4 + 4 * gc ρ + 1) = nI cl) (n2 : h2 (4 + 4 * gc ρ + 2) = nI ln) (n3 : h2 (4 + 4 * gc ρ + 3) = nI 0) :
    GlL (addG ρ (nI pl) (nI cl) (nI ln)) h2 ∧ ((∀ i, i < gc ρ → isC (ρ (76 + 4 * i + 1))) → cl < 262144 → ∀ i, i < gc (addG ρ (nI pl) (nI cl) (nI ln)) → isC (addG ρ (nI pl) (nI cl) (nI ln) (76 + 4 * i + 1))) := by
  have er : gc (addG ρ (nI pl) (nI cl) (nI ln)) = gc ρ + 1 := by
    show nn (addG ρ (nI pl) (nI cl) (nI ln) 75) = _
    rw [show addG ρ (nI pl) (nI cl) (nI ln) 75 = nI (gc ρ + 1) from if_pos rfl]
    exact nn_I (by omega)
  have hO : ∀ i j, i < gc ρ → j < 4 → addG ρ (nI pl) (nI cl) (nI ln) (76 + 4 * i + j) = ρ (76 + 4 * i + j) := fun i j hi hj => (if_neg (by omega)).trans (if_neg (by omega))
  have hN : ∀ j, j < 4 → addG ρ (nI pl) (nI cl) (nI ln) (76 + 4 * gc ρ + j) = v4 (nI pl) (nI cl) (nI ln) (nI 0) j := fun j hj => by
    unfold addG
    rw [if_neg (by omega), if_pos (by omega), show 76 + 4 * gc ρ + j - (76 + 4 * gc ρ) = j by omega]
  refine ⟨⟨by rw [er]; exact e0, ?_, ?_, fun k hk => ?_⟩, fun hc hcl i hi => ?_⟩
  · rw [e1, hg.t]; exact ((if_neg (by decide)).trans (if_neg (by omega))).symm
  · rw [e2, hg.s]; exact ((if_neg (by decide)).trans (if_neg (by omega))).symm
  · rw [er] at hk
    by_cases c : k = gc ρ
    · subst c
      refine ⟨?_, ?_, ?_, ?_⟩
      · rw [n0]; unfold gl; rw [hN 0 (by decide)]; exact (congrArg nI (nn_I (by omega))).symm
      · rw [n1]; exact (hN 1 (by decide)).symm
      · rw [n2]; unfold gl; rw [hN 2 (by decide)]; exact (congrArg nI (nn_I (by omega))).symm
      · rw [n3]; unfold gl; rw [hN 3 (by decide)]; exact (congrArg nI (nn_I (by omega))).symm
    · have hk2 : k < gc ρ := by omega
      rw [gl_of (hO k 0 hk2 (by decide)), gl_of (hO k 2 hk2 (by decide)), gl_of (hO k 3 hk2 (by decide)), hO k 1 hk2 (by decide), eo _ (by omega) (by omega), eo _ (by omega) (by omega), eo _ (by omega) (by omega), eo _ (by omega) (by omega)]
      exact hg.2.2.2 k hk2
  · rw [er] at hi
    by_cases c : i = gc ρ
    · subst c
      rw [hN 1 (by decide)]
      exact ⟨cl, hcl, rfl⟩
    · rw [hO i 1 (by omega) (by decide)]
      exact hc i (by omega)
theorem gl_rem {ρ : Row} {B k : Nat} {h h2 : Nat → Int32} (hv : Vr ρ B) (hg : GlL ρ h) (hk : k < gc ρ)
    (e0 : h2 0 = nI (gc ρ - 1)) (e1 : h2 1 = h 1) (e2 : h2 2 = h 2) (z1 : ∀ i j, i < k → j < 4 → h2 (4 + 4 * i + j) = h (4 + 4 * i + j)) (z2 : ∀ i j, k ≤ i → i + 1 < gc ρ → j < 4 → h2 (4 + 4 * i + j) = h (4 + 4 * (i + 1) + j)) :
    GlL (remG ρ k) h2 ∧ ((∀ i, i < gc ρ → isC (ρ (76 + 4 * i + 1))) → ∀ i, i < gc (remG ρ k) → isC (remG ρ k (76 + 4 * i + 1))) := by
  have h4 := hv.2.1.2
  have er : gc (remG ρ k) = gc ρ - 1 := by
    show nn (remG ρ k 75) = _
    rw [show remG ρ k 75 = nI (gc ρ - 1) from if_pos rfl]
    exact nn_I (by omega)
  have o1 : ∀ i j, i < k → j < 4 → remG ρ k (76 + 4 * i + j) = ρ (76 + 4 * i + j) := fun i j hi hj => (if_neg (by omega)).trans (if_neg (by omega))
  have o2 : ∀ i j, k ≤ i → i + 1 < gc ρ → j < 4 → remG ρ k (76 + 4 * i + j) = ρ (76 + 4 * (i + 1) + j) := fun i j hi hi2 hj => by
    unfold remG
    rw [if_neg (by omega), if_pos (by omega), show 76 + 4 * i + j + 4 = 76 + 4 * (i + 1) + j by omega]
  refine ⟨⟨by rw [er]; exact e0, ?_, ?_, fun i hi => ?_⟩, fun hc i hi => ?_⟩
  · rw [e1, hg.t]; exact ((if_neg (by decide)).trans (if_neg (by omega))).symm
  · rw [e2, hg.s]; exact ((if_neg (by decide)).trans (if_neg (by omega))).symm
  · rw [er] at hi
    by_cases c : i < k
    · rw [gl_of (o1 i 0 c (by decide)), gl_of (o1 i 2 c (by decide)), gl_of (o1 i 3 c (by decide)), o1 i 1 c (by decide)]
      have z := z1 i
      have hi2 : i < gc ρ := by omega
      exact ⟨(z 0 c (by decide)).trans (hg.f0 hi2), (z 1 c (by decide)).trans (hg.f1 hi2), (z 2 c (by decide)).trans (hg.f2 hi2), (z 3 c (by decide)).trans (hg.f3 hi2)⟩
    · have c2 : k ≤ i := by omega
      have hi2 : i + 1 < gc ρ := by omega
      have ge : ∀ j, j < 4 → gl (remG ρ k) i j = gl ρ (i + 1) j := fun j hj => by unfold gl; rw [o2 i j c2 hi2 hj]
      rw [ge 0 (by decide), ge 2 (by decide), ge 3 (by decide), o2 i 1 c2 hi2 (by decide)]
      have z := z2 i
      exact ⟨(z 0 c2 hi2 (by decide)).trans (hg.f0 hi2), (z 1 c2 hi2 (by decide)).trans (hg.f1 hi2), (z 2 c2 hi2 (by decide)).trans (hg.f2 hi2), (z 3 c2 hi2 (by decide)).trans (hg.f3 hi2)⟩
  · rw [er] at hi
    by_cases c : i < k
    · rw [o1 i 1 c (by decide)]; exact hc i (by omega)
    · rw [o2 i 1 (by omega) (by omega) (by decide)]; exact hc (i + 1) (by omega)
section GLW
variable {S : AS} {f cl s k : Nat}
theorem qg_1 (hf : ¬ f ≤ 31) (hf2 : f < 1000) (x y : Int32) : qAddGlow S (nI f) x y = (-1, S) := by
  unfold qAddGlow
  rw [if_neg (by rw [tI (by omega)]; omega)]
theorem qg_2 (hf : f ≤ 31) (hs : s = 0) (x : Int32) : qAddGlow S (nI f) x (nI s) = (-2, S) := by
  unfold qAddGlow
  rw [if_pos (by rw [tI (by omega)]; omega), if_neg (fun q => by have := q.2; rw [tI (by omega)] at this; omega)]
theorem qg_c (hc : cl < 262144) (hs1 : 1 ≤ s) (hs : s ≤ 30) : (0 ≤ (nI cl).toInt ∧ (nI cl).toInt ≤ 262143) ∧ 1 ≤ (nI s).toInt ∧ (nI s).toInt ≤ 30 := by
  rw [tI (by omega), tI (by omega)]
  omega
theorem qg_4 (hf : f ≤ 31) (hc : cl < 262144) (hs1 : 1 ≤ s) (hs : s ≤ 30) (h : (gAt S.r f).isSome = true) : qAddGlow S (nI f) (nI cl) (nI s) = (-4, S) := by
  unfold qAddGlow
  rw [if_pos (by rw [tI (by omega)]; omega), if_pos (qg_c hc hs1 hs), nn_I (by omega), if_pos h]
theorem qg_3 (hf : f ≤ 31) (hc : cl < 262144) (hs1 : 1 ≤ s) (hs : s ≤ 30) (h : ¬ (gAt S.r f).isSome = true) (h4 : ¬ gc S.r < 4) : qAddGlow S (nI f) (nI cl) (nI s) = (-3, S) := by
  unfold qAddGlow
  rw [if_pos (by rw [tI (by omega)]; omega), if_pos (qg_c hc hs1 hs), nn_I (by omega), if_neg h, if_neg h4]
theorem qg_0 (hf : f ≤ 31) (hc : cl < 262144) (hs1 : 1 ≤ s) (hs : s ≤ 30) (h : ¬ (gAt S.r f).isSome = true) (h4 : gc S.r < 4) : qAddGlow S (nI f) (nI cl) (nI s) = (nI (gc S.r), S.rec.row (addG S.r (nI f) (nI cl) (nI s))) := by
  unfold qAddGlow
  rw [if_pos (by rw [tI (by omega)]; omega), if_pos (qg_c hc hs1 hs), nn_I (by omega), if_neg h, if_pos h4]
theorem qh_n (h : gc S.r ≤ k) (hk : k < 1000) : qRemoveGlow S (nI k) = (-1, S) := by
  unfold qRemoveGlow
  rw [if_neg (by rw [tI (by omega)]; omega)]
theorem qh_0 (h : k < gc S.r) (hk : k < 1000) : qRemoveGlow S (nI k) = (nI (gc S.r - 1), S.rec.row (remG S.r k)) := by
  unfold qRemoveGlow
  rw [if_pos (by rw [tI (by omega)]; omega), nn_I (by omega)]
end GLW
theorem gz_le {ρ : Row} {p : Nat} : gzN ρ p ≤ 0 ↔ gAt ρ p = none := by
  cases e : gAt ρ p with
  | none => rw [gz_n e]; simp
  | some i => rw [gz_s e]; simp
theorem gz_b {ρ : Row} {B p : Nat} (hv : Vr ρ B) : gzN ρ p < 20 := by
  have h4 := hv.2.1.2
  cases e : gAt ρ p with
  | none => rw [gz_n e]; decide
  | some i =>
    have := (gAt_in e).1
    rw [gz_s e]; omega
theorem dL_glows_0 : decode cL_glows 0 = .ok (.iload_n 2, 1) := by decide +kernel
theorem dL_glows_1 : decode cL_glows 1 = .ok (.bipush 34, 2) := by decide +kernel
theorem dL_glows_3 : decode cL_glows 3 = .ok (.invokestatic 64, 3) := by decide +kernel
theorem dL_glows_6 : decode cL_glows 6 = .ok (.istore 4, 2) := by decide +kernel
theorem dL_glows_8 : decode cL_glows 8 = .ok (.iload_n 3, 1) := by decide +kernel
theorem dL_glows_9 : decode cL_glows 9 = .ok (.ldc 67, 2) := by decide +kernel
theorem dL_glows_11 : decode cL_glows 11 = .ok (.invokestatic 64, 3) := by decide +kernel
theorem dL_glows_14 : decode cL_glows 14 = .ok (.istore 5, 2) := by decide +kernel
theorem dL_glows_16 : decode cL_glows 16 = .ok (.iload_n 2, 1) := by decide +kernel
theorem dL_glows_17 : decode cL_glows 17 = .ok (.bipush 6, 2) := by decide +kernel
theorem dL_glows_19 : decode cL_glows 19 = .ok (.ishr, 1) := by decide +kernel
theorem dL_glows_20 : decode cL_glows 20 = .ok (.bipush 12, 2) := by decide +kernel
theorem dL_glows_22 : decode cL_glows 22 = .ok (.invokestatic 64, 3) := by decide +kernel
theorem dL_glows_25 : decode cL_glows 25 = .ok (.istore 6, 2) := by decide +kernel
theorem dL_glows_27 : decode cL_glows 27 = .ok (.iload 4, 2) := by decide +kernel
theorem dL_glows_29 : decode cL_glows 29 = .ok (.bipush 31, 2) := by decide +kernel
theorem dL_glows_31 : decode cL_glows 31 = .ok (.if_icmp .le 7, 3) := by decide +kernel
theorem dL_glows_34 : decode cL_glows 34 = .ok (.iconst (-1), 1) := by decide +kernel
theorem dL_glows_35 : decode cL_glows 35 = .ok (.goto 42, 3) := by decide +kernel
theorem dL_glows_38 : decode cL_glows 38 = .ok (.iload 6, 2) := by decide +kernel
theorem dL_glows_40 : decode cL_glows 40 = .ok (.ifCond .ne 8, 3) := by decide +kernel
theorem dL_glows_43 : decode cL_glows 43 = .ok (.bipush (-2), 2) := by decide +kernel
theorem dL_glows_45 : decode cL_glows 45 = .ok (.goto 32, 3) := by decide +kernel
theorem dL_glows_48 : decode cL_glows 48 = .ok (.aload_n 1, 1) := by decide +kernel
theorem dL_glows_49 : decode cL_glows 49 = .ok (.iload 4, 2) := by decide +kernel
theorem dL_glows_51 : decode cL_glows 51 = .ok (.invokestatic 21, 3) := by decide +kernel
theorem dL_glows_54 : decode cL_glows 54 = .ok (.ifCond .le 8, 3) := by decide +kernel
theorem dL_glows_57 : decode cL_glows 57 = .ok (.bipush (-4), 2) := by decide +kernel
theorem dL_glows_59 : decode cL_glows 59 = .ok (.goto 18, 3) := by decide +kernel
theorem dL_glows_62 : decode cL_glows 62 = .ok (.aload_n 1, 1) := by decide +kernel
theorem dL_glows_63 : decode cL_glows 63 = .ok (.iconst 0, 1) := by decide +kernel
theorem dL_glows_64 : decode cL_glows 64 = .ok (.iaload, 1) := by decide +kernel
theorem dL_glows_65 : decode cL_glows 65 = .ok (.iconst 4, 1) := by decide +kernel
theorem dL_glows_66 : decode cL_glows 66 = .ok (.if_icmp .ne 8, 3) := by decide +kernel
theorem dL_glows_69 : decode cL_glows 69 = .ok (.bipush (-3), 2) := by decide +kernel
theorem dL_glows_71 : decode cL_glows 71 = .ok (.goto 6, 3) := by decide +kernel
theorem dL_glows_74 : decode cL_glows 74 = .ok (.aload_n 1, 1) := by decide +kernel
theorem dL_glows_75 : decode cL_glows 75 = .ok (.iconst 0, 1) := by decide +kernel
theorem dL_glows_76 : decode cL_glows 76 = .ok (.iaload, 1) := by decide +kernel
theorem dL_glows_77 : decode cL_glows 77 = .ok (.istore 7, 2) := by decide +kernel
theorem dL_glows_79 : decode cL_glows 79 = .ok (.iload 7, 2) := by decide +kernel
theorem dL_glows_81 : decode cL_glows 81 = .ok (.ifCond .lt 48, 3) := by decide +kernel
theorem dL_glows_84 : decode cL_glows 84 = .ok (.iconst 4, 1) := by decide +kernel
theorem dL_glows_85 : decode cL_glows 85 = .ok (.iconst 4, 1) := by decide +kernel
theorem dL_glows_86 : decode cL_glows 86 = .ok (.aload_n 1, 1) := by decide +kernel
theorem dL_glows_87 : decode cL_glows 87 = .ok (.iconst 0, 1) := by decide +kernel
theorem dL_glows_88 : decode cL_glows 88 = .ok (.iaload, 1) := by decide +kernel
theorem dL_glows_89 : decode cL_glows 89 = .ok (.imul, 1) := by decide +kernel
theorem dL_glows_90 : decode cL_glows 90 = .ok (.iadd, 1) := by decide +kernel
theorem dL_glows_91 : decode cL_glows 91 = .ok (.istore 8, 2) := by decide +kernel
theorem dL_glows_93 : decode cL_glows 93 = .ok (.aload_n 1, 1) := by decide +kernel
theorem dL_glows_94 : decode cL_glows 94 = .ok (.iload 8, 2) := by decide +kernel
theorem dL_glows_96 : decode cL_glows 96 = .ok (.iload 4, 2) := by decide +kernel
theorem dL_glows_98 : decode cL_glows 98 = .ok (.iastore, 1) := by decide +kernel
theorem dL_glows_99 : decode cL_glows 99 = .ok (.aload_n 1, 1) := by decide +kernel
theorem dL_glows_100 : decode cL_glows 100 = .ok (.iload 8, 2) := by decide +kernel
theorem dL_glows_102 : decode cL_glows 102 = .ok (.iconst 1, 1) := by decide +kernel
theorem dL_glows_103 : decode cL_glows 103 = .ok (.iadd, 1) := by decide +kernel
theorem dL_glows_104 : decode cL_glows 104 = .ok (.iload 5, 2) := by decide +kernel
theorem dL_glows_106 : decode cL_glows 106 = .ok (.iastore, 1) := by decide +kernel
theorem dL_glows_107 : decode cL_glows 107 = .ok (.aload_n 1, 1) := by decide +kernel
theorem dL_glows_108 : decode cL_glows 108 = .ok (.iload 8, 2) := by decide +kernel
theorem dL_glows_110 : decode cL_glows 110 = .ok (.iconst 2, 1) := by decide +kernel
theorem dL_glows_111 : decode cL_glows 111 = .ok (.iadd, 1) := by decide +kernel
theorem dL_glows_112 : decode cL_glows 112 = .ok (.iload 6, 2) := by decide +kernel
theorem dL_glows_114 : decode cL_glows 114 = .ok (.iastore, 1) := by decide +kernel
theorem dL_glows_115 : decode cL_glows 115 = .ok (.aload_n 1, 1) := by decide +kernel
theorem dL_glows_116 : decode cL_glows 116 = .ok (.iload 8, 2) := by decide +kernel
theorem dL_glows_118 : decode cL_glows 118 = .ok (.iconst 3, 1) := by decide +kernel
theorem dL_glows_119 : decode cL_glows 119 = .ok (.iadd, 1) := by decide +kernel
theorem dL_glows_120 : decode cL_glows 120 = .ok (.iconst 0, 1) := by decide +kernel
theorem dL_glows_121 : decode cL_glows 121 = .ok (.iastore, 1) := by decide +kernel
theorem dL_glows_122 : decode cL_glows 122 = .ok (.aload_n 1, 1) := by decide +kernel
theorem dL_glows_123 : decode cL_glows 123 = .ok (.iconst 0, 1) := by decide +kernel
theorem dL_glows_124 : decode cL_glows 124 = .ok (.dup2, 1) := by decide +kernel
theorem dL_glows_125 : decode cL_glows 125 = .ok (.iaload, 1) := by decide +kernel
theorem dL_glows_126 : decode cL_glows 126 = .ok (.iconst 1, 1) := by decide +kernel
theorem dL_glows_127 : decode cL_glows 127 = .ok (.iadd, 1) := by decide +kernel
theorem dL_glows_128 : decode cL_glows 128 = .ok (.iastore, 1) := by decide +kernel
theorem dL_glows_129 : decode cL_glows 129 = .ok (.aload_n 0, 1) := by decide +kernel
theorem dL_glows_130 : decode cL_glows 130 = .ok (.iload 4, 2) := by decide +kernel
theorem dL_glows_132 : decode cL_glows 132 = .ok (.iload 5, 2) := by decide +kernel
theorem dL_glows_134 : decode cL_glows 134 = .ok (.iload 6, 2) := by decide +kernel
theorem dL_glows_136 : decode cL_glows 136 = .ok (.invokevirtual 109, 3) := by decide +kernel
theorem dL_glows_139 : decode cL_glows 139 = .ok (.iload 7, 2) := by decide +kernel
theorem dL_glows_141 : decode cL_glows 141 = .ok (.if_icmp .ne 7, 3) := by decide +kernel
theorem dL_glows_144 : decode cL_glows 144 = .ok (.iconst 1, 1) := by decide +kernel
theorem dL_glows_145 : decode cL_glows 145 = .ok (.goto 4, 3) := by decide +kernel
theorem dL_glows_148 : decode cL_glows 148 = .ok (.iconst 0, 1) := by decide +kernel
theorem dL_glows_149 : decode cL_glows 149 = .ok (.ireturn, 1) := by decide +kernel
set_option maxHeartbeats 4000000 in
set_option maxRecDepth 100000 in
theorem c_L_glows (l : Launch) (E : gE) (g : Mem) (Ec : gE) (S : AS) (c r h p : Nat → Int32) (hL : LWP Ec E g S c r h p) (B M : Nat) (hB : B ≤ 9000000) (hM : M ≤ 90000000) (hI : IV S c r h p B M) (x y : Int32) : Mt l E yL_glows cL_glows 9 (some .boolean) 4 92 [rf E (0), rf E (102), .int (x), .int (y)] g (pI (fun z g' => z = nI 1 ∧ ∃ (S' : AS) (c' r' h' p' : Nat → Int32), LWP Ec E g' S' c' r' h' p' ∧ IV S' c' r' h' p' (B + 100000) (M + 1000))) := by
  obtain ⟨ho, ⟨a, K, hq⟩, hg, hcl, hvc, hpi⟩ := id hI
  have hv := ho.v
  have hrc : rc S.r ≤ 6 := hv.1.2
  have hgc : gc S.r ≤ 4 := hv.2.1.2
  obtain ⟨f, fe⟩ : ∃ f, f = lw (x) (34) := ⟨_, rfl⟩
  have hf := lw_lt (x := x) (n := 34) (by decide)
  rw [← fe] at hf
  obtain ⟨cl, cle⟩ : ∃ f, f = lw (y) (262144) := ⟨_, rfl⟩
  have hc := lw_lt (x := y) (n := 262144) (by decide)
  rw [← cle] at hc
  obtain ⟨s, se⟩ : ∃ f, f = lw ((x) >>> (nI (6) &&& 31)) (12) := ⟨_, rfl⟩
  have hs := lw_lt (x := (x) >>> (nI (6) &&& 31)) (n := 12) (by decide)
  rw [← se] at hs
  have hgzb := gz_b (p := f) hv
  refine mt_go (own := RXL) (by decide) rfl (lo := [some (rf E (0)), some (rf E (102)), some (.int (x)), some (.int (y)), none, none, none, none, none]) rfl (Nat.le_of_ble_eq_true rfl) (fun X hC => ?_)
  refine y_iload_n hC dL_glows_0 (i := 2) rfl rfl ?_
  refine y_bipush (v := nI 34) hC dL_glows_1 (by decide) ?_
  refine y_callS hC mL_low kXL_64 dL_glows_3 (As := [.int (x), .int (nI (34))]) (rest := []) (c_L_low l E g ((x)) (34) (by omega) (by omega)) rfl rfl rfl (Nat.le_of_ble_eq_true rfl) ⟨Nat.le_of_ble_eq_true rfl, Nat.le_of_ble_eq_true rfl⟩ (pk_i ?_)
  rintro r_3 g_3 ⟨hr_3, hq_3⟩
  obtain rfl := hq_3.symm
  rw [hr_3]
  clear hr_3 r_3
  refine y_top (y := nI (f)) (congrArg nI fe.symm) ?_
  refine y_istore hC dL_glows_6 (Nat.le_of_ble_eq_true rfl) rfl (lo' := [some (rf E (0)), some (rf E (102)), some (.int (x)), some (.int (y)), some (.int (nI (f))), none, none, none, none]) rfl ?_
  refine y_iload_n hC dL_glows_8 (i := 3) rfl rfl ?_
  refine y_ldc hC cnXL_67 dL_glows_9 ?_
  refine y_top (show (262144 : Int32) = nI 262144 from by decide) ?_
  refine y_callS hC mL_low kXL_64 dL_glows_11 (As := [.int (y), .int (nI (262144))]) (rest := []) (c_L_low l E g ((y)) (262144) (by omega) (by omega)) rfl rfl rfl (Nat.le_of_ble_eq_true rfl) ⟨Nat.le_of_ble_eq_true rfl, Nat.le_of_ble_eq_true rfl⟩ (pk_i ?_)
  rintro r_11 g_11 ⟨hr_11, hq_11⟩
  obtain rfl := hq_11.symm
  rw [hr_11]
  clear hr_11 r_11
  refine y_top (y := nI (cl)) (congrArg nI cle.symm) ?_
  refine y_istore hC dL_glows_14 (Nat.le_of_ble_eq_true rfl) rfl (lo' := [some (rf E (0)), some (rf E (102)), some (.int (x)), some (.int (y)), some (.int (nI (f))), some (.int (nI (cl))), none, none, none]) rfl ?_
  refine y_iload_n hC dL_glows_16 (i := 2) rfl rfl ?_
  refine y_bipush (v := nI 6) hC dL_glows_17 (by decide) ?_
  refine y_ishr hC dL_glows_19 ?_
  refine y_bipush (v := nI 12) hC dL_glows_20 (by decide) ?_
  refine y_callS hC mL_low kXL_64 dL_glows_22 (As := [.int ((x) >>> (nI (6) &&& 31)), .int (nI (12))]) (rest := []) (c_L_low l E g (((x) >>> (nI (6) &&& 31))) (12) (by omega) (by omega)) rfl rfl rfl (Nat.le_of_ble_eq_true rfl) ⟨Nat.le_of_ble_eq_true rfl, Nat.le_of_ble_eq_true rfl⟩ (pk_i ?_)
  rintro r_22 g_22 ⟨hr_22, hq_22⟩
  obtain rfl := hq_22.symm
  rw [hr_22]
  clear hr_22 r_22
  refine y_top (y := nI (s)) (congrArg nI se.symm) ?_
  refine y_istore hC dL_glows_25 (Nat.le_of_ble_eq_true rfl) rfl (lo' := [some (rf E (0)), some (rf E (102)), some (.int (x)), some (.int (y)), some (.int (nI (f))), some (.int (nI (cl))), some (.int (nI (s))), none, none]) rfl ?_
  refine y_iload hC dL_glows_27 rfl ?_
  refine y_bipush (v := nI 31) hC dL_glows_29 (by decide) ?_
  refine y_icmp_le_n (tgt := 38) hC dL_glows_31 (by decide) (by omega) (by omega) (fun c_31 => ?_) (fun c_31 => ?_)
  · refine y_iload hC dL_glows_38 rfl ?_
    refine y_if_ne_n (tgt := 48) hC dL_glows_40 (by decide) (by omega) (fun c_40 => ?_) (fun c_40 => ?_)
    · refine y_aload_n hC dL_glows_48 (i := 1) rfl rfl ?_
      refine y_iload hC dL_glows_49 rfl ?_
      refine y_callS hC mL_glowOf kXL_21 dL_glows_51 (As := [rf E (102), .int (nI (f))]) (rest := []) (c_L_glowOf l E g 102 (by have := hL.k; omega) h hL.a102 S.r B hv hg (f) (by omega)) rfl rfl rfl (Nat.le_of_ble_eq_true rfl) ⟨Nat.le_of_ble_eq_true rfl, Nat.le_of_ble_eq_true rfl⟩ (pk_i ?_)
      rintro r_51 g_51 ⟨hr_51, hq_51⟩
      obtain rfl := hq_51.symm
      rw [hr_51]
      clear hr_51 r_51
      refine y_if_le_n (tgt := 62) hC dL_glows_54 (by decide) (by omega) (fun c_54 => ?_) (fun c_54 => ?_)
      · refine y_aload_n hC dL_glows_62 (i := 1) rfl rfl ?_
        refine y_iconst (v := nI 0) hC dL_glows_63 (by decide) ?_
        refine y_iald hC dL_glows_64 (k := 102) (j := 0) (by have := hL.k; omega) hL.a102 (rfl) (by omega) (by decide) ?_
        refine y_top (y := nI (gc S.r)) (hg.n) ?_
        refine y_iconst (v := nI 4) hC dL_glows_65 (by decide) ?_
        refine y_icmp_ne_n (tgt := 74) hC dL_glows_66 (by decide) (by omega) (by omega) (fun c_66 => ?_) (fun c_66 => ?_)
        · refine y_aload_n hC dL_glows_74 (i := 1) rfl rfl ?_
          refine y_iconst (v := nI 0) hC dL_glows_75 (by decide) ?_
          refine y_iald hC dL_glows_76 (k := 102) (j := 0) (by have := hL.k; omega) hL.a102 (rfl) (by omega) (by decide) ?_
          refine y_top (y := nI (gc S.r)) (hg.n) ?_
          refine y_istore hC dL_glows_77 (Nat.le_of_ble_eq_true rfl) rfl (lo' := [some (rf E (0)), some (rf E (102)), some (.int (x)), some (.int (y)), some (.int (nI (f))), some (.int (nI (cl))), some (.int (nI (s))), some (.int (nI (gc S.r))), none]) rfl ?_
          refine y_iload hC dL_glows_79 rfl ?_
          refine y_if_lt_n (tgt := 129) hC dL_glows_81 (by decide) (by omega) (fun c_81 => ?_) (fun c_81 => ?_)
          · exfalso
            omega
          · refine y_iconst (v := nI 4) hC dL_glows_84 (by decide) ?_
            refine y_iconst (v := nI 4) hC dL_glows_85 (by decide) ?_
            refine y_aload_n hC dL_glows_86 (i := 1) rfl rfl ?_
            refine y_iconst (v := nI 0) hC dL_glows_87 (by decide) ?_
            refine y_iald hC dL_glows_88 (k := 102) (j := 0) (by have := hL.k; omega) hL.a102 (rfl) (by omega) (by decide) ?_
            refine y_top (y := nI (gc S.r)) (hg.n) ?_
            refine y_imul_n hC dL_glows_89 ?_
            refine y_iadd_n hC dL_glows_90 ?_
            refine y_istore hC dL_glows_91 (Nat.le_of_ble_eq_true rfl) rfl (lo' := [some (rf E (0)), some (rf E (102)), some (.int (x)), some (.int (y)), some (.int (nI (f))), some (.int (nI (cl))), some (.int (nI (s))), some (.int (nI (gc S.r))), some (.int (nI (4 + (4 * (gc S.r)))))]) rfl ?_
            refine y_aload_n hC dL_glows_93 (i := 1) rfl rfl ?_
            refine y_iload hC dL_glows_94 rfl ?_
            refine y_iload hC dL_glows_96 rfl ?_
            refine y_iast hC dL_glows_98 (k := 102) (j := 4 + (4 * (gc S.r))) (by have := hL.k; omega) hL.a102 (rfl) (by omega) (by decide) ?_
            have hL_98 := hL.uh (upd h (4 + (4 * (gc S.r))) (nI (f)))
            generalize (va_up g (102) (aI E 0 20 (upd h (4 + (4 * (gc S.r))) (nI (f))))) = G_98 at hL_98  ⊢
            refine y_aload_n hC dL_glows_99 (i := 1) rfl rfl ?_
            refine y_iload hC dL_glows_100 rfl ?_
            refine y_iconst (v := nI 1) hC dL_glows_102 (by decide) ?_
            refine y_iadd_n hC dL_glows_103 ?_
            refine y_iload hC dL_glows_104 rfl ?_
            refine y_iast hC dL_glows_106 (k := 102) (j := (4 + (4 * (gc S.r))) + 1) (by have := hL_98.k; omega) hL_98.a102 (rfl) (by omega) (by decide) ?_
            have hL_106 := hL_98.uh (upd (upd h (4 + (4 * (gc S.r))) (nI (f))) ((4 + (4 * (gc S.r))) + 1) (nI (cl)))
            generalize (va_up G_98 (102) (aI E 0 20 (upd (upd h (4 + (4 * (gc S.r))) (nI (f))) ((4 + (4 * (gc S.r))) + 1) (nI (cl))))) = G_106 at hL_106  ⊢
            refine y_aload_n hC dL_glows_107 (i := 1) rfl rfl ?_
            refine y_iload hC dL_glows_108 rfl ?_
            refine y_iconst (v := nI 2) hC dL_glows_110 (by decide) ?_
            refine y_iadd_n hC dL_glows_111 ?_
            refine y_iload hC dL_glows_112 rfl ?_
            refine y_iast hC dL_glows_114 (k := 102) (j := (4 + (4 * (gc S.r))) + 2) (by have := hL_106.k; omega) hL_106.a102 (rfl) (by omega) (by decide) ?_
            have hL_114 := hL_106.uh (upd (upd (upd h (4 + (4 * (gc S.r))) (nI (f))) ((4 + (4 * (gc S.r))) + 1) (nI (cl))) ((4 + (4 * (gc S.r))) + 2) (nI (s)))
            generalize (va_up G_106 (102) (aI E 0 20 (upd (upd (upd h (4 + (4 * (gc S.r))) (nI (f))) ((4 + (4 * (gc S.r))) + 1) (nI (cl))) ((4 + (4 * (gc S.r))) + 2) (nI (s))))) = G_114 at hL_114  ⊢
            refine y_aload_n hC dL_glows_115 (i := 1) rfl rfl ?_
            refine y_iload hC dL_glows_116 rfl ?_
            refine y_iconst (v := nI 3) hC dL_glows_118 (by decide) ?_
            refine y_iadd_n hC dL_glows_119 ?_
            refine y_iconst (v := nI 0) hC dL_glows_120 (by decide) ?_
            refine y_iast hC dL_glows_121 (k := 102) (j := (4 + (4 * (gc S.r))) + 3) (by have := hL_114.k; omega) hL_114.a102 (rfl) (by omega) (by decide) ?_
            have hL_121 := hL_114.uh (upd (upd (upd (upd h (4 + (4 * (gc S.r))) (nI (f))) ((4 + (4 * (gc S.r))) + 1) (nI (cl))) ((4 + (4 * (gc S.r))) + 2) (nI (s))) ((4 + (4 * (gc S.r))) + 3) (nI (0)))
            generalize (va_up G_114 (102) (aI E 0 20 (upd (upd (upd (upd h (4 + (4 * (gc S.r))) (nI (f))) ((4 + (4 * (gc S.r))) + 1) (nI (cl))) ((4 + (4 * (gc S.r))) + 2) (nI (s))) ((4 + (4 * (gc S.r))) + 3) (nI (0))))) = G_121 at hL_121  ⊢
            refine y_aload_n hC dL_glows_122 (i := 1) rfl rfl ?_
            refine y_iconst (v := nI 0) hC dL_glows_123 (by decide) ?_
            refine y_dup2 hC dL_glows_124 rfl rfl ?_
            refine y_iald hC dL_glows_125 (k := 102) (j := 0) (by have := hL_121.k; omega) hL_121.a102 (rfl) (by omega) (by decide) ?_
            refine y_top (y := nI (gc S.r)) ((pk_un (by omega)).trans ((pk_un (by omega)).trans ((pk_un (by omega)).trans ((pk_un (by omega)).trans (hg.n))))) ?_
            refine y_iconst (v := nI 1) hC dL_glows_126 (by decide) ?_
            refine y_iadd_n hC dL_glows_127 ?_
            refine y_iast hC dL_glows_128 (k := 102) (j := 0) (by have := hL_121.k; omega) hL_121.a102 (rfl) (by omega) (by decide) ?_
            have hL_128 := hL_121.uh (upd (upd (upd (upd (upd h (4 + (4 * (gc S.r))) (nI (f))) ((4 + (4 * (gc S.r))) + 1) (nI (cl))) ((4 + (4 * (gc S.r))) + 2) (nI (s))) ((4 + (4 * (gc S.r))) + 3) (nI (0))) (0) (nI ((gc S.r) + 1)))
            generalize (va_up G_121 (102) (aI E 0 20 (upd (upd (upd (upd (upd h (4 + (4 * (gc S.r))) (nI (f))) ((4 + (4 * (gc S.r))) + 1) (nI (cl))) ((4 + (4 * (gc S.r))) + 2) (nI (s))) ((4 + (4 * (gc S.r))) + 3) (nI (0))) (0) (nI ((gc S.r) + 1))))) = G_128 at hL_128  ⊢
            refine y_aload_n hC dL_glows_129 (i := 0) rfl rfl ?_
            refine y_iload hC dL_glows_130 rfl ?_
            refine y_iload hC dL_glows_132 rfl ?_
            refine y_iload hC dL_glows_134 rfl ?_
            refine y_callVF hC hL_128.s mX5_addGlow kXL_109 dL_glows_136 (b := 0) (As := [.int (nI (f)), .int (nI (cl)), .int (nI (s))]) (rest := []) (CPm hL_128.cp (fun sh mk wa hcq => c_X5_addGlow l Ec G_128 S B (by omega) ho sh mk wa hcq (nI (f)) (nI (cl)) (nI (s)))) hL_128.k0 hL_128.a0 rfl rfl rfl (Nat.le_of_ble_eq_true rfl) ⟨Nat.le_of_ble_eq_true rfl, Nat.le_of_ble_eq_true rfl⟩ (pkf_i ?_)
            rintro r_136 g_136 ⟨hr_136, hc_136⟩
            have he_136 := qg_0 (S := S) (f := f) (cl := cl) (s := s) (by omega) hc (by omega) (by omega) (by rw [gz_le.mp c_54]; decide) (by omega)
            rw [he_136] at hr_136 hc_136
            replace hr_136 : r_136 = nI (gc S.r) := hr_136
            replace hc_136 : CP Ec g_136 (S.rec.row (addG S.r (nI f) (nI cl) (nI s))) := hc_136
            rw [hr_136]
            clear hr_136 r_136
            have hL_136 := hL_128.call hc_136
            generalize mrg (eK Ec) g_136 G_128 = G_136 at hL_136  ⊢
            refine y_iload hC dL_glows_139 rfl ?_
            refine y_icmp_ne_n (tgt := 148) hC dL_glows_141 (by decide) (by omega) (by omega) (fun c_141 => ?_) (fun c_141 => ?_)
            · exact absurd rfl c_141
            · refine y_iconst (v := nI 1) hC dL_glows_144 (by decide) ?_
              refine y_goto (tgt := 149) hC dL_glows_145 (by decide) ?_
              refine y_zret (hrt := rfl) (hn := rfl) (hC := hC) (hd := dL_glows_149) (hq := ?_)
              have hvr : OK (S.rec.row (addG S.r (nI f) (nI cl) (nI s))) (B + 10000) := by
                have := ok_addGlow ho (nI f) (nI cl) (nI s)
                rw [he_136] at this
                exact this
              have hga := gl_add (cl := cl) (h2 := (upd (upd (upd (upd (upd h (4 + (4 * (gc S.r))) (nI (f))) ((4 + (4 * (gc S.r))) + 1) (nI (cl))) ((4 + (4 * (gc S.r))) + 2) (nI (s))) ((4 + (4 * (gc S.r))) + 3) (nI (0))) (0) (nI ((gc S.r) + 1)))) hv hg (by omega) (show f < 32 by omega) (show s ≤ 30 by omega) pk_us ((pk_un (by omega)).trans ((pk_un (by omega)).trans ((pk_un (by omega)).trans ((pk_un (by omega)).trans ((pk_un (by omega)).trans (rfl)))))) ((pk_un (by omega)).trans ((pk_un (by omega)).trans ((pk_un (by omega)).trans ((pk_un (by omega)).trans ((pk_un (by omega)).trans (rfl)))))) (fun j h1 h2 => (pk_un (by omega)).trans ((pk_un (by omega)).trans ((pk_un (by omega)).trans ((pk_un (by omega)).trans ((pk_un (by omega)).trans (rfl)))))) ((pk_un (by omega)).trans ((pk_un (by omega)).trans ((pk_un (by omega)).trans ((pk_un (by omega)).trans (pk_us))))) ((pk_un (by omega)).trans ((pk_un (by omega)).trans ((pk_un (by omega)).trans (pk_us)))) ((pk_un (by omega)).trans ((pk_un (by omega)).trans (pk_us))) ((pk_un (by omega)).trans (pk_us))
              exact ⟨rfl, _, _, _, _, _, hL_136, (hI.gl hvr hga.1 (hga.2 hvc.2 hc) (fun k hk => (if_neg (by omega)).trans (if_neg (by omega)))).le (by omega) (by omega)⟩
        · refine y_bipush (v := (-3)) hC dL_glows_69 (by decide) ?_
          refine y_goto (tgt := 77) hC dL_glows_71 (by decide) ?_
          refine y_istore hC dL_glows_77 (Nat.le_of_ble_eq_true rfl) rfl (lo' := [some (rf E (0)), some (rf E (102)), some (.int (x)), some (.int (y)), some (.int (nI (f))), some (.int (nI (cl))), some (.int (nI (s))), some (.int ((-3))), none]) rfl ?_
          refine y_iload hC dL_glows_79 rfl ?_
          refine y_if_lt (tgt := 129) hC dL_glows_81 (by decide) (fun c_81 => ?_) (fun c_81 => ?_)
          · refine y_aload_n hC dL_glows_129 (i := 0) rfl rfl ?_
            refine y_iload hC dL_glows_130 rfl ?_
            refine y_iload hC dL_glows_132 rfl ?_
            refine y_iload hC dL_glows_134 rfl ?_
            refine y_callVF hC hL.s mX5_addGlow kXL_109 dL_glows_136 (b := 0) (As := [.int (nI (f)), .int (nI (cl)), .int (nI (s))]) (rest := []) (CPm hL.cp (fun sh mk wa hcq => c_X5_addGlow l Ec g S B (by omega) ho sh mk wa hcq (nI (f)) (nI (cl)) (nI (s)))) hL.k0 hL.a0 rfl rfl rfl (Nat.le_of_ble_eq_true rfl) ⟨Nat.le_of_ble_eq_true rfl, Nat.le_of_ble_eq_true rfl⟩ (pkf_i ?_)
            rintro r_136 g_136 ⟨hr_136, hc_136⟩
            have he_136 := qg_3 (S := S) (f := f) (cl := cl) (s := s) (by omega) hc (by omega) (by omega) (by rw [gz_le.mp c_54]; decide) (by omega)
            rw [he_136] at hr_136 hc_136
            replace hr_136 : r_136 = ((-3)) := hr_136
            replace hc_136 : CP Ec g_136 (S) := hc_136
            rw [hr_136]
            clear hr_136 r_136
            have hL_136 := hL.call hc_136
            generalize mrg (eK Ec) g_136 g = G_136 at hL_136  ⊢
            refine y_iload hC dL_glows_139 rfl ?_
            refine y_icmp_ne (tgt := 148) hC dL_glows_141 (by decide) (fun c_141 => ?_) (fun c_141 => ?_)
            · exact absurd rfl c_141
            · refine y_iconst (v := nI 1) hC dL_glows_144 (by decide) ?_
              refine y_goto (tgt := 149) hC dL_glows_145 (by decide) ?_
              refine y_zret (hrt := rfl) (hn := rfl) (hC := hC) (hd := dL_glows_149) (hq := ?_)
              exact ⟨rfl, S, c, r, h, p, hL_136, hI.le (by omega) (by omega)⟩
          · exact absurd (by decide) c_81
      · refine y_bipush (v := (-4)) hC dL_glows_57 (by decide) ?_
        refine y_goto (tgt := 77) hC dL_glows_59 (by decide) ?_
        refine y_istore hC dL_glows_77 (Nat.le_of_ble_eq_true rfl) rfl (lo' := [some (rf E (0)), some (rf E (102)), some (.int (x)), some (.int (y)), some (.int (nI (f))), some (.int (nI (cl))), some (.int (nI (s))), some (.int ((-4))), none]) rfl ?_
        refine y_iload hC dL_glows_79 rfl ?_
        refine y_if_lt (tgt := 129) hC dL_glows_81 (by decide) (fun c_81 => ?_) (fun c_81 => ?_)
        · refine y_aload_n hC dL_glows_129 (i := 0) rfl rfl ?_
          refine y_iload hC dL_glows_130 rfl ?_
          refine y_iload hC dL_glows_132 rfl ?_
          refine y_iload hC dL_glows_134 rfl ?_
          refine y_callVF hC hL.s mX5_addGlow kXL_109 dL_glows_136 (b := 0) (As := [.int (nI (f)), .int (nI (cl)), .int (nI (s))]) (rest := []) (CPm hL.cp (fun sh mk wa hcq => c_X5_addGlow l Ec g S B (by omega) ho sh mk wa hcq (nI (f)) (nI (cl)) (nI (s)))) hL.k0 hL.a0 rfl rfl rfl (Nat.le_of_ble_eq_true rfl) ⟨Nat.le_of_ble_eq_true rfl, Nat.le_of_ble_eq_true rfl⟩ (pkf_i ?_)
          rintro r_136 g_136 ⟨hr_136, hc_136⟩
          have he_136 := qg_4 (S := S) (f := f) (cl := cl) (s := s) (by omega) hc (by omega) (by omega) (by
            cases e : gAt S.r f with
            | none => exact absurd (gz_le.mpr e) c_54
            | some i => rfl)
          rw [he_136] at hr_136 hc_136
          replace hr_136 : r_136 = ((-4)) := hr_136
          replace hc_136 : CP Ec g_136 (S) := hc_136
          rw [hr_136]
          clear hr_136 r_136
          have hL_136 := hL.call hc_136
          generalize mrg (eK Ec) g_136 g = G_136 at hL_136  ⊢
          refine y_iload hC dL_glows_139 rfl ?_
          refine y_icmp_ne (tgt := 148) hC dL_glows_141 (by decide) (fun c_141 => ?_) (fun c_141 => ?_)
          · exact absurd rfl c_141
          · refine y_iconst (v := nI 1) hC dL_glows_144 (by decide) ?_
            refine y_goto (tgt := 149) hC dL_glows_145 (by decide) ?_
            refine y_zret (hrt := rfl) (hn := rfl) (hC := hC) (hd := dL_glows_149) (hq := ?_)
            exact ⟨rfl, S, c, r, h, p, hL_136, hI.le (by omega) (by omega)⟩
        · exact absurd (by decide) c_81
    · refine y_bipush (v := (-2)) hC dL_glows_43 (by decide) ?_
      refine y_goto (tgt := 77) hC dL_glows_45 (by decide) ?_
      refine y_istore hC dL_glows_77 (Nat.le_of_ble_eq_true rfl) rfl (lo' := [some (rf E (0)), some (rf E (102)), some (.int (x)), some (.int (y)), some (.int (nI (f))), some (.int (nI (cl))), some (.int (nI (s))), some (.int ((-2))), none]) rfl ?_
      refine y_iload hC dL_glows_79 rfl ?_
      refine y_if_lt (tgt := 129) hC dL_glows_81 (by decide) (fun c_81 => ?_) (fun c_81 => ?_)
      · refine y_aload_n hC dL_glows_129 (i := 0) rfl rfl ?_
        refine y_iload hC dL_glows_130 rfl ?_
        refine y_iload hC dL_glows_132 rfl ?_
        refine y_iload hC dL_glows_134 rfl ?_
        refine y_callVF hC hL.s mX5_addGlow kXL_109 dL_glows_136 (b := 0) (As := [.int (nI (f)), .int (nI (cl)), .int (nI (s))]) (rest := []) (CPm hL.cp (fun sh mk wa hcq => c_X5_addGlow l Ec g S B (by omega) ho sh mk wa hcq (nI (f)) (nI (cl)) (nI (s)))) hL.k0 hL.a0 rfl rfl rfl (Nat.le_of_ble_eq_true rfl) ⟨Nat.le_of_ble_eq_true rfl, Nat.le_of_ble_eq_true rfl⟩ (pkf_i ?_)
        rintro r_136 g_136 ⟨hr_136, hc_136⟩
        have he_136 := qg_2 (S := S) (f := f) (s := s) (by omega) (by omega) (nI cl)
        rw [he_136] at hr_136 hc_136
        replace hr_136 : r_136 = ((-2)) := hr_136
        replace hc_136 : CP Ec g_136 (S) := hc_136
        rw [hr_136]
        clear hr_136 r_136
        have hL_136 := hL.call hc_136
        generalize mrg (eK Ec) g_136 g = G_136 at hL_136  ⊢
        refine y_iload hC dL_glows_139 rfl ?_
        refine y_icmp_ne (tgt := 148) hC dL_glows_141 (by decide) (fun c_141 => ?_) (fun c_141 => ?_)
        · exact absurd rfl c_141
        · refine y_iconst (v := nI 1) hC dL_glows_144 (by decide) ?_
          refine y_goto (tgt := 149) hC dL_glows_145 (by decide) ?_
          refine y_zret (hrt := rfl) (hn := rfl) (hC := hC) (hd := dL_glows_149) (hq := ?_)
          exact ⟨rfl, S, c, r, h, p, hL_136, hI.le (by omega) (by omega)⟩
      · exact absurd (by decide) c_81
  · refine y_iconst (v := (-1)) hC dL_glows_34 (by decide) ?_
    refine y_goto (tgt := 77) hC dL_glows_35 (by decide) ?_
    refine y_istore hC dL_glows_77 (Nat.le_of_ble_eq_true rfl) rfl (lo' := [some (rf E (0)), some (rf E (102)), some (.int (x)), some (.int (y)), some (.int (nI (f))), some (.int (nI (cl))), some (.int (nI (s))), some (.int ((-1))), none]) rfl ?_
    refine y_iload hC dL_glows_79 rfl ?_
    refine y_if_lt (tgt := 129) hC dL_glows_81 (by decide) (fun c_81 => ?_) (fun c_81 => ?_)
    · refine y_aload_n hC dL_glows_129 (i := 0) rfl rfl ?_
      refine y_iload hC dL_glows_130 rfl ?_
      refine y_iload hC dL_glows_132 rfl ?_
      refine y_iload hC dL_glows_134 rfl ?_
      refine y_callVF hC hL.s mX5_addGlow kXL_109 dL_glows_136 (b := 0) (As := [.int (nI (f)), .int (nI (cl)), .int (nI (s))]) (rest := []) (CPm hL.cp (fun sh mk wa hcq => c_X5_addGlow l Ec g S B (by omega) ho sh mk wa hcq (nI (f)) (nI (cl)) (nI (s)))) hL.k0 hL.a0 rfl rfl rfl (Nat.le_of_ble_eq_true rfl) ⟨Nat.le_of_ble_eq_true rfl, Nat.le_of_ble_eq_true rfl⟩ (pkf_i ?_)
      rintro r_136 g_136 ⟨hr_136, hc_136⟩
      have he_136 := qg_1 (S := S) (f := f) (by omega) (by omega) (nI (cl)) (nI (s))
      rw [he_136] at hr_136 hc_136
      replace hr_136 : r_136 = ((-1)) := hr_136
      replace hc_136 : CP Ec g_136 (S) := hc_136
      rw [hr_136]
      clear hr_136 r_136
      have hL_136 := hL.call hc_136
      generalize mrg (eK Ec) g_136 g = G_136 at hL_136  ⊢
      refine y_iload hC dL_glows_139 rfl ?_
      refine y_icmp_ne (tgt := 148) hC dL_glows_141 (by decide) (fun c_141 => ?_) (fun c_141 => ?_)
      · exact absurd rfl c_141
      · refine y_iconst (v := nI 1) hC dL_glows_144 (by decide) ?_
        refine y_goto (tgt := 149) hC dL_glows_145 (by decide) ?_
        refine y_zret (hrt := rfl) (hn := rfl) (hC := hC) (hd := dL_glows_149) (hq := ?_)
        exact ⟨rfl, S, c, r, h, p, hL_136, hI.le (by omega) (by omega)⟩
    · exact absurd (by decide) c_81

theorem dL_darkens_0 : decode cL_darkens 0 = .ok (.iload_n 2, 1) := by decide +kernel
theorem dL_darkens_1 : decode cL_darkens 1 = .ok (.aload_n 1, 1) := by decide +kernel
theorem dL_darkens_2 : decode cL_darkens 2 = .ok (.iconst 0, 1) := by decide +kernel
theorem dL_darkens_3 : decode cL_darkens 3 = .ok (.iaload, 1) := by decide +kernel
theorem dL_darkens_4 : decode cL_darkens 4 = .ok (.if_icmp .lt 18, 3) := by decide +kernel
theorem dL_darkens_7 : decode cL_darkens 7 = .ok (.aload_n 0, 1) := by decide +kernel
theorem dL_darkens_8 : decode cL_darkens 8 = .ok (.iload_n 2, 1) := by decide +kernel
theorem dL_darkens_9 : decode cL_darkens 9 = .ok (.invokevirtual 112, 3) := by decide +kernel
theorem dL_darkens_12 : decode cL_darkens 12 = .ok (.iconst (-1), 1) := by decide +kernel
theorem dL_darkens_13 : decode cL_darkens 13 = .ok (.if_icmp .ne 7, 3) := by decide +kernel
theorem dL_darkens_16 : decode cL_darkens 16 = .ok (.iconst 1, 1) := by decide +kernel
theorem dL_darkens_17 : decode cL_darkens 17 = .ok (.goto 4, 3) := by decide +kernel
theorem dL_darkens_20 : decode cL_darkens 20 = .ok (.iconst 0, 1) := by decide +kernel
theorem dL_darkens_21 : decode cL_darkens 21 = .ok (.ireturn, 1) := by decide +kernel
theorem dL_darkens_22 : decode cL_darkens 22 = .ok (.aload_n 1, 1) := by decide +kernel
theorem dL_darkens_23 : decode cL_darkens 23 = .ok (.iconst 0, 1) := by decide +kernel
theorem dL_darkens_24 : decode cL_darkens 24 = .ok (.dup2, 1) := by decide +kernel
theorem dL_darkens_25 : decode cL_darkens 25 = .ok (.iaload, 1) := by decide +kernel
theorem dL_darkens_26 : decode cL_darkens 26 = .ok (.iconst 1, 1) := by decide +kernel
theorem dL_darkens_27 : decode cL_darkens 27 = .ok (.isub, 1) := by decide +kernel
theorem dL_darkens_28 : decode cL_darkens 28 = .ok (.iastore, 1) := by decide +kernel
theorem dL_darkens_29 : decode cL_darkens 29 = .ok (.iconst 4, 1) := by decide +kernel
theorem dL_darkens_30 : decode cL_darkens 30 = .ok (.iconst 4, 1) := by decide +kernel
theorem dL_darkens_31 : decode cL_darkens 31 = .ok (.iload_n 2, 1) := by decide +kernel
theorem dL_darkens_32 : decode cL_darkens 32 = .ok (.imul, 1) := by decide +kernel
theorem dL_darkens_33 : decode cL_darkens 33 = .ok (.iadd, 1) := by decide +kernel
theorem dL_darkens_34 : decode cL_darkens 34 = .ok (.istore_n 3, 1) := by decide +kernel
theorem dL_darkens_35 : decode cL_darkens 35 = .ok (.iload_n 3, 1) := by decide +kernel
theorem dL_darkens_36 : decode cL_darkens 36 = .ok (.iconst 4, 1) := by decide +kernel
theorem dL_darkens_37 : decode cL_darkens 37 = .ok (.iconst 4, 1) := by decide +kernel
theorem dL_darkens_38 : decode cL_darkens 38 = .ok (.aload_n 1, 1) := by decide +kernel
theorem dL_darkens_39 : decode cL_darkens 39 = .ok (.iconst 0, 1) := by decide +kernel
theorem dL_darkens_40 : decode cL_darkens 40 = .ok (.iaload, 1) := by decide +kernel
theorem dL_darkens_41 : decode cL_darkens 41 = .ok (.imul, 1) := by decide +kernel
theorem dL_darkens_42 : decode cL_darkens 42 = .ok (.iadd, 1) := by decide +kernel
theorem dL_darkens_43 : decode cL_darkens 43 = .ok (.if_icmp .ge 17, 3) := by decide +kernel
theorem dL_darkens_46 : decode cL_darkens 46 = .ok (.aload_n 1, 1) := by decide +kernel
theorem dL_darkens_47 : decode cL_darkens 47 = .ok (.iload_n 3, 1) := by decide +kernel
theorem dL_darkens_48 : decode cL_darkens 48 = .ok (.aload_n 1, 1) := by decide +kernel
theorem dL_darkens_49 : decode cL_darkens 49 = .ok (.iload_n 3, 1) := by decide +kernel
theorem dL_darkens_50 : decode cL_darkens 50 = .ok (.iconst 4, 1) := by decide +kernel
theorem dL_darkens_51 : decode cL_darkens 51 = .ok (.iadd, 1) := by decide +kernel
theorem dL_darkens_52 : decode cL_darkens 52 = .ok (.iaload, 1) := by decide +kernel
theorem dL_darkens_53 : decode cL_darkens 53 = .ok (.iastore, 1) := by decide +kernel
theorem dL_darkens_54 : decode cL_darkens 54 = .ok (.iinc 3 1, 3) := by decide +kernel
theorem dL_darkens_57 : decode cL_darkens 57 = .ok (.goto (-22), 3) := by decide +kernel
theorem dL_darkens_60 : decode cL_darkens 60 = .ok (.aload_n 0, 1) := by decide +kernel
theorem dL_darkens_61 : decode cL_darkens 61 = .ok (.iload_n 2, 1) := by decide +kernel
theorem dL_darkens_62 : decode cL_darkens 62 = .ok (.invokevirtual 112, 3) := by decide +kernel
theorem dL_darkens_65 : decode cL_darkens 65 = .ok (.aload_n 1, 1) := by decide +kernel
theorem dL_darkens_66 : decode cL_darkens 66 = .ok (.iconst 0, 1) := by decide +kernel
theorem dL_darkens_67 : decode cL_darkens 67 = .ok (.iaload, 1) := by decide +kernel
theorem dL_darkens_68 : decode cL_darkens 68 = .ok (.if_icmp .ne 7, 3) := by decide +kernel
theorem dL_darkens_71 : decode cL_darkens 71 = .ok (.iconst 1, 1) := by decide +kernel
theorem dL_darkens_72 : decode cL_darkens 72 = .ok (.goto 4, 3) := by decide +kernel
theorem dL_darkens_75 : decode cL_darkens 75 = .ok (.iconst 0, 1) := by decide +kernel
theorem dL_darkens_76 : decode cL_darkens 76 = .ok (.ireturn, 1) := by decide +kernel
set_option maxHeartbeats 4000000 in
set_option maxRecDepth 100000 in
theorem c_L_darkens (l : Launch) (E : gE) (g : Mem) (Ec : gE) (S : AS) (c r h p : Nat → Int32) (hL : LWP Ec E g S c r h p) (B M : Nat) (hB : B ≤ 9000000) (hM : M ≤ 90000000) (hI : IV S c r h p B M) (k : Nat) (hk : k ≤ 6) : Mt l E yL_darkens cL_darkens 4 (some .boolean) 4 90 [rf E (0), rf E (102), .int (nI (k))] g (pI (fun z g' => z = nI 1 ∧ ∃ (S' : AS) (c' r' h' p' : Nat → Int32), LWP Ec E g' S' c' r' h' p' ∧ IV S' c' r' h' p' (B + 100000) (M + 1000))) := by
  obtain ⟨ho, ⟨a, K, hq⟩, hg, hcl, hvc, hpi⟩ := id hI
  have hv := ho.v
  have hrc : rc S.r ≤ 6 := hv.1.2
  have hgc : gc S.r ≤ 4 := hv.2.1.2
  refine mt_go (own := RXL) (by decide) rfl (lo := [some (rf E (0)), some (rf E (102)), some (.int (nI (k))), none]) rfl (Nat.le_of_ble_eq_true rfl) (fun X hC => ?_)
  refine y_iload_n hC dL_darkens_0 (i := 2) rfl rfl ?_
  refine y_aload_n hC dL_darkens_1 (i := 1) rfl rfl ?_
  refine y_iconst (v := nI 0) hC dL_darkens_2 (by decide) ?_
  refine y_iald hC dL_darkens_3 (k := 102) (j := 0) (by have := hL.k; omega) hL.a102 (rfl) (by omega) (by decide) ?_
  refine y_top (y := nI (gc S.r)) (hg.n) ?_
  refine y_icmp_lt_n (tgt := 22) hC dL_darkens_4 (by decide) (by omega) (by omega) (fun c_4 => ?_) (fun c_4 => ?_)
  · have hkk : k < gc S.r := by omega
    refine y_aload_n hC dL_darkens_22 (i := 1) rfl rfl ?_
    refine y_iconst (v := nI 0) hC dL_darkens_23 (by decide) ?_
    refine y_dup2 hC dL_darkens_24 rfl rfl ?_
    refine y_iald hC dL_darkens_25 (k := 102) (j := 0) (by have := hL.k; omega) hL.a102 (rfl) (by omega) (by decide) ?_
    refine y_top (y := nI (gc S.r)) (hg.n) ?_
    refine y_iconst (v := nI 1) hC dL_darkens_26 (by decide) ?_
    refine y_isub_n hC dL_darkens_27 (by omega) ?_
    refine y_iast hC dL_darkens_28 (k := 102) (j := 0) (by have := hL.k; omega) hL.a102 (rfl) (by omega) (by decide) ?_
    have hL_28 := hL.uh (upd h (0) (nI ((gc S.r) - (1))))
    generalize (va_up g (102) (aI E 0 20 (upd h (0) (nI ((gc S.r) - (1)))))) = G_28 at hL_28  ⊢
    refine y_iconst (v := nI 4) hC dL_darkens_29 (by decide) ?_
    refine y_iconst (v := nI 4) hC dL_darkens_30 (by decide) ?_
    refine y_iload_n hC dL_darkens_31 (i := 2) rfl rfl ?_
    refine y_imul_n hC dL_darkens_32 ?_
    refine y_iadd_n hC dL_darkens_33 ?_
    refine y_istore_n hC dL_darkens_34 (i := 3) rfl (Nat.le_of_ble_eq_true rfl) rfl (lo' := [some (rf E (0)), some (rf E (102)), some (.int (nI (k))), some (.int (nI (4 + (4 * k))))]) rfl ?_
    have L_35 : ∀ (m : Nat) (t : Nat) (gg : Mem), (hm : 20 - t < m) → (ht1 : 4 + 4 * k ≤ t) → (ht2 : t ≤ 4 + 4 * (gc S.r - 1)) → (hL : LWP Ec E gg S c r (rsh (upd h (0) (nI (gc S.r - (1)))) 4 (4 + 4 * k) t) p) → Y l E X (pI (fun z g' => z = nI 1 ∧ ∃ (S' : AS) (c' r' h' p' : Nat → Int32), LWP Ec E g' S' c' r' h' p' ∧ IV S' c' r' h' p' (B + 100000) (M + 1000))) 35 [some (rf E (0)), some (rf E (102)), some (.int (nI (k))), some (.int (nI (t)))] [] gg := by
      intro m
      induction m with
      | zero => intro t gg hm ht1 ht2 hL; exact absurd hm (Nat.not_lt_zero _)
      | succ m ih_35 =>
        intro t gg hm ht1 ht2 hL
        refine y_iload_n hC dL_darkens_35 (i := 3) rfl rfl ?_
        refine y_iconst (v := nI 4) hC dL_darkens_36 (by decide) ?_
        refine y_iconst (v := nI 4) hC dL_darkens_37 (by decide) ?_
        refine y_aload_n hC dL_darkens_38 (i := 1) rfl rfl ?_
        refine y_iconst (v := nI 0) hC dL_darkens_39 (by decide) ?_
        refine y_iald hC dL_darkens_40 (k := 102) (j := 0) (by have := hL.k; omega) hL.a102 (rfl) (by omega) (by decide) ?_
        refine y_top (y := nI (gc S.r - 1)) ((rsh_o (by omega)).trans pk_us) ?_
        refine y_imul_n hC dL_darkens_41 ?_
        refine y_iadd_n hC dL_darkens_42 ?_
        refine y_icmp_ge_n (tgt := 60) hC dL_darkens_43 (by decide) (by omega) (by omega) (fun c_43 => ?_) (fun c_43 => ?_)
        · obtain rfl : t = 4 + 4 * (gc S.r - 1) := by omega
          refine y_aload_n hC dL_darkens_60 (i := 0) rfl rfl ?_
          refine y_iload_n hC dL_darkens_61 (i := 2) rfl rfl ?_
          refine y_callVF hC hL.s mX5_removeGlow kXL_112 dL_darkens_62 (b := 0) (As := [.int (nI (k))]) (rest := []) (CPm hL.cp (fun sh mk wa hcq => c_X5_removeGlow l Ec gg S B (by omega) ho sh mk wa hcq (nI k))) hL.k0 hL.a0 rfl rfl rfl (Nat.le_of_ble_eq_true rfl) ⟨Nat.le_of_ble_eq_true rfl, Nat.le_of_ble_eq_true rfl⟩ (pkf_i ?_)
          rintro r_62 g_62 ⟨hr_62, hc_62⟩
          have he_62 := qh_0 (S := S) (k := k) hkk (by omega)
          rw [he_62] at hr_62 hc_62
          replace hr_62 : r_62 = nI (gc S.r - 1) := hr_62
          replace hc_62 : CP Ec g_62 (S.rec.row (remG S.r k)) := hc_62
          rw [hr_62]
          clear hr_62 r_62
          have hL_62 := hL.call hc_62
          generalize mrg (eK Ec) g_62 gg = G_62 at hL_62  ⊢
          refine y_aload_n hC dL_darkens_65 (i := 1) rfl rfl ?_
          refine y_iconst (v := nI 0) hC dL_darkens_66 (by decide) ?_
          refine y_iald hC dL_darkens_67 (k := 102) (j := 0) (by have := hL_62.k; omega) hL_62.a102 (rfl) (by omega) (by decide) ?_
          refine y_top (y := nI (gc S.r - 1)) ((rsh_o (by omega)).trans pk_us) ?_
          refine y_icmp_ne_n (tgt := 75) hC dL_darkens_68 (by decide) (by omega) (by omega) (fun c_68 => ?_) (fun c_68 => ?_)
          · exact absurd rfl c_68
          · refine y_iconst (v := nI 1) hC dL_darkens_71 (by decide) ?_
            refine y_goto (tgt := 76) hC dL_darkens_72 (by decide) ?_
            refine y_zret (hrt := rfl) (hn := rfl) (hC := hC) (hd := dL_darkens_76) (hq := ?_)
            have hvr : OK (S.rec.row (remG S.r k)) (B + 10000) := by
              have := ok_removeGlow ho (nI k)
              rw [he_62] at this
              exact this
            have hga := gl_rem (h2 := (rsh (upd h (0) (nI (gc S.r - (1)))) 4 (4 + 4 * k) (4 + 4 * (gc S.r - 1)))) hv hg hkk ((rsh_o (by omega)).trans pk_us) ((rsh_o (by omega)).trans (pk_un (by omega))) ((rsh_o (by omega)).trans (pk_un (by omega))) (fun i j h1 h2 => (rsh_o (by omega)).trans (pk_un (by omega))) (fun i j h1 h2 h3 => (rsh_i (by omega)).trans ((pk_un (by omega)).trans (congrArg h (by omega))))
            exact ⟨rfl, _, _, _, _, _, hL_62, (hI.gl hvr hga.1 (hga.2 hvc.2) (fun i hi => (if_neg (by omega)).trans (if_neg (by omega)))).le (by omega) (by omega)⟩
        · refine y_aload_n hC dL_darkens_46 (i := 1) rfl rfl ?_
          refine y_iload_n hC dL_darkens_47 (i := 3) rfl rfl ?_
          refine y_aload_n hC dL_darkens_48 (i := 1) rfl rfl ?_
          refine y_iload_n hC dL_darkens_49 (i := 3) rfl rfl ?_
          refine y_iconst (v := nI 4) hC dL_darkens_50 (by decide) ?_
          refine y_iadd_n hC dL_darkens_51 ?_
          refine y_iald hC dL_darkens_52 (k := 102) (j := t + 4) (by have := hL.k; omega) hL.a102 (rfl) (by omega) (by decide) ?_
          refine y_top (y := ((upd h (0) (nI (gc S.r - (1)))) (t + 4))) (rsh_o (by omega)) ?_
          refine y_iast hC dL_darkens_53 (k := 102) (j := t) (by have := hL.k; omega) hL.a102 (rfl) (by omega) (by decide) ?_
          have hL_53 := hL.uh (upd (rsh (upd h (0) (nI (gc S.r - (1)))) 4 (4 + 4 * k) t) (t) (((upd h (0) (nI (gc S.r - (1)))) (t + 4))))
          generalize (va_up gg (102) (aI E 0 20 (upd (rsh (upd h (0) (nI (gc S.r - (1)))) 4 (4 + 4 * k) t) (t) (((upd h (0) (nI (gc S.r - (1)))) (t + 4)))))) = G_53 at hL_53  ⊢
          rw [rsh_s (show 4 + 4 * k ≤ t by omega)] at hL_53
          refine y_iinc_n hC dL_darkens_54 (a := t) (k := 1) rfl (by decide) (Nat.le_of_ble_eq_true rfl) rfl (lo' := [some (rf E (0)), some (rf E (102)), some (.int (nI (k))), some (.int (nI (t + 1)))]) rfl ?_
          refine y_goto (tgt := 35) hC dL_darkens_57 (by decide) ?_
          exact ih_35 (t + 1) G_53 (by omega) (by omega) (by omega) hL_53
    exact L_35 21 (4 + 4 * k) G_28 (by omega) (by omega) (by omega) (by rw [rsh_0]; exact hL_28)
  · refine y_aload_n hC dL_darkens_7 (i := 0) rfl rfl ?_
    refine y_iload_n hC dL_darkens_8 (i := 2) rfl rfl ?_
    refine y_callVF hC hL.s mX5_removeGlow kXL_112 dL_darkens_9 (b := 0) (As := [.int (nI (k))]) (rest := []) (CPm hL.cp (fun sh mk wa hcq => c_X5_removeGlow l Ec g S B (by omega) ho sh mk wa hcq (nI k))) hL.k0 hL.a0 rfl rfl rfl (Nat.le_of_ble_eq_true rfl) ⟨Nat.le_of_ble_eq_true rfl, Nat.le_of_ble_eq_true rfl⟩ (pkf_i ?_)
    rintro r_9 g_9 ⟨hr_9, hc_9⟩
    have he_9 := qh_n (S := S) (k := k) (by omega) (by omega)
    rw [he_9] at hr_9 hc_9
    replace hr_9 : r_9 = ((-1)) := hr_9
    replace hc_9 : CP Ec g_9 (S) := hc_9
    rw [hr_9]
    clear hr_9 r_9
    have hL_9 := hL.call hc_9
    generalize mrg (eK Ec) g_9 g = G_9 at hL_9  ⊢
    refine y_iconst (v := (-1)) hC dL_darkens_12 (by decide) ?_
    refine y_icmp_ne (tgt := 20) hC dL_darkens_13 (by decide) (fun c_13 => ?_) (fun c_13 => ?_)
    · exact absurd rfl c_13
    · refine y_iconst (v := nI 1) hC dL_darkens_16 (by decide) ?_
      refine y_goto (tgt := 21) hC dL_darkens_17 (by decide) ?_
      refine y_zret (hrt := rfl) (hn := rfl) (hC := hC) (hd := dL_darkens_21) (hq := ?_)
      exact ⟨rfl, S, c, r, h, p, hL_9, hI.le (by omega) (by omega)⟩

theorem qp_5 {S : AS} {k z : Nat} (hk : k < 64) (hz : z < 32) (e : px S.r k = z) : qPaint S (nI (k / 8)) (nI (k % 8)) (nI z) = (-5, S) := by
  unfold qPaint
  rw [if_pos (by rw [tI (by omega), tI (by omega)]; omega), if_pos (by rw [tI (by omega)]; omega), nn_I (by omega), nn_I (by omega), nn_I (by omega), show 8 * (k / 8) + k % 8 = k by omega, if_pos e]
theorem qp_0 {S : AS} {k z : Nat} (hk : k < 64) (hz : z < 32) (e : ¬ px S.r k = z) : qPaint S (nI (k / 8)) (nI (k % 8)) (nI z) = (nI (px S.r k), S.rec.row (upd S.r (92 + k) (nI z))) := by
  unfold qPaint
  rw [if_pos (by rw [tI (by omega), tI (by omega)]; omega), if_pos (by rw [tI (by omega)]; omega), nn_I (by omega), nn_I (by omega), nn_I (by omega), show 8 * (k / 8) + k % 8 = k by omega, if_neg e]
theorem dL_paints_0 : decode cL_paints 0 = .ok (.iload_n 2, 1) := by decide +kernel
theorem dL_paints_1 : decode cL_paints 1 = .ok (.bipush 64, 2) := by decide +kernel
theorem dL_paints_3 : decode cL_paints 3 = .ok (.invokestatic 64, 3) := by decide +kernel
theorem dL_paints_6 : decode cL_paints 6 = .ok (.istore 4, 2) := by decide +kernel
theorem dL_paints_8 : decode cL_paints 8 = .ok (.iload_n 3, 1) := by decide +kernel
theorem dL_paints_9 : decode cL_paints 9 = .ok (.bipush 32, 2) := by decide +kernel
theorem dL_paints_11 : decode cL_paints 11 = .ok (.invokestatic 64, 3) := by decide +kernel
theorem dL_paints_14 : decode cL_paints 14 = .ok (.istore 5, 2) := by decide +kernel
theorem dL_paints_16 : decode cL_paints 16 = .ok (.aload_n 1, 1) := by decide +kernel
theorem dL_paints_17 : decode cL_paints 17 = .ok (.iload 4, 2) := by decide +kernel
theorem dL_paints_19 : decode cL_paints 19 = .ok (.iaload, 1) := by decide +kernel
theorem dL_paints_20 : decode cL_paints 20 = .ok (.istore 6, 2) := by decide +kernel
theorem dL_paints_22 : decode cL_paints 22 = .ok (.aload_n 1, 1) := by decide +kernel
theorem dL_paints_23 : decode cL_paints 23 = .ok (.iload 4, 2) := by decide +kernel
theorem dL_paints_25 : decode cL_paints 25 = .ok (.iload 5, 2) := by decide +kernel
theorem dL_paints_27 : decode cL_paints 27 = .ok (.iastore, 1) := by decide +kernel
theorem dL_paints_28 : decode cL_paints 28 = .ok (.aload_n 0, 1) := by decide +kernel
theorem dL_paints_29 : decode cL_paints 29 = .ok (.iload 4, 2) := by decide +kernel
theorem dL_paints_31 : decode cL_paints 31 = .ok (.bipush 8, 2) := by decide +kernel
theorem dL_paints_33 : decode cL_paints 33 = .ok (.idiv, 1) := by decide +kernel
theorem dL_paints_34 : decode cL_paints 34 = .ok (.iload 4, 2) := by decide +kernel
theorem dL_paints_36 : decode cL_paints 36 = .ok (.bipush 8, 2) := by decide +kernel
theorem dL_paints_38 : decode cL_paints 38 = .ok (.irem, 1) := by decide +kernel
theorem dL_paints_39 : decode cL_paints 39 = .ok (.iload 5, 2) := by decide +kernel
theorem dL_paints_41 : decode cL_paints 41 = .ok (.invokevirtual 121, 3) := by decide +kernel
theorem dL_paints_44 : decode cL_paints 44 = .ok (.iload 6, 2) := by decide +kernel
theorem dL_paints_46 : decode cL_paints 46 = .ok (.iload 5, 2) := by decide +kernel
theorem dL_paints_48 : decode cL_paints 48 = .ok (.if_icmp .ne 8, 3) := by decide +kernel
theorem dL_paints_51 : decode cL_paints 51 = .ok (.bipush (-5), 2) := by decide +kernel
theorem dL_paints_53 : decode cL_paints 53 = .ok (.goto 5, 3) := by decide +kernel
theorem dL_paints_56 : decode cL_paints 56 = .ok (.iload 6, 2) := by decide +kernel
theorem dL_paints_58 : decode cL_paints 58 = .ok (.if_icmp .ne 7, 3) := by decide +kernel
theorem dL_paints_61 : decode cL_paints 61 = .ok (.iconst 1, 1) := by decide +kernel
theorem dL_paints_62 : decode cL_paints 62 = .ok (.goto 4, 3) := by decide +kernel
theorem dL_paints_65 : decode cL_paints 65 = .ok (.iconst 0, 1) := by decide +kernel
theorem dL_paints_66 : decode cL_paints 66 = .ok (.ireturn, 1) := by decide +kernel
set_option maxHeartbeats 4000000 in
set_option maxRecDepth 100000 in
theorem c_L_paints (l : Launch) (E : gE) (g : Mem) (Ec : gE) (S : AS) (c r h p : Nat → Int32) (hL : LWP Ec E g S c r h p) (B M : Nat) (hB : B ≤ 9000000) (hM : M ≤ 90000000) (hI : IV S c r h p B M) (x y : Int32) : Mt l E yL_paints cL_paints 7 (some .boolean) 4 94 [rf E (0), rf E (103), .int (x), .int (y)] g (pI (fun z g' => z = nI 1 ∧ ∃ (S' : AS) (c' r' h' p' : Nat → Int32), LWP Ec E g' S' c' r' h' p' ∧ IV S' c' r' h' p' (B + 100000) (M + 1000))) := by
  obtain ⟨ho, ⟨a, K, hq⟩, hg, hcl, hvc, hpi⟩ := id hI
  have hv := ho.v
  have hrc : rc S.r ≤ 6 := hv.1.2
  have hgc : gc S.r ≤ 4 := hv.2.1.2
  obtain ⟨k, ke⟩ : ∃ f, f = lw (x) (64) := ⟨_, rfl⟩
  have hk := lw_lt (x := x) (n := 64) (by decide)
  rw [← ke] at hk
  obtain ⟨z, ze⟩ : ∃ f, f = lw (y) (32) := ⟨_, rfl⟩
  have hz := lw_lt (x := y) (n := 32) (by decide)
  rw [← ze] at hz
  have hpk := (hv.2.2.2.2.2.2.1 k hk).2
  refine mt_go (own := RXL) (by decide) rfl (lo := [some (rf E (0)), some (rf E (103)), some (.int (x)), some (.int (y)), none, none, none]) rfl (Nat.le_of_ble_eq_true rfl) (fun X hC => ?_)
  refine y_iload_n hC dL_paints_0 (i := 2) rfl rfl ?_
  refine y_bipush (v := nI 64) hC dL_paints_1 (by decide) ?_
  refine y_callS hC mL_low kXL_64 dL_paints_3 (As := [.int (x), .int (nI (64))]) (rest := []) (c_L_low l E g ((x)) (64) (by omega) (by omega)) rfl rfl rfl (Nat.le_of_ble_eq_true rfl) ⟨Nat.le_of_ble_eq_true rfl, Nat.le_of_ble_eq_true rfl⟩ (pk_i ?_)
  rintro r_3 g_3 ⟨hr_3, hq_3⟩
  obtain rfl := hq_3.symm
  rw [hr_3]
  clear hr_3 r_3
  refine y_top (y := nI (k)) (congrArg nI ke.symm) ?_
  refine y_istore hC dL_paints_6 (Nat.le_of_ble_eq_true rfl) rfl (lo' := [some (rf E (0)), some (rf E (103)), some (.int (x)), some (.int (y)), some (.int (nI (k))), none, none]) rfl ?_
  refine y_iload_n hC dL_paints_8 (i := 3) rfl rfl ?_
  refine y_bipush (v := nI 32) hC dL_paints_9 (by decide) ?_
  refine y_callS hC mL_low kXL_64 dL_paints_11 (As := [.int (y), .int (nI (32))]) (rest := []) (c_L_low l E g ((y)) (32) (by omega) (by omega)) rfl rfl rfl (Nat.le_of_ble_eq_true rfl) ⟨Nat.le_of_ble_eq_true rfl, Nat.le_of_ble_eq_true rfl⟩ (pk_i ?_)
  rintro r_11 g_11 ⟨hr_11, hq_11⟩
  obtain rfl := hq_11.symm
  rw [hr_11]
  clear hr_11 r_11
  refine y_top (y := nI (z)) (congrArg nI ze.symm) ?_
  refine y_istore hC dL_paints_14 (Nat.le_of_ble_eq_true rfl) rfl (lo' := [some (rf E (0)), some (rf E (103)), some (.int (x)), some (.int (y)), some (.int (nI (k))), some (.int (nI (z))), none]) rfl ?_
  refine y_aload_n hC dL_paints_16 (i := 1) rfl rfl ?_
  refine y_iload hC dL_paints_17 rfl ?_
  refine y_iald hC dL_paints_19 (k := 103) (j := k) (by have := hL.k; omega) hL.a103 (rfl) (by omega) (by decide) ?_
  refine y_top (y := nI (px S.r k)) (hpi _ (by omega)) ?_
  refine y_istore hC dL_paints_20 (Nat.le_of_ble_eq_true rfl) rfl (lo' := [some (rf E (0)), some (rf E (103)), some (.int (x)), some (.int (y)), some (.int (nI (k))), some (.int (nI (z))), some (.int (nI (px S.r k)))]) rfl ?_
  refine y_aload_n hC dL_paints_22 (i := 1) rfl rfl ?_
  refine y_iload hC dL_paints_23 rfl ?_
  refine y_iload hC dL_paints_25 rfl ?_
  refine y_iast hC dL_paints_27 (k := 103) (j := k) (by have := hL.k; omega) hL.a103 (rfl) (by omega) (by decide) ?_
  have hL_27 := hL.up (upd p (k) (nI (z)))
  generalize (va_up g (103) (aI E 0 64 (upd p (k) (nI (z))))) = G_27 at hL_27  ⊢
  refine y_aload_n hC dL_paints_28 (i := 0) rfl rfl ?_
  refine y_iload hC dL_paints_29 rfl ?_
  refine y_bipush (v := nI 8) hC dL_paints_31 (by decide) ?_
  refine y_idiv_n hC dL_paints_33 (by omega) (by omega) (by omega) ?_
  refine y_iload hC dL_paints_34 rfl ?_
  refine y_bipush (v := nI 8) hC dL_paints_36 (by decide) ?_
  refine y_irem_n hC dL_paints_38 (by omega) (by omega) (by omega) ?_
  refine y_iload hC dL_paints_39 rfl ?_
  by_cases hpe : px S.r k = z
  · refine y_callVF hC hL_27.s mX5_paint kXL_121 dL_paints_41 (b := 0) (As := [.int (nI ((k) / (8))), .int (nI ((k) % (8))), .int (nI (z))]) (rest := []) (CPm hL_27.cp (fun sh mk wa hcq => c_X5_paint l Ec G_27 S B (by omega) ho sh mk wa hcq (nI ((k) / (8))) (nI ((k) % (8))) (nI (z)))) hL_27.k0 hL_27.a0 rfl rfl rfl (Nat.le_of_ble_eq_true rfl) ⟨Nat.le_of_ble_eq_true rfl, Nat.le_of_ble_eq_true rfl⟩ (pkf_i ?_)
    rintro r_41 g_41 ⟨hr_41, hc_41⟩
    have he_41 := qp_5 (S := S) (k := k) (z := z) hk hz hpe
    rw [he_41] at hr_41 hc_41
    replace hr_41 : r_41 = ((-5)) := hr_41
    replace hc_41 : CP Ec g_41 (S) := hc_41
    rw [hr_41]
    clear hr_41 r_41
    have hL_41 := hL_27.call hc_41
    generalize mrg (eK Ec) g_41 G_27 = G_41 at hL_41  ⊢
    refine y_iload hC dL_paints_44 rfl ?_
    refine y_iload hC dL_paints_46 rfl ?_
    refine y_icmp_ne_n (tgt := 56) hC dL_paints_48 (by decide) (by omega) (by omega) (fun c_48 => ?_) (fun c_48 => ?_)
    · exact absurd hpe c_48
    · refine y_bipush (v := (-5)) hC dL_paints_51 (by decide) ?_
      refine y_goto (tgt := 58) hC dL_paints_53 (by decide) ?_
      refine y_icmp_ne (tgt := 65) hC dL_paints_58 (by decide) (fun c_58 => ?_) (fun c_58 => ?_)
      · exact absurd rfl c_58
      · refine y_iconst (v := nI 1) hC dL_paints_61 (by decide) ?_
        refine y_goto (tgt := 66) hC dL_paints_62 (by decide) ?_
        refine y_zret (hrt := rfl) (hn := rfl) (hC := hC) (hd := dL_paints_66) (hq := ?_)
        exact ⟨rfl, S, c, r, h, _, hL_41, (hI.pi (S2 := S) (p2 := (upd p (k) (nI (z)))) ho (fun i hi => by
          by_cases e : i = k
          · rw [e, pk_us, hpe]
          · rw [pk_un e]; exact hpi i hi) (fun _ _ => rfl)).le (by omega) (by omega)⟩
  · refine y_callVF hC hL_27.s mX5_paint kXL_121 dL_paints_41 (b := 0) (As := [.int (nI ((k) / (8))), .int (nI ((k) % (8))), .int (nI (z))]) (rest := []) (CPm hL_27.cp (fun sh mk wa hcq => c_X5_paint l Ec G_27 S B (by omega) ho sh mk wa hcq (nI ((k) / (8))) (nI ((k) % (8))) (nI (z)))) hL_27.k0 hL_27.a0 rfl rfl rfl (Nat.le_of_ble_eq_true rfl) ⟨Nat.le_of_ble_eq_true rfl, Nat.le_of_ble_eq_true rfl⟩ (pkf_i ?_)
    rintro r_41 g_41 ⟨hr_41, hc_41⟩
    have he_41 := qp_0 (S := S) (k := k) (z := z) hk hz hpe
    rw [he_41] at hr_41 hc_41
    replace hr_41 : r_41 = nI (px S.r k) := hr_41
    replace hc_41 : CP Ec g_41 (S.rec.row (upd S.r (92 + k) (nI z))) := hc_41
    rw [hr_41]
    clear hr_41 r_41
    have hL_41 := hL_27.call hc_41
    generalize mrg (eK Ec) g_41 G_27 = G_41 at hL_41  ⊢
    refine y_iload hC dL_paints_44 rfl ?_
    refine y_iload hC dL_paints_46 rfl ?_
    refine y_icmp_ne_n (tgt := 56) hC dL_paints_48 (by decide) (by omega) (by omega) (fun c_48 => ?_) (fun c_48 => ?_)
    · refine y_iload hC dL_paints_56 rfl ?_
      refine y_icmp_ne_n (tgt := 65) hC dL_paints_58 (by decide) (by omega) (by omega) (fun c_58 => ?_) (fun c_58 => ?_)
      · exact absurd rfl c_58
      · refine y_iconst (v := nI 1) hC dL_paints_61 (by decide) ?_
        refine y_goto (tgt := 66) hC dL_paints_62 (by decide) ?_
        refine y_zret (hrt := rfl) (hn := rfl) (hC := hC) (hd := dL_paints_66) (hq := ?_)
        have hvr : OK (S.rec.row (upd S.r (92 + k) (nI z))) (B + 10000) := by
          have := ok_paint ho (nI (k / 8)) (nI (k % 8)) (nI z)
          rw [he_41] at this
          exact this
        have hpp : PiL (upd S.r (92 + k) (nI z)) (upd p (k) (nI (z))) := fun i hi => by
          by_cases e : i = k
          · rw [e, pk_us]
            unfold px
            rw [pk_us, nn_I (by omega)]
          · rw [pk_un e, px_of (pk_un (by omega))]
            exact hpi i hi
        exact ⟨rfl, _, _, _, _, _, hL_41, (hI.pi hvr hpp (fun i hi => pk_un (by omega))).le (by omega) (by omega)⟩
    · exact absurd c_48 hpe

/-- some places have other colours -/
def bcF (c sh : Nat → Int32) (f d : Nat) : Nat → Int32 := fun j => if f ≤ j ∧ j < f + d then sh j else c j
theorem bcF_0 {c sh : Nat → Int32} {f : Nat} : bcF c sh f 0 = c := funext fun j => if_neg (by omega)
theorem bcF_s {c sh : Nat → Int32} {f d : Nat} : upd (bcF c sh f d) (f + d) (sh (f + d)) = bcF c sh f (d + 1) := by
  funext j
  by_cases e : j = f + d
  · rw [e, pk_us]; exact (if_pos (by omega)).symm
  · rw [pk_un e]
    unfold bcF
    by_cases q : f ≤ j ∧ j < f + d
    · rw [if_pos q, if_pos (by omega)]
    · rw [if_neg q, if_neg (by omega)]
section BLE
variable {S : AS} {f la u v : Nat}
theorem qb_c (hla : la < 1000) (hf : f ≤ 31) (hu : u < 262144) (hv : v < 262144) : (((0 ≤ (nI la).toInt ∧ (nI la).toInt ≤ 31) ∧ nn (nI f) < nn (nI la)) ∧ (0 ≤ (nI u).toInt ∧ (nI u).toInt ≤ 262143) ∧ 0 ≤ (nI v).toInt ∧ (nI v).toInt ≤ 262143) ↔ la ≤ 31 ∧ f < la := by
  rw [tI (by omega), tI (by omega), tI (by omega), nn_I (by omega), nn_I (by omega)]
  omega
theorem qb_2 (hla : la < 1000) (hf : f ≤ 31) (hu : u < 262144) (hv : v < 262144) (hc : ¬ (la ≤ 31 ∧ f < la)) : qBlend S (nI f) (nI la) (nI u) (nI v) = (-2, S) := by
  unfold qBlend
  rw [if_pos (by rw [tI (by omega)]; omega), if_neg (fun q => hc ((qb_c hla hf hu hv).mp q))]
theorem qb_5 (hla : la ≤ 31) (hf : f < la) (hu : u < 262144) (hv : v < 262144) (hc : oth (blS f la (nI u) (nI v)) S.r f la = 0) : qBlend S (nI f) (nI la) (nI u) (nI v) = (-5, S) := by
  unfold qBlend
  rw [if_pos (by rw [tI (by omega)]; omega), if_pos ((qb_c (by omega) (by omega) hu hv).mpr ⟨hla, hf⟩), nn_I (by omega), nn_I (by omega), if_pos hc]
theorem qb_0 (hla : la ≤ 31) (hf : f < la) (hu : u < 262144) (hv : v < 262144) (hc : ¬ oth (blS f la (nI u) (nI v)) S.r f la = 0) : qBlend S (nI f) (nI la) (nI u) (nI v) = (nI (oth (blS f la (nI u) (nI v)) S.r f la), S.rec.row (putR S.r f la (blS f la (nI u) (nI v)))) := by
  unfold qBlend
  rw [if_pos (by rw [tI (by omega)]; omega), if_pos ((qb_c (by omega) (by omega) hu hv).mpr ⟨hla, hf⟩), nn_I (by omega), nn_I (by omega), if_neg hc]
end BLE
theorem cn_0 {n : Nat} {P : Nat → Bool} (h : cn n P = 0) : ∀ i, i < n → P i = false := fun i hi => by
  cases e : P i with
  | false => rfl
  | true =>
    have := cn_rem hi e
    omega
theorem dL_blends_0 : decode cL_blends 0 = .ok (.iload_n 2, 1) := by decide +kernel
theorem dL_blends_1 : decode cL_blends 1 = .ok (.bipush 32, 2) := by decide +kernel
theorem dL_blends_3 : decode cL_blends 3 = .ok (.invokestatic 64, 3) := by decide +kernel
theorem dL_blends_6 : decode cL_blends 6 = .ok (.istore 4, 2) := by decide +kernel
theorem dL_blends_8 : decode cL_blends 8 = .ok (.iload 4, 2) := by decide +kernel
theorem dL_blends_10 : decode cL_blends 10 = .ok (.iload_n 2, 1) := by decide +kernel
theorem dL_blends_11 : decode cL_blends 11 = .ok (.iconst 5, 1) := by decide +kernel
theorem dL_blends_12 : decode cL_blends 12 = .ok (.ishr, 1) := by decide +kernel
theorem dL_blends_13 : decode cL_blends 13 = .ok (.bipush 9, 2) := by decide +kernel
theorem dL_blends_15 : decode cL_blends 15 = .ok (.invokestatic 64, 3) := by decide +kernel
theorem dL_blends_18 : decode cL_blends 18 = .ok (.iadd, 1) := by decide +kernel
theorem dL_blends_19 : decode cL_blends 19 = .ok (.istore 5, 2) := by decide +kernel
theorem dL_blends_21 : decode cL_blends 21 = .ok (.iload_n 3, 1) := by decide +kernel
theorem dL_blends_22 : decode cL_blends 22 = .ok (.ldc 67, 2) := by decide +kernel
theorem dL_blends_24 : decode cL_blends 24 = .ok (.invokestatic 64, 3) := by decide +kernel
theorem dL_blends_27 : decode cL_blends 27 = .ok (.istore 6, 2) := by decide +kernel
theorem dL_blends_29 : decode cL_blends 29 = .ok (.iload_n 2, 1) := by decide +kernel
theorem dL_blends_30 : decode cL_blends 30 = .ok (.iconst 3, 1) := by decide +kernel
theorem dL_blends_31 : decode cL_blends 31 = .ok (.ishr, 1) := by decide +kernel
theorem dL_blends_32 : decode cL_blends 32 = .ok (.ldc 67, 2) := by decide +kernel
theorem dL_blends_34 : decode cL_blends 34 = .ok (.invokestatic 64, 3) := by decide +kernel
theorem dL_blends_37 : decode cL_blends 37 = .ok (.istore 7, 2) := by decide +kernel
theorem dL_blends_39 : decode cL_blends 39 = .ok (.iload 5, 2) := by decide +kernel
theorem dL_blends_41 : decode cL_blends 41 = .ok (.iload 4, 2) := by decide +kernel
theorem dL_blends_43 : decode cL_blends 43 = .ok (.if_icmp .eq 10, 3) := by decide +kernel
theorem dL_blends_46 : decode cL_blends 46 = .ok (.iload 5, 2) := by decide +kernel
theorem dL_blends_48 : decode cL_blends 48 = .ok (.bipush 31, 2) := by decide +kernel
theorem dL_blends_50 : decode cL_blends 50 = .ok (.if_icmp .le 26, 3) := by decide +kernel
theorem dL_blends_53 : decode cL_blends 53 = .ok (.aload_n 0, 1) := by decide +kernel
theorem dL_blends_54 : decode cL_blends 54 = .ok (.iload 4, 2) := by decide +kernel
theorem dL_blends_56 : decode cL_blends 56 = .ok (.iload 5, 2) := by decide +kernel
theorem dL_blends_58 : decode cL_blends 58 = .ok (.iload 6, 2) := by decide +kernel
theorem dL_blends_60 : decode cL_blends 60 = .ok (.iload 7, 2) := by decide +kernel
theorem dL_blends_62 : decode cL_blends 62 = .ok (.invokevirtual 115, 3) := by decide +kernel
theorem dL_blends_65 : decode cL_blends 65 = .ok (.bipush (-2), 2) := by decide +kernel
theorem dL_blends_67 : decode cL_blends 67 = .ok (.if_icmp .ne 7, 3) := by decide +kernel
theorem dL_blends_70 : decode cL_blends 70 = .ok (.iconst 1, 1) := by decide +kernel
theorem dL_blends_71 : decode cL_blends 71 = .ok (.goto 4, 3) := by decide +kernel
theorem dL_blends_74 : decode cL_blends 74 = .ok (.iconst 0, 1) := by decide +kernel
theorem dL_blends_75 : decode cL_blends 75 = .ok (.ireturn, 1) := by decide +kernel
theorem dL_blends_76 : decode cL_blends 76 = .ok (.iconst 0, 1) := by decide +kernel
theorem dL_blends_77 : decode cL_blends 77 = .ok (.istore 8, 2) := by decide +kernel
theorem dL_blends_79 : decode cL_blends 79 = .ok (.iload 4, 2) := by decide +kernel
theorem dL_blends_81 : decode cL_blends 81 = .ok (.istore 9, 2) := by decide +kernel
theorem dL_blends_83 : decode cL_blends 83 = .ok (.iload 9, 2) := by decide +kernel
theorem dL_blends_85 : decode cL_blends 85 = .ok (.iload 5, 2) := by decide +kernel
theorem dL_blends_87 : decode cL_blends 87 = .ok (.if_icmp .gt 53, 3) := by decide +kernel
theorem dL_blends_90 : decode cL_blends 90 = .ok (.iload 6, 2) := by decide +kernel
theorem dL_blends_92 : decode cL_blends 92 = .ok (.iload 7, 2) := by decide +kernel
theorem dL_blends_94 : decode cL_blends 94 = .ok (.iload 9, 2) := by decide +kernel
theorem dL_blends_96 : decode cL_blends 96 = .ok (.iload 4, 2) := by decide +kernel
theorem dL_blends_98 : decode cL_blends 98 = .ok (.isub, 1) := by decide +kernel
theorem dL_blends_99 : decode cL_blends 99 = .ok (.iload 5, 2) := by decide +kernel
theorem dL_blends_101 : decode cL_blends 101 = .ok (.iload 4, 2) := by decide +kernel
theorem dL_blends_103 : decode cL_blends 103 = .ok (.isub, 1) := by decide +kernel
theorem dL_blends_104 : decode cL_blends 104 = .ok (.invokestatic 27, 3) := by decide +kernel
theorem dL_blends_107 : decode cL_blends 107 = .ok (.istore 10, 2) := by decide +kernel
theorem dL_blends_109 : decode cL_blends 109 = .ok (.iload 8, 2) := by decide +kernel
theorem dL_blends_111 : decode cL_blends 111 = .ok (.aload_n 1, 1) := by decide +kernel
theorem dL_blends_112 : decode cL_blends 112 = .ok (.iload 9, 2) := by decide +kernel
theorem dL_blends_114 : decode cL_blends 114 = .ok (.iaload, 1) := by decide +kernel
theorem dL_blends_115 : decode cL_blends 115 = .ok (.iload 10, 2) := by decide +kernel
theorem dL_blends_117 : decode cL_blends 117 = .ok (.if_icmp .ne 7, 3) := by decide +kernel
theorem dL_blends_120 : decode cL_blends 120 = .ok (.iconst 0, 1) := by decide +kernel
theorem dL_blends_121 : decode cL_blends 121 = .ok (.goto 4, 3) := by decide +kernel
theorem dL_blends_124 : decode cL_blends 124 = .ok (.iconst 1, 1) := by decide +kernel
theorem dL_blends_125 : decode cL_blends 125 = .ok (.iadd, 1) := by decide +kernel
theorem dL_blends_126 : decode cL_blends 126 = .ok (.istore 8, 2) := by decide +kernel
theorem dL_blends_128 : decode cL_blends 128 = .ok (.aload_n 1, 1) := by decide +kernel
theorem dL_blends_129 : decode cL_blends 129 = .ok (.iload 9, 2) := by decide +kernel
theorem dL_blends_131 : decode cL_blends 131 = .ok (.iload 10, 2) := by decide +kernel
theorem dL_blends_133 : decode cL_blends 133 = .ok (.iastore, 1) := by decide +kernel
theorem dL_blends_134 : decode cL_blends 134 = .ok (.iinc 9 1, 3) := by decide +kernel
theorem dL_blends_137 : decode cL_blends 137 = .ok (.goto (-54), 3) := by decide +kernel
theorem dL_blends_140 : decode cL_blends 140 = .ok (.aload_n 0, 1) := by decide +kernel
theorem dL_blends_141 : decode cL_blends 141 = .ok (.iload 4, 2) := by decide +kernel
theorem dL_blends_143 : decode cL_blends 143 = .ok (.iload 5, 2) := by decide +kernel
theorem dL_blends_145 : decode cL_blends 145 = .ok (.iload 6, 2) := by decide +kernel
theorem dL_blends_147 : decode cL_blends 147 = .ok (.iload 7, 2) := by decide +kernel
theorem dL_blends_149 : decode cL_blends 149 = .ok (.invokevirtual 115, 3) := by decide +kernel
theorem dL_blends_152 : decode cL_blends 152 = .ok (.iload 8, 2) := by decide +kernel
theorem dL_blends_154 : decode cL_blends 154 = .ok (.ifCond .ne 8, 3) := by decide +kernel
theorem dL_blends_157 : decode cL_blends 157 = .ok (.bipush (-5), 2) := by decide +kernel
theorem dL_blends_159 : decode cL_blends 159 = .ok (.goto 5, 3) := by decide +kernel
theorem dL_blends_162 : decode cL_blends 162 = .ok (.iload 8, 2) := by decide +kernel
theorem dL_blends_164 : decode cL_blends 164 = .ok (.if_icmp .ne 7, 3) := by decide +kernel
theorem dL_blends_167 : decode cL_blends 167 = .ok (.iconst 1, 1) := by decide +kernel
theorem dL_blends_168 : decode cL_blends 168 = .ok (.goto 4, 3) := by decide +kernel
theorem dL_blends_171 : decode cL_blends 171 = .ok (.iconst 0, 1) := by decide +kernel
theorem dL_blends_172 : decode cL_blends 172 = .ok (.ireturn, 1) := by decide +kernel
set_option maxHeartbeats 4000000 in
set_option maxRecDepth 100000 in
theorem c_L_blends (l : Launch) (E : gE) (g : Mem) (Ec : gE) (S : AS) (c r h p : Nat → Int32) (hL : LWP Ec E g S c r h p) (B M : Nat) (hB : B ≤ 9000000) (hM : M ≤ 90000000) (hI : IV S c r h p B M) (x y : Int32) : Mt l E yL_blends cL_blends 11 (some .boolean) 4 94 [rf E (0), rf E (100), .int (x), .int (y)] g (pI (fun z g' => z = nI 1 ∧ ∃ (S' : AS) (c' r' h' p' : Nat → Int32), LWP Ec E g' S' c' r' h' p' ∧ IV S' c' r' h' p' (B + 100000) (M + 1000))) := by
  obtain ⟨ho, ⟨a, K, hq⟩, hg, hcl, hvc, hpi⟩ := id hI
  have hv := ho.v
  have hrc : rc S.r ≤ 6 := hv.1.2
  have hgc : gc S.r ≤ 4 := hv.2.1.2
  obtain ⟨f, fe⟩ : ∃ f, f = lw (x) (32) := ⟨_, rfl⟩
  have hf := lw_lt (x := x) (n := 32) (by decide)
  rw [← fe] at hf
  obtain ⟨u, ue⟩ : ∃ f, f = lw (y) (262144) := ⟨_, rfl⟩
  have hu := lw_lt (x := y) (n := 262144) (by decide)
  rw [← ue] at hu
  obtain ⟨v, ve⟩ : ∃ f, f = lw ((x) >>> (nI (3) &&& 31)) (262144) := ⟨_, rfl⟩
  have hv2 := lw_lt (x := (x) >>> (nI (3) &&& 31)) (n := 262144) (by decide)
  rw [← ve] at hv2
  obtain ⟨la, lae⟩ : ∃ z, z = f + lw ((x) >>> (nI (5) &&& 31)) (9) := ⟨_, rfl⟩
  have hll := lw_lt (x := (x) >>> (nI (5) &&& 31)) (n := 9) (by decide)
  have hfl : f ≤ la := by omega
  have hl2 : la ≤ f + 8 := by omega
  refine mt_go (own := RXL) (by decide) rfl (lo := [some (rf E (0)), some (rf E (100)), some (.int (x)), some (.int (y)), none, none, none, none, none, none, none]) rfl (Nat.le_of_ble_eq_true rfl) (fun X hC => ?_)
  refine y_iload_n hC dL_blends_0 (i := 2) rfl rfl ?_
  refine y_bipush (v := nI 32) hC dL_blends_1 (by decide) ?_
  refine y_callS hC mL_low kXL_64 dL_blends_3 (As := [.int (x), .int (nI (32))]) (rest := []) (c_L_low l E g ((x)) (32) (by omega) (by omega)) rfl rfl rfl (Nat.le_of_ble_eq_true rfl) ⟨Nat.le_of_ble_eq_true rfl, Nat.le_of_ble_eq_true rfl⟩ (pk_i ?_)
  rintro r_3 g_3 ⟨hr_3, hq_3⟩
  obtain rfl := hq_3.symm
  rw [hr_3]
  clear hr_3 r_3
  refine y_top (y := nI (f)) (congrArg nI fe.symm) ?_
  refine y_istore hC dL_blends_6 (Nat.le_of_ble_eq_true rfl) rfl (lo' := [some (rf E (0)), some (rf E (100)), some (.int (x)), some (.int (y)), some (.int (nI (f))), none, none, none, none, none, none]) rfl ?_
  refine y_iload hC dL_blends_8 rfl ?_
  refine y_iload_n hC dL_blends_10 (i := 2) rfl rfl ?_
  refine y_iconst (v := nI 5) hC dL_blends_11 (by decide) ?_
  refine y_ishr hC dL_blends_12 ?_
  refine y_bipush (v := nI 9) hC dL_blends_13 (by decide) ?_
  refine y_callS hC mL_low kXL_64 dL_blends_15 (As := [.int ((x) >>> (nI (5) &&& 31)), .int (nI (9))]) (rest := [.int (nI (f))]) (c_L_low l E g (((x) >>> (nI (5) &&& 31))) (9) (by omega) (by omega)) rfl rfl rfl (Nat.le_of_ble_eq_true rfl) ⟨Nat.le_of_ble_eq_true rfl, Nat.le_of_ble_eq_true rfl⟩ (pk_i ?_)
  rintro r_15 g_15 ⟨hr_15, hq_15⟩
  obtain rfl := hq_15.symm
  rw [hr_15]
  clear hr_15 r_15
  refine y_iadd_n hC dL_blends_18 ?_
  refine y_top (y := nI (la)) (congrArg nI lae.symm) ?_
  refine y_istore hC dL_blends_19 (Nat.le_of_ble_eq_true rfl) rfl (lo' := [some (rf E (0)), some (rf E (100)), some (.int (x)), some (.int (y)), some (.int (nI (f))), some (.int (nI (la))), none, none, none, none, none]) rfl ?_
  refine y_iload_n hC dL_blends_21 (i := 3) rfl rfl ?_
  refine y_ldc hC cnXL_67 dL_blends_22 ?_
  refine y_top (show (262144 : Int32) = nI 262144 from by decide) ?_
  refine y_callS hC mL_low kXL_64 dL_blends_24 (As := [.int (y), .int (nI (262144))]) (rest := []) (c_L_low l E g ((y)) (262144) (by omega) (by omega)) rfl rfl rfl (Nat.le_of_ble_eq_true rfl) ⟨Nat.le_of_ble_eq_true rfl, Nat.le_of_ble_eq_true rfl⟩ (pk_i ?_)
  rintro r_24 g_24 ⟨hr_24, hq_24⟩
  obtain rfl := hq_24.symm
  rw [hr_24]
  clear hr_24 r_24
  refine y_top (y := nI (u)) (congrArg nI ue.symm) ?_
  refine y_istore hC dL_blends_27 (Nat.le_of_ble_eq_true rfl) rfl (lo' := [some (rf E (0)), some (rf E (100)), some (.int (x)), some (.int (y)), some (.int (nI (f))), some (.int (nI (la))), some (.int (nI (u))), none, none, none, none]) rfl ?_
  refine y_iload_n hC dL_blends_29 (i := 2) rfl rfl ?_
  refine y_iconst (v := nI 3) hC dL_blends_30 (by decide) ?_
  refine y_ishr hC dL_blends_31 ?_
  refine y_ldc hC cnXL_67 dL_blends_32 ?_
  refine y_top (show (262144 : Int32) = nI 262144 from by decide) ?_
  refine y_callS hC mL_low kXL_64 dL_blends_34 (As := [.int ((x) >>> (nI (3) &&& 31)), .int (nI (262144))]) (rest := []) (c_L_low l E g (((x) >>> (nI (3) &&& 31))) (262144) (by omega) (by omega)) rfl rfl rfl (Nat.le_of_ble_eq_true rfl) ⟨Nat.le_of_ble_eq_true rfl, Nat.le_of_ble_eq_true rfl⟩ (pk_i ?_)
  rintro r_34 g_34 ⟨hr_34, hq_34⟩
  obtain rfl := hq_34.symm
  rw [hr_34]
  clear hr_34 r_34
  refine y_top (y := nI (v)) (congrArg nI ve.symm) ?_
  refine y_istore hC dL_blends_37 (Nat.le_of_ble_eq_true rfl) rfl (lo' := [some (rf E (0)), some (rf E (100)), some (.int (x)), some (.int (y)), some (.int (nI (f))), some (.int (nI (la))), some (.int (nI (u))), some (.int (nI (v))), none, none, none]) rfl ?_
  refine y_iload hC dL_blends_39 rfl ?_
  refine y_iload hC dL_blends_41 rfl ?_
  refine y_icmp_eq_n (tgt := 53) hC dL_blends_43 (by decide) (by omega) (by omega) (fun c_43 => ?_) (fun c_43 => ?_)
  · refine y_aload_n hC dL_blends_53 (i := 0) rfl rfl ?_
    refine y_iload hC dL_blends_54 rfl ?_
    refine y_iload hC dL_blends_56 rfl ?_
    refine y_iload hC dL_blends_58 rfl ?_
    refine y_iload hC dL_blends_60 rfl ?_
    refine y_callVF hC hL.s mX5_blend kXL_115 dL_blends_62 (b := 0) (As := [.int (nI (f)), .int (nI (la)), .int (nI (u)), .int (nI (v))]) (rest := []) (CPm hL.cp (fun sh mk wa hcq => c_X5_blend l Ec g S B (by omega) ho sh mk wa hcq (nI (f)) (nI (la)) (nI (u)) (nI (v)))) hL.k0 hL.a0 rfl rfl rfl (Nat.le_of_ble_eq_true rfl) ⟨Nat.le_of_ble_eq_true rfl, Nat.le_of_ble_eq_true rfl⟩ (pkf_i ?_)
    rintro r_62 g_62 ⟨hr_62, hc_62⟩
    have he_62 := qb_2 (S := S) (f := f) (la := la) (u := u) (v := v) (by omega) (by omega) hu hv2 (by omega)
    rw [he_62] at hr_62 hc_62
    replace hr_62 : r_62 = ((-2)) := hr_62
    replace hc_62 : CP Ec g_62 (S) := hc_62
    rw [hr_62]
    clear hr_62 r_62
    have hL_62 := hL.call hc_62
    generalize mrg (eK Ec) g_62 g = G_62 at hL_62  ⊢
    refine y_bipush (v := (-2)) hC dL_blends_65 (by decide) ?_
    refine y_icmp_ne (tgt := 74) hC dL_blends_67 (by decide) (fun c_67 => ?_) (fun c_67 => ?_)
    · exact absurd rfl c_67
    · refine y_iconst (v := nI 1) hC dL_blends_70 (by decide) ?_
      refine y_goto (tgt := 75) hC dL_blends_71 (by decide) ?_
      refine y_zret (hrt := rfl) (hn := rfl) (hC := hC) (hd := dL_blends_75) (hq := ?_)
      exact ⟨rfl, S, c, r, h, p, hL_62, hI.le (by omega) (by omega)⟩
  · refine y_iload hC dL_blends_46 rfl ?_
    refine y_bipush (v := nI 31) hC dL_blends_48 (by decide) ?_
    refine y_icmp_le_n (tgt := 76) hC dL_blends_50 (by decide) (by omega) (by omega) (fun c_50 => ?_) (fun c_50 => ?_)
    · refine y_iconst (v := nI 0) hC dL_blends_76 (by decide) ?_
      refine y_istore hC dL_blends_77 (Nat.le_of_ble_eq_true rfl) rfl (lo' := [some (rf E (0)), some (rf E (100)), some (.int (x)), some (.int (y)), some (.int (nI (f))), some (.int (nI (la))), some (.int (nI (u))), some (.int (nI (v))), some (.int (nI (0))), none, none]) rfl ?_
      refine y_iload hC dL_blends_79 rfl ?_
      refine y_istore hC dL_blends_81 (Nat.le_of_ble_eq_true rfl) rfl (lo' := [some (rf E (0)), some (rf E (100)), some (.int (x)), some (.int (y)), some (.int (nI (f))), some (.int (nI (la))), some (.int (nI (u))), some (.int (nI (v))), some (.int (nI (0))), some (.int (nI (f))), none]) rfl ?_
      refine y_lo (lo' := [some (rf E (0)), some (rf E (100)), some (.int (x)), some (.int (y)), some (.int (nI (f))), some (.int (nI (la))), some (.int (nI (u))), some (.int (nI (v))), some (.int (nI (cn 0 (fun i => decide (¬ blS f la (nI u) (nI v) (f + i) = S.r (f + i)))))), some (.int (nI (f + 0))), none]) rfl ?_
      have L_83 : ∀ (m : Nat) (d : Nat) (gg : Mem), (hm : la + 1 - (f + d) < m) → (hd : f + d ≤ la + 1) → (hL : LWP Ec E gg S (bcF c (blS f la (nI u) (nI v)) f d) r h p) → Y l E X (pI (fun z g' => z = nI 1 ∧ ∃ (S' : AS) (c' r' h' p' : Nat → Int32), LWP Ec E g' S' c' r' h' p' ∧ IV S' c' r' h' p' (B + 100000) (M + 1000))) 83 [some (rf E (0)), some (rf E (100)), some (.int (x)), some (.int (y)), some (.int (nI (f))), some (.int (nI (la))), some (.int (nI (u))), some (.int (nI (v))), some (.int (nI (cn d (fun i => decide (¬ blS f la (nI u) (nI v) (f + i) = S.r (f + i)))))), some (.int (nI (f + d))), none] [] gg := by
        intro m
        induction m with
        | zero => intro d gg hm hd hL; exact absurd hm (Nat.not_lt_zero _)
        | succ m ih_83 =>
          intro d gg hm hd hL
          refine y_iload hC dL_blends_83 rfl ?_
          refine y_iload hC dL_blends_85 rfl ?_
          refine y_icmp_gt_n (tgt := 140) hC dL_blends_87 (by decide) (by omega) (by omega) (fun c_87 => ?_) (fun c_87 => ?_)
          · obtain rfl : d = la + 1 - f := by omega
            refine y_lo (lo' := [some (rf E (0)), some (rf E (100)), some (.int (x)), some (.int (y)), some (.int (nI (f))), some (.int (nI (la))), some (.int (nI (u))), some (.int (nI (v))), some (.int (nI (oth (blS f la (nI u) (nI v)) S.r f la))), some (.int (nI (f + (la + 1 - f)))), none]) rfl ?_
            have hob : oth (blS f la (nI u) (nI v)) S.r f la ≤ la + 1 - f := cn_le _ _
            by_cases hoc : oth (blS f la (nI u) (nI v)) S.r f la = 0
            · refine y_aload_n hC dL_blends_140 (i := 0) rfl rfl ?_
              refine y_iload hC dL_blends_141 rfl ?_
              refine y_iload hC dL_blends_143 rfl ?_
              refine y_iload hC dL_blends_145 rfl ?_
              refine y_iload hC dL_blends_147 rfl ?_
              refine y_callVF hC hL.s mX5_blend kXL_115 dL_blends_149 (b := 0) (As := [.int (nI (f)), .int (nI (la)), .int (nI (u)), .int (nI (v))]) (rest := []) (CPm hL.cp (fun sh mk wa hcq => c_X5_blend l Ec gg S B (by omega) ho sh mk wa hcq (nI (f)) (nI (la)) (nI (u)) (nI (v)))) hL.k0 hL.a0 rfl rfl rfl (Nat.le_of_ble_eq_true rfl) ⟨Nat.le_of_ble_eq_true rfl, Nat.le_of_ble_eq_true rfl⟩ (pkf_i ?_)
              rintro r_149 g_149 ⟨hr_149, hc_149⟩
              have he_149 := qb_5 (S := S) (f := f) (la := la) (u := u) (v := v) (by omega) (by omega) hu hv2 hoc
              rw [he_149] at hr_149 hc_149
              replace hr_149 : r_149 = ((-5)) := hr_149
              replace hc_149 : CP Ec g_149 (S) := hc_149
              rw [hr_149]
              clear hr_149 r_149
              have hL_149 := hL.call hc_149
              generalize mrg (eK Ec) g_149 gg = G_149 at hL_149  ⊢
              refine y_iload hC dL_blends_152 rfl ?_
              refine y_if_ne_n (tgt := 162) hC dL_blends_154 (by decide) (by omega) (fun c_154 => ?_) (fun c_154 => ?_)
              · exact absurd hoc c_154
              · refine y_bipush (v := (-5)) hC dL_blends_157 (by decide) ?_
                refine y_goto (tgt := 164) hC dL_blends_159 (by decide) ?_
                refine y_icmp_ne (tgt := 171) hC dL_blends_164 (by decide) (fun c_164 => ?_) (fun c_164 => ?_)
                · exact absurd rfl c_164
                · refine y_iconst (v := nI 1) hC dL_blends_167 (by decide) ?_
                  refine y_goto (tgt := 172) hC dL_blends_168 (by decide) ?_
                  refine y_zret (hrt := rfl) (hn := rfl) (hC := hC) (hd := dL_blends_172) (hq := ?_)
                  exact ⟨rfl, S, _, r, h, p, hL_149, (hI.co (S2 := S) (c2 := bcF c (blS f la (nI u) (nI v)) f (la + 1 - f)) ho (fun i hi => by
                    unfold bcF
                    split
                    · rename_i q
                      have := cn_0 c_154 (i - f) (by omega)
                      rw [show f + (i - f) = i by omega] at this
                      simpa using this
                    · exact hcl i hi) hvc.1 (fun _ _ => rfl)).le (by omega) (by omega)⟩
            · refine y_aload_n hC dL_blends_140 (i := 0) rfl rfl ?_
              refine y_iload hC dL_blends_141 rfl ?_
              refine y_iload hC dL_blends_143 rfl ?_
              refine y_iload hC dL_blends_145 rfl ?_
              refine y_iload hC dL_blends_147 rfl ?_
              refine y_callVF hC hL.s mX5_blend kXL_115 dL_blends_149 (b := 0) (As := [.int (nI (f)), .int (nI (la)), .int (nI (u)), .int (nI (v))]) (rest := []) (CPm hL.cp (fun sh mk wa hcq => c_X5_blend l Ec gg S B (by omega) ho sh mk wa hcq (nI (f)) (nI (la)) (nI (u)) (nI (v)))) hL.k0 hL.a0 rfl rfl rfl (Nat.le_of_ble_eq_true rfl) ⟨Nat.le_of_ble_eq_true rfl, Nat.le_of_ble_eq_true rfl⟩ (pkf_i ?_)
              rintro r_149 g_149 ⟨hr_149, hc_149⟩
              have he_149 := qb_0 (S := S) (f := f) (la := la) (u := u) (v := v) (by omega) (by omega) hu hv2 hoc
              rw [he_149] at hr_149 hc_149
              replace hr_149 : r_149 = nI (oth (blS f la (nI u) (nI v)) S.r f la) := hr_149
              replace hc_149 : CP Ec g_149 (S.rec.row (putR S.r f la (blS f la (nI u) (nI v)))) := hc_149
              rw [hr_149]
              clear hr_149 r_149
              have hL_149 := hL.call hc_149
              generalize mrg (eK Ec) g_149 gg = G_149 at hL_149  ⊢
              refine y_iload hC dL_blends_152 rfl ?_
              refine y_if_ne_n (tgt := 162) hC dL_blends_154 (by decide) (by omega) (fun c_154 => ?_) (fun c_154 => ?_)
              · refine y_iload hC dL_blends_162 rfl ?_
                refine y_icmp_ne_n (tgt := 171) hC dL_blends_164 (by decide) (by omega) (by omega) (fun c_164 => ?_) (fun c_164 => ?_)
                · exact absurd rfl c_164
                · refine y_iconst (v := nI 1) hC dL_blends_167 (by decide) ?_
                  refine y_goto (tgt := 172) hC dL_blends_168 (by decide) ?_
                  refine y_zret (hrt := rfl) (hn := rfl) (hC := hC) (hd := dL_blends_172) (hq := ?_)
                  have hvr : OK (S.rec.row (putR S.r f la (blS f la (nI u) (nI v)))) (B + 10000) := by
                    have := ok_blend ho (nI f) (nI la) (nI u) (nI v)
                    rw [he_149] at this
                    exact this
                  have hpc : ∀ i, f ≤ i → i ≤ la → isC ((blS f la (nI u) (nI v)) i) := fun i h1 h2 => mx_C hu hv2 (by omega) (by omega) (by omega)
                  exact ⟨rfl, _, _, _, _, _, hL_149, (hI.co hvr (fun i hi => by
                    show bcF c (blS f la (nI u) (nI v)) f (la + 1 - f) i = putR S.r f la (blS f la (nI u) (nI v)) i
                    unfold bcF putR
                    by_cases q : f ≤ i ∧ i ≤ la
                    · rw [if_pos (by omega), if_pos q]
                    · rw [if_neg (by omega), if_neg q]; exact hcl i hi) (fun i hi => by
                    show isC (putR S.r f la (blS f la (nI u) (nI v)) i)
                    unfold putR
                    by_cases q : f ≤ i ∧ i ≤ la
                    · rw [if_pos q]; exact hpc i q.1 q.2
                    · rw [if_neg q]; exact hvc.1 i hi) (fun i hi => if_neg (by omega))).le (by omega) (by omega)⟩
              · exact absurd c_154 hoc
          · have hmb := cn_le d (fun i => decide (¬ blS f la (nI u) (nI v) (f + i) = S.r (f + i)))
            refine y_iload hC dL_blends_90 rfl ?_
            refine y_iload hC dL_blends_92 rfl ?_
            refine y_iload hC dL_blends_94 rfl ?_
            refine y_iload hC dL_blends_96 rfl ?_
            refine y_isub_n hC dL_blends_98 (by omega) ?_
            refine y_iload hC dL_blends_99 rfl ?_
            refine y_iload hC dL_blends_101 rfl ?_
            refine y_isub_n hC dL_blends_103 (by omega) ?_
            refine y_callS hC mL_mixed kXL_27 dL_blends_104 (As := [.int (nI (u)), .int (nI (v)), .int (nI ((f + d) - (f))), .int (nI (la - (f)))]) (rest := []) (c_L_mixed l E gg u v (f + d - f) (la - f) hu hv2 (by omega) (by omega)) rfl rfl rfl (Nat.le_of_ble_eq_true rfl) ⟨Nat.le_of_ble_eq_true rfl, Nat.le_of_ble_eq_true rfl⟩ (pk_i ?_)
            rintro r_104 g_104 ⟨hr_104, hq_104⟩
            obtain rfl := hq_104.symm
            rw [hr_104]
            clear hr_104 r_104
            refine y_top (y := ((blS f la (nI u) (nI v)) (f + d))) (rfl) ?_
            refine y_istore hC dL_blends_107 (Nat.le_of_ble_eq_true rfl) rfl (lo' := [some (rf E (0)), some (rf E (100)), some (.int (x)), some (.int (y)), some (.int (nI (f))), some (.int (nI (la))), some (.int (nI (u))), some (.int (nI (v))), some (.int (nI (cn d (fun i => decide (¬ blS f la (nI u) (nI v) (f + i) = S.r (f + i)))))), some (.int (nI (f + d))), some (.int ((blS f la (nI u) (nI v)) (f + d)))]) rfl ?_
            refine y_iload hC dL_blends_109 rfl ?_
            refine y_aload_n hC dL_blends_111 (i := 1) rfl rfl ?_
            refine y_iload hC dL_blends_112 rfl ?_
            refine y_iald hC dL_blends_114 (k := 100) (j := f + d) (by have := hL.k; omega) hL.a100 (rfl) (by omega) (by decide) ?_
            refine y_top (y := (S.r (f + d))) ((if_neg (by omega)).trans (hcl _ (by omega))) ?_
            refine y_iload hC dL_blends_115 rfl ?_
            refine y_icmp_ne (tgt := 124) hC dL_blends_117 (by decide) (fun c_117 => ?_) (fun c_117 => ?_)
            · refine y_iconst (v := nI 1) hC dL_blends_124 (by decide) ?_
              refine y_iadd_n hC dL_blends_125 ?_
              refine y_top (y := nI (cn (d + 1) (fun i => decide (¬ blS f la (nI u) (nI v) (f + i) = S.r (f + i))))) (congrArg nI (by rw [cn_s]; first | rw [if_pos (decide_eq_true (show ¬ blS f la (nI u) (nI v) (f + d) = S.r (f + d) from fun q => c_117 q.symm))] | simp [c_117])) ?_
              refine y_istore hC dL_blends_126 (Nat.le_of_ble_eq_true rfl) rfl (lo' := [some (rf E (0)), some (rf E (100)), some (.int (x)), some (.int (y)), some (.int (nI (f))), some (.int (nI (la))), some (.int (nI (u))), some (.int (nI (v))), some (.int (nI (cn (d + 1) (fun i => decide (¬ blS f la (nI u) (nI v) (f + i) = S.r (f + i)))))), some (.int (nI (f + d))), some (.int ((blS f la (nI u) (nI v)) (f + d)))]) rfl ?_
              refine y_aload_n hC dL_blends_128 (i := 1) rfl rfl ?_
              refine y_iload hC dL_blends_129 rfl ?_
              refine y_iload hC dL_blends_131 rfl ?_
              refine y_iast hC dL_blends_133 (k := 100) (j := f + d) (by have := hL.k; omega) hL.a100 (rfl) (by omega) (by decide) ?_
              have hL_133 := hL.uc (upd (bcF c (blS f la (nI u) (nI v)) f d) (f + d) (((blS f la (nI u) (nI v)) (f + d))))
              generalize (va_up gg (100) (aI E 0 32 (upd (bcF c (blS f la (nI u) (nI v)) f d) (f + d) (((blS f la (nI u) (nI v)) (f + d)))))) = G_133 at hL_133  ⊢
              rw [bcF_s] at hL_133
              refine y_iinc_n hC dL_blends_134 (a := f + d) (k := 1) rfl (by decide) (Nat.le_of_ble_eq_true rfl) rfl (lo' := [some (rf E (0)), some (rf E (100)), some (.int (x)), some (.int (y)), some (.int (nI (f))), some (.int (nI (la))), some (.int (nI (u))), some (.int (nI (v))), some (.int (nI (cn (d + 1) (fun i => decide (¬ blS f la (nI u) (nI v) (f + i) = S.r (f + i)))))), some (.int (nI (f + d + 1))), some (.int ((blS f la (nI u) (nI v)) (f + d)))]) rfl ?_
              refine y_goto (tgt := 83) hC dL_blends_137 (by decide) ?_
              refine y_fg 10 (lo' := [some (rf E (0)), some (rf E (100)), some (.int (x)), some (.int (y)), some (.int (nI (f))), some (.int (nI (la))), some (.int (nI (u))), some (.int (nI (v))), some (.int (nI (cn (d + 1) (fun i => decide (¬ blS f la (nI u) (nI v) (f + i) = S.r (f + i)))))), some (.int (nI (f + d + 1))), none]) rfl ?_
              rw [show f + d + 1 = f + (d + 1) from by omega]
              exact ih_83 (d + 1) G_133 (by omega) (by omega) hL_133
            · refine y_iconst (v := nI 0) hC dL_blends_120 (by decide) ?_
              refine y_goto (tgt := 125) hC dL_blends_121 (by decide) ?_
              refine y_iadd_n hC dL_blends_125 ?_
              refine y_top (y := nI (cn (d + 1) (fun i => decide (¬ blS f la (nI u) (nI v) (f + i) = S.r (f + i))))) (congrArg nI (by rw [cn_s]; first | rw [if_pos (decide_eq_true (show ¬ blS f la (nI u) (nI v) (f + d) = S.r (f + d) from fun q => c_117 q.symm))] | simp [c_117])) ?_
              refine y_istore hC dL_blends_126 (Nat.le_of_ble_eq_true rfl) rfl (lo' := [some (rf E (0)), some (rf E (100)), some (.int (x)), some (.int (y)), some (.int (nI (f))), some (.int (nI (la))), some (.int (nI (u))), some (.int (nI (v))), some (.int (nI (cn (d + 1) (fun i => decide (¬ blS f la (nI u) (nI v) (f + i) = S.r (f + i)))))), some (.int (nI (f + d))), some (.int ((blS f la (nI u) (nI v)) (f + d)))]) rfl ?_
              refine y_aload_n hC dL_blends_128 (i := 1) rfl rfl ?_
              refine y_iload hC dL_blends_129 rfl ?_
              refine y_iload hC dL_blends_131 rfl ?_
              refine y_iast hC dL_blends_133 (k := 100) (j := f + d) (by have := hL.k; omega) hL.a100 (rfl) (by omega) (by decide) ?_
              have hL_133 := hL.uc (upd (bcF c (blS f la (nI u) (nI v)) f d) (f + d) (((blS f la (nI u) (nI v)) (f + d))))
              generalize (va_up gg (100) (aI E 0 32 (upd (bcF c (blS f la (nI u) (nI v)) f d) (f + d) (((blS f la (nI u) (nI v)) (f + d)))))) = G_133 at hL_133  ⊢
              rw [bcF_s] at hL_133
              refine y_iinc_n hC dL_blends_134 (a := f + d) (k := 1) rfl (by decide) (Nat.le_of_ble_eq_true rfl) rfl (lo' := [some (rf E (0)), some (rf E (100)), some (.int (x)), some (.int (y)), some (.int (nI (f))), some (.int (nI (la))), some (.int (nI (u))), some (.int (nI (v))), some (.int (nI (cn (d + 1) (fun i => decide (¬ blS f la (nI u) (nI v) (f + i) = S.r (f + i)))))), some (.int (nI (f + d + 1))), some (.int ((blS f la (nI u) (nI v)) (f + d)))]) rfl ?_
              refine y_goto (tgt := 83) hC dL_blends_137 (by decide) ?_
              refine y_fg 10 (lo' := [some (rf E (0)), some (rf E (100)), some (.int (x)), some (.int (y)), some (.int (nI (f))), some (.int (nI (la))), some (.int (nI (u))), some (.int (nI (v))), some (.int (nI (cn (d + 1) (fun i => decide (¬ blS f la (nI u) (nI v) (f + i) = S.r (f + i)))))), some (.int (nI (f + d + 1))), none]) rfl ?_
              rw [show f + d + 1 = f + (d + 1) from by omega]
              exact ih_83 (d + 1) G_133 (by omega) (by omega) hL_133
      exact L_83 (la + 2) 0 g (by omega) (by omega) (by rw [bcF_0]; exact hL)
    · refine y_aload_n hC dL_blends_53 (i := 0) rfl rfl ?_
      refine y_iload hC dL_blends_54 rfl ?_
      refine y_iload hC dL_blends_56 rfl ?_
      refine y_iload hC dL_blends_58 rfl ?_
      refine y_iload hC dL_blends_60 rfl ?_
      refine y_callVF hC hL.s mX5_blend kXL_115 dL_blends_62 (b := 0) (As := [.int (nI (f)), .int (nI (la)), .int (nI (u)), .int (nI (v))]) (rest := []) (CPm hL.cp (fun sh mk wa hcq => c_X5_blend l Ec g S B (by omega) ho sh mk wa hcq (nI (f)) (nI (la)) (nI (u)) (nI (v)))) hL.k0 hL.a0 rfl rfl rfl (Nat.le_of_ble_eq_true rfl) ⟨Nat.le_of_ble_eq_true rfl, Nat.le_of_ble_eq_true rfl⟩ (pkf_i ?_)
      rintro r_62 g_62 ⟨hr_62, hc_62⟩
      have he_62 := qb_2 (S := S) (f := f) (la := la) (u := u) (v := v) (by omega) (by omega) hu hv2 (by omega)
      rw [he_62] at hr_62 hc_62
      replace hr_62 : r_62 = ((-2)) := hr_62
      replace hc_62 : CP Ec g_62 (S) := hc_62
      rw [hr_62]
      clear hr_62 r_62
      have hL_62 := hL.call hc_62
      generalize mrg (eK Ec) g_62 g = G_62 at hL_62  ⊢
      refine y_bipush (v := (-2)) hC dL_blends_65 (by decide) ?_
      refine y_icmp_ne (tgt := 74) hC dL_blends_67 (by decide) (fun c_67 => ?_) (fun c_67 => ?_)
      · exact absurd rfl c_67
      · refine y_iconst (v := nI 1) hC dL_blends_70 (by decide) ?_
        refine y_goto (tgt := 75) hC dL_blends_71 (by decide) ?_
        refine y_zret (hrt := rfl) (hn := rfl) (hC := hC) (hd := dL_blends_75) (hq := ?_)
        exact ⟨rfl, S, c, r, h, p, hL_62, hI.le (by omega) (by omega)⟩

